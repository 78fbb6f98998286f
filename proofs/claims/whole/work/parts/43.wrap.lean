theorem kw746 : Cond.classLink RL 55 "java/lang/IndexOutOfBoundsException" ∈ kW := k_w 4 160 rfl rfl
theorem kw770 : Cond.methodLink RL 51 yX4_jarOf ∈ kW := k_w 4 184 rfl rfl
theorem kw791 : Cond.classLink RL 60 "java/lang/IllegalArgumentException" ∈ kW := k_w 4 205 rfl rfl
theorem kw792 : Cond.methodLink RL 57 yX4_bagOf ∈ kW := k_w 4 206 rfl rfl
theorem kw822 : Cond.methodLink RL 62 yX4_weightOf ∈ kW := k_w 4 236 rfl rfl
theorem kw837 : Cond.methodLink RL 65 yX4_told ∈ kW := k_w 5 11 rfl rfl
theorem kw846 : Cond.methodLink RL 68 yX4_toldAgain ∈ kW := k_w 5 20 rfl rfl
theorem kw862 : Cond.methodLink RL 71 yX4_onPan ∈ kW := k_w 5 36 rfl rfl
theorem kw869 : Cond.methodLink RL 74 yX4_rest ∈ kW := k_w 5 43 rfl rfl
theorem kw876 : Cond.methodLink RL 77 yX4_honest ∈ kW := k_w 5 50 rfl rfl
theorem kw883 : Cond.methodLink RL 80 yX4_pays ∈ kW := k_w 5 57 rfl rfl
theorem kw898 : Cond.classLink RL 86 "java/util/NoSuchElementException" ∈ kW := k_w 5 72 rfl rfl
theorem kw899 : Cond.methodLink RL 83 yX4_wouldGet ∈ kW := k_w 5 73 rfl rfl
theorem kw928 : Cond.methodLink RL 88 yX4_bestMarket ∈ kW := k_w 5 102 rfl rfl
theorem kw940 : Cond.methodLink RL 91 yX4_oathUntil ∈ kW := k_w 5 114 rfl rfl
abbrev wL_jarOf : List Cond := Cond.codeWith yL_jarOf cL_jarOf 5 (some .int) [(0, 10, 13, 55)] :: kW
set_option maxHeartbeats 4000000 in
theorem L_jarOf_c (l : Launch) (g : kG) (oF : Nat) (vF : Nat → Int32) (oS oH oR oT oB : Nat) (oC : Nat) (rC : Nat → Nat) (vC : Nat → Int32) (aC : Nat → Nat → Int32) (p0 : Int32) (p1 : Bool) (nj : Nat) (hnj : nj ≤ 6) (hv4 : vC 4 = nI nj) (hfl : l.stackTraces = false) (oL : Nat) (fL : Nat → Int64) (hcd : (X4_jarOf_f vF vC aC p0 p1).1 = 0 ∨ (X4_jarOf_f vF vC aC p0 p1).1 = 2) : kL l yL_jarOf wL_jarOf 7 104 1 6 g [.ref oF, .int p0, .int (b2i p1), .ref oL] [X4W g oF (kFr oC oS oH oR oT oB) vF, X0W g oC rC vC aC, OLW g oL fL] (fun x u => x = kLk1 ((X4_jarOf_f vF vC aC p0 p1).1) ∧ ∃ h : Nat → Int64, ((X4_jarOf_f vF vC aC p0 p1).1 = 0 → h 0 = ((X4_jarOf_f vF vC aC p0 p1).2).toInt64) ∧ u = [X4W g oF (kFr oC oS oH oR oT oB) vF, X0W g oC rC vC aC, OLW g oL h]) := by
  refine kL_of (cc := cL_jarOf) (nL := 5) (ret := some .int) (lv := [(0, .ref oF), (1, .int p0), (2, .int (b2i p1)), (3, .ref oL)]) (by decide) rfl (Nat.le_of_ble_eq_true rfl) rfl ?_
  intro p e s m args below meth c ls A htab hN C hP hD hE hA hS hl
  have C : kC p c cL_jarOf s m args meth RL g 5 (some .int) := C
  have hx := C.1.1
  have hb := C.1.2.1
  have hts := C.1.2.2.2.2
  refine lv_aload_n hx hb dL_jarOf_0 rfl (lv_at hl 3 rfl) ?_
  refine lv_iconst (v := 0) hx hb dL_jarOf_1 (by decide) ?_
  refine lv_aload_n hx hb dL_jarOf_2 rfl (lv_at hl 0 rfl) ?_
  refine lv_iload_n hx hb dL_jarOf_3 rfl (lv_at hl 1 rfl) ?_
  refine lv_iload_n hx hb dL_jarOf_4 rfl (lv_at hl 2 rfl) ?_
  refine kX_V (As := [.int p0, .int (b2i p1)]) (rest := [.int 0, .ref oL]) (wr := [OLW g oL fL]) C (X4_jarOf_c l g oF vF oS oH oR oT oB oC rC vC aC p0 p1 nj hnj hv4 hfl) (cwV 2 hts (k_gV kw770 ca_X4_jarOf) rfl rfl rfl ⟨rfl, pnX4_jarOf⟩ ⟨Nat.le_of_ble_eq_true rfl, Nat.le_of_ble_eq_true rfl⟩) hE hS hA hP hD [0, 1] [2] rfl rfl ⟨rfl, rfl, by decide⟩ (k_recv C kFX4 hP (i := 0) (q := 0) rfl rfl) rfl hl.1 rfl rfl dL_jarOf_5 ⟨Nat.le_of_ble_eq_true rfl, Nat.le_of_ble_eq_true rfl⟩ (fun E u H locs qE ce hp hP hD hS hce hcv hcl => ?_) (fun r u H locs hp hP hD hS => ?_)
  · obtain ⟨hc, hE2, hu⟩ := hp
    subst hu
    have hP : kp g [X4W g oF (kFr oC oS oH oR oT oB) vF, X0W g oC rC vC aC, OLW g oL fL] H := hP.pick [1, 2, 0] rfl
    have hD : kd A [X4W g oF (kFr oC oS oH oR oT oB) vF, X0W g oC rC vC aC, OLW g oL fL] := hD.pick [1, 2, 0] rfl rfl
    rcases hcd with h0 | h2
    · exact absurd h0 hc
    · rw [h2] at hE2
      subst hE2
      refine kx_catch1 (E := "java/lang/IndexOutOfBoundsException") C htab rfl (by decide) kw746 (List.mem_of_getElem? (i := 85) rfl) hce hcv hcl ?_
      refine lv_astore (lv' := [(4, .ref qE), (0, .ref oF), (1, .int p0), (2, .int (b2i p1)), (3, .ref oL)]) hx hb dL_jarOf_13 hl (by decide) rfl (fun ls hl => ?_)
      refine lv_iconst (v := 1) hx hb dL_jarOf_15 (by decide) ?_
      exact kL_ret C hP hD hS ⟨by rw [h2]; rfl, _, fun z => absurd z hc, rfl⟩ ⟨Nat.le_of_ble_eq_true rfl, Nat.le_of_ble_eq_true rfl⟩ dL_jarOf_16
  obtain ⟨hc, hr, hu⟩ := hp
  subst hu
  have hP : kp g [X4W g oF (kFr oC oS oH oR oT oB) vF, X0W g oC rC vC aC, OLW g oL fL] H := hP.pick [1, 2, 0] rfl
  have hD : kd A [X4W g oF (kFr oC oS oH oR oT oB) vF, X0W g oC rC vC aC, OLW g oL fL] := hD.pick [1, 2, 0] rfl rfl
  subst hr
  refine lv_i2l hx hb dL_jarOf_8 rfl ?_
  refine kg_last C hP hD hS (i := 2) rfl rfl dL_jarOf_9 (fun H locs hP hD hS => ?_)
  have hP : kp g [X4W g oF (kFr oC oS oH oR oT oB) vF, X0W g oC rC vC aC, OLW g oL (vp_updL fL 0 (((X4_jarOf_f vF vC aC p0 p1).2).toInt64))] H := hP
  have hD : kd A [X4W g oF (kFr oC oS oH oR oT oB) vF, X0W g oC rC vC aC, OLW g oL (vp_updL fL 0 (((X4_jarOf_f vF vC aC p0 p1).2).toInt64))] := hD
  refine lv_goto (tgt := 17) hx hb dL_jarOf_10 (by decide) ?_
  refine lv_iconst (v := 0) hx hb dL_jarOf_17 (by decide) ?_
  exact kL_ret C hP hD hS ⟨by rw [hc]; rfl, _, fun _ => k_updL0 _ _, rfl⟩ ⟨Nat.le_of_ble_eq_true rfl, Nat.le_of_ble_eq_true rfl⟩ dL_jarOf_18
abbrev wL_bagOf : List Cond := Cond.codeWith yL_bagOf cL_bagOf 5 (some .int) [(0, 10, 13, 55), (0, 10, 17, 60)] :: kW
set_option maxHeartbeats 4000000 in
theorem L_bagOf_c (l : Launch) (g : kG) (oF : Nat) (vF : Nat → Int32) (oS oH oR oT oB : Nat) (oC : Nat) (rC : Nat → Nat) (vC : Nat → Int32) (aC : Nat → Nat → Int32) (p0 : Int32) (p1 : Int32) (nb : Nat) (hnb : nb ≤ 6) (hv7 : vC 7 = nI nb) (hfl : l.stackTraces = false) (oL : Nat) (fL : Nat → Int64) (hcd : (X4_bagOf_f vF vC aC p0 p1).1 = 0 ∨ (X4_bagOf_f vF vC aC p0 p1).1 = 2 ∨ (X4_bagOf_f vF vC aC p0 p1).1 = 3) : kL l yL_bagOf wL_bagOf 8 125 2 12 g [.ref oF, .int p0, .int p1, .ref oL] [X4W g oF (kFr oC oS oH oR oT oB) vF, X0W g oC rC vC aC, OLW g oL fL] (fun x u => x = kLk2 2 ((X4_bagOf_f vF vC aC p0 p1).1) ∧ ∃ h : Nat → Int64, ((X4_bagOf_f vF vC aC p0 p1).1 = 0 → h 0 = ((X4_bagOf_f vF vC aC p0 p1).2).toInt64) ∧ u = [X4W g oF (kFr oC oS oH oR oT oB) vF, X0W g oC rC vC aC, OLW g oL h]) := by
  refine kL_of (cc := cL_bagOf) (nL := 5) (ret := some .int) (lv := [(0, .ref oF), (1, .int p0), (2, .int p1), (3, .ref oL)]) (by decide) rfl (Nat.le_of_ble_eq_true rfl) rfl ?_
  intro p e s m args below meth c ls A htab hN C hP hD hE hA hS hl
  have C : kC p c cL_bagOf s m args meth RL g 5 (some .int) := C
  have hx := C.1.1
  have hb := C.1.2.1
  have hts := C.1.2.2.2.2
  refine lv_aload_n hx hb dL_bagOf_0 rfl (lv_at hl 3 rfl) ?_
  refine lv_iconst (v := 0) hx hb dL_bagOf_1 (by decide) ?_
  refine lv_aload_n hx hb dL_bagOf_2 rfl (lv_at hl 0 rfl) ?_
  refine lv_iload_n hx hb dL_bagOf_3 rfl (lv_at hl 1 rfl) ?_
  refine lv_iload_n hx hb dL_bagOf_4 rfl (lv_at hl 2 rfl) ?_
  refine kX_V (As := [.int p0, .int p1]) (rest := [.int 0, .ref oL]) (wr := [OLW g oL fL]) C (X4_bagOf_c l g oF vF oS oH oR oT oB oC rC vC aC p0 p1 nb hnb hv7 hfl) (cwV 2 hts (k_gV kw792 ca_X4_bagOf) rfl rfl rfl ⟨rfl, pnX4_bagOf⟩ ⟨Nat.le_of_ble_eq_true rfl, Nat.le_of_ble_eq_true rfl⟩) hE hS hA hP hD [0, 1] [2] rfl rfl ⟨rfl, rfl, by decide⟩ (k_recv C kFX4 hP (i := 0) (q := 0) rfl rfl) rfl hl.1 rfl rfl dL_bagOf_5 ⟨Nat.le_of_ble_eq_true rfl, Nat.le_of_ble_eq_true rfl⟩ (fun E u H locs qE ce hp hP hD hS hce hcv hcl => ?_) (fun r u H locs hp hP hD hS => ?_)
  · obtain ⟨hc, hE2, hu⟩ := hp
    subst hu
    have hP : kp g [X4W g oF (kFr oC oS oH oR oT oB) vF, X0W g oC rC vC aC, OLW g oL fL] H := hP.pick [1, 2, 0] rfl
    have hD : kd A [X4W g oF (kFr oC oS oH oR oT oB) vF, X0W g oC rC vC aC, OLW g oL fL] := hD.pick [1, 2, 0] rfl rfl
    rcases hcd with h0 | h2 | h3
    · exact absurd h0 hc
    · rw [h2] at hE2
      subst hE2
      refine kx_catch1 (E := "java/lang/IndexOutOfBoundsException") C htab rfl (by decide) kw746 (List.mem_of_getElem? (i := 85) rfl) hce hcv hcl ?_
      refine lv_astore (lv' := [(4, .ref qE), (0, .ref oF), (1, .int p0), (2, .int p1), (3, .ref oL)]) hx hb dL_bagOf_13 hl (by decide) rfl (fun ls hl => ?_)
      refine lv_iconst (v := 1) hx hb dL_bagOf_15 (by decide) ?_
      exact kL_ret C hP hD hS ⟨by rw [h2]; rfl, _, fun z => absurd z hc, rfl⟩ ⟨Nat.le_of_ble_eq_true rfl, Nat.le_of_ble_eq_true rfl⟩ dL_bagOf_16
    · rw [h3] at hE2
      subst hE2
      refine kx_catch2 (E := "java/lang/IllegalArgumentException") (F := "java/lang/IndexOutOfBoundsException") C htab (by decide) kw746 hN.1 rfl (by decide) kw791 (List.mem_of_getElem? (i := 86) rfl) hce hcv hcl ?_
      refine lv_astore (lv' := [(4, .ref qE), (0, .ref oF), (1, .int p0), (2, .int p1), (3, .ref oL)]) hx hb dL_bagOf_17 hl (by decide) rfl (fun ls hl => ?_)
      refine lv_iconst (v := 2) hx hb dL_bagOf_19 (by decide) ?_
      exact kL_ret C hP hD hS ⟨by rw [h3]; rfl, _, fun z => absurd z hc, rfl⟩ ⟨Nat.le_of_ble_eq_true rfl, Nat.le_of_ble_eq_true rfl⟩ dL_bagOf_20
  obtain ⟨hc, hr, hu⟩ := hp
  subst hu
  have hP : kp g [X4W g oF (kFr oC oS oH oR oT oB) vF, X0W g oC rC vC aC, OLW g oL fL] H := hP.pick [1, 2, 0] rfl
  have hD : kd A [X4W g oF (kFr oC oS oH oR oT oB) vF, X0W g oC rC vC aC, OLW g oL fL] := hD.pick [1, 2, 0] rfl rfl
  subst hr
  refine lv_i2l hx hb dL_bagOf_8 rfl ?_
  refine kg_last C hP hD hS (i := 2) rfl rfl dL_bagOf_9 (fun H locs hP hD hS => ?_)
  have hP : kp g [X4W g oF (kFr oC oS oH oR oT oB) vF, X0W g oC rC vC aC, OLW g oL (vp_updL fL 0 (((X4_bagOf_f vF vC aC p0 p1).2).toInt64))] H := hP
  have hD : kd A [X4W g oF (kFr oC oS oH oR oT oB) vF, X0W g oC rC vC aC, OLW g oL (vp_updL fL 0 (((X4_bagOf_f vF vC aC p0 p1).2).toInt64))] := hD
  refine lv_goto (tgt := 21) hx hb dL_bagOf_10 (by decide) ?_
  refine lv_iconst (v := 0) hx hb dL_bagOf_21 (by decide) ?_
  exact kL_ret C hP hD hS ⟨by rw [hc]; rfl, _, fun _ => k_updL0 _ _, rfl⟩ ⟨Nat.le_of_ble_eq_true rfl, Nat.le_of_ble_eq_true rfl⟩ dL_bagOf_22
abbrev wL_weightOf : List Cond := Cond.codeWith yL_weightOf cL_weightOf 5 (some .int) [(0, 10, 13, 55), (0, 10, 17, 60)] :: kW
set_option maxHeartbeats 4000000 in
theorem L_weightOf_c (l : Launch) (g : kG) (oF : Nat) (vF : Nat → Int32) (oS oH oR oT oB : Nat) (oC : Nat) (rC : Nat → Nat) (vC : Nat → Int32) (aC : Nat → Nat → Int32) (p0 : Int32) (p1 : Int32) (hfl : l.stackTraces = false) (oL : Nat) (fL : Nat → Int64) (hcd : (X4_weightOf_f vF vC aC p0 p1).1 = 0 ∨ (X4_weightOf_f vF vC aC p0 p1).1 = 2 ∨ (X4_weightOf_f vF vC aC p0 p1).1 = 3) : kL l yL_weightOf wL_weightOf 7 104 1 6 g [.ref oF, .int p0, .int p1, .ref oL] [X4W g oF (kFr oC oS oH oR oT oB) vF, X0W g oC rC vC aC, OLW g oL fL] (fun x u => x = kLk2 2 ((X4_weightOf_f vF vC aC p0 p1).1) ∧ ∃ h : Nat → Int64, ((X4_weightOf_f vF vC aC p0 p1).1 = 0 → h 0 = ((X4_weightOf_f vF vC aC p0 p1).2).toInt64) ∧ u = [X4W g oF (kFr oC oS oH oR oT oB) vF, X0W g oC rC vC aC, OLW g oL h]) := by
  refine kL_of (cc := cL_weightOf) (nL := 5) (ret := some .int) (lv := [(0, .ref oF), (1, .int p0), (2, .int p1), (3, .ref oL)]) (by decide) rfl (Nat.le_of_ble_eq_true rfl) rfl ?_
  intro p e s m args below meth c ls A htab hN C hP hD hE hA hS hl
  have C : kC p c cL_weightOf s m args meth RL g 5 (some .int) := C
  have hx := C.1.1
  have hb := C.1.2.1
  have hts := C.1.2.2.2.2
  refine lv_aload_n hx hb dL_weightOf_0 rfl (lv_at hl 3 rfl) ?_
  refine lv_iconst (v := 0) hx hb dL_weightOf_1 (by decide) ?_
  refine lv_aload_n hx hb dL_weightOf_2 rfl (lv_at hl 0 rfl) ?_
  refine lv_iload_n hx hb dL_weightOf_3 rfl (lv_at hl 1 rfl) ?_
  refine lv_iload_n hx hb dL_weightOf_4 rfl (lv_at hl 2 rfl) ?_
  refine kX_V (As := [.int p0, .int p1]) (rest := [.int 0, .ref oL]) (wr := [OLW g oL fL]) C (X4_weightOf_c l g oF vF oS oH oR oT oB oC rC vC aC p0 p1 hfl) (cwV 2 hts (k_gV kw822 ca_X4_weightOf) rfl rfl rfl ⟨rfl, pnX4_weightOf⟩ ⟨Nat.le_of_ble_eq_true rfl, Nat.le_of_ble_eq_true rfl⟩) hE hS hA hP hD [0, 1] [2] rfl rfl ⟨rfl, rfl, by decide⟩ (k_recv C kFX4 hP (i := 0) (q := 0) rfl rfl) rfl hl.1 rfl rfl dL_weightOf_5 ⟨Nat.le_of_ble_eq_true rfl, Nat.le_of_ble_eq_true rfl⟩ (fun E u H locs qE ce hp hP hD hS hce hcv hcl => ?_) (fun r u H locs hp hP hD hS => ?_)
  · obtain ⟨hc, hE2, hu⟩ := hp
    subst hu
    have hP : kp g [X4W g oF (kFr oC oS oH oR oT oB) vF, X0W g oC rC vC aC, OLW g oL fL] H := hP.pick [1, 2, 0] rfl
    have hD : kd A [X4W g oF (kFr oC oS oH oR oT oB) vF, X0W g oC rC vC aC, OLW g oL fL] := hD.pick [1, 2, 0] rfl rfl
    rcases hcd with h0 | h2 | h3
    · exact absurd h0 hc
    · rw [h2] at hE2
      subst hE2
      refine kx_catch1 (E := "java/lang/IndexOutOfBoundsException") C htab rfl (by decide) kw746 (List.mem_of_getElem? (i := 85) rfl) hce hcv hcl ?_
      refine lv_astore (lv' := [(4, .ref qE), (0, .ref oF), (1, .int p0), (2, .int p1), (3, .ref oL)]) hx hb dL_weightOf_13 hl (by decide) rfl (fun ls hl => ?_)
      refine lv_iconst (v := 1) hx hb dL_weightOf_15 (by decide) ?_
      exact kL_ret C hP hD hS ⟨by rw [h2]; rfl, _, fun z => absurd z hc, rfl⟩ ⟨Nat.le_of_ble_eq_true rfl, Nat.le_of_ble_eq_true rfl⟩ dL_weightOf_16
    · rw [h3] at hE2
      subst hE2
      refine kx_catch2 (E := "java/lang/IllegalArgumentException") (F := "java/lang/IndexOutOfBoundsException") C htab (by decide) kw746 hN.1 rfl (by decide) kw791 (List.mem_of_getElem? (i := 86) rfl) hce hcv hcl ?_
      refine lv_astore (lv' := [(4, .ref qE), (0, .ref oF), (1, .int p0), (2, .int p1), (3, .ref oL)]) hx hb dL_weightOf_17 hl (by decide) rfl (fun ls hl => ?_)
      refine lv_iconst (v := 2) hx hb dL_weightOf_19 (by decide) ?_
      exact kL_ret C hP hD hS ⟨by rw [h3]; rfl, _, fun z => absurd z hc, rfl⟩ ⟨Nat.le_of_ble_eq_true rfl, Nat.le_of_ble_eq_true rfl⟩ dL_weightOf_20
  obtain ⟨hc, hr, hu⟩ := hp
  subst hu
  have hP : kp g [X4W g oF (kFr oC oS oH oR oT oB) vF, X0W g oC rC vC aC, OLW g oL fL] H := hP.pick [1, 2, 0] rfl
  have hD : kd A [X4W g oF (kFr oC oS oH oR oT oB) vF, X0W g oC rC vC aC, OLW g oL fL] := hD.pick [1, 2, 0] rfl rfl
  subst hr
  refine lv_i2l hx hb dL_weightOf_8 rfl ?_
  refine kg_last C hP hD hS (i := 2) rfl rfl dL_weightOf_9 (fun H locs hP hD hS => ?_)
  have hP : kp g [X4W g oF (kFr oC oS oH oR oT oB) vF, X0W g oC rC vC aC, OLW g oL (vp_updL fL 0 (((X4_weightOf_f vF vC aC p0 p1).2).toInt64))] H := hP
  have hD : kd A [X4W g oF (kFr oC oS oH oR oT oB) vF, X0W g oC rC vC aC, OLW g oL (vp_updL fL 0 (((X4_weightOf_f vF vC aC p0 p1).2).toInt64))] := hD
  refine lv_goto (tgt := 21) hx hb dL_weightOf_10 (by decide) ?_
  refine lv_iconst (v := 0) hx hb dL_weightOf_21 (by decide) ?_
  exact kL_ret C hP hD hS ⟨by rw [hc]; rfl, _, fun _ => k_updL0 _ _, rfl⟩ ⟨Nat.le_of_ble_eq_true rfl, Nat.le_of_ble_eq_true rfl⟩ dL_weightOf_22
abbrev wL_told : List Cond := Cond.codeWith yL_told cL_told 4 (some .int) [(0, 9, 12, 55)] :: kW
set_option maxHeartbeats 4000000 in
theorem L_told_c (l : Launch) (g : kG) (oF : Nat) (vF : Nat → Int32) (oS oH oR oT oB : Nat) (oC : Nat) (rC : Nat → Nat) (vC : Nat → Int32) (aC : Nat → Nat → Int32) (p0 : Int32) (nb : Nat) (hnb : nb ≤ 6) (hv7 : vC 7 = nI nb) (hfl : l.stackTraces = false) (oL : Nat) (fL : Nat → Int64) (hcd : (X4_told_f vF vC aC p0).1 = 0 ∨ (X4_told_f vF vC aC p0).1 = 2) : kL l yL_told wL_told 8 124 1 6 g [.ref oF, .int p0, .ref oL] [X4W g oF (kFr oC oS oH oR oT oB) vF, X0W g oC rC vC aC, OLW g oL fL] (fun x u => x = kLk1 ((X4_told_f vF vC aC p0).1) ∧ ∃ h : Nat → Int64, ((X4_told_f vF vC aC p0).1 = 0 → h 0 = ((X4_told_f vF vC aC p0).2).toInt64) ∧ u = [X4W g oF (kFr oC oS oH oR oT oB) vF, X0W g oC rC vC aC, OLW g oL h]) := by
  refine kL_of (cc := cL_told) (nL := 4) (ret := some .int) (lv := [(0, .ref oF), (1, .int p0), (2, .ref oL)]) (by decide) rfl (Nat.le_of_ble_eq_true rfl) rfl ?_
  intro p e s m args below meth c ls A htab hN C hP hD hE hA hS hl
  have C : kC p c cL_told s m args meth RL g 4 (some .int) := C
  have hx := C.1.1
  have hb := C.1.2.1
  have hts := C.1.2.2.2.2
  refine lv_aload_n hx hb dL_told_0 rfl (lv_at hl 2 rfl) ?_
  refine lv_iconst (v := 0) hx hb dL_told_1 (by decide) ?_
  refine lv_aload_n hx hb dL_told_2 rfl (lv_at hl 0 rfl) ?_
  refine lv_iload_n hx hb dL_told_3 rfl (lv_at hl 1 rfl) ?_
  refine kX_V (As := [.int p0]) (rest := [.int 0, .ref oL]) (wr := [OLW g oL fL]) C (X4_told_c l g oF vF oS oH oR oT oB oC rC vC aC p0 nb hnb hv7 hfl) (cwV 1 hts (k_gV kw837 ca_X4_told) rfl rfl rfl ⟨rfl, pnX4_told⟩ ⟨Nat.le_of_ble_eq_true rfl, Nat.le_of_ble_eq_true rfl⟩) hE hS hA hP hD [0, 1] [2] rfl rfl ⟨rfl, rfl, by decide⟩ (k_recv C kFX4 hP (i := 0) (q := 0) rfl rfl) rfl hl.1 rfl rfl dL_told_4 ⟨Nat.le_of_ble_eq_true rfl, Nat.le_of_ble_eq_true rfl⟩ (fun E u H locs qE ce hp hP hD hS hce hcv hcl => ?_) (fun r u H locs hp hP hD hS => ?_)
  · obtain ⟨hc, hE2, hu⟩ := hp
    subst hu
    have hP : kp g [X4W g oF (kFr oC oS oH oR oT oB) vF, X0W g oC rC vC aC, OLW g oL fL] H := hP.pick [1, 2, 0] rfl
    have hD : kd A [X4W g oF (kFr oC oS oH oR oT oB) vF, X0W g oC rC vC aC, OLW g oL fL] := hD.pick [1, 2, 0] rfl rfl
    rcases hcd with h0 | h2
    · exact absurd h0 hc
    · rw [h2] at hE2
      subst hE2
      refine kx_catch1 (E := "java/lang/IndexOutOfBoundsException") C htab rfl (by decide) kw746 (List.mem_of_getElem? (i := 85) rfl) hce hcv hcl ?_
      refine lv_astore_n (lv' := [(3, .ref qE), (0, .ref oF), (1, .int p0), (2, .ref oL)]) hx hb dL_told_12 rfl hl (by decide) rfl (fun ls hl => ?_)
      refine lv_iconst (v := 1) hx hb dL_told_13 (by decide) ?_
      exact kL_ret C hP hD hS ⟨by rw [h2]; rfl, _, fun z => absurd z hc, rfl⟩ ⟨Nat.le_of_ble_eq_true rfl, Nat.le_of_ble_eq_true rfl⟩ dL_told_14
  obtain ⟨hc, hr, hu⟩ := hp
  subst hu
  have hP : kp g [X4W g oF (kFr oC oS oH oR oT oB) vF, X0W g oC rC vC aC, OLW g oL fL] H := hP.pick [1, 2, 0] rfl
  have hD : kd A [X4W g oF (kFr oC oS oH oR oT oB) vF, X0W g oC rC vC aC, OLW g oL fL] := hD.pick [1, 2, 0] rfl rfl
  subst hr
  refine lv_i2l hx hb dL_told_7 rfl ?_
  refine kg_last C hP hD hS (i := 2) rfl rfl dL_told_8 (fun H locs hP hD hS => ?_)
  have hP : kp g [X4W g oF (kFr oC oS oH oR oT oB) vF, X0W g oC rC vC aC, OLW g oL (vp_updL fL 0 (((X4_told_f vF vC aC p0).2).toInt64))] H := hP
  have hD : kd A [X4W g oF (kFr oC oS oH oR oT oB) vF, X0W g oC rC vC aC, OLW g oL (vp_updL fL 0 (((X4_told_f vF vC aC p0).2).toInt64))] := hD
  refine lv_goto (tgt := 15) hx hb dL_told_9 (by decide) ?_
  refine lv_iconst (v := 0) hx hb dL_told_15 (by decide) ?_
  exact kL_ret C hP hD hS ⟨by rw [hc]; rfl, _, fun _ => k_updL0 _ _, rfl⟩ ⟨Nat.le_of_ble_eq_true rfl, Nat.le_of_ble_eq_true rfl⟩ dL_told_16
abbrev wL_toldAgain : List Cond := Cond.codeWith yL_toldAgain cL_toldAgain 4 (some .int) [(0, 9, 12, 55)] :: kW
set_option maxHeartbeats 4000000 in
theorem L_toldAgain_c (l : Launch) (g : kG) (oF : Nat) (vF : Nat → Int32) (oS oH oR oT oB : Nat) (oC : Nat) (rC : Nat → Nat) (vC : Nat → Int32) (aC : Nat → Nat → Int32) (p0 : Int32) (nb : Nat) (hnb : nb ≤ 6) (hv7 : vC 7 = nI nb) (hfl : l.stackTraces = false) (oL : Nat) (fL : Nat → Int64) (hcd : (X4_toldAgain_f vF vC aC p0).1 = 0 ∨ (X4_toldAgain_f vF vC aC p0).1 = 2) : kL l yL_toldAgain wL_toldAgain 8 125 1 6 g [.ref oF, .int p0, .ref oL] [X4W g oF (kFr oC oS oH oR oT oB) vF, X0W g oC rC vC aC, OLW g oL fL] (fun x u => x = kLk1 ((X4_toldAgain_f vF vC aC p0).1) ∧ ∃ h : Nat → Int64, ((X4_toldAgain_f vF vC aC p0).1 = 0 → h 0 = ((X4_toldAgain_f vF vC aC p0).2).toInt64) ∧ u = [X4W g oF (kFr oC oS oH oR oT oB) vF, X0W g oC rC vC aC, OLW g oL h]) := by
  refine kL_of (cc := cL_toldAgain) (nL := 4) (ret := some .int) (lv := [(0, .ref oF), (1, .int p0), (2, .ref oL)]) (by decide) rfl (Nat.le_of_ble_eq_true rfl) rfl ?_
  intro p e s m args below meth c ls A htab hN C hP hD hE hA hS hl
  have C : kC p c cL_toldAgain s m args meth RL g 4 (some .int) := C
  have hx := C.1.1
  have hb := C.1.2.1
  have hts := C.1.2.2.2.2
  refine lv_aload_n hx hb dL_toldAgain_0 rfl (lv_at hl 2 rfl) ?_
  refine lv_iconst (v := 0) hx hb dL_toldAgain_1 (by decide) ?_
  refine lv_aload_n hx hb dL_toldAgain_2 rfl (lv_at hl 0 rfl) ?_
  refine lv_iload_n hx hb dL_toldAgain_3 rfl (lv_at hl 1 rfl) ?_
  refine kX_V (As := [.int p0]) (rest := [.int 0, .ref oL]) (wr := [OLW g oL fL]) C (X4_toldAgain_c l g oF vF oS oH oR oT oB oC rC vC aC p0 nb hnb hv7 hfl) (cwV 1 hts (k_gV kw846 ca_X4_toldAgain) rfl rfl rfl ⟨rfl, pnX4_toldAgain⟩ ⟨Nat.le_of_ble_eq_true rfl, Nat.le_of_ble_eq_true rfl⟩) hE hS hA hP hD [0, 1] [2] rfl rfl ⟨rfl, rfl, by decide⟩ (k_recv C kFX4 hP (i := 0) (q := 0) rfl rfl) rfl hl.1 rfl rfl dL_toldAgain_4 ⟨Nat.le_of_ble_eq_true rfl, Nat.le_of_ble_eq_true rfl⟩ (fun E u H locs qE ce hp hP hD hS hce hcv hcl => ?_) (fun r u H locs hp hP hD hS => ?_)
  · obtain ⟨hc, hE2, hu⟩ := hp
    subst hu
    have hP : kp g [X4W g oF (kFr oC oS oH oR oT oB) vF, X0W g oC rC vC aC, OLW g oL fL] H := hP.pick [1, 2, 0] rfl
    have hD : kd A [X4W g oF (kFr oC oS oH oR oT oB) vF, X0W g oC rC vC aC, OLW g oL fL] := hD.pick [1, 2, 0] rfl rfl
    rcases hcd with h0 | h2
    · exact absurd h0 hc
    · rw [h2] at hE2
      subst hE2
      refine kx_catch1 (E := "java/lang/IndexOutOfBoundsException") C htab rfl (by decide) kw746 (List.mem_of_getElem? (i := 85) rfl) hce hcv hcl ?_
      refine lv_astore_n (lv' := [(3, .ref qE), (0, .ref oF), (1, .int p0), (2, .ref oL)]) hx hb dL_toldAgain_12 rfl hl (by decide) rfl (fun ls hl => ?_)
      refine lv_iconst (v := 1) hx hb dL_toldAgain_13 (by decide) ?_
      exact kL_ret C hP hD hS ⟨by rw [h2]; rfl, _, fun z => absurd z hc, rfl⟩ ⟨Nat.le_of_ble_eq_true rfl, Nat.le_of_ble_eq_true rfl⟩ dL_toldAgain_14
  obtain ⟨hc, hr, hu⟩ := hp
  subst hu
  have hP : kp g [X4W g oF (kFr oC oS oH oR oT oB) vF, X0W g oC rC vC aC, OLW g oL fL] H := hP.pick [1, 2, 0] rfl
  have hD : kd A [X4W g oF (kFr oC oS oH oR oT oB) vF, X0W g oC rC vC aC, OLW g oL fL] := hD.pick [1, 2, 0] rfl rfl
  subst hr
  refine lv_i2l hx hb dL_toldAgain_7 rfl ?_
  refine kg_last C hP hD hS (i := 2) rfl rfl dL_toldAgain_8 (fun H locs hP hD hS => ?_)
  have hP : kp g [X4W g oF (kFr oC oS oH oR oT oB) vF, X0W g oC rC vC aC, OLW g oL (vp_updL fL 0 (((X4_toldAgain_f vF vC aC p0).2).toInt64))] H := hP
  have hD : kd A [X4W g oF (kFr oC oS oH oR oT oB) vF, X0W g oC rC vC aC, OLW g oL (vp_updL fL 0 (((X4_toldAgain_f vF vC aC p0).2).toInt64))] := hD
  refine lv_goto (tgt := 15) hx hb dL_toldAgain_9 (by decide) ?_
  refine lv_iconst (v := 0) hx hb dL_toldAgain_15 (by decide) ?_
  exact kL_ret C hP hD hS ⟨by rw [hc]; rfl, _, fun _ => k_updL0 _ _, rfl⟩ ⟨Nat.le_of_ble_eq_true rfl, Nat.le_of_ble_eq_true rfl⟩ dL_toldAgain_16
abbrev wL_onPan : List Cond := Cond.codeWith yL_onPan cL_onPan 4 (some .int) [(0, 9, 12, 55)] :: kW
set_option maxHeartbeats 4000000 in
theorem L_onPan_c (l : Launch) (g : kG) (oF : Nat) (vF : Nat → Int32) (oS oH oR oT oB : Nat) (oC : Nat) (rC : Nat → Nat) (vC : Nat → Int32) (aC : Nat → Nat → Int32) (p0 : Int32) (nb : Nat) (hnb : nb ≤ 6) (hv7 : vC 7 = nI nb) (hfl : l.stackTraces = false) (oL : Nat) (fL : Nat → Int64) (hcd : (X4_onPan_f vF vC aC p0).1 = 0 ∨ (X4_onPan_f vF vC aC p0).1 = 2) : kL l yL_onPan wL_onPan 8 124 1 6 g [.ref oF, .int p0, .ref oL] [X4W g oF (kFr oC oS oH oR oT oB) vF, X0W g oC rC vC aC, OLW g oL fL] (fun x u => x = kLk1 ((X4_onPan_f vF vC aC p0).1) ∧ ∃ h : Nat → Int64, ((X4_onPan_f vF vC aC p0).1 = 0 → h 0 = ((X4_onPan_f vF vC aC p0).2).toInt64) ∧ u = [X4W g oF (kFr oC oS oH oR oT oB) vF, X0W g oC rC vC aC, OLW g oL h]) := by
  refine kL_of (cc := cL_onPan) (nL := 4) (ret := some .int) (lv := [(0, .ref oF), (1, .int p0), (2, .ref oL)]) (by decide) rfl (Nat.le_of_ble_eq_true rfl) rfl ?_
  intro p e s m args below meth c ls A htab hN C hP hD hE hA hS hl
  have C : kC p c cL_onPan s m args meth RL g 4 (some .int) := C
  have hx := C.1.1
  have hb := C.1.2.1
  have hts := C.1.2.2.2.2
  refine lv_aload_n hx hb dL_onPan_0 rfl (lv_at hl 2 rfl) ?_
  refine lv_iconst (v := 0) hx hb dL_onPan_1 (by decide) ?_
  refine lv_aload_n hx hb dL_onPan_2 rfl (lv_at hl 0 rfl) ?_
  refine lv_iload_n hx hb dL_onPan_3 rfl (lv_at hl 1 rfl) ?_
  refine kX_V (As := [.int p0]) (rest := [.int 0, .ref oL]) (wr := [OLW g oL fL]) C (X4_onPan_c l g oF vF oS oH oR oT oB oC rC vC aC p0 nb hnb hv7 hfl) (cwV 1 hts (k_gV kw862 ca_X4_onPan) rfl rfl rfl ⟨rfl, pnX4_onPan⟩ ⟨Nat.le_of_ble_eq_true rfl, Nat.le_of_ble_eq_true rfl⟩) hE hS hA hP hD [0, 1] [2] rfl rfl ⟨rfl, rfl, by decide⟩ (k_recv C kFX4 hP (i := 0) (q := 0) rfl rfl) rfl hl.1 rfl rfl dL_onPan_4 ⟨Nat.le_of_ble_eq_true rfl, Nat.le_of_ble_eq_true rfl⟩ (fun E u H locs qE ce hp hP hD hS hce hcv hcl => ?_) (fun r u H locs hp hP hD hS => ?_)
  · obtain ⟨hc, hE2, hu⟩ := hp
    subst hu
    have hP : kp g [X4W g oF (kFr oC oS oH oR oT oB) vF, X0W g oC rC vC aC, OLW g oL fL] H := hP.pick [1, 2, 0] rfl
    have hD : kd A [X4W g oF (kFr oC oS oH oR oT oB) vF, X0W g oC rC vC aC, OLW g oL fL] := hD.pick [1, 2, 0] rfl rfl
    rcases hcd with h0 | h2
    · exact absurd h0 hc
    · rw [h2] at hE2
      subst hE2
      refine kx_catch1 (E := "java/lang/IndexOutOfBoundsException") C htab rfl (by decide) kw746 (List.mem_of_getElem? (i := 85) rfl) hce hcv hcl ?_
      refine lv_astore_n (lv' := [(3, .ref qE), (0, .ref oF), (1, .int p0), (2, .ref oL)]) hx hb dL_onPan_12 rfl hl (by decide) rfl (fun ls hl => ?_)
      refine lv_iconst (v := 1) hx hb dL_onPan_13 (by decide) ?_
      exact kL_ret C hP hD hS ⟨by rw [h2]; rfl, _, fun z => absurd z hc, rfl⟩ ⟨Nat.le_of_ble_eq_true rfl, Nat.le_of_ble_eq_true rfl⟩ dL_onPan_14
  obtain ⟨hc, hr, hu⟩ := hp
  subst hu
  have hP : kp g [X4W g oF (kFr oC oS oH oR oT oB) vF, X0W g oC rC vC aC, OLW g oL fL] H := hP.pick [1, 2, 0] rfl
  have hD : kd A [X4W g oF (kFr oC oS oH oR oT oB) vF, X0W g oC rC vC aC, OLW g oL fL] := hD.pick [1, 2, 0] rfl rfl
  subst hr
  refine lv_i2l hx hb dL_onPan_7 rfl ?_
  refine kg_last C hP hD hS (i := 2) rfl rfl dL_onPan_8 (fun H locs hP hD hS => ?_)
  have hP : kp g [X4W g oF (kFr oC oS oH oR oT oB) vF, X0W g oC rC vC aC, OLW g oL (vp_updL fL 0 (((X4_onPan_f vF vC aC p0).2).toInt64))] H := hP
  have hD : kd A [X4W g oF (kFr oC oS oH oR oT oB) vF, X0W g oC rC vC aC, OLW g oL (vp_updL fL 0 (((X4_onPan_f vF vC aC p0).2).toInt64))] := hD
  refine lv_goto (tgt := 15) hx hb dL_onPan_9 (by decide) ?_
  refine lv_iconst (v := 0) hx hb dL_onPan_15 (by decide) ?_
  exact kL_ret C hP hD hS ⟨by rw [hc]; rfl, _, fun _ => k_updL0 _ _, rfl⟩ ⟨Nat.le_of_ble_eq_true rfl, Nat.le_of_ble_eq_true rfl⟩ dL_onPan_16
abbrev wL_rest : List Cond := Cond.codeWith yL_rest cL_rest 4 (some .int) [(0, 9, 12, 55)] :: kW
set_option maxHeartbeats 4000000 in
theorem L_rest_c (l : Launch) (g : kG) (oF : Nat) (vF : Nat → Int32) (oS oH oR oT oB : Nat) (oC : Nat) (rC : Nat → Nat) (vC : Nat → Int32) (aC : Nat → Nat → Int32) (p0 : Int32) (nb : Nat) (hnb : nb ≤ 6) (hv7 : vC 7 = nI nb) (hfl : l.stackTraces = false) (oL : Nat) (fL : Nat → Int64) (hcd : (X4_rest_f vF vC aC p0).1 = 0 ∨ (X4_rest_f vF vC aC p0).1 = 2) : kL l yL_rest wL_rest 8 124 1 6 g [.ref oF, .int p0, .ref oL] [X4W g oF (kFr oC oS oH oR oT oB) vF, X0W g oC rC vC aC, OLW g oL fL] (fun x u => x = kLk1 ((X4_rest_f vF vC aC p0).1) ∧ ∃ h : Nat → Int64, ((X4_rest_f vF vC aC p0).1 = 0 → h 0 = ((X4_rest_f vF vC aC p0).2).toInt64) ∧ u = [X4W g oF (kFr oC oS oH oR oT oB) vF, X0W g oC rC vC aC, OLW g oL h]) := by
  refine kL_of (cc := cL_rest) (nL := 4) (ret := some .int) (lv := [(0, .ref oF), (1, .int p0), (2, .ref oL)]) (by decide) rfl (Nat.le_of_ble_eq_true rfl) rfl ?_
  intro p e s m args below meth c ls A htab hN C hP hD hE hA hS hl
  have C : kC p c cL_rest s m args meth RL g 4 (some .int) := C
  have hx := C.1.1
  have hb := C.1.2.1
  have hts := C.1.2.2.2.2
  refine lv_aload_n hx hb dL_rest_0 rfl (lv_at hl 2 rfl) ?_
  refine lv_iconst (v := 0) hx hb dL_rest_1 (by decide) ?_
  refine lv_aload_n hx hb dL_rest_2 rfl (lv_at hl 0 rfl) ?_
  refine lv_iload_n hx hb dL_rest_3 rfl (lv_at hl 1 rfl) ?_
  refine kX_V (As := [.int p0]) (rest := [.int 0, .ref oL]) (wr := [OLW g oL fL]) C (X4_rest_c l g oF vF oS oH oR oT oB oC rC vC aC p0 nb hnb hv7 hfl) (cwV 1 hts (k_gV kw869 ca_X4_rest) rfl rfl rfl ⟨rfl, pnX4_rest⟩ ⟨Nat.le_of_ble_eq_true rfl, Nat.le_of_ble_eq_true rfl⟩) hE hS hA hP hD [0, 1] [2] rfl rfl ⟨rfl, rfl, by decide⟩ (k_recv C kFX4 hP (i := 0) (q := 0) rfl rfl) rfl hl.1 rfl rfl dL_rest_4 ⟨Nat.le_of_ble_eq_true rfl, Nat.le_of_ble_eq_true rfl⟩ (fun E u H locs qE ce hp hP hD hS hce hcv hcl => ?_) (fun r u H locs hp hP hD hS => ?_)
  · obtain ⟨hc, hE2, hu⟩ := hp
    subst hu
    have hP : kp g [X4W g oF (kFr oC oS oH oR oT oB) vF, X0W g oC rC vC aC, OLW g oL fL] H := hP.pick [1, 2, 0] rfl
    have hD : kd A [X4W g oF (kFr oC oS oH oR oT oB) vF, X0W g oC rC vC aC, OLW g oL fL] := hD.pick [1, 2, 0] rfl rfl
    rcases hcd with h0 | h2
    · exact absurd h0 hc
    · rw [h2] at hE2
      subst hE2
      refine kx_catch1 (E := "java/lang/IndexOutOfBoundsException") C htab rfl (by decide) kw746 (List.mem_of_getElem? (i := 85) rfl) hce hcv hcl ?_
      refine lv_astore_n (lv' := [(3, .ref qE), (0, .ref oF), (1, .int p0), (2, .ref oL)]) hx hb dL_rest_12 rfl hl (by decide) rfl (fun ls hl => ?_)
      refine lv_iconst (v := 1) hx hb dL_rest_13 (by decide) ?_
      exact kL_ret C hP hD hS ⟨by rw [h2]; rfl, _, fun z => absurd z hc, rfl⟩ ⟨Nat.le_of_ble_eq_true rfl, Nat.le_of_ble_eq_true rfl⟩ dL_rest_14
  obtain ⟨hc, hr, hu⟩ := hp
  subst hu
  have hP : kp g [X4W g oF (kFr oC oS oH oR oT oB) vF, X0W g oC rC vC aC, OLW g oL fL] H := hP.pick [1, 2, 0] rfl
  have hD : kd A [X4W g oF (kFr oC oS oH oR oT oB) vF, X0W g oC rC vC aC, OLW g oL fL] := hD.pick [1, 2, 0] rfl rfl
  subst hr
  refine lv_i2l hx hb dL_rest_7 rfl ?_
  refine kg_last C hP hD hS (i := 2) rfl rfl dL_rest_8 (fun H locs hP hD hS => ?_)
  have hP : kp g [X4W g oF (kFr oC oS oH oR oT oB) vF, X0W g oC rC vC aC, OLW g oL (vp_updL fL 0 (((X4_rest_f vF vC aC p0).2).toInt64))] H := hP
  have hD : kd A [X4W g oF (kFr oC oS oH oR oT oB) vF, X0W g oC rC vC aC, OLW g oL (vp_updL fL 0 (((X4_rest_f vF vC aC p0).2).toInt64))] := hD
  refine lv_goto (tgt := 15) hx hb dL_rest_9 (by decide) ?_
  refine lv_iconst (v := 0) hx hb dL_rest_15 (by decide) ?_
  exact kL_ret C hP hD hS ⟨by rw [hc]; rfl, _, fun _ => k_updL0 _ _, rfl⟩ ⟨Nat.le_of_ble_eq_true rfl, Nat.le_of_ble_eq_true rfl⟩ dL_rest_16
abbrev wL_honest : List Cond := Cond.codeWith yL_honest cL_honest 4 (some .int) [(0, 9, 12, 55)] :: kW
set_option maxHeartbeats 4000000 in
theorem L_honest_c (l : Launch) (g : kG) (oF : Nat) (vF : Nat → Int32) (oS oH oR oT oB : Nat) (oC : Nat) (rC : Nat → Nat) (vC : Nat → Int32) (aC : Nat → Nat → Int32) (p0 : Int32) (nb : Nat) (hnb : nb ≤ 6) (hv7 : vC 7 = nI nb) (hfl : l.stackTraces = false) (oL : Nat) (fL : Nat → Int64) (hcd : (X4_honest_f vF vC aC p0).1 = 0 ∨ (X4_honest_f vF vC aC p0).1 = 2) : kL l yL_honest wL_honest 8 124 1 6 g [.ref oF, .int p0, .ref oL] [X4W g oF (kFr oC oS oH oR oT oB) vF, X0W g oC rC vC aC, OLW g oL fL] (fun x u => x = kLk1 ((X4_honest_f vF vC aC p0).1) ∧ ∃ h : Nat → Int64, ((X4_honest_f vF vC aC p0).1 = 0 → h 0 = ((X4_honest_f vF vC aC p0).2).toInt64) ∧ u = [X4W g oF (kFr oC oS oH oR oT oB) vF, X0W g oC rC vC aC, OLW g oL h]) := by
  refine kL_of (cc := cL_honest) (nL := 4) (ret := some .int) (lv := [(0, .ref oF), (1, .int p0), (2, .ref oL)]) (by decide) rfl (Nat.le_of_ble_eq_true rfl) rfl ?_
  intro p e s m args below meth c ls A htab hN C hP hD hE hA hS hl
  have C : kC p c cL_honest s m args meth RL g 4 (some .int) := C
  have hx := C.1.1
  have hb := C.1.2.1
  have hts := C.1.2.2.2.2
  refine lv_aload_n hx hb dL_honest_0 rfl (lv_at hl 2 rfl) ?_
  refine lv_iconst (v := 0) hx hb dL_honest_1 (by decide) ?_
  refine lv_aload_n hx hb dL_honest_2 rfl (lv_at hl 0 rfl) ?_
  refine lv_iload_n hx hb dL_honest_3 rfl (lv_at hl 1 rfl) ?_
  refine kX_V (As := [.int p0]) (rest := [.int 0, .ref oL]) (wr := [OLW g oL fL]) C (X4_honest_c l g oF vF oS oH oR oT oB oC rC vC aC p0 nb hnb hv7 hfl) (cwV 1 hts (k_gV kw876 ca_X4_honest) rfl rfl rfl ⟨rfl, pnX4_honest⟩ ⟨Nat.le_of_ble_eq_true rfl, Nat.le_of_ble_eq_true rfl⟩) hE hS hA hP hD [0, 1] [2] rfl rfl ⟨rfl, rfl, by decide⟩ (k_recv C kFX4 hP (i := 0) (q := 0) rfl rfl) rfl hl.1 rfl rfl dL_honest_4 ⟨Nat.le_of_ble_eq_true rfl, Nat.le_of_ble_eq_true rfl⟩ (fun E u H locs qE ce hp hP hD hS hce hcv hcl => ?_) (fun r u H locs hp hP hD hS => ?_)
  · obtain ⟨hc, hE2, hu⟩ := hp
    subst hu
    have hP : kp g [X4W g oF (kFr oC oS oH oR oT oB) vF, X0W g oC rC vC aC, OLW g oL fL] H := hP.pick [1, 2, 0] rfl
    have hD : kd A [X4W g oF (kFr oC oS oH oR oT oB) vF, X0W g oC rC vC aC, OLW g oL fL] := hD.pick [1, 2, 0] rfl rfl
    rcases hcd with h0 | h2
    · exact absurd h0 hc
    · rw [h2] at hE2
      subst hE2
      refine kx_catch1 (E := "java/lang/IndexOutOfBoundsException") C htab rfl (by decide) kw746 (List.mem_of_getElem? (i := 85) rfl) hce hcv hcl ?_
      refine lv_astore_n (lv' := [(3, .ref qE), (0, .ref oF), (1, .int p0), (2, .ref oL)]) hx hb dL_honest_12 rfl hl (by decide) rfl (fun ls hl => ?_)
      refine lv_iconst (v := 1) hx hb dL_honest_13 (by decide) ?_
      exact kL_ret C hP hD hS ⟨by rw [h2]; rfl, _, fun z => absurd z hc, rfl⟩ ⟨Nat.le_of_ble_eq_true rfl, Nat.le_of_ble_eq_true rfl⟩ dL_honest_14
  obtain ⟨hc, hr, hu⟩ := hp
  subst hu
  have hP : kp g [X4W g oF (kFr oC oS oH oR oT oB) vF, X0W g oC rC vC aC, OLW g oL fL] H := hP.pick [1, 2, 0] rfl
  have hD : kd A [X4W g oF (kFr oC oS oH oR oT oB) vF, X0W g oC rC vC aC, OLW g oL fL] := hD.pick [1, 2, 0] rfl rfl
  subst hr
  refine lv_i2l hx hb dL_honest_7 rfl ?_
  refine kg_last C hP hD hS (i := 2) rfl rfl dL_honest_8 (fun H locs hP hD hS => ?_)
  have hP : kp g [X4W g oF (kFr oC oS oH oR oT oB) vF, X0W g oC rC vC aC, OLW g oL (vp_updL fL 0 (((X4_honest_f vF vC aC p0).2).toInt64))] H := hP
  have hD : kd A [X4W g oF (kFr oC oS oH oR oT oB) vF, X0W g oC rC vC aC, OLW g oL (vp_updL fL 0 (((X4_honest_f vF vC aC p0).2).toInt64))] := hD
  refine lv_goto (tgt := 15) hx hb dL_honest_9 (by decide) ?_
  refine lv_iconst (v := 0) hx hb dL_honest_15 (by decide) ?_
  exact kL_ret C hP hD hS ⟨by rw [hc]; rfl, _, fun _ => k_updL0 _ _, rfl⟩ ⟨Nat.le_of_ble_eq_true rfl, Nat.le_of_ble_eq_true rfl⟩ dL_honest_16
abbrev wL_pays : List Cond := Cond.codeWith yL_pays cL_pays 5 (some .int) [(0, 10, 13, 55), (0, 10, 17, 60)] :: kW
set_option maxHeartbeats 4000000 in
theorem L_pays_c (l : Launch) (g : kG) (oF : Nat) (vF : Nat → Int32) (oS oH oR oT oB : Nat) (oC : Nat) (rC : Nat → Nat) (vC : Nat → Int32) (aC : Nat → Nat → Int32) (p0 : Int32) (p1 : Int32) (hfl : l.stackTraces = false) (oL : Nat) (fL : Nat → Int64) (hcd : (X4_pays_f vF vC aC p0 p1).1 = 0 ∨ (X4_pays_f vF vC aC p0 p1).1 = 2 ∨ (X4_pays_f vF vC aC p0 p1).1 = 3) : kL l yL_pays wL_pays 8 124 2 12 g [.ref oF, .int p0, .int p1, .ref oL] [X4W g oF (kFr oC oS oH oR oT oB) vF, X0W g oC rC vC aC, OLW g oL fL] (fun x u => x = kLk2 2 ((X4_pays_f vF vC aC p0 p1).1) ∧ ∃ h : Nat → Int64, ((X4_pays_f vF vC aC p0 p1).1 = 0 → h 0 = ((X4_pays_f vF vC aC p0 p1).2).toInt64) ∧ u = [X4W g oF (kFr oC oS oH oR oT oB) vF, X0W g oC rC vC aC, OLW g oL h]) := by
  refine kL_of (cc := cL_pays) (nL := 5) (ret := some .int) (lv := [(0, .ref oF), (1, .int p0), (2, .int p1), (3, .ref oL)]) (by decide) rfl (Nat.le_of_ble_eq_true rfl) rfl ?_
  intro p e s m args below meth c ls A htab hN C hP hD hE hA hS hl
  have C : kC p c cL_pays s m args meth RL g 5 (some .int) := C
  have hx := C.1.1
  have hb := C.1.2.1
  have hts := C.1.2.2.2.2
  refine lv_aload_n hx hb dL_pays_0 rfl (lv_at hl 3 rfl) ?_
  refine lv_iconst (v := 0) hx hb dL_pays_1 (by decide) ?_
  refine lv_aload_n hx hb dL_pays_2 rfl (lv_at hl 0 rfl) ?_
  refine lv_iload_n hx hb dL_pays_3 rfl (lv_at hl 1 rfl) ?_
  refine lv_iload_n hx hb dL_pays_4 rfl (lv_at hl 2 rfl) ?_
  refine kX_V (As := [.int p0, .int p1]) (rest := [.int 0, .ref oL]) (wr := [OLW g oL fL]) C (X4_pays_c l g oF vF oS oH oR oT oB oC rC vC aC p0 p1 hfl) (cwV 2 hts (k_gV kw883 ca_X4_pays) rfl rfl rfl ⟨rfl, pnX4_pays⟩ ⟨Nat.le_of_ble_eq_true rfl, Nat.le_of_ble_eq_true rfl⟩) hE hS hA hP hD [0, 1] [2] rfl rfl ⟨rfl, rfl, by decide⟩ (k_recv C kFX4 hP (i := 0) (q := 0) rfl rfl) rfl hl.1 rfl rfl dL_pays_5 ⟨Nat.le_of_ble_eq_true rfl, Nat.le_of_ble_eq_true rfl⟩ (fun E u H locs qE ce hp hP hD hS hce hcv hcl => ?_) (fun r u H locs hp hP hD hS => ?_)
  · obtain ⟨hc, hE2, hu⟩ := hp
    subst hu
    have hP : kp g [X4W g oF (kFr oC oS oH oR oT oB) vF, X0W g oC rC vC aC, OLW g oL fL] H := hP.pick [1, 2, 0] rfl
    have hD : kd A [X4W g oF (kFr oC oS oH oR oT oB) vF, X0W g oC rC vC aC, OLW g oL fL] := hD.pick [1, 2, 0] rfl rfl
    rcases hcd with h0 | h2 | h3
    · exact absurd h0 hc
    · rw [h2] at hE2
      subst hE2
      refine kx_catch1 (E := "java/lang/IndexOutOfBoundsException") C htab rfl (by decide) kw746 (List.mem_of_getElem? (i := 85) rfl) hce hcv hcl ?_
      refine lv_astore (lv' := [(4, .ref qE), (0, .ref oF), (1, .int p0), (2, .int p1), (3, .ref oL)]) hx hb dL_pays_13 hl (by decide) rfl (fun ls hl => ?_)
      refine lv_iconst (v := 1) hx hb dL_pays_15 (by decide) ?_
      exact kL_ret C hP hD hS ⟨by rw [h2]; rfl, _, fun z => absurd z hc, rfl⟩ ⟨Nat.le_of_ble_eq_true rfl, Nat.le_of_ble_eq_true rfl⟩ dL_pays_16
    · rw [h3] at hE2
      subst hE2
      refine kx_catch2 (E := "java/lang/IllegalArgumentException") (F := "java/lang/IndexOutOfBoundsException") C htab (by decide) kw746 hN.1 rfl (by decide) kw791 (List.mem_of_getElem? (i := 86) rfl) hce hcv hcl ?_
      refine lv_astore (lv' := [(4, .ref qE), (0, .ref oF), (1, .int p0), (2, .int p1), (3, .ref oL)]) hx hb dL_pays_17 hl (by decide) rfl (fun ls hl => ?_)
      refine lv_iconst (v := 2) hx hb dL_pays_19 (by decide) ?_
      exact kL_ret C hP hD hS ⟨by rw [h3]; rfl, _, fun z => absurd z hc, rfl⟩ ⟨Nat.le_of_ble_eq_true rfl, Nat.le_of_ble_eq_true rfl⟩ dL_pays_20
  obtain ⟨hc, hr, hu⟩ := hp
  subst hu
  have hP : kp g [X4W g oF (kFr oC oS oH oR oT oB) vF, X0W g oC rC vC aC, OLW g oL fL] H := hP.pick [1, 2, 0] rfl
  have hD : kd A [X4W g oF (kFr oC oS oH oR oT oB) vF, X0W g oC rC vC aC, OLW g oL fL] := hD.pick [1, 2, 0] rfl rfl
  subst hr
  refine lv_i2l hx hb dL_pays_8 rfl ?_
  refine kg_last C hP hD hS (i := 2) rfl rfl dL_pays_9 (fun H locs hP hD hS => ?_)
  have hP : kp g [X4W g oF (kFr oC oS oH oR oT oB) vF, X0W g oC rC vC aC, OLW g oL (vp_updL fL 0 (((X4_pays_f vF vC aC p0 p1).2).toInt64))] H := hP
  have hD : kd A [X4W g oF (kFr oC oS oH oR oT oB) vF, X0W g oC rC vC aC, OLW g oL (vp_updL fL 0 (((X4_pays_f vF vC aC p0 p1).2).toInt64))] := hD
  refine lv_goto (tgt := 21) hx hb dL_pays_10 (by decide) ?_
  refine lv_iconst (v := 0) hx hb dL_pays_21 (by decide) ?_
  exact kL_ret C hP hD hS ⟨by rw [hc]; rfl, _, fun _ => k_updL0 _ _, rfl⟩ ⟨Nat.le_of_ble_eq_true rfl, Nat.le_of_ble_eq_true rfl⟩ dL_pays_22
abbrev wL_wouldGet : List Cond := Cond.codeWith yL_wouldGet cL_wouldGet 5 (some .int) [(0, 10, 13, 55), (0, 10, 17, 86)] :: kW
set_option maxHeartbeats 4000000 in
theorem L_wouldGet_c (l : Launch) (g : kG) (oF : Nat) (vF : Nat → Int32) (oS oH oR oT oB : Nat) (oC : Nat) (rC : Nat → Nat) (vC : Nat → Int32) (aC : Nat → Nat → Int32) (p0 : Int32) (p1 : Int32) (nb : Nat) (hnb : nb ≤ 6) (hv7 : vC 7 = nI nb) (hfl : l.stackTraces = false) (oL : Nat) (fL : Nat → Int64) (hcd : (X4_wouldGet_f vF vC aC p0 p1).1 = 0 ∨ (X4_wouldGet_f vF vC aC p0 p1).1 = 2 ∨ (X4_wouldGet_f vF vC aC p0 p1).1 = 4) : kL l yL_wouldGet wL_wouldGet 8 125 3 18 g [.ref oF, .int p0, .int p1, .ref oL] [X4W g oF (kFr oC oS oH oR oT oB) vF, X0W g oC rC vC aC, OLW g oL fL] (fun x u => x = kLk2 2 ((X4_wouldGet_f vF vC aC p0 p1).1) ∧ ∃ h : Nat → Int64, ((X4_wouldGet_f vF vC aC p0 p1).1 = 0 → h 0 = ((X4_wouldGet_f vF vC aC p0 p1).2).toInt64) ∧ u = [X4W g oF (kFr oC oS oH oR oT oB) vF, X0W g oC rC vC aC, OLW g oL h]) := by
  refine kL_of (cc := cL_wouldGet) (nL := 5) (ret := some .int) (lv := [(0, .ref oF), (1, .int p0), (2, .int p1), (3, .ref oL)]) (by decide) rfl (Nat.le_of_ble_eq_true rfl) rfl ?_
  intro p e s m args below meth c ls A htab hN C hP hD hE hA hS hl
  have C : kC p c cL_wouldGet s m args meth RL g 5 (some .int) := C
  have hx := C.1.1
  have hb := C.1.2.1
  have hts := C.1.2.2.2.2
  refine lv_aload_n hx hb dL_wouldGet_0 rfl (lv_at hl 3 rfl) ?_
  refine lv_iconst (v := 0) hx hb dL_wouldGet_1 (by decide) ?_
  refine lv_aload_n hx hb dL_wouldGet_2 rfl (lv_at hl 0 rfl) ?_
  refine lv_iload_n hx hb dL_wouldGet_3 rfl (lv_at hl 1 rfl) ?_
  refine lv_iload_n hx hb dL_wouldGet_4 rfl (lv_at hl 2 rfl) ?_
  refine kX_V (As := [.int p0, .int p1]) (rest := [.int 0, .ref oL]) (wr := [OLW g oL fL]) C (X4_wouldGet_c l g oF vF oS oH oR oT oB oC rC vC aC p0 p1 nb hnb hv7 hfl) (cwV 2 hts (k_gV kw899 ca_X4_wouldGet) rfl rfl rfl ⟨rfl, pnX4_wouldGet⟩ ⟨Nat.le_of_ble_eq_true rfl, Nat.le_of_ble_eq_true rfl⟩) hE hS hA hP hD [0, 1] [2] rfl rfl ⟨rfl, rfl, by decide⟩ (k_recv C kFX4 hP (i := 0) (q := 0) rfl rfl) rfl hl.1 rfl rfl dL_wouldGet_5 ⟨Nat.le_of_ble_eq_true rfl, Nat.le_of_ble_eq_true rfl⟩ (fun E u H locs qE ce hp hP hD hS hce hcv hcl => ?_) (fun r u H locs hp hP hD hS => ?_)
  · obtain ⟨hc, hE2, hu⟩ := hp
    subst hu
    have hP : kp g [X4W g oF (kFr oC oS oH oR oT oB) vF, X0W g oC rC vC aC, OLW g oL fL] H := hP.pick [1, 2, 0] rfl
    have hD : kd A [X4W g oF (kFr oC oS oH oR oT oB) vF, X0W g oC rC vC aC, OLW g oL fL] := hD.pick [1, 2, 0] rfl rfl
    rcases hcd with h0 | h2 | h4
    · exact absurd h0 hc
    · rw [h2] at hE2
      subst hE2
      refine kx_catch1 (E := "java/lang/IndexOutOfBoundsException") C htab rfl (by decide) kw746 (List.mem_of_getElem? (i := 85) rfl) hce hcv hcl ?_
      refine lv_astore (lv' := [(4, .ref qE), (0, .ref oF), (1, .int p0), (2, .int p1), (3, .ref oL)]) hx hb dL_wouldGet_13 hl (by decide) rfl (fun ls hl => ?_)
      refine lv_iconst (v := 1) hx hb dL_wouldGet_15 (by decide) ?_
      exact kL_ret C hP hD hS ⟨by rw [h2]; rfl, _, fun z => absurd z hc, rfl⟩ ⟨Nat.le_of_ble_eq_true rfl, Nat.le_of_ble_eq_true rfl⟩ dL_wouldGet_16
    · rw [h4] at hE2
      subst hE2
      refine kx_catch2 (E := "java/util/NoSuchElementException") (F := "java/lang/IndexOutOfBoundsException") C htab (by decide) kw746 hN.2.1 rfl (by decide) kw898 (List.mem_of_getElem? (i := 87) rfl) hce hcv hcl ?_
      refine lv_astore (lv' := [(4, .ref qE), (0, .ref oF), (1, .int p0), (2, .int p1), (3, .ref oL)]) hx hb dL_wouldGet_17 hl (by decide) rfl (fun ls hl => ?_)
      refine lv_iconst (v := 2) hx hb dL_wouldGet_19 (by decide) ?_
      exact kL_ret C hP hD hS ⟨by rw [h4]; rfl, _, fun z => absurd z hc, rfl⟩ ⟨Nat.le_of_ble_eq_true rfl, Nat.le_of_ble_eq_true rfl⟩ dL_wouldGet_20
  obtain ⟨hc, hr, hu⟩ := hp
  subst hu
  have hP : kp g [X4W g oF (kFr oC oS oH oR oT oB) vF, X0W g oC rC vC aC, OLW g oL fL] H := hP.pick [1, 2, 0] rfl
  have hD : kd A [X4W g oF (kFr oC oS oH oR oT oB) vF, X0W g oC rC vC aC, OLW g oL fL] := hD.pick [1, 2, 0] rfl rfl
  subst hr
  refine lv_i2l hx hb dL_wouldGet_8 rfl ?_
  refine kg_last C hP hD hS (i := 2) rfl rfl dL_wouldGet_9 (fun H locs hP hD hS => ?_)
  have hP : kp g [X4W g oF (kFr oC oS oH oR oT oB) vF, X0W g oC rC vC aC, OLW g oL (vp_updL fL 0 (((X4_wouldGet_f vF vC aC p0 p1).2).toInt64))] H := hP
  have hD : kd A [X4W g oF (kFr oC oS oH oR oT oB) vF, X0W g oC rC vC aC, OLW g oL (vp_updL fL 0 (((X4_wouldGet_f vF vC aC p0 p1).2).toInt64))] := hD
  refine lv_goto (tgt := 21) hx hb dL_wouldGet_10 (by decide) ?_
  refine lv_iconst (v := 0) hx hb dL_wouldGet_21 (by decide) ?_
  exact kL_ret C hP hD hS ⟨by rw [hc]; rfl, _, fun _ => k_updL0 _ _, rfl⟩ ⟨Nat.le_of_ble_eq_true rfl, Nat.le_of_ble_eq_true rfl⟩ dL_wouldGet_22
abbrev wL_bestMarket : List Cond := Cond.codeWith yL_bestMarket cL_bestMarket 4 (some .int) [(0, 9, 12, 55), (0, 9, 15, 86)] :: kW
set_option maxHeartbeats 4000000 in
theorem L_bestMarket_c (l : Launch) (g : kG) (oF : Nat) (vF : Nat → Int32) (oS oH oR oT oB : Nat) (oC : Nat) (rC : Nat → Nat) (vC : Nat → Int32) (aC : Nat → Nat → Int32) (p0 : Int32) (nb : Nat) (hnb : nb ≤ 6) (hv7 : vC 7 = nI nb) (hM : vp_in (vC 1) 4) (hfl : l.stackTraces = false) (oL : Nat) (fL : Nat → Int64) (hcd : (X4_bestMarket_f vF vC aC p0).1 = 0 ∨ (X4_bestMarket_f vF vC aC p0).1 = 2 ∨ (X4_bestMarket_f vF vC aC p0).1 = 4) : kL l yL_bestMarket wL_bestMarket 8 124 2 12 g [.ref oF, .int p0, .ref oL] [X4W g oF (kFr oC oS oH oR oT oB) vF, X0W g oC rC vC aC, OLW g oL fL] (fun x u => x = kLk2 2 ((X4_bestMarket_f vF vC aC p0).1) ∧ ∃ h : Nat → Int64, ((X4_bestMarket_f vF vC aC p0).1 = 0 → h 0 = ((X4_bestMarket_f vF vC aC p0).2).toInt64) ∧ u = [X4W g oF (kFr oC oS oH oR oT oB) vF, X0W g oC rC vC aC, OLW g oL h]) := by
  refine kL_of (cc := cL_bestMarket) (nL := 4) (ret := some .int) (lv := [(0, .ref oF), (1, .int p0), (2, .ref oL)]) (by decide) rfl (Nat.le_of_ble_eq_true rfl) rfl ?_
  intro p e s m args below meth c ls A htab hN C hP hD hE hA hS hl
  have C : kC p c cL_bestMarket s m args meth RL g 4 (some .int) := C
  have hx := C.1.1
  have hb := C.1.2.1
  have hts := C.1.2.2.2.2
  refine lv_aload_n hx hb dL_bestMarket_0 rfl (lv_at hl 2 rfl) ?_
  refine lv_iconst (v := 0) hx hb dL_bestMarket_1 (by decide) ?_
  refine lv_aload_n hx hb dL_bestMarket_2 rfl (lv_at hl 0 rfl) ?_
  refine lv_iload_n hx hb dL_bestMarket_3 rfl (lv_at hl 1 rfl) ?_
  refine kX_V (As := [.int p0]) (rest := [.int 0, .ref oL]) (wr := [OLW g oL fL]) C (X4_bestMarket_c l g oF vF oS oH oR oT oB oC rC vC aC p0 nb hnb hv7 hM hfl) (cwV 1 hts (k_gV kw928 ca_X4_bestMarket) rfl rfl rfl ⟨rfl, pnX4_bestMarket⟩ ⟨Nat.le_of_ble_eq_true rfl, Nat.le_of_ble_eq_true rfl⟩) hE hS hA hP hD [0, 1] [2] rfl rfl ⟨rfl, rfl, by decide⟩ (k_recv C kFX4 hP (i := 0) (q := 0) rfl rfl) rfl hl.1 rfl rfl dL_bestMarket_4 ⟨Nat.le_of_ble_eq_true rfl, Nat.le_of_ble_eq_true rfl⟩ (fun E u H locs qE ce hp hP hD hS hce hcv hcl => ?_) (fun r u H locs hp hP hD hS => ?_)
  · obtain ⟨hc, hE2, hu⟩ := hp
    subst hu
    have hP : kp g [X4W g oF (kFr oC oS oH oR oT oB) vF, X0W g oC rC vC aC, OLW g oL fL] H := hP.pick [1, 2, 0] rfl
    have hD : kd A [X4W g oF (kFr oC oS oH oR oT oB) vF, X0W g oC rC vC aC, OLW g oL fL] := hD.pick [1, 2, 0] rfl rfl
    rcases hcd with h0 | h2 | h4
    · exact absurd h0 hc
    · rw [h2] at hE2
      subst hE2
      refine kx_catch1 (E := "java/lang/IndexOutOfBoundsException") C htab rfl (by decide) kw746 (List.mem_of_getElem? (i := 85) rfl) hce hcv hcl ?_
      refine lv_astore_n (lv' := [(3, .ref qE), (0, .ref oF), (1, .int p0), (2, .ref oL)]) hx hb dL_bestMarket_12 rfl hl (by decide) rfl (fun ls hl => ?_)
      refine lv_iconst (v := 1) hx hb dL_bestMarket_13 (by decide) ?_
      exact kL_ret C hP hD hS ⟨by rw [h2]; rfl, _, fun z => absurd z hc, rfl⟩ ⟨Nat.le_of_ble_eq_true rfl, Nat.le_of_ble_eq_true rfl⟩ dL_bestMarket_14
    · rw [h4] at hE2
      subst hE2
      refine kx_catch2 (E := "java/util/NoSuchElementException") (F := "java/lang/IndexOutOfBoundsException") C htab (by decide) kw746 hN.2.1 rfl (by decide) kw898 (List.mem_of_getElem? (i := 87) rfl) hce hcv hcl ?_
      refine lv_astore_n (lv' := [(3, .ref qE), (0, .ref oF), (1, .int p0), (2, .ref oL)]) hx hb dL_bestMarket_15 rfl hl (by decide) rfl (fun ls hl => ?_)
      refine lv_iconst (v := 2) hx hb dL_bestMarket_16 (by decide) ?_
      exact kL_ret C hP hD hS ⟨by rw [h4]; rfl, _, fun z => absurd z hc, rfl⟩ ⟨Nat.le_of_ble_eq_true rfl, Nat.le_of_ble_eq_true rfl⟩ dL_bestMarket_17
  obtain ⟨hc, hr, hu⟩ := hp
  subst hu
  have hP : kp g [X4W g oF (kFr oC oS oH oR oT oB) vF, X0W g oC rC vC aC, OLW g oL fL] H := hP.pick [1, 2, 0] rfl
  have hD : kd A [X4W g oF (kFr oC oS oH oR oT oB) vF, X0W g oC rC vC aC, OLW g oL fL] := hD.pick [1, 2, 0] rfl rfl
  subst hr
  refine lv_i2l hx hb dL_bestMarket_7 rfl ?_
  refine kg_last C hP hD hS (i := 2) rfl rfl dL_bestMarket_8 (fun H locs hP hD hS => ?_)
  have hP : kp g [X4W g oF (kFr oC oS oH oR oT oB) vF, X0W g oC rC vC aC, OLW g oL (vp_updL fL 0 (((X4_bestMarket_f vF vC aC p0).2).toInt64))] H := hP
  have hD : kd A [X4W g oF (kFr oC oS oH oR oT oB) vF, X0W g oC rC vC aC, OLW g oL (vp_updL fL 0 (((X4_bestMarket_f vF vC aC p0).2).toInt64))] := hD
  refine lv_goto (tgt := 18) hx hb dL_bestMarket_9 (by decide) ?_
  refine lv_iconst (v := 0) hx hb dL_bestMarket_18 (by decide) ?_
  exact kL_ret C hP hD hS ⟨by rw [hc]; rfl, _, fun _ => k_updL0 _ _, rfl⟩ ⟨Nat.le_of_ble_eq_true rfl, Nat.le_of_ble_eq_true rfl⟩ dL_bestMarket_19
abbrev wL_oathUntil : List Cond := Cond.codeWith yL_oathUntil cL_oathUntil 4 (some .int) [(0, 9, 12, 55), (0, 9, 15, 86)] :: kW
set_option maxHeartbeats 4000000 in
theorem L_oathUntil_c (l : Launch) (g : kG) (oF : Nat) (vF : Nat → Int32) (oS oH oR oT oB : Nat) (oC : Nat) (rC : Nat → Nat) (vC : Nat → Int32) (aC : Nat → Nat → Int32) (p0 : Int32) (hfl : l.stackTraces = false) (oL : Nat) (fL : Nat → Int64) (hcd : (X4_oathUntil_f vF vC aC p0).1 = 0 ∨ (X4_oathUntil_f vF vC aC p0).1 = 2 ∨ (X4_oathUntil_f vF vC aC p0).1 = 4) : kL l yL_oathUntil wL_oathUntil 8 123 2 12 g [.ref oF, .int p0, .ref oL] [X4W g oF (kFr oC oS oH oR oT oB) vF, X0W g oC rC vC aC, OLW g oL fL] (fun x u => x = kLk2 2 ((X4_oathUntil_f vF vC aC p0).1) ∧ ∃ h : Nat → Int64, ((X4_oathUntil_f vF vC aC p0).1 = 0 → h 0 = ((X4_oathUntil_f vF vC aC p0).2).toInt64) ∧ u = [X4W g oF (kFr oC oS oH oR oT oB) vF, X0W g oC rC vC aC, OLW g oL h]) := by
  refine kL_of (cc := cL_oathUntil) (nL := 4) (ret := some .int) (lv := [(0, .ref oF), (1, .int p0), (2, .ref oL)]) (by decide) rfl (Nat.le_of_ble_eq_true rfl) rfl ?_
  intro p e s m args below meth c ls A htab hN C hP hD hE hA hS hl
  have C : kC p c cL_oathUntil s m args meth RL g 4 (some .int) := C
  have hx := C.1.1
  have hb := C.1.2.1
  have hts := C.1.2.2.2.2
  refine lv_aload_n hx hb dL_oathUntil_0 rfl (lv_at hl 2 rfl) ?_
  refine lv_iconst (v := 0) hx hb dL_oathUntil_1 (by decide) ?_
  refine lv_aload_n hx hb dL_oathUntil_2 rfl (lv_at hl 0 rfl) ?_
  refine lv_iload_n hx hb dL_oathUntil_3 rfl (lv_at hl 1 rfl) ?_
  refine kX_V (As := [.int p0]) (rest := [.int 0, .ref oL]) (wr := [OLW g oL fL]) C (X4_oathUntil_c l g oF vF oS oH oR oT oB oC rC vC aC p0 hfl) (cwV 1 hts (k_gV kw940 ca_X4_oathUntil) rfl rfl rfl ⟨rfl, pnX4_oathUntil⟩ ⟨Nat.le_of_ble_eq_true rfl, Nat.le_of_ble_eq_true rfl⟩) hE hS hA hP hD [0, 1] [2] rfl rfl ⟨rfl, rfl, by decide⟩ (k_recv C kFX4 hP (i := 0) (q := 0) rfl rfl) rfl hl.1 rfl rfl dL_oathUntil_4 ⟨Nat.le_of_ble_eq_true rfl, Nat.le_of_ble_eq_true rfl⟩ (fun E u H locs qE ce hp hP hD hS hce hcv hcl => ?_) (fun r u H locs hp hP hD hS => ?_)
  · obtain ⟨hc, hE2, hu⟩ := hp
    subst hu
    have hP : kp g [X4W g oF (kFr oC oS oH oR oT oB) vF, X0W g oC rC vC aC, OLW g oL fL] H := hP.pick [1, 2, 0] rfl
    have hD : kd A [X4W g oF (kFr oC oS oH oR oT oB) vF, X0W g oC rC vC aC, OLW g oL fL] := hD.pick [1, 2, 0] rfl rfl
    rcases hcd with h0 | h2 | h4
    · exact absurd h0 hc
    · rw [h2] at hE2
      subst hE2
      refine kx_catch1 (E := "java/lang/IndexOutOfBoundsException") C htab rfl (by decide) kw746 (List.mem_of_getElem? (i := 85) rfl) hce hcv hcl ?_
      refine lv_astore_n (lv' := [(3, .ref qE), (0, .ref oF), (1, .int p0), (2, .ref oL)]) hx hb dL_oathUntil_12 rfl hl (by decide) rfl (fun ls hl => ?_)
      refine lv_iconst (v := 1) hx hb dL_oathUntil_13 (by decide) ?_
      exact kL_ret C hP hD hS ⟨by rw [h2]; rfl, _, fun z => absurd z hc, rfl⟩ ⟨Nat.le_of_ble_eq_true rfl, Nat.le_of_ble_eq_true rfl⟩ dL_oathUntil_14
    · rw [h4] at hE2
      subst hE2
      refine kx_catch2 (E := "java/util/NoSuchElementException") (F := "java/lang/IndexOutOfBoundsException") C htab (by decide) kw746 hN.2.1 rfl (by decide) kw898 (List.mem_of_getElem? (i := 87) rfl) hce hcv hcl ?_
      refine lv_astore_n (lv' := [(3, .ref qE), (0, .ref oF), (1, .int p0), (2, .ref oL)]) hx hb dL_oathUntil_15 rfl hl (by decide) rfl (fun ls hl => ?_)
      refine lv_iconst (v := 2) hx hb dL_oathUntil_16 (by decide) ?_
      exact kL_ret C hP hD hS ⟨by rw [h4]; rfl, _, fun z => absurd z hc, rfl⟩ ⟨Nat.le_of_ble_eq_true rfl, Nat.le_of_ble_eq_true rfl⟩ dL_oathUntil_17
  obtain ⟨hc, hr, hu⟩ := hp
  subst hu
  have hP : kp g [X4W g oF (kFr oC oS oH oR oT oB) vF, X0W g oC rC vC aC, OLW g oL fL] H := hP.pick [1, 2, 0] rfl
  have hD : kd A [X4W g oF (kFr oC oS oH oR oT oB) vF, X0W g oC rC vC aC, OLW g oL fL] := hD.pick [1, 2, 0] rfl rfl
  subst hr
  refine lv_i2l hx hb dL_oathUntil_7 rfl ?_
  refine kg_last C hP hD hS (i := 2) rfl rfl dL_oathUntil_8 (fun H locs hP hD hS => ?_)
  have hP : kp g [X4W g oF (kFr oC oS oH oR oT oB) vF, X0W g oC rC vC aC, OLW g oL (vp_updL fL 0 (((X4_oathUntil_f vF vC aC p0).2).toInt64))] H := hP
  have hD : kd A [X4W g oF (kFr oC oS oH oR oT oB) vF, X0W g oC rC vC aC, OLW g oL (vp_updL fL 0 (((X4_oathUntil_f vF vC aC p0).2).toInt64))] := hD
  refine lv_goto (tgt := 18) hx hb dL_oathUntil_9 (by decide) ?_
  refine lv_iconst (v := 0) hx hb dL_oathUntil_18 (by decide) ?_
  exact kL_ret C hP hD hS ⟨by rw [hc]; rfl, _, fun _ => k_updL0 _ _, rfl⟩ ⟨Nat.le_of_ble_eq_true rfl, Nat.le_of_ble_eq_true rfl⟩ dL_oathUntil_19
