theorem kr_0 {R : Nat → Int32} (h : ¬ R 0 = 0) : kA2 3 (X4_reason_f kF0 R kA0 0) = R 0 := by
  unfold X4_reason_f
  rw [if_neg (by decide), if_pos (by decide), if_neg h]
  rfl
theorem kr_1 {R : Nat → Int32} (h : ¬ R 0 = 0) : kA2 3 (X4_reason_f kF0 R kA0 1) = R 1 := by
  unfold X4_reason_f
  rw [if_neg (by decide), if_pos (by decide), if_neg h]
  rfl
theorem kr_2 {R : Nat → Int32} (h : ¬ R 0 = 0) : kA2 3 (X4_reason_f kF0 R kA0 2) = R 2 := by
  unfold X4_reason_f
  rw [if_neg (by decide), if_pos (by decide), if_neg h]
  rfl
theorem pnL_reason : yL_reason.cls ≠ "java/lang/invoke/MethodHandle" ∧ yL_reason.cls ≠ "java/lang/invoke/VarHandle" ∧ (parseMethodDescriptor yL_reason.desc).map (fun d => d.parameters.length) = some 2 := by decide +kernel
theorem cs_L_reason : kCst yL_reason (Cond.codeWith yL_reason cL_reason 3 (some .int) [(0, 5, 6, 60), (0, 5, 11, 86)]) := ⟨k_w 5 210 rfl rfl, k_w 2 0 rfl rfl, k_w 5 211 rfl rfl⟩
theorem kw997 : Cond.methodLink RL 158 yL_reason ∈ kW := k_w 5 209 rfl rfl
abbrev wL_is : List Cond := Cond.code yL_is cL_is 4 (some .boolean) :: kW
set_option maxHeartbeats 8000000 in
set_option maxRecDepth 100000 in
theorem L_is_c (l : Launch) (hfl : l.stackTraces = false) (g : kG) (oF : Nat) (F : Nat → Int32) (C S : kK) (h : List kK) (R : Nat → Int32) (T : kK) (ln : kTx) (cs : List va_W) (hO : kOb g oF F C S h R T ln cs) (p1 p2 p3 : Int32) (h0 : ¬ R 0 = 0) (e1 : R 0 = p1) (e2 : R 1 = p2) (e3 : R 2 = p3) : kL kX0 l yL_is wL_is 8 125 3 18 g [.ref oF, .int p1, .int p2, .int p3] cs (fun x u => x = 1 ∧ kOb g oF F C S h R T ln u) := by
  refine kLg_ofC (cc := cL_is) (nL := 4) (ret := some .boolean) (lv := [(0, .ref oF), (1, .int p1), (2, .int p2), (3, .int p3)]) (by decide) rfl (Nat.le_of_ble_eq_true rfl) rfl ?_
  intro p e s m args below meth c ls A hN hX K hP hD hE hA hS hl
  have K : kC p c cL_is s m args meth RL g 4 (some .boolean) := K
  have hx := K.1.1
  have hb := K.1.2.1
  have hts := K.1.2.2.2.2
  refine lv_aload_n hx hb dL_is_0 rfl (lv_at hl 0 rfl) ?_
  refine lv_iconst (v := 0) hx hb dL_is_1 (by decide) ?_
  refine kL_SW (As := [.ref oF, .int 0]) (rest := []) (wr := []) K kX0_s (L_reason_c l hfl g oF F C S h R T ln _ hO 0) hN kX0_fr (vx_cwSW 2 hts (k_gS kw997 cs_L_reason) rfl rfl rfl pnL_reason ⟨Nat.le_of_ble_eq_true rfl, Nat.le_of_ble_eq_true rfl⟩) hE hS hA hP hD rfl hl.1 rfl rfl dL_is_2 ⟨Nat.le_of_ble_eq_true rfl, Nat.le_of_ble_eq_true rfl⟩ (fun r u H locs hp hP hD hS => ?_)
  have hP : kp g u H := hP
  have hD : kd A u := hD
  obtain ⟨hr, hO⟩ := hp
  subst hr
  refine k_top (R 0) (kr_0 h0) ?_
  refine lv_iload_n hx hb dL_is_5 rfl (lv_at hl 1 rfl) ?_
  refine lv_icmp_ne (tgt := 31) hx hb dL_is_6 (by decide) (fun z => absurd z (fun y => y e1)) (fun z => ?_)
  refine lv_aload_n hx hb dL_is_9 rfl (lv_at hl 0 rfl) ?_
  refine lv_iconst (v := 1) hx hb dL_is_10 (by decide) ?_
  refine kL_SW (As := [.ref oF, .int 1]) (rest := []) (wr := []) K kX0_s (L_reason_c l hfl g oF F C S h R T ln _ hO 1) hN kX0_fr (vx_cwSW 2 hts (k_gS kw997 cs_L_reason) rfl rfl rfl pnL_reason ⟨Nat.le_of_ble_eq_true rfl, Nat.le_of_ble_eq_true rfl⟩) hE hS hA hP hD rfl hl.1 rfl rfl dL_is_11 ⟨Nat.le_of_ble_eq_true rfl, Nat.le_of_ble_eq_true rfl⟩ (fun r u H locs hp hP hD hS => ?_)
  have hP : kp g u H := hP
  have hD : kd A u := hD
  obtain ⟨hr, hO⟩ := hp
  subst hr
  refine k_top (R 1) (kr_1 h0) ?_
  refine lv_iload_n hx hb dL_is_14 rfl (lv_at hl 2 rfl) ?_
  refine lv_icmp_ne (tgt := 31) hx hb dL_is_15 (by decide) (fun z => absurd z (fun y => y e2)) (fun z => ?_)
  refine lv_aload_n hx hb dL_is_18 rfl (lv_at hl 0 rfl) ?_
  refine lv_iconst (v := 2) hx hb dL_is_19 (by decide) ?_
  refine kL_SW (As := [.ref oF, .int 2]) (rest := []) (wr := []) K kX0_s (L_reason_c l hfl g oF F C S h R T ln _ hO 2) hN kX0_fr (vx_cwSW 2 hts (k_gS kw997 cs_L_reason) rfl rfl rfl pnL_reason ⟨Nat.le_of_ble_eq_true rfl, Nat.le_of_ble_eq_true rfl⟩) hE hS hA hP hD rfl hl.1 rfl rfl dL_is_20 ⟨Nat.le_of_ble_eq_true rfl, Nat.le_of_ble_eq_true rfl⟩ (fun r u H locs hp hP hD hS => ?_)
  have hP : kp g u H := hP
  have hD : kd A u := hD
  obtain ⟨hr, hO⟩ := hp
  subst hr
  refine k_top (R 2) (kr_2 h0) ?_
  refine lv_iload_n hx hb dL_is_23 rfl (lv_at hl 3 rfl) ?_
  refine lv_icmp_ne (tgt := 31) hx hb dL_is_24 (by decide) (fun z => absurd z (fun y => y e3)) (fun z => ?_)
  refine lv_iconst (v := 1) hx hb dL_is_27 (by decide) ?_
  refine lv_goto (tgt := 32) hx hb dL_is_28 (by decide) ?_
  exact kL_zret (b := true) K hP hD hS ⟨rfl, hO⟩ ⟨Nat.le_of_ble_eq_true rfl, Nat.le_of_ble_eq_true rfl⟩ dL_is_32
