/-! the two texts, through reads -/
theorem rq_q {g : kG} {oF : Nat} {F : Nat → Int32} {C S : kK} {h : List kK} {R : Nat → Int32} {T : kK} {ln : kTx} {x : Int32} {u : List va_W} (hT : T.1 1 = 0) (hp : kCmd g oF F C S h R (kApp T [113] 1) ln x u) : x = -1001 ∧ ∃ (F1 : Nat → Int32) (T1 : kK), F1 2 = F 2 ∧ F1 6 = 0 ∧ T1.1 1 = 0 ∧ kOb g oF F1 C S h R T1 ln u := by
  rw [kTq_app hT] at hp
  obtain ⟨T', hT', ⟨-, hx, hO⟩ | ⟨hne, -⟩ | ⟨n, h1, h60, hn, -⟩⟩ := hp
  · exact ⟨hx, upd F 6 ((kCt (kTq T)).2.1 2), T', rfl, kTq_2 T, hT', hO⟩
  · exact absurd (kTq_1 T) hne
  · rw [kTq_1 T] at hn
    exact absurd hn.symm ((by decide +kernel : ∀ k, k < 61 → nI k ≠ -1) n (by omega))
set_option maxRecDepth 100000 in
theorem rq_n {g : kG} {oF : Nat} {F : Nat → Int32} {C S : kK} {h : List kK} {R : Nat → Int32} {T : kK} {ln : kTx} {x : Int32} {u : List va_W} (hT : T.1 1 = 0) (hp : kCmd g oF F C S h R (kApp T [110, 49, 59, 110, 49, 59, 110, 48] 8) ln x u) : x = -1002 ∧ ∃ (F1 : Nat → Int32) (T1 : kK) (R1 : Nat → Int32), F1 2 = F 2 ∧ F1 6 = -1 ∧ T1.1 1 = 0 ∧ (R1 0 = 1 ∧ R1 1 = 0 ∧ R1 2 = 2) ∧ kOb g oF F1 C S h R1 T1 ln u := by
  have hp : kCmd g oF F C S h R (kTn T) ln x u := by unfold kTn; exact hp
  obtain ⟨k1, k2⟩ := kTn_ok hT
  have g1 := (tn_ct k1 k2).1
  have g2 := tn_run (C := C) (R := R) k1 k2
  generalize kTn T = T8 at hp g1 g2
  obtain ⟨T', hT', ⟨hc, -⟩ | ⟨-, -, hx, hO⟩ | ⟨n, -, -, -, ht, -⟩⟩ := hp
  · rw [show (kCt T8).1 = -1 from hc] at g1
    cases g1
  · exact ⟨hx, upd F 6 (-1), T', (kRunC C R T8).2.1, rfl, rfl, hT', g2.2, hO⟩
  · rw [show (kRunC C R T8).1 = true from ht] at g2
    cases g2.1
theorem lg_self (x : Int64) : lg_cmp x x = 0 := by
  unfold lg_cmp
  rw [if_neg Int64.lt_irrefl, if_pos rfl]
theorem pnX4_faultPosition : yX4_faultPosition.cls ≠ "java/lang/invoke/MethodHandle" ∧ yX4_faultPosition.cls ≠ "java/lang/invoke/VarHandle" ∧ (parseMethodDescriptor yX4_faultPosition.desc).map (fun d => d.parameters.length) = some 0 := by decide +kernel
theorem ca_X4_faultPosition : kCal yX4_faultPosition (Cond.code yX4_faultPosition cX4_faultPosition 1 (some .int)) := ⟨k_w 3 19 rfl rfl, k_w 3 20 rfl rfl, k_w 2 1 rfl rfl, k_w 3 21 rfl rfl⟩
theorem pnL_asks : yL_asks.cls ≠ "java/lang/invoke/MethodHandle" ∧ yL_asks.cls ≠ "java/lang/invoke/VarHandle" ∧ (parseMethodDescriptor yL_asks.desc).map (fun d => d.parameters.length) = some 1 := by decide +kernel
theorem cs_L_asks : kCst yL_asks (Cond.code yL_asks cL_asks 6 (some .long)) := ⟨k_w 7 38 rfl rfl, k_w 2 0 rfl rfl, k_w 7 39 rfl rfl⟩
theorem pnL_is : yL_is.cls ≠ "java/lang/invoke/MethodHandle" ∧ yL_is.cls ≠ "java/lang/invoke/VarHandle" ∧ (parseMethodDescriptor yL_is.desc).map (fun d => d.parameters.length) = some 4 := by decide +kernel
theorem cs_L_is : kCst yL_is (Cond.code yL_is cL_is 4 (some .boolean)) := ⟨k_w 5 207 rfl rfl, k_w 2 0 rfl rfl, k_w 5 208 rfl rfl⟩
theorem kw326 : Cond.methodLink RL 288 yX4_faultPosition ∈ kW := k_w 3 18 rfl rfl
theorem kw994 : Cond.methodLink RL 282 yL_is ∈ kW := k_w 5 206 rfl rfl
theorem kw1305 : Cond.methodLink RL 278 yL_asks ∈ kW := k_w 7 37 rfl rfl
abbrev wL_refused : List Cond := Cond.code yL_refused cL_refused 6 (some .boolean) :: kW
set_option maxHeartbeats 8000000 in
set_option maxRecDepth 100000 in
theorem L_refused_c (l : Launch) (hfl : l.stackTraces = false) (g : kG) (oF : Nat) (F : Nat → Int32) (C S : kK) (h : List kK) (R : Nat → Int32) (T : kK) (ln : kTx) (cs : List va_W) (hO : kOb g oF F C S h R T ln cs) (D : Nat) (hC : kRg D C) (h4 : C.1 4 = 5) (h7 : C.1 7 = 5) (hT : T.1 1 = 0) : kL kX0 l yL_refused wL_refused 11 568 1400 15732 g [.ref oF] cs (fun x u => x = 1 ∧ ∃ (R1 : Nat → Int32) (T1 : kK) (F1 : Nat → Int32) (ln1 : kTx), F1 2 = F 2 ∧ T1.1 1 = 0 ∧ kOb g oF F1 C S h R1 T1 ln1 u) := by
  refine kLg_ofC (cc := cL_refused) (nL := 6) (ret := some .boolean) (lv := [(0, .ref oF)]) (by decide) rfl (Nat.le_of_ble_eq_true rfl) rfl ?_
  intro p e s m args below meth c ls A hN hX K hP hD hE hA hS hl
  have K : kC p c cL_refused s m args meth RL g 6 (some .boolean) := K
  have hx := K.1.1
  have hb := K.1.2.1
  have hts := K.1.2.2.2.2
  obtain ⟨m, hm, em⟩ := hC.1.2.2.1
  have hm : m < 4 := by omega
  refine lv_aload_n hx hb dL_refused_0 rfl (lv_at hl 0 rfl) ?_
  refine kLl_SC (As := [.ref oF]) (rest := []) (wr := []) K kX0_s (L_asks_c l hfl g oF F C S h R T ln _ hO ) hN kX0_fr (va_cwS 1 hts (k_gS kw1305 cs_L_asks) rfl rfl rfl pnL_asks ⟨Nat.le_of_ble_eq_true rfl, Nat.le_of_ble_eq_true rfl⟩) hE hS hA hP hD rfl hl.1 rfl rfl dL_refused_1 ⟨Nat.le_of_ble_eq_true rfl, Nat.le_of_ble_eq_true rfl⟩ (fun r u H locs hp hP hD hS => ?_)
  have hP : kp g u H := hP
  have hD : kd A u := hD
  obtain ⟨hr, ln, hO⟩ := hp
  subst hr
  refine lv_lstore_n (lv' := [(1, .long (kAsk C)), (0, .ref oF)]) hx hb dL_refused_4 rfl hl (by decide) rfl (fun ls hl => ?_)
  refine lv_aload_n hx hb dL_refused_5 rfl (lv_at hl 1 rfl) ?_
  refine lv_iconst (v := 4) hx hb dL_refused_6 (by decide) ?_
  refine kL_SW (As := [.ref oF, .int 4]) (rest := []) (wr := []) K kX0_s (L_account_c l hfl g oF F C S h R T ln _ hO 4) hN kX0_fr (vx_cwSW 2 hts (k_gS kw961 cs_L_account) rfl rfl rfl pnL_account ⟨Nat.le_of_ble_eq_true rfl, Nat.le_of_ble_eq_true rfl⟩) hE hS hA hP hD rfl hl.1 rfl rfl dL_refused_7 ⟨Nat.le_of_ble_eq_true rfl, Nat.le_of_ble_eq_true rfl⟩ (fun r u H locs hp hP hD hS => ?_)
  have hP : kp g u H := hP
  have hD : kd A u := hD
  obtain ⟨hr, hO⟩ := hp
  have hr : r = 5 := (hr.trans kAcc_4).trans h4
  subst hr
  refine lv_istore_n (lv' := [(3, .int 5), (1, .long (kAsk C)), (0, .ref oF)]) hx hb dL_refused_10 rfl hl (by decide) rfl (fun ls hl => ?_)
  refine lv_aload_n hx hb dL_refused_11 rfl (lv_at hl 2 rfl) ?_
  refine lv_iconst (v := 5) hx hb dL_refused_12 (by decide) ?_
  refine kL_SW (As := [.ref oF, .int 5]) (rest := []) (wr := []) K kX0_s (L_account_c l hfl g oF F C S h R T ln _ hO 5) hN kX0_fr (vx_cwSW 2 hts (k_gS kw961 cs_L_account) rfl rfl rfl pnL_account ⟨Nat.le_of_ble_eq_true rfl, Nat.le_of_ble_eq_true rfl⟩) hE hS hA hP hD rfl hl.1 rfl rfl dL_refused_13 ⟨Nat.le_of_ble_eq_true rfl, Nat.le_of_ble_eq_true rfl⟩ (fun r u H locs hp hP hD hS => ?_)
  have hP : kp g u H := hP
  have hD : kd A u := hD
  obtain ⟨hr, hO⟩ := hp
  have hr : r = 5 := (hr.trans kAcc_5).trans h7
  subst hr
  refine lv_istore (lv' := [(4, .int 5), (3, .int 5), (1, .long (kAsk C)), (0, .ref oF)]) hx hb dL_refused_16 hl (by decide) rfl (fun ls hl => ?_)
  refine lv_aload_n hx hb dL_refused_18 rfl (lv_at hl 3 rfl) ?_
  refine lv_iconst (v := 5) hx hb dL_refused_19 (by decide) ?_
  refine lv_iconst (v := 0) hx hb dL_refused_20 (by decide) ?_
  refine kL_SW (As := [.ref oF, .int 5, .int 0]) (rest := []) (wr := []) K kX0_s (L_jar_c l hfl g oF F C S h R T ln _ hO 5 0) hN kX0_fr (vx_cwSW 3 hts (k_gS kw347 cs_L_jar) rfl rfl rfl pnL_jar ⟨Nat.le_of_ble_eq_true rfl, Nat.le_of_ble_eq_true rfl⟩) hE hS hA hP hD rfl hl.1 rfl rfl dL_refused_21 ⟨Nat.le_of_ble_eq_true rfl, Nat.le_of_ble_eq_true rfl⟩ (fun r u H locs hp hP hD hS => ?_)
  have hP : kp g u H := hP
  have hD : kd A u := hD
  obtain ⟨hr, R, hR, hO⟩ := mk_not2 rf_j1 hp
  subst hr
  refine lv_sipush (v := (-1001)) hx hb dL_refused_24 (by decide) ?_
  refine lv_icmp_ne (tgt := 423) hx hb dL_refused_27 (by decide) (fun z => absurd z (fun y => y rfl)) (fun z => ?_)
  refine lv_aload_n hx hb dL_refused_30 rfl (lv_at hl 3 rfl) ?_
  refine lv_iconst (v := 1) hx hb dL_refused_31 (by decide) ?_
  refine lv_iconst (v := 0) hx hb dL_refused_32 (by decide) ?_
  refine lv_iconst (v := 0) hx hb dL_refused_33 (by decide) ?_
  refine kL_SC (As := [.ref oF, .int 1, .int 0, .int 0]) (rest := []) (wr := []) K kX0_s (L_is_c l hfl g oF F C S h R T ln _ hO 1 0 0 (by rw [hR.1]; decide) hR.1 hR.2.1 hR.2.2) hN kX0_fr (va_cwS 4 hts (k_gS kw994 cs_L_is) rfl rfl rfl pnL_is ⟨Nat.le_of_ble_eq_true rfl, Nat.le_of_ble_eq_true rfl⟩) hE hS hA hP hD rfl hl.1 rfl rfl dL_refused_34 ⟨Nat.le_of_ble_eq_true rfl, Nat.le_of_ble_eq_true rfl⟩ (fun r u H locs hp hP hD hS => ?_)
  have hP : kp g u H := hP
  have hD : kd A u := hD
  obtain ⟨hr, hO⟩ := hp
  subst hr
  refine lv_if_eq (tgt := 423) hx hb dL_refused_37 (by decide) (fun z => absurd z (by decide)) (fun z => ?_)
  refine lv_aload_n hx hb dL_refused_40 rfl (lv_at hl 3 rfl) ?_
  refine lv_iconst (v := 0) hx hb dL_refused_41 (by decide) ?_
  refine lv_sipush (v := 901) hx hb dL_refused_42 (by decide) ?_
  refine kL_SW (As := [.ref oF, .int 0, .int 901]) (rest := []) (wr := []) K kX0_s (L_jar_c l hfl g oF F C S h R T ln _ hO 0 901) hN kX0_fr (vx_cwSW 3 hts (k_gS kw347 cs_L_jar) rfl rfl rfl pnL_jar ⟨Nat.le_of_ble_eq_true rfl, Nat.le_of_ble_eq_true rfl⟩) hE hS hA hP hD rfl hl.1 rfl rfl dL_refused_45 ⟨Nat.le_of_ble_eq_true rfl, Nat.le_of_ble_eq_true rfl⟩ (fun r u H locs hp hP hD hS => ?_)
  have hP : kp g u H := hP
  have hD : kd A u := hD
  obtain ⟨hr, R, hR, hO⟩ := mk_not2 rf_j2 hp
  subst hr
  refine lv_sipush (v := (-1001)) hx hb dL_refused_48 (by decide) ?_
  refine lv_icmp_ne (tgt := 423) hx hb dL_refused_51 (by decide) (fun z => absurd z (fun y => y rfl)) (fun z => ?_)
  refine lv_aload_n hx hb dL_refused_54 rfl (lv_at hl 3 rfl) ?_
  refine lv_iconst (v := 0) hx hb dL_refused_55 (by decide) ?_
  refine lv_iconst (v := (-1)) hx hb dL_refused_56 (by decide) ?_
  refine kL_SW (As := [.ref oF, .int 0, .int (-1)]) (rest := []) (wr := []) K kX0_s (L_jar_c l hfl g oF F C S h R T ln _ hO 0 (-1)) hN kX0_fr (vx_cwSW 3 hts (k_gS kw347 cs_L_jar) rfl rfl rfl pnL_jar ⟨Nat.le_of_ble_eq_true rfl, Nat.le_of_ble_eq_true rfl⟩) hE hS hA hP hD rfl hl.1 rfl rfl dL_refused_57 ⟨Nat.le_of_ble_eq_true rfl, Nat.le_of_ble_eq_true rfl⟩ (fun r u H locs hp hP hD hS => ?_)
  have hP : kp g u H := hP
  have hD : kd A u := hD
  obtain ⟨hr, R, hR, hO⟩ := mk_not2 rf_j3 hp
  subst hr
  refine lv_sipush (v := (-1001)) hx hb dL_refused_60 (by decide) ?_
  refine lv_icmp_ne (tgt := 423) hx hb dL_refused_63 (by decide) (fun z => absurd z (fun y => y rfl)) (fun z => ?_)
  refine lv_aload_n hx hb dL_refused_66 rfl (lv_at hl 3 rfl) ?_
  refine lv_iconst (v := 4) hx hb dL_refused_67 (by decide) ?_
  refine kL_SW (As := [.ref oF, .int 4]) (rest := []) (wr := []) K kX0_s (L_bag_c l hfl g oF F C S h R T ln _ hO 4) hN kX0_fr (vx_cwSW 2 hts (k_gS kw635 cs_L_bag) rfl rfl rfl pnL_bag ⟨Nat.le_of_ble_eq_true rfl, Nat.le_of_ble_eq_true rfl⟩) hE hS hA hP hD rfl hl.1 rfl rfl dL_refused_68 ⟨Nat.le_of_ble_eq_true rfl, Nat.le_of_ble_eq_true rfl⟩ (fun r u H locs hp hP hD hS => ?_)
  have hP : kp g u H := hP
  have hD : kd A u := hD
  obtain ⟨hr, R, hR, hO⟩ := mk_not2 rf_b1 hp
  subst hr
  refine lv_sipush (v := (-1001)) hx hb dL_refused_71 (by decide) ?_
  refine lv_icmp_ne (tgt := 423) hx hb dL_refused_74 (by decide) (fun z => absurd z (fun y => y rfl)) (fun z => ?_)
  refine lv_aload_n hx hb dL_refused_77 rfl (lv_at hl 3 rfl) ?_
  refine lv_bipush (v := 51) hx hb dL_refused_78 (by decide) ?_
  refine kL_SW (As := [.ref oF, .int 51]) (rest := []) (wr := []) K kX0_s (L_bag_c l hfl g oF F C S h R T ln _ hO 51) hN kX0_fr (vx_cwSW 2 hts (k_gS kw635 cs_L_bag) rfl rfl rfl pnL_bag ⟨Nat.le_of_ble_eq_true rfl, Nat.le_of_ble_eq_true rfl⟩) hE hS hA hP hD rfl hl.1 rfl rfl dL_refused_80 ⟨Nat.le_of_ble_eq_true rfl, Nat.le_of_ble_eq_true rfl⟩ (fun r u H locs hp hP hD hS => ?_)
  have hP : kp g u H := hP
  have hD : kd A u := hD
  obtain ⟨hr, R, hR, hO⟩ := mk_not2 rf_b2 hp
  subst hr
  refine lv_sipush (v := (-1001)) hx hb dL_refused_83 (by decide) ?_
  refine lv_icmp_ne (tgt := 423) hx hb dL_refused_86 (by decide) (fun z => absurd z (fun y => y rfl)) (fun z => ?_)
  refine lv_aload_n hx hb dL_refused_89 rfl (lv_at hl 3 rfl) ?_
  refine lv_iload hx hb dL_refused_90 (lv_at hl 0 rfl) ?_
  refine lv_iload_n hx hb dL_refused_92 rfl (lv_at hl 1 rfl) ?_
  refine lv_iconst (v := 0) hx hb dL_refused_93 (by decide) ?_
  refine kL_SW (As := [.ref oF, .int 5, .int 5, .int 0]) (rest := []) (wr := []) K kX0_s (L_fill_c l hfl g oF F C S h R T ln _ hO 5 5 0) hN kX0_fr (vx_cwSW 4 hts (k_gS kw642 cs_L_fill) rfl rfl rfl pnL_fill ⟨Nat.le_of_ble_eq_true rfl, Nat.le_of_ble_eq_true rfl⟩) hE hS hA hP hD rfl hl.1 rfl rfl dL_refused_94 ⟨Nat.le_of_ble_eq_true rfl, Nat.le_of_ble_eq_true rfl⟩ (fun r u H locs hp hP hD hS => ?_)
  have hP : kp g u H := hP
  have hD : kd A u := hD
  obtain ⟨hr, R, hR, hO⟩ := mk_not2 (rf_f1 h7) hp
  subst hr
  refine lv_sipush (v := (-1001)) hx hb dL_refused_97 (by decide) ?_
  refine lv_icmp_ne (tgt := 423) hx hb dL_refused_100 (by decide) (fun z => absurd z (fun y => y rfl)) (fun z => ?_)
  refine lv_aload_n hx hb dL_refused_103 rfl (lv_at hl 3 rfl) ?_
  refine lv_iconst (v := 3) hx hb dL_refused_104 (by decide) ?_
  refine lv_iload hx hb dL_refused_105 (lv_at hl 0 rfl) ?_
  refine lv_iconst (v := 0) hx hb dL_refused_107 (by decide) ?_
  refine kL_SC (As := [.ref oF, .int 3, .int 5, .int 0]) (rest := []) (wr := []) K kX0_s (L_is_c l hfl g oF F C S h R T ln _ hO 3 5 0 (by rw [hR.1]; decide) hR.1 hR.2.1 hR.2.2) hN kX0_fr (va_cwS 4 hts (k_gS kw994 cs_L_is) rfl rfl rfl pnL_is ⟨Nat.le_of_ble_eq_true rfl, Nat.le_of_ble_eq_true rfl⟩) hE hS hA hP hD rfl hl.1 rfl rfl dL_refused_108 ⟨Nat.le_of_ble_eq_true rfl, Nat.le_of_ble_eq_true rfl⟩ (fun r u H locs hp hP hD hS => ?_)
  have hP : kp g u H := hP
  have hD : kd A u := hD
  obtain ⟨hr, hO⟩ := hp
  subst hr
  refine lv_if_eq (tgt := 423) hx hb dL_refused_111 (by decide) (fun z => absurd z (by decide)) (fun z => ?_)
  refine lv_aload_n hx hb dL_refused_114 rfl (lv_at hl 3 rfl) ?_
  refine lv_iconst (v := 0) hx hb dL_refused_115 (by decide) ?_
  refine lv_iload_n hx hb dL_refused_116 rfl (lv_at hl 1 rfl) ?_
  refine lv_iconst (v := 0) hx hb dL_refused_117 (by decide) ?_
  refine kL_SW (As := [.ref oF, .int 0, .int 5, .int 0]) (rest := []) (wr := []) K kX0_s (L_fill_c l hfl g oF F C S h R T ln _ hO 0 5 0) hN kX0_fr (vx_cwSW 4 hts (k_gS kw642 cs_L_fill) rfl rfl rfl pnL_fill ⟨Nat.le_of_ble_eq_true rfl, Nat.le_of_ble_eq_true rfl⟩) hE hS hA hP hD rfl hl.1 rfl rfl dL_refused_118 ⟨Nat.le_of_ble_eq_true rfl, Nat.le_of_ble_eq_true rfl⟩ (fun r u H locs hp hP hD hS => ?_)
  have hP : kp g u H := hP
  have hD : kd A u := hD
  obtain ⟨hr, R, hR, hO⟩ := mk_not2 (rf_f2 h7 h4) hp
  subst hr
  refine lv_sipush (v := (-1001)) hx hb dL_refused_121 (by decide) ?_
  refine lv_icmp_ne (tgt := 423) hx hb dL_refused_124 (by decide) (fun z => absurd z (fun y => y rfl)) (fun z => ?_)
  refine lv_aload_n hx hb dL_refused_127 rfl (lv_at hl 3 rfl) ?_
  refine lv_iconst (v := 3) hx hb dL_refused_128 (by decide) ?_
  refine lv_iload_n hx hb dL_refused_129 rfl (lv_at hl 1 rfl) ?_
  refine lv_iconst (v := 0) hx hb dL_refused_130 (by decide) ?_
  refine kL_SC (As := [.ref oF, .int 3, .int 5, .int 0]) (rest := []) (wr := []) K kX0_s (L_is_c l hfl g oF F C S h R T ln _ hO 3 5 0 (by rw [hR.1]; decide) hR.1 hR.2.1 hR.2.2) hN kX0_fr (va_cwS 4 hts (k_gS kw994 cs_L_is) rfl rfl rfl pnL_is ⟨Nat.le_of_ble_eq_true rfl, Nat.le_of_ble_eq_true rfl⟩) hE hS hA hP hD rfl hl.1 rfl rfl dL_refused_131 ⟨Nat.le_of_ble_eq_true rfl, Nat.le_of_ble_eq_true rfl⟩ (fun r u H locs hp hP hD hS => ?_)
  have hP : kp g u H := hP
  have hD : kd A u := hD
  obtain ⟨hr, hO⟩ := hp
  subst hr
  refine lv_if_eq (tgt := 423) hx hb dL_refused_134 (by decide) (fun z => absurd z (by decide)) (fun z => ?_)
  refine lv_aload_n hx hb dL_refused_137 rfl (lv_at hl 3 rfl) ?_
  refine lv_iconst (v := 0) hx hb dL_refused_138 (by decide) ?_
  refine lv_iconst (v := 0) hx hb dL_refused_139 (by decide) ?_
  refine lv_iconst (v := 0) hx hb dL_refused_140 (by decide) ?_
  refine kL_SW (As := [.ref oF, .int 0, .int 0, .int 0]) (rest := []) (wr := []) K kX0_s (L_fill_c l hfl g oF F C S h R T ln _ hO 0 0 0) hN kX0_fr (vx_cwSW 4 hts (k_gS kw642 cs_L_fill) rfl rfl rfl pnL_fill ⟨Nat.le_of_ble_eq_true rfl, Nat.le_of_ble_eq_true rfl⟩) hE hS hA hP hD rfl hl.1 rfl rfl dL_refused_141 ⟨Nat.le_of_ble_eq_true rfl, Nat.le_of_ble_eq_true rfl⟩ (fun r u H locs hp hP hD hS => ?_)
  have hP : kp g u H := hP
  have hD : kd A u := hD
  obtain ⟨hr, R, hR, hO⟩ := mk_not2 (rf_f3 h7 h4) hp
  subst hr
  refine lv_sipush (v := (-1001)) hx hb dL_refused_144 (by decide) ?_
  refine lv_icmp_ne (tgt := 423) hx hb dL_refused_147 (by decide) (fun z => absurd z (fun y => y rfl)) (fun z => ?_)
  refine lv_aload_n hx hb dL_refused_150 rfl (lv_at hl 3 rfl) ?_
  refine lv_iconst (v := 1) hx hb dL_refused_151 (by decide) ?_
  refine lv_iconst (v := 0) hx hb dL_refused_152 (by decide) ?_
  refine lv_iconst (v := 0) hx hb dL_refused_153 (by decide) ?_
  refine kL_SC (As := [.ref oF, .int 1, .int 0, .int 0]) (rest := []) (wr := []) K kX0_s (L_is_c l hfl g oF F C S h R T ln _ hO 1 0 0 (by rw [hR.1]; decide) hR.1 hR.2.1 hR.2.2) hN kX0_fr (va_cwS 4 hts (k_gS kw994 cs_L_is) rfl rfl rfl pnL_is ⟨Nat.le_of_ble_eq_true rfl, Nat.le_of_ble_eq_true rfl⟩) hE hS hA hP hD rfl hl.1 rfl rfl dL_refused_154 ⟨Nat.le_of_ble_eq_true rfl, Nat.le_of_ble_eq_true rfl⟩ (fun r u H locs hp hP hD hS => ?_)
  have hP : kp g u H := hP
  have hD : kd A u := hD
  obtain ⟨hr, hO⟩ := hp
  subst hr
  refine lv_if_eq (tgt := 423) hx hb dL_refused_157 (by decide) (fun z => absurd z (by decide)) (fun z => ?_)
  refine lv_aload_n hx hb dL_refused_160 rfl (lv_at hl 3 rfl) ?_
  refine lv_iconst (v := 0) hx hb dL_refused_161 (by decide) ?_
  refine lv_iconst (v := 0) hx hb dL_refused_162 (by decide) ?_
  refine lv_sipush (v := 401) hx hb dL_refused_163 (by decide) ?_
  refine kL_SW (As := [.ref oF, .int 0, .int 0, .int 401]) (rest := []) (wr := []) K kX0_s (L_fill_c l hfl g oF F C S h R T ln _ hO 0 0 401) hN kX0_fr (vx_cwSW 4 hts (k_gS kw642 cs_L_fill) rfl rfl rfl pnL_fill ⟨Nat.le_of_ble_eq_true rfl, Nat.le_of_ble_eq_true rfl⟩) hE hS hA hP hD rfl hl.1 rfl rfl dL_refused_166 ⟨Nat.le_of_ble_eq_true rfl, Nat.le_of_ble_eq_true rfl⟩ (fun r u H locs hp hP hD hS => ?_)
  have hP : kp g u H := hP
  have hD : kd A u := hD
  obtain ⟨hr, R, hR, hO⟩ := mk_not2 (rf_f4 h7 h4) hp
  subst hr
  refine lv_sipush (v := (-1001)) hx hb dL_refused_169 (by decide) ?_
  refine lv_icmp_ne (tgt := 423) hx hb dL_refused_172 (by decide) (fun z => absurd z (fun y => y rfl)) (fun z => ?_)
  refine lv_aload_n hx hb dL_refused_175 rfl (lv_at hl 3 rfl) ?_
  refine lv_iconst (v := (-1)) hx hb dL_refused_176 (by decide) ?_
  refine lv_iconst (v := 0) hx hb dL_refused_177 (by decide) ?_
  refine kL_SW (As := [.ref oF, .int (-1), .int 0]) (rest := []) (wr := []) K kX0_s (L_empty_c l hfl g oF F C S h R T ln _ hO (-1) 0) hN kX0_fr (vx_cwSW 3 hts (k_gS kw649 cs_L_empty) rfl rfl rfl pnL_empty ⟨Nat.le_of_ble_eq_true rfl, Nat.le_of_ble_eq_true rfl⟩) hE hS hA hP hD rfl hl.1 rfl rfl dL_refused_178 ⟨Nat.le_of_ble_eq_true rfl, Nat.le_of_ble_eq_true rfl⟩ (fun r u H locs hp hP hD hS => ?_)
  have hP : kp g u H := hP
  have hD : kd A u := hD
  obtain ⟨hr, R, hR, hO⟩ := mk_not2 rf_e1 hp
  subst hr
  refine lv_sipush (v := (-1001)) hx hb dL_refused_181 (by decide) ?_
  refine lv_icmp_ne (tgt := 423) hx hb dL_refused_184 (by decide) (fun z => absurd z (fun y => y rfl)) (fun z => ?_)
  refine lv_aload_n hx hb dL_refused_187 rfl (lv_at hl 3 rfl) ?_
  refine lv_iconst (v := 3) hx hb dL_refused_188 (by decide) ?_
  refine lv_iconst (v := (-1)) hx hb dL_refused_189 (by decide) ?_
  refine lv_iconst (v := 0) hx hb dL_refused_190 (by decide) ?_
  refine kL_SC (As := [.ref oF, .int 3, .int (-1), .int 0]) (rest := []) (wr := []) K kX0_s (L_is_c l hfl g oF F C S h R T ln _ hO 3 (-1) 0 (by rw [hR.1]; decide) hR.1 hR.2.1 hR.2.2) hN kX0_fr (va_cwS 4 hts (k_gS kw994 cs_L_is) rfl rfl rfl pnL_is ⟨Nat.le_of_ble_eq_true rfl, Nat.le_of_ble_eq_true rfl⟩) hE hS hA hP hD rfl hl.1 rfl rfl dL_refused_191 ⟨Nat.le_of_ble_eq_true rfl, Nat.le_of_ble_eq_true rfl⟩ (fun r u H locs hp hP hD hS => ?_)
  have hP : kp g u H := hP
  have hD : kd A u := hD
  obtain ⟨hr, hO⟩ := hp
  subst hr
  refine lv_if_eq (tgt := 423) hx hb dL_refused_194 (by decide) (fun z => absurd z (by decide)) (fun z => ?_)
  refine lv_aload_n hx hb dL_refused_197 rfl (lv_at hl 3 rfl) ?_
  refine lv_iconst (v := 0) hx hb dL_refused_198 (by decide) ?_
  refine lv_bipush (v := (-2)) hx hb dL_refused_199 (by decide) ?_
  refine kL_SW (As := [.ref oF, .int 0, .int (-2)]) (rest := []) (wr := []) K kX0_s (L_empty_c l hfl g oF F C S h R T ln _ hO 0 (-2)) hN kX0_fr (vx_cwSW 3 hts (k_gS kw649 cs_L_empty) rfl rfl rfl pnL_empty ⟨Nat.le_of_ble_eq_true rfl, Nat.le_of_ble_eq_true rfl⟩) hE hS hA hP hD rfl hl.1 rfl rfl dL_refused_201 ⟨Nat.le_of_ble_eq_true rfl, Nat.le_of_ble_eq_true rfl⟩ (fun r u H locs hp hP hD hS => ?_)
  have hP : kp g u H := hP
  have hD : kd A u := hD
  obtain ⟨hr, R, hR, hO⟩ := mk_not2 (rf_e2 h7) hp
  subst hr
  refine lv_sipush (v := (-1001)) hx hb dL_refused_204 (by decide) ?_
  refine lv_icmp_ne (tgt := 423) hx hb dL_refused_207 (by decide) (fun z => absurd z (fun y => y rfl)) (fun z => ?_)
  refine lv_aload_n hx hb dL_refused_210 rfl (lv_at hl 3 rfl) ?_
  refine lv_iconst (v := 3) hx hb dL_refused_211 (by decide) ?_
  refine lv_bipush (v := (-2)) hx hb dL_refused_212 (by decide) ?_
  refine lv_iconst (v := 0) hx hb dL_refused_214 (by decide) ?_
  refine kL_SC (As := [.ref oF, .int 3, .int (-2), .int 0]) (rest := []) (wr := []) K kX0_s (L_is_c l hfl g oF F C S h R T ln _ hO 3 (-2) 0 (by rw [hR.1]; decide) hR.1 hR.2.1 hR.2.2) hN kX0_fr (va_cwS 4 hts (k_gS kw994 cs_L_is) rfl rfl rfl pnL_is ⟨Nat.le_of_ble_eq_true rfl, Nat.le_of_ble_eq_true rfl⟩) hE hS hA hP hD rfl hl.1 rfl rfl dL_refused_215 ⟨Nat.le_of_ble_eq_true rfl, Nat.le_of_ble_eq_true rfl⟩ (fun r u H locs hp hP hD hS => ?_)
  have hP : kp g u H := hP
  have hD : kd A u := hD
  obtain ⟨hr, hO⟩ := hp
  subst hr
  refine lv_if_eq (tgt := 423) hx hb dL_refused_218 (by decide) (fun z => absurd z (by decide)) (fun z => ?_)
  refine lv_aload_n hx hb dL_refused_221 rfl (lv_at hl 3 rfl) ?_
  refine lv_iload hx hb dL_refused_222 (lv_at hl 0 rfl) ?_
  refine kL_SW (As := [.ref oF, .int 5]) (rest := []) (wr := []) K kX0_s (L_beat_c l hfl g oF F C S h R T ln _ hO 5) hN kX0_fr (vx_cwSW 2 hts (k_gS kw1442 cs_L_beat) rfl rfl rfl pnL_beat ⟨Nat.le_of_ble_eq_true rfl, Nat.le_of_ble_eq_true rfl⟩) hE hS hA hP hD rfl hl.1 rfl rfl dL_refused_224 ⟨Nat.le_of_ble_eq_true rfl, Nat.le_of_ble_eq_true rfl⟩ (fun r u H locs hp hP hD hS => ?_)
  have hP : kp g u H := hP
  have hD : kd A u := hD
  obtain ⟨hr, R, hR, hO⟩ := mk_not2 (rf_be h7) hp
  subst hr
  refine lv_sipush (v := (-1001)) hx hb dL_refused_227 (by decide) ?_
  refine lv_icmp_ne (tgt := 423) hx hb dL_refused_230 (by decide) (fun z => absurd z (fun y => y rfl)) (fun z => ?_)
  refine lv_aload_n hx hb dL_refused_233 rfl (lv_at hl 3 rfl) ?_
  refine lv_bipush (v := 31) hx hb dL_refused_234 (by decide) ?_
  refine kL_SW (As := [.ref oF, .int 31]) (rest := []) (wr := []) K kX0_s (L_thumb_c l hfl g oF F C S h R T ln _ hO 31) hN kX0_fr (vx_cwSW 2 hts (k_gS kw656 cs_L_thumb) rfl rfl rfl pnL_thumb ⟨Nat.le_of_ble_eq_true rfl, Nat.le_of_ble_eq_true rfl⟩) hE hS hA hP hD rfl hl.1 rfl rfl dL_refused_236 ⟨Nat.le_of_ble_eq_true rfl, Nat.le_of_ble_eq_true rfl⟩ (fun r u H locs hp hP hD hS => ?_)
  have hP : kp g u H := hP
  have hD : kd A u := hD
  obtain ⟨hr, R, hR, hO⟩ := mk_not2 rf_t1 hp
  subst hr
  refine lv_sipush (v := (-1001)) hx hb dL_refused_239 (by decide) ?_
  refine lv_icmp_ne (tgt := 423) hx hb dL_refused_242 (by decide) (fun z => absurd z (fun y => y rfl)) (fun z => ?_)
  refine lv_aload_n hx hb dL_refused_245 rfl (lv_at hl 3 rfl) ?_
  refine lv_iconst (v := 1) hx hb dL_refused_246 (by decide) ?_
  refine lv_iconst (v := 0) hx hb dL_refused_247 (by decide) ?_
  refine lv_iconst (v := 0) hx hb dL_refused_248 (by decide) ?_
  refine kL_SC (As := [.ref oF, .int 1, .int 0, .int 0]) (rest := []) (wr := []) K kX0_s (L_is_c l hfl g oF F C S h R T ln _ hO 1 0 0 (by rw [hR.1]; decide) hR.1 hR.2.1 hR.2.2) hN kX0_fr (va_cwS 4 hts (k_gS kw994 cs_L_is) rfl rfl rfl pnL_is ⟨Nat.le_of_ble_eq_true rfl, Nat.le_of_ble_eq_true rfl⟩) hE hS hA hP hD rfl hl.1 rfl rfl dL_refused_249 ⟨Nat.le_of_ble_eq_true rfl, Nat.le_of_ble_eq_true rfl⟩ (fun r u H locs hp hP hD hS => ?_)
  have hP : kp g u H := hP
  have hD : kd A u := hD
  obtain ⟨hr, hO⟩ := hp
  subst hr
  refine lv_if_eq (tgt := 423) hx hb dL_refused_252 (by decide) (fun z => absurd z (by decide)) (fun z => ?_)
  refine lv_aload_n hx hb dL_refused_255 rfl (lv_at hl 3 rfl) ?_
  refine lv_iconst (v := (-1)) hx hb dL_refused_256 (by decide) ?_
  refine kL_SW (As := [.ref oF, .int (-1)]) (rest := []) (wr := []) K kX0_s (L_thumb_c l hfl g oF F C S h R T ln _ hO (-1)) hN kX0_fr (vx_cwSW 2 hts (k_gS kw656 cs_L_thumb) rfl rfl rfl pnL_thumb ⟨Nat.le_of_ble_eq_true rfl, Nat.le_of_ble_eq_true rfl⟩) hE hS hA hP hD rfl hl.1 rfl rfl dL_refused_257 ⟨Nat.le_of_ble_eq_true rfl, Nat.le_of_ble_eq_true rfl⟩ (fun r u H locs hp hP hD hS => ?_)
  have hP : kp g u H := hP
  have hD : kd A u := hD
  obtain ⟨hr, R, hR, hO⟩ := mk_not2 rf_t2 hp
  subst hr
  refine lv_sipush (v := (-1001)) hx hb dL_refused_260 (by decide) ?_
  refine lv_icmp_ne (tgt := 423) hx hb dL_refused_263 (by decide) (fun z => absurd z (fun y => y rfl)) (fun z => ?_)
  refine lv_aload_n hx hb dL_refused_266 rfl (lv_at hl 3 rfl) ?_
  refine lv_iload hx hb dL_refused_267 (lv_at hl 0 rfl) ?_
  refine kL_SW (As := [.ref oF, .int 5]) (rest := []) (wr := []) K kX0_s (L_weigh_c l hfl g oF F C S h R T ln _ hO 5) hN kX0_fr (vx_cwSW 2 hts (k_gS kw663 cs_L_weigh) rfl rfl rfl pnL_weigh ⟨Nat.le_of_ble_eq_true rfl, Nat.le_of_ble_eq_true rfl⟩) hE hS hA hP hD rfl hl.1 rfl rfl dL_refused_269 ⟨Nat.le_of_ble_eq_true rfl, Nat.le_of_ble_eq_true rfl⟩ (fun r u H locs hp hP hD hS => ?_)
  have hP : kp g u H := hP
  have hD : kd A u := hD
  obtain ⟨hr, R, hR, hO⟩ := mk_not2 (rf_we h7) hp
  subst hr
  refine lv_sipush (v := (-1001)) hx hb dL_refused_272 (by decide) ?_
  refine lv_icmp_ne (tgt := 423) hx hb dL_refused_275 (by decide) (fun z => absurd z (fun y => y rfl)) (fun z => ?_)
  refine lv_aload_n hx hb dL_refused_278 rfl (lv_at hl 3 rfl) ?_
  refine lv_iconst (v := 3) hx hb dL_refused_279 (by decide) ?_
  refine lv_iload hx hb dL_refused_280 (lv_at hl 0 rfl) ?_
  refine lv_iconst (v := 0) hx hb dL_refused_282 (by decide) ?_
  refine kL_SC (As := [.ref oF, .int 3, .int 5, .int 0]) (rest := []) (wr := []) K kX0_s (L_is_c l hfl g oF F C S h R T ln _ hO 3 5 0 (by rw [hR.1]; decide) hR.1 hR.2.1 hR.2.2) hN kX0_fr (va_cwS 4 hts (k_gS kw994 cs_L_is) rfl rfl rfl pnL_is ⟨Nat.le_of_ble_eq_true rfl, Nat.le_of_ble_eq_true rfl⟩) hE hS hA hP hD rfl hl.1 rfl rfl dL_refused_283 ⟨Nat.le_of_ble_eq_true rfl, Nat.le_of_ble_eq_true rfl⟩ (fun r u H locs hp hP hD hS => ?_)
  have hP : kp g u H := hP
  have hD : kd A u := hD
  obtain ⟨hr, hO⟩ := hp
  subst hr
  refine lv_if_eq (tgt := 423) hx hb dL_refused_286 (by decide) (fun z => absurd z (by decide)) (fun z => ?_)
  refine lv_aload_n hx hb dL_refused_289 rfl (lv_at hl 3 rfl) ?_
  refine lv_iload hx hb dL_refused_290 (lv_at hl 0 rfl) ?_
  refine kL_SW (As := [.ref oF, .int 5]) (rest := []) (wr := []) K kX0_s (L_sell_c l hfl g oF F C S h R T ln _ hO 5) hN kX0_fr (vx_cwSW 2 hts (k_gS kw670 cs_L_sell) rfl rfl rfl pnL_sell ⟨Nat.le_of_ble_eq_true rfl, Nat.le_of_ble_eq_true rfl⟩) hE hS hA hP hD rfl hl.1 rfl rfl dL_refused_292 ⟨Nat.le_of_ble_eq_true rfl, Nat.le_of_ble_eq_true rfl⟩ (fun r u H locs hp hP hD hS => ?_)
  have hP : kp g u H := hP
  have hD : kd A u := hD
  obtain ⟨hr, R, hR, hO⟩ := mk_not2 (rf_se h7) hp
  subst hr
  refine lv_sipush (v := (-1001)) hx hb dL_refused_295 (by decide) ?_
  refine lv_icmp_ne (tgt := 423) hx hb dL_refused_298 (by decide) (fun z => absurd z (fun y => y rfl)) (fun z => ?_)
  refine lv_aload_n hx hb dL_refused_301 rfl (lv_at hl 3 rfl) ?_
  refine lv_iconst (v := 4) hx hb dL_refused_302 (by decide) ?_
  refine kL_SW (As := [.ref oF, .int 4]) (rest := []) (wr := []) K kX0_s (L_go_c l hfl g oF F C S h R T ln _ hO 4) hN kX0_fr (vx_cwSW 2 hts (k_gS kw684 cs_L_go) rfl rfl rfl pnL_go ⟨Nat.le_of_ble_eq_true rfl, Nat.le_of_ble_eq_true rfl⟩) hE hS hA hP hD rfl hl.1 rfl rfl dL_refused_303 ⟨Nat.le_of_ble_eq_true rfl, Nat.le_of_ble_eq_true rfl⟩ (fun r u H locs hp hP hD hS => ?_)
  have hP : kp g u H := hP
  have hD : kd A u := hD
  obtain ⟨hr, R, hR, hO⟩ := mk_not2 rf_g1 hp
  subst hr
  refine lv_sipush (v := (-1001)) hx hb dL_refused_306 (by decide) ?_
  refine lv_icmp_ne (tgt := 423) hx hb dL_refused_309 (by decide) (fun z => absurd z (fun y => y rfl)) (fun z => ?_)
  refine lv_aload_n hx hb dL_refused_312 rfl (lv_at hl 3 rfl) ?_
  refine lv_iconst (v := 3) hx hb dL_refused_313 (by decide) ?_
  refine lv_iconst (v := 4) hx hb dL_refused_314 (by decide) ?_
  refine lv_iconst (v := 0) hx hb dL_refused_315 (by decide) ?_
  refine kL_SC (As := [.ref oF, .int 3, .int 4, .int 0]) (rest := []) (wr := []) K kX0_s (L_is_c l hfl g oF F C S h R T ln _ hO 3 4 0 (by rw [hR.1]; decide) hR.1 hR.2.1 hR.2.2) hN kX0_fr (va_cwS 4 hts (k_gS kw994 cs_L_is) rfl rfl rfl pnL_is ⟨Nat.le_of_ble_eq_true rfl, Nat.le_of_ble_eq_true rfl⟩) hE hS hA hP hD rfl hl.1 rfl rfl dL_refused_316 ⟨Nat.le_of_ble_eq_true rfl, Nat.le_of_ble_eq_true rfl⟩ (fun r u H locs hp hP hD hS => ?_)
  have hP : kp g u H := hP
  have hD : kd A u := hD
  obtain ⟨hr, hO⟩ := hp
  subst hr
  refine lv_if_eq (tgt := 423) hx hb dL_refused_319 (by decide) (fun z => absurd z (by decide)) (fun z => ?_)
  refine lv_aload_n hx hb dL_refused_322 rfl (lv_at hl 3 rfl) ?_
  refine lv_aload_n hx hb dL_refused_323 rfl (lv_at hl 3 rfl) ?_
  refine lv_iconst (v := 1) hx hb dL_refused_324 (by decide) ?_
  refine kL_SW (As := [.ref oF, .int 1]) (rest := [.ref oF]) (wr := []) K kX0_s (L_account_c l hfl g oF F C S h R T ln _ hO 1) hN kX0_fr (vx_cwSW 2 hts (k_gS kw961 cs_L_account) rfl rfl rfl pnL_account ⟨Nat.le_of_ble_eq_true rfl, Nat.le_of_ble_eq_true rfl⟩) hE hS hA hP hD rfl hl.1 rfl rfl dL_refused_325 ⟨Nat.le_of_ble_eq_true rfl, Nat.le_of_ble_eq_true rfl⟩ (fun r u H locs hp hP hD hS => ?_)
  have hP : kp g u H := hP
  have hD : kd A u := hD
  obtain ⟨hr, hO⟩ := hp
  have hr : r = C.1 1 := hr
  subst hr
  refine kL_SW (As := [.ref oF, .int (C.1 1)]) (rest := []) (wr := []) K kX0_s (L_go_c l hfl g oF F C S h R T ln _ hO (C.1 1)) hN kX0_fr (vx_cwSW 2 hts (k_gS kw684 cs_L_go) rfl rfl rfl pnL_go ⟨Nat.le_of_ble_eq_true rfl, Nat.le_of_ble_eq_true rfl⟩) hE hS hA hP hD rfl hl.1 rfl rfl dL_refused_328 ⟨Nat.le_of_ble_eq_true rfl, Nat.le_of_ble_eq_true rfl⟩ (fun r u H locs hp hP hD hS => ?_)
  have hP : kp g u H := hP
  have hD : kd A u := hD
  obtain ⟨hr, R, hR, hO⟩ := mk_not2 (rf_g2 (m := m) hm em) hp
  subst hr
  refine lv_sipush (v := (-1001)) hx hb dL_refused_331 (by decide) ?_
  refine lv_icmp_ne (tgt := 423) hx hb dL_refused_334 (by decide) (fun z => absurd z (fun y => y rfl)) (fun z => ?_)
  refine lv_aload_n hx hb dL_refused_337 rfl (lv_at hl 3 rfl) ?_
  refine lv_bipush (v := 13) hx hb dL_refused_338 (by decide) ?_
  refine lv_aload_n hx hb dL_refused_340 rfl (lv_at hl 3 rfl) ?_
  refine lv_iconst (v := 1) hx hb dL_refused_341 (by decide) ?_
  refine kL_SW (As := [.ref oF, .int 1]) (rest := [.int 13, .ref oF]) (wr := []) K kX0_s (L_account_c l hfl g oF F C S h R T ln _ hO 1) hN kX0_fr (vx_cwSW 2 hts (k_gS kw961 cs_L_account) rfl rfl rfl pnL_account ⟨Nat.le_of_ble_eq_true rfl, Nat.le_of_ble_eq_true rfl⟩) hE hS hA hP hD rfl hl.1 rfl rfl dL_refused_342 ⟨Nat.le_of_ble_eq_true rfl, Nat.le_of_ble_eq_true rfl⟩ (fun r u H locs hp hP hD hS => ?_)
  have hP : kp g u H := hP
  have hD : kd A u := hD
  obtain ⟨hr, hO⟩ := hp
  have hr : r = C.1 1 := hr
  subst hr
  refine lv_iconst (v := 0) hx hb dL_refused_345 (by decide) ?_
  refine kL_SC (As := [.ref oF, .int 13, .int (C.1 1), .int 0]) (rest := []) (wr := []) K kX0_s (L_is_c l hfl g oF F C S h R T ln _ hO 13 (C.1 1) 0 (by rw [hR.1]; decide) hR.1 hR.2.1 hR.2.2) hN kX0_fr (va_cwS 4 hts (k_gS kw994 cs_L_is) rfl rfl rfl pnL_is ⟨Nat.le_of_ble_eq_true rfl, Nat.le_of_ble_eq_true rfl⟩) hE hS hA hP hD rfl hl.1 rfl rfl dL_refused_346 ⟨Nat.le_of_ble_eq_true rfl, Nat.le_of_ble_eq_true rfl⟩ (fun r u H locs hp hP hD hS => ?_)
  have hP : kp g u H := hP
  have hD : kd A u := hD
  obtain ⟨hr, hO⟩ := hp
  subst hr
  refine lv_if_eq (tgt := 423) hx hb dL_refused_349 (by decide) (fun z => absurd z (by decide)) (fun z => ?_)
  refine lv_aload_n hx hb dL_refused_352 rfl (lv_at hl 3 rfl) ?_
  refine lv_bipush (v := 8) hx hb dL_refused_353 (by decide) ?_
  refine kL_SW (As := [.ref oF, .int 8]) (rest := []) (wr := []) K kX0_s (L_seal_c l hfl g oF F C S h R T ln _ hO 8) hN kX0_fr (vx_cwSW 2 hts (k_gS kw691 cs_L_seal) rfl rfl rfl pnL_seal ⟨Nat.le_of_ble_eq_true rfl, Nat.le_of_ble_eq_true rfl⟩) hE hS hA hP hD rfl hl.1 rfl rfl dL_refused_355 ⟨Nat.le_of_ble_eq_true rfl, Nat.le_of_ble_eq_true rfl⟩ (fun r u H locs hp hP hD hS => ?_)
  have hP : kp g u H := hP
  have hD : kd A u := hD
  obtain ⟨hr, R, hR, hO⟩ := mk_not2 rf_x1 hp
  subst hr
  refine lv_sipush (v := (-1001)) hx hb dL_refused_358 (by decide) ?_
  refine lv_icmp_ne (tgt := 423) hx hb dL_refused_361 (by decide) (fun z => absurd z (fun y => y rfl)) (fun z => ?_)
  refine lv_aload_n hx hb dL_refused_364 rfl (lv_at hl 3 rfl) ?_
  refine lv_iconst (v := 3) hx hb dL_refused_365 (by decide) ?_
  refine lv_bipush (v := 8) hx hb dL_refused_366 (by decide) ?_
  refine lv_iconst (v := 0) hx hb dL_refused_368 (by decide) ?_
  refine kL_SC (As := [.ref oF, .int 3, .int 8, .int 0]) (rest := []) (wr := []) K kX0_s (L_is_c l hfl g oF F C S h R T ln _ hO 3 8 0 (by rw [hR.1]; decide) hR.1 hR.2.1 hR.2.2) hN kX0_fr (va_cwS 4 hts (k_gS kw994 cs_L_is) rfl rfl rfl pnL_is ⟨Nat.le_of_ble_eq_true rfl, Nat.le_of_ble_eq_true rfl⟩) hE hS hA hP hD rfl hl.1 rfl rfl dL_refused_369 ⟨Nat.le_of_ble_eq_true rfl, Nat.le_of_ble_eq_true rfl⟩ (fun r u H locs hp hP hD hS => ?_)
  have hP : kp g u H := hP
  have hD : kd A u := hD
  obtain ⟨hr, hO⟩ := hp
  subst hr
  refine lv_if_eq (tgt := 423) hx hb dL_refused_372 (by decide) (fun z => absurd z (by decide)) (fun z => ?_)
  refine lv_aload_n hx hb dL_refused_375 rfl (lv_at hl 3 rfl) ?_
  refine lv_iconst (v := (-1)) hx hb dL_refused_376 (by decide) ?_
  refine kL_SW (As := [.ref oF, .int (-1)]) (rest := []) (wr := []) K kX0_s (L_seal_c l hfl g oF F C S h R T ln _ hO (-1)) hN kX0_fr (vx_cwSW 2 hts (k_gS kw691 cs_L_seal) rfl rfl rfl pnL_seal ⟨Nat.le_of_ble_eq_true rfl, Nat.le_of_ble_eq_true rfl⟩) hE hS hA hP hD rfl hl.1 rfl rfl dL_refused_377 ⟨Nat.le_of_ble_eq_true rfl, Nat.le_of_ble_eq_true rfl⟩ (fun r u H locs hp hP hD hS => ?_)
  have hP : kp g u H := hP
  have hD : kd A u := hD
  obtain ⟨hr, R, hR, hO⟩ := mk_not2 rf_x2 hp
  subst hr
  refine lv_sipush (v := (-1001)) hx hb dL_refused_380 (by decide) ?_
  refine lv_icmp_ne (tgt := 423) hx hb dL_refused_383 (by decide) (fun z => absurd z (fun y => y rfl)) (fun z => ?_)
  refine lv_aload_n hx hb dL_refused_386 rfl (lv_at hl 3 rfl) ?_
  refine lv_iconst (v := 0) hx hb dL_refused_387 (by decide) ?_
  refine kL_SW (As := [.ref oF, .int 0]) (rest := []) (wr := []) K kX0_s (L_days_c l hfl g oF F C S h R T ln _ hO 0) hN kX0_fr (vx_cwSW 2 hts (k_gS kw698 cs_L_days) rfl rfl rfl pnL_days ⟨Nat.le_of_ble_eq_true rfl, Nat.le_of_ble_eq_true rfl⟩) hE hS hA hP hD rfl hl.1 rfl rfl dL_refused_388 ⟨Nat.le_of_ble_eq_true rfl, Nat.le_of_ble_eq_true rfl⟩ (fun r u H locs hp hP hD hS => ?_)
  have hP : kp g u H := hP
  have hD : kd A u := hD
  obtain ⟨hr, R, hR, hO⟩ := mk_not2 rf_d1 hp
  subst hr
  refine lv_sipush (v := (-1001)) hx hb dL_refused_391 (by decide) ?_
  refine lv_icmp_ne (tgt := 423) hx hb dL_refused_394 (by decide) (fun z => absurd z (fun y => y rfl)) (fun z => ?_)
  refine lv_aload_n hx hb dL_refused_397 rfl (lv_at hl 3 rfl) ?_
  refine lv_bipush (v := 61) hx hb dL_refused_398 (by decide) ?_
  refine kL_SW (As := [.ref oF, .int 61]) (rest := []) (wr := []) K kX0_s (L_days_c l hfl g oF F C S h R T ln _ hO 61) hN kX0_fr (vx_cwSW 2 hts (k_gS kw698 cs_L_days) rfl rfl rfl pnL_days ⟨Nat.le_of_ble_eq_true rfl, Nat.le_of_ble_eq_true rfl⟩) hE hS hA hP hD rfl hl.1 rfl rfl dL_refused_400 ⟨Nat.le_of_ble_eq_true rfl, Nat.le_of_ble_eq_true rfl⟩ (fun r u H locs hp hP hD hS => ?_)
  have hP : kp g u H := hP
  have hD : kd A u := hD
  obtain ⟨hr, R, hR, hO⟩ := mk_not2 rf_d2 hp
  subst hr
  refine lv_sipush (v := (-1001)) hx hb dL_refused_403 (by decide) ?_
  refine lv_icmp_ne (tgt := 423) hx hb dL_refused_406 (by decide) (fun z => absurd z (fun y => y rfl)) (fun z => ?_)
  refine lv_aload_n hx hb dL_refused_409 rfl (lv_at hl 3 rfl) ?_
  refine lv_iconst (v := 1) hx hb dL_refused_410 (by decide) ?_
  refine lv_iconst (v := 0) hx hb dL_refused_411 (by decide) ?_
  refine lv_iconst (v := 0) hx hb dL_refused_412 (by decide) ?_
  refine kL_SC (As := [.ref oF, .int 1, .int 0, .int 0]) (rest := []) (wr := []) K kX0_s (L_is_c l hfl g oF F C S h R T ln _ hO 1 0 0 (by rw [hR.1]; decide) hR.1 hR.2.1 hR.2.2) hN kX0_fr (va_cwS 4 hts (k_gS kw994 cs_L_is) rfl rfl rfl pnL_is ⟨Nat.le_of_ble_eq_true rfl, Nat.le_of_ble_eq_true rfl⟩) hE hS hA hP hD rfl hl.1 rfl rfl dL_refused_413 ⟨Nat.le_of_ble_eq_true rfl, Nat.le_of_ble_eq_true rfl⟩ (fun r u H locs hp hP hD hS => ?_)
  have hP : kp g u H := hP
  have hD : kd A u := hD
  obtain ⟨hr, hO⟩ := hp
  subst hr
  refine lv_if_eq (tgt := 423) hx hb dL_refused_416 (by decide) (fun z => absurd z (by decide)) (fun z => ?_)
  refine lv_iconst (v := 1) hx hb dL_refused_419 (by decide) ?_
  refine lv_goto (tgt := 424) hx hb dL_refused_420 (by decide) ?_
  refine lv_istore (lv' := [(5, .int 1), (4, .int 5), (3, .int 5), (1, .long (kAsk C)), (0, .ref oF)]) hx hb dL_refused_424 hl (by decide) rfl (fun ls hl => ?_)
  refine lv_iload hx hb dL_refused_426 (lv_at hl 0 rfl) ?_
  refine lv_if_eq (tgt := 781) hx hb dL_refused_428 (by decide) (fun z => absurd z (by decide)) (fun z => ?_)
  refine lv_aload_n hx hb dL_refused_431 rfl (lv_at hl 4 rfl) ?_
  refine lv_iload_n hx hb dL_refused_432 rfl (lv_at hl 2 rfl) ?_
  refine lv_iconst (v := 1) hx hb dL_refused_433 (by decide) ?_
  refine kL_SW (As := [.ref oF, .int 5, .int (b2i true)]) (rest := []) (wr := []) K kX0_s (L_jarOf_c l hfl g oF F C S h R T ln _ hO 5 true) hN kX0_fr (vx_cwSW 3 hts (k_gS kw1364 cs_L_jarOf) rfl rfl rfl pnL_jarOf ⟨Nat.le_of_ble_eq_true rfl, Nat.le_of_ble_eq_true rfl⟩) hE hS hA hP hD rfl hl.1 rfl rfl dL_refused_434 ⟨Nat.le_of_ble_eq_true rfl, Nat.le_of_ble_eq_true rfl⟩ (fun r u H locs hp hP hD hS => ?_)
  have hP : kp g u H := hP
  have hD : kd A u := hD
  obtain ⟨hr, hO⟩ := hp
  have hr : r = (-1001) := hr.trans (ra_jarOf1 h4)
  subst hr
  refine lv_sipush (v := (-1001)) hx hb dL_refused_437 (by decide) ?_
  refine lv_icmp_ne (tgt := 781) hx hb dL_refused_440 (by decide) (fun z => absurd z (fun y => y rfl)) (fun z => ?_)
  refine lv_aload_n hx hb dL_refused_443 rfl (lv_at hl 4 rfl) ?_
  refine lv_iconst (v := (-1)) hx hb dL_refused_444 (by decide) ?_
  refine lv_iconst (v := 0) hx hb dL_refused_445 (by decide) ?_
  refine kL_SW (As := [.ref oF, .int (-1), .int (b2i false)]) (rest := []) (wr := []) K kX0_s (L_jarOf_c l hfl g oF F C S h R T ln _ hO (-1) false) hN kX0_fr (vx_cwSW 3 hts (k_gS kw1364 cs_L_jarOf) rfl rfl rfl pnL_jarOf ⟨Nat.le_of_ble_eq_true rfl, Nat.le_of_ble_eq_true rfl⟩) hE hS hA hP hD rfl hl.1 rfl rfl dL_refused_446 ⟨Nat.le_of_ble_eq_true rfl, Nat.le_of_ble_eq_true rfl⟩ (fun r u H locs hp hP hD hS => ?_)
  have hP : kp g u H := hP
  have hD : kd A u := hD
  obtain ⟨hr, hO⟩ := hp
  have hr : r = (-1001) := hr.trans ra_jarOf2
  subst hr
  refine lv_sipush (v := (-1001)) hx hb dL_refused_449 (by decide) ?_
  refine lv_icmp_ne (tgt := 781) hx hb dL_refused_452 (by decide) (fun z => absurd z (fun y => y rfl)) (fun z => ?_)
  refine lv_aload_n hx hb dL_refused_455 rfl (lv_at hl 4 rfl) ?_
  refine lv_iload hx hb dL_refused_456 (lv_at hl 1 rfl) ?_
  refine lv_bipush (v := 9) hx hb dL_refused_458 (by decide) ?_
  refine kL_SW (As := [.ref oF, .int 5, .int 9]) (rest := []) (wr := []) K kX0_s (L_bagOf_c l hfl g oF F C S h R T ln _ hO 5 9) hN kX0_fr (vx_cwSW 3 hts (k_gS kw1373 cs_L_bagOf) rfl rfl rfl pnL_bagOf ⟨Nat.le_of_ble_eq_true rfl, Nat.le_of_ble_eq_true rfl⟩) hE hS hA hP hD rfl hl.1 rfl rfl dL_refused_460 ⟨Nat.le_of_ble_eq_true rfl, Nat.le_of_ble_eq_true rfl⟩ (fun r u H locs hp hP hD hS => ?_)
  have hP : kp g u H := hP
  have hD : kd A u := hD
  obtain ⟨hr, hO⟩ := hp
  have hr : r = (-1001) := hr.trans (ra_bagOf1 h7)
  subst hr
  refine lv_sipush (v := (-1001)) hx hb dL_refused_463 (by decide) ?_
  refine lv_icmp_ne (tgt := 781) hx hb dL_refused_466 (by decide) (fun z => absurd z (fun y => y rfl)) (fun z => ?_)
  refine lv_aload_n hx hb dL_refused_469 rfl (lv_at hl 4 rfl) ?_
  refine lv_iconst (v := 0) hx hb dL_refused_470 (by decide) ?_
  refine lv_bipush (v := 6) hx hb dL_refused_471 (by decide) ?_
  refine kL_SW (As := [.ref oF, .int 0, .int 6]) (rest := []) (wr := []) K kX0_s (L_bagOf_c l hfl g oF F C S h R T ln _ hO 0 6) hN kX0_fr (vx_cwSW 3 hts (k_gS kw1373 cs_L_bagOf) rfl rfl rfl pnL_bagOf ⟨Nat.le_of_ble_eq_true rfl, Nat.le_of_ble_eq_true rfl⟩) hE hS hA hP hD rfl hl.1 rfl rfl dL_refused_473 ⟨Nat.le_of_ble_eq_true rfl, Nat.le_of_ble_eq_true rfl⟩ (fun r u H locs hp hP hD hS => ?_)
  have hP : kp g u H := hP
  have hD : kd A u := hD
  obtain ⟨hr, hO⟩ := hp
  have hr : r = (-1002) := hr.trans (ra_bagOf2 h7)
  subst hr
  refine lv_sipush (v := (-1002)) hx hb dL_refused_476 (by decide) ?_
  refine lv_icmp_ne (tgt := 781) hx hb dL_refused_479 (by decide) (fun z => absurd z (fun y => y rfl)) (fun z => ?_)
  refine lv_aload_n hx hb dL_refused_482 rfl (lv_at hl 4 rfl) ?_
  refine lv_iconst (v := 0) hx hb dL_refused_483 (by decide) ?_
  refine lv_iconst (v := (-1)) hx hb dL_refused_484 (by decide) ?_
  refine kL_SW (As := [.ref oF, .int 0, .int (-1)]) (rest := []) (wr := []) K kX0_s (L_bagOf_c l hfl g oF F C S h R T ln _ hO 0 (-1)) hN kX0_fr (vx_cwSW 3 hts (k_gS kw1373 cs_L_bagOf) rfl rfl rfl pnL_bagOf ⟨Nat.le_of_ble_eq_true rfl, Nat.le_of_ble_eq_true rfl⟩) hE hS hA hP hD rfl hl.1 rfl rfl dL_refused_485 ⟨Nat.le_of_ble_eq_true rfl, Nat.le_of_ble_eq_true rfl⟩ (fun r u H locs hp hP hD hS => ?_)
  have hP : kp g u H := hP
  have hD : kd A u := hD
  obtain ⟨hr, hO⟩ := hp
  have hr : r = (-1002) := hr.trans (ra_bagOf3 h7)
  subst hr
  refine lv_sipush (v := (-1002)) hx hb dL_refused_488 (by decide) ?_
  refine lv_icmp_ne (tgt := 781) hx hb dL_refused_491 (by decide) (fun z => absurd z (fun y => y rfl)) (fun z => ?_)
  refine lv_aload_n hx hb dL_refused_494 rfl (lv_at hl 4 rfl) ?_
  refine lv_bipush (v := 8) hx hb dL_refused_495 (by decide) ?_
  refine lv_bipush (v := 9) hx hb dL_refused_497 (by decide) ?_
  refine kL_SW (As := [.ref oF, .int 8, .int 9]) (rest := []) (wr := []) K kX0_s (L_weightOf_c l hfl g oF F C S h R T ln _ hO 8 9) hN kX0_fr (vx_cwSW 3 hts (k_gS kw705 cs_L_weightOf) rfl rfl rfl pnL_weightOf ⟨Nat.le_of_ble_eq_true rfl, Nat.le_of_ble_eq_true rfl⟩) hE hS hA hP hD rfl hl.1 rfl rfl dL_refused_499 ⟨Nat.le_of_ble_eq_true rfl, Nat.le_of_ble_eq_true rfl⟩ (fun r u H locs hp hP hD hS => ?_)
  have hP : kp g u H := hP
  have hD : kd A u := hD
  obtain ⟨hr, hO⟩ := hp
  have hr : r = (-1001) := hr.trans ra_w1
  subst hr
  refine lv_sipush (v := (-1001)) hx hb dL_refused_502 (by decide) ?_
  refine lv_icmp_ne (tgt := 781) hx hb dL_refused_505 (by decide) (fun z => absurd z (fun y => y rfl)) (fun z => ?_)
  refine lv_aload_n hx hb dL_refused_508 rfl (lv_at hl 4 rfl) ?_
  refine lv_iconst (v := 0) hx hb dL_refused_509 (by decide) ?_
  refine lv_iconst (v := 4) hx hb dL_refused_510 (by decide) ?_
  refine kL_SW (As := [.ref oF, .int 0, .int 4]) (rest := []) (wr := []) K kX0_s (L_weightOf_c l hfl g oF F C S h R T ln _ hO 0 4) hN kX0_fr (vx_cwSW 3 hts (k_gS kw705 cs_L_weightOf) rfl rfl rfl pnL_weightOf ⟨Nat.le_of_ble_eq_true rfl, Nat.le_of_ble_eq_true rfl⟩) hE hS hA hP hD rfl hl.1 rfl rfl dL_refused_511 ⟨Nat.le_of_ble_eq_true rfl, Nat.le_of_ble_eq_true rfl⟩ (fun r u H locs hp hP hD hS => ?_)
  have hP : kp g u H := hP
  have hD : kd A u := hD
  obtain ⟨hr, hO⟩ := hp
  have hr : r = (-1002) := hr.trans ra_w2
  subst hr
  refine lv_sipush (v := (-1002)) hx hb dL_refused_514 (by decide) ?_
  refine lv_icmp_ne (tgt := 781) hx hb dL_refused_517 (by decide) (fun z => absurd z (fun y => y rfl)) (fun z => ?_)
  refine lv_aload_n hx hb dL_refused_520 rfl (lv_at hl 4 rfl) ?_
  refine lv_iconst (v := (-1)) hx hb dL_refused_521 (by decide) ?_
  refine lv_iconst (v := 0) hx hb dL_refused_522 (by decide) ?_
  refine kL_SW (As := [.ref oF, .int (-1), .int 0]) (rest := []) (wr := []) K kX0_s (L_weightOf_c l hfl g oF F C S h R T ln _ hO (-1) 0) hN kX0_fr (vx_cwSW 3 hts (k_gS kw705 cs_L_weightOf) rfl rfl rfl pnL_weightOf ⟨Nat.le_of_ble_eq_true rfl, Nat.le_of_ble_eq_true rfl⟩) hE hS hA hP hD rfl hl.1 rfl rfl dL_refused_523 ⟨Nat.le_of_ble_eq_true rfl, Nat.le_of_ble_eq_true rfl⟩ (fun r u H locs hp hP hD hS => ?_)
  have hP : kp g u H := hP
  have hD : kd A u := hD
  obtain ⟨hr, hO⟩ := hp
  have hr : r = (-1001) := hr.trans ra_w3
  subst hr
  refine lv_sipush (v := (-1001)) hx hb dL_refused_526 (by decide) ?_
  refine lv_icmp_ne (tgt := 781) hx hb dL_refused_529 (by decide) (fun z => absurd z (fun y => y rfl)) (fun z => ?_)
  refine lv_aload_n hx hb dL_refused_532 rfl (lv_at hl 4 rfl) ?_
  refine lv_iload hx hb dL_refused_533 (lv_at hl 1 rfl) ?_
  refine kL_SW (As := [.ref oF, .int 5]) (rest := []) (wr := []) K kX0_s (L_told_c l hfl g oF F C S h R T ln _ hO 5) hN kX0_fr (vx_cwSW 2 hts (k_gS kw772 cs_L_told) rfl rfl rfl pnL_told ⟨Nat.le_of_ble_eq_true rfl, Nat.le_of_ble_eq_true rfl⟩) hE hS hA hP hD rfl hl.1 rfl rfl dL_refused_535 ⟨Nat.le_of_ble_eq_true rfl, Nat.le_of_ble_eq_true rfl⟩ (fun r u H locs hp hP hD hS => ?_)
  have hP : kp g u H := hP
  have hD : kd A u := hD
  obtain ⟨hr, hO⟩ := hp
  have hr : r = (-1001) := hr.trans (ra_told h7)
  subst hr
  refine lv_sipush (v := (-1001)) hx hb dL_refused_538 (by decide) ?_
  refine lv_icmp_ne (tgt := 781) hx hb dL_refused_541 (by decide) (fun z => absurd z (fun y => y rfl)) (fun z => ?_)
  refine lv_aload_n hx hb dL_refused_544 rfl (lv_at hl 4 rfl) ?_
  refine lv_iconst (v := (-1)) hx hb dL_refused_545 (by decide) ?_
  refine kL_SW (As := [.ref oF, .int (-1)]) (rest := []) (wr := []) K kX0_s (L_toldAgain_c l hfl g oF F C S h R T ln _ hO (-1)) hN kX0_fr (vx_cwSW 2 hts (k_gS kw788 cs_L_toldAgain) rfl rfl rfl pnL_toldAgain ⟨Nat.le_of_ble_eq_true rfl, Nat.le_of_ble_eq_true rfl⟩) hE hS hA hP hD rfl hl.1 rfl rfl dL_refused_546 ⟨Nat.le_of_ble_eq_true rfl, Nat.le_of_ble_eq_true rfl⟩ (fun r u H locs hp hP hD hS => ?_)
  have hP : kp g u H := hP
  have hD : kd A u := hD
  obtain ⟨hr, hO⟩ := hp
  have hr : r = (-1001) := hr.trans ra_again
  subst hr
  refine lv_sipush (v := (-1001)) hx hb dL_refused_549 (by decide) ?_
  refine lv_icmp_ne (tgt := 781) hx hb dL_refused_552 (by decide) (fun z => absurd z (fun y => y rfl)) (fun z => ?_)
  refine lv_aload_n hx hb dL_refused_555 rfl (lv_at hl 4 rfl) ?_
  refine lv_iload hx hb dL_refused_556 (lv_at hl 1 rfl) ?_
  refine kL_SW (As := [.ref oF, .int 5]) (rest := []) (wr := []) K kX0_s (L_onPan_c l hfl g oF F C S h R T ln _ hO 5) hN kX0_fr (vx_cwSW 2 hts (k_gS kw804 cs_L_onPan) rfl rfl rfl pnL_onPan ⟨Nat.le_of_ble_eq_true rfl, Nat.le_of_ble_eq_true rfl⟩) hE hS hA hP hD rfl hl.1 rfl rfl dL_refused_558 ⟨Nat.le_of_ble_eq_true rfl, Nat.le_of_ble_eq_true rfl⟩ (fun r u H locs hp hP hD hS => ?_)
  have hP : kp g u H := hP
  have hD : kd A u := hD
  obtain ⟨hr, hO⟩ := hp
  have hr : r = (-1001) := hr.trans (ra_onPan h7)
  subst hr
  refine lv_sipush (v := (-1001)) hx hb dL_refused_561 (by decide) ?_
  refine lv_icmp_ne (tgt := 781) hx hb dL_refused_564 (by decide) (fun z => absurd z (fun y => y rfl)) (fun z => ?_)
  refine lv_aload_n hx hb dL_refused_567 rfl (lv_at hl 4 rfl) ?_
  refine lv_iload hx hb dL_refused_568 (lv_at hl 1 rfl) ?_
  refine kL_SW (As := [.ref oF, .int 5]) (rest := []) (wr := []) K kX0_s (L_rest_c l hfl g oF F C S h R T ln _ hO 5) hN kX0_fr (vx_cwSW 2 hts (k_gS kw811 cs_L_rest) rfl rfl rfl pnL_rest ⟨Nat.le_of_ble_eq_true rfl, Nat.le_of_ble_eq_true rfl⟩) hE hS hA hP hD rfl hl.1 rfl rfl dL_refused_570 ⟨Nat.le_of_ble_eq_true rfl, Nat.le_of_ble_eq_true rfl⟩ (fun r u H locs hp hP hD hS => ?_)
  have hP : kp g u H := hP
  have hD : kd A u := hD
  obtain ⟨hr, hO⟩ := hp
  have hr : r = (-1001) := hr.trans (ra_rest h7)
  subst hr
  refine lv_sipush (v := (-1001)) hx hb dL_refused_573 (by decide) ?_
  refine lv_icmp_ne (tgt := 781) hx hb dL_refused_576 (by decide) (fun z => absurd z (fun y => y rfl)) (fun z => ?_)
  refine lv_aload_n hx hb dL_refused_579 rfl (lv_at hl 4 rfl) ?_
  refine lv_iload hx hb dL_refused_580 (lv_at hl 1 rfl) ?_
  refine kL_SW (As := [.ref oF, .int 5]) (rest := []) (wr := []) K kX0_s (L_honest_c l hfl g oF F C S h R T ln _ hO 5) hN kX0_fr (vx_cwSW 2 hts (k_gS kw1381 cs_L_honest) rfl rfl rfl pnL_honest ⟨Nat.le_of_ble_eq_true rfl, Nat.le_of_ble_eq_true rfl⟩) hE hS hA hP hD rfl hl.1 rfl rfl dL_refused_582 ⟨Nat.le_of_ble_eq_true rfl, Nat.le_of_ble_eq_true rfl⟩ (fun r u H locs hp hP hD hS => ?_)
  have hP : kp g u H := hP
  have hD : kd A u := hD
  obtain ⟨hr, hO⟩ := hp
  have hr : r = (-1001) := hr.trans (ra_honest h7)
  subst hr
  refine lv_sipush (v := (-1001)) hx hb dL_refused_585 (by decide) ?_
  refine lv_icmp_ne (tgt := 781) hx hb dL_refused_588 (by decide) (fun z => absurd z (fun y => y rfl)) (fun z => ?_)
  refine lv_aload_n hx hb dL_refused_591 rfl (lv_at hl 4 rfl) ?_
  refine lv_iconst (v := 4) hx hb dL_refused_592 (by decide) ?_
  refine lv_bipush (v := 9) hx hb dL_refused_593 (by decide) ?_
  refine kL_SW (As := [.ref oF, .int 4, .int 9]) (rest := []) (wr := []) K kX0_s (L_pays_c l hfl g oF F C S h R T ln _ hO 4 9) hN kX0_fr (vx_cwSW 3 hts (k_gS kw818 cs_L_pays) rfl rfl rfl pnL_pays ⟨Nat.le_of_ble_eq_true rfl, Nat.le_of_ble_eq_true rfl⟩) hE hS hA hP hD rfl hl.1 rfl rfl dL_refused_595 ⟨Nat.le_of_ble_eq_true rfl, Nat.le_of_ble_eq_true rfl⟩ (fun r u H locs hp hP hD hS => ?_)
  have hP : kp g u H := hP
  have hD : kd A u := hD
  obtain ⟨hr, hO⟩ := hp
  have hr : r = (-1001) := hr.trans ra_p1
  subst hr
  refine lv_sipush (v := (-1001)) hx hb dL_refused_598 (by decide) ?_
  refine lv_icmp_ne (tgt := 781) hx hb dL_refused_601 (by decide) (fun z => absurd z (fun y => y rfl)) (fun z => ?_)
  refine lv_aload_n hx hb dL_refused_604 rfl (lv_at hl 4 rfl) ?_
  refine lv_iconst (v := 0) hx hb dL_refused_605 (by decide) ?_
  refine lv_iconst (v := (-1)) hx hb dL_refused_606 (by decide) ?_
  refine kL_SW (As := [.ref oF, .int 0, .int (-1)]) (rest := []) (wr := []) K kX0_s (L_pays_c l hfl g oF F C S h R T ln _ hO 0 (-1)) hN kX0_fr (vx_cwSW 3 hts (k_gS kw818 cs_L_pays) rfl rfl rfl pnL_pays ⟨Nat.le_of_ble_eq_true rfl, Nat.le_of_ble_eq_true rfl⟩) hE hS hA hP hD rfl hl.1 rfl rfl dL_refused_607 ⟨Nat.le_of_ble_eq_true rfl, Nat.le_of_ble_eq_true rfl⟩ (fun r u H locs hp hP hD hS => ?_)
  have hP : kp g u H := hP
  have hD : kd A u := hD
  obtain ⟨hr, hO⟩ := hp
  have hr : r = (-1002) := hr.trans ra_p2
  subst hr
  refine lv_sipush (v := (-1002)) hx hb dL_refused_610 (by decide) ?_
  refine lv_icmp_ne (tgt := 781) hx hb dL_refused_613 (by decide) (fun z => absurd z (fun y => y rfl)) (fun z => ?_)
  refine lv_aload_n hx hb dL_refused_616 rfl (lv_at hl 4 rfl) ?_
  refine lv_iload hx hb dL_refused_617 (lv_at hl 1 rfl) ?_
  refine lv_iconst (v := 0) hx hb dL_refused_619 (by decide) ?_
  refine kL_SW (As := [.ref oF, .int 5, .int 0]) (rest := []) (wr := []) K kX0_s (L_wouldGet_c l hfl g oF F C S h R T ln _ hO 5 0) hN kX0_fr (vx_cwSW 3 hts (k_gS kw1388 cs_L_wouldGet) rfl rfl rfl pnL_wouldGet ⟨Nat.le_of_ble_eq_true rfl, Nat.le_of_ble_eq_true rfl⟩) hE hS hA hP hD rfl hl.1 rfl rfl dL_refused_620 ⟨Nat.le_of_ble_eq_true rfl, Nat.le_of_ble_eq_true rfl⟩ (fun r u H locs hp hP hD hS => ?_)
  have hP : kp g u H := hP
  have hD : kd A u := hD
  obtain ⟨hr, hO⟩ := hp
  have hr : r = (-1001) := hr.trans (ra_wg1 h7)
  subst hr
  refine lv_sipush (v := (-1001)) hx hb dL_refused_623 (by decide) ?_
  refine lv_icmp_ne (tgt := 781) hx hb dL_refused_626 (by decide) (fun z => absurd z (fun y => y rfl)) (fun z => ?_)
  refine lv_aload_n hx hb dL_refused_629 rfl (lv_at hl 4 rfl) ?_
  refine lv_iconst (v := 0) hx hb dL_refused_630 (by decide) ?_
  refine lv_iconst (v := 4) hx hb dL_refused_631 (by decide) ?_
  refine kL_SW (As := [.ref oF, .int 0, .int 4]) (rest := []) (wr := []) K kX0_s (L_wouldGet_c l hfl g oF F C S h R T ln _ hO 0 4) hN kX0_fr (vx_cwSW 3 hts (k_gS kw1388 cs_L_wouldGet) rfl rfl rfl pnL_wouldGet ⟨Nat.le_of_ble_eq_true rfl, Nat.le_of_ble_eq_true rfl⟩) hE hS hA hP hD rfl hl.1 rfl rfl dL_refused_632 ⟨Nat.le_of_ble_eq_true rfl, Nat.le_of_ble_eq_true rfl⟩ (fun r u H locs hp hP hD hS => ?_)
  have hP : kp g u H := hP
  have hD : kd A u := hD
  obtain ⟨hr, hO⟩ := hp
  have hr : r = (-1001) := hr.trans (ra_wg2 h7)
  subst hr
  refine lv_sipush (v := (-1001)) hx hb dL_refused_635 (by decide) ?_
  refine lv_icmp_ne (tgt := 781) hx hb dL_refused_638 (by decide) (fun z => absurd z (fun y => y rfl)) (fun z => ?_)
  refine lv_aload_n hx hb dL_refused_641 rfl (lv_at hl 4 rfl) ?_
  refine lv_iload hx hb dL_refused_642 (lv_at hl 1 rfl) ?_
  refine kL_SW (As := [.ref oF, .int 5]) (rest := []) (wr := []) K kX0_s (L_bestMarket_c l hfl g oF F C S h R T ln _ hO 5) hN kX0_fr (vx_cwSW 2 hts (k_gS kw1402 cs_L_bestMarket) rfl rfl rfl pnL_bestMarket ⟨Nat.le_of_ble_eq_true rfl, Nat.le_of_ble_eq_true rfl⟩) hE hS hA hP hD rfl hl.1 rfl rfl dL_refused_644 ⟨Nat.le_of_ble_eq_true rfl, Nat.le_of_ble_eq_true rfl⟩ (fun r u H locs hp hP hD hS => ?_)
  have hP : kp g u H := hP
  have hD : kd A u := hD
  obtain ⟨hr, hO⟩ := hp
  have hr : r = (-1001) := hr.trans (ra_best h7)
  subst hr
  refine lv_sipush (v := (-1001)) hx hb dL_refused_647 (by decide) ?_
  refine lv_icmp_ne (tgt := 781) hx hb dL_refused_650 (by decide) (fun z => absurd z (fun y => y rfl)) (fun z => ?_)
  refine lv_aload_n hx hb dL_refused_653 rfl (lv_at hl 4 rfl) ?_
  refine lv_iconst (v := (-1)) hx hb dL_refused_654 (by decide) ?_
  refine kL_SW (As := [.ref oF, .int (-1)]) (rest := []) (wr := []) K kX0_s (L_oathUntil_c l hfl g oF F C S h R T ln _ hO (-1)) hN kX0_fr (vx_cwSW 2 hts (k_gS kw1430 cs_L_oathUntil) rfl rfl rfl pnL_oathUntil ⟨Nat.le_of_ble_eq_true rfl, Nat.le_of_ble_eq_true rfl⟩) hE hS hA hP hD rfl hl.1 rfl rfl dL_refused_655 ⟨Nat.le_of_ble_eq_true rfl, Nat.le_of_ble_eq_true rfl⟩ (fun r u H locs hp hP hD hS => ?_)
  have hP : kp g u H := hP
  have hD : kd A u := hD
  obtain ⟨hr, hO⟩ := hp
  have hr : r = (-1001) := hr.trans ra_oath
  subst hr
  refine lv_sipush (v := (-1001)) hx hb dL_refused_658 (by decide) ?_
  refine lv_icmp_ne (tgt := 781) hx hb dL_refused_661 (by decide) (fun z => absurd z (fun y => y rfl)) (fun z => ?_)
  refine lv_aload_n hx hb dL_refused_664 rfl (lv_at hl 4 rfl) ?_
  refine lv_iconst (v := (-1)) hx hb dL_refused_665 (by decide) ?_
  refine kL_SW (As := [.ref oF, .int (-1)]) (rest := []) (wr := []) K kX0_s (L_isNoticed_c l hfl g oF F C S h R T ln _ hO (-1)) hN kX0_fr (vx_cwSW 2 hts (k_gS kw833 cs_L_isNoticed) rfl rfl rfl pnL_isNoticed ⟨Nat.le_of_ble_eq_true rfl, Nat.le_of_ble_eq_true rfl⟩) hE hS hA hP hD rfl hl.1 rfl rfl dL_refused_666 ⟨Nat.le_of_ble_eq_true rfl, Nat.le_of_ble_eq_true rfl⟩ (fun r u H locs hp hP hD hS => ?_)
  have hP : kp g u H := hP
  have hD : kd A u := hD
  obtain ⟨hr, hO⟩ := hp
  have hr : r = (-1001) := hr.trans ra_not
  subst hr
  refine lv_sipush (v := (-1001)) hx hb dL_refused_669 (by decide) ?_
  refine lv_icmp_ne (tgt := 781) hx hb dL_refused_672 (by decide) (fun z => absurd z (fun y => y rfl)) (fun z => ?_)
  refine lv_aload_n hx hb dL_refused_675 rfl (lv_at hl 4 rfl) ?_
  refine lv_iload hx hb dL_refused_676 (lv_at hl 1 rfl) ?_
  refine kL_SW (As := [.ref oF, .int 5]) (rest := []) (wr := []) K kX0_s (L_ranked_c l hfl g oF F C S h R T ln _ hO 5) hN kX0_fr (vx_cwSW 2 hts (k_gS kw1414 cs_L_ranked) rfl rfl rfl pnL_ranked ⟨Nat.le_of_ble_eq_true rfl, Nat.le_of_ble_eq_true rfl⟩) hE hS hA hP hD rfl hl.1 rfl rfl dL_refused_678 ⟨Nat.le_of_ble_eq_true rfl, Nat.le_of_ble_eq_true rfl⟩ (fun r u H locs hp hP hD hS => ?_)
  have hP : kp g u H := hP
  have hD : kd A u := hD
  obtain ⟨hr, hO⟩ := hp
  have hr : r = (-1001) := hr.trans (ra_rank h7)
  subst hr
  refine lv_sipush (v := (-1001)) hx hb dL_refused_681 (by decide) ?_
  refine lv_icmp_ne (tgt := 781) hx hb dL_refused_684 (by decide) (fun z => absurd z (fun y => y rfl)) (fun z => ?_)
  refine lv_aload_n hx hb dL_refused_687 rfl (lv_at hl 4 rfl) ?_
  refine lv_iload hx hb dL_refused_688 (lv_at hl 1 rfl) ?_
  refine kL_SW (As := [.ref oF, .int 5]) (rest := []) (wr := []) K kX0_s (L_line_c l hfl g oF F C S h R T ln _ hO 5) hN kX0_fr (vx_cwSW 2 hts (k_gS kw1025 cs_L_line) rfl rfl rfl pnL_line ⟨Nat.le_of_ble_eq_true rfl, Nat.le_of_ble_eq_true rfl⟩) hE hS hA hP hD rfl hl.1 rfl rfl dL_refused_690 ⟨Nat.le_of_ble_eq_true rfl, Nat.le_of_ble_eq_true rfl⟩ (fun r u H locs hp hP hD hS => ?_)
  have hP : kp g u H := hP
  have hD : kd A u := hD
  obtain ⟨hc5, -⟩ | ⟨-, hr, hO⟩ := hp
  case inl => rw [ck5 h7] at hc5; cases hc5
  subst hr
  refine lv_sipush (v := (-1001)) hx hb dL_refused_693 (by decide) ?_
  refine lv_icmp_ne (tgt := 781) hx hb dL_refused_696 (by decide) (fun z => absurd z (fun y => y rfl)) (fun z => ?_)
  refine lv_aload_n hx hb dL_refused_699 rfl (lv_at hl 4 rfl) ?_
  refine lv_iconst (v := (-1)) hx hb dL_refused_700 (by decide) ?_
  refine kL_SW (As := [.ref oF, .int (-1)]) (rest := []) (wr := []) K kX0_s (L_character_c l hfl g oF F C S h R T ln _ hO (-1)) hN kX0_fr (vx_cwSW 2 hts (k_gS kw1283 cs_L_character) rfl rfl rfl pnL_character ⟨Nat.le_of_ble_eq_true rfl, Nat.le_of_ble_eq_true rfl⟩) hE hS hA hP hD rfl hl.1 rfl rfl dL_refused_701 ⟨Nat.le_of_ble_eq_true rfl, Nat.le_of_ble_eq_true rfl⟩ (fun r u H locs hp hP hD hS => ?_)
  have hP : kp g u H := hP
  have hD : kd A u := hD
  obtain ⟨hr, hO⟩ := hp
  have hr : r = (-1001) := hr.trans ra_ch1
  subst hr
  refine lv_sipush (v := (-1001)) hx hb dL_refused_704 (by decide) ?_
  refine lv_icmp_ne (tgt := 781) hx hb dL_refused_707 (by decide) (fun z => absurd z (fun y => y rfl)) (fun z => ?_)
  refine lv_aload_n hx hb dL_refused_710 rfl (lv_at hl 4 rfl) ?_
  refine lv_bipush (v := 40) hx hb dL_refused_711 (by decide) ?_
  refine kL_SW (As := [.ref oF, .int 40]) (rest := []) (wr := []) K kX0_s (L_character_c l hfl g oF F C S h R T ln _ hO 40) hN kX0_fr (vx_cwSW 2 hts (k_gS kw1283 cs_L_character) rfl rfl rfl pnL_character ⟨Nat.le_of_ble_eq_true rfl, Nat.le_of_ble_eq_true rfl⟩) hE hS hA hP hD rfl hl.1 rfl rfl dL_refused_713 ⟨Nat.le_of_ble_eq_true rfl, Nat.le_of_ble_eq_true rfl⟩ (fun r u H locs hp hP hD hS => ?_)
  have hP : kp g u H := hP
  have hD : kd A u := hD
  obtain ⟨hr, hO⟩ := hp
  have hr : r = (-1001) := hr.trans (ra_ch2 (kOb_ln hO))
  subst hr
  refine lv_sipush (v := (-1001)) hx hb dL_refused_716 (by decide) ?_
  refine lv_icmp_ne (tgt := 781) hx hb dL_refused_719 (by decide) (fun z => absurd z (fun y => y rfl)) (fun z => ?_)
  refine lv_aload_n hx hb dL_refused_722 rfl (lv_at hl 4 rfl) ?_
  refine lv_bipush (v := 16) hx hb dL_refused_723 (by decide) ?_
  refine kL_SW (As := [.ref oF, .int 16]) (rest := []) (wr := []) K kX0_s (L_account_c l hfl g oF F C S h R T ln _ hO 16) hN kX0_fr (vx_cwSW 2 hts (k_gS kw961 cs_L_account) rfl rfl rfl pnL_account ⟨Nat.le_of_ble_eq_true rfl, Nat.le_of_ble_eq_true rfl⟩) hE hS hA hP hD rfl hl.1 rfl rfl dL_refused_725 ⟨Nat.le_of_ble_eq_true rfl, Nat.le_of_ble_eq_true rfl⟩ (fun r u H locs hp hP hD hS => ?_)
  have hP : kp g u H := hP
  have hD : kd A u := hD
  obtain ⟨hr, hO⟩ := hp
  have hr : r = (-1001) := hr.trans ra_ac1
  subst hr
  refine lv_sipush (v := (-1001)) hx hb dL_refused_728 (by decide) ?_
  refine lv_icmp_ne (tgt := 781) hx hb dL_refused_731 (by decide) (fun z => absurd z (fun y => y rfl)) (fun z => ?_)
  refine lv_aload_n hx hb dL_refused_734 rfl (lv_at hl 4 rfl) ?_
  refine lv_iconst (v := (-1)) hx hb dL_refused_735 (by decide) ?_
  refine kL_SW (As := [.ref oF, .int (-1)]) (rest := []) (wr := []) K kX0_s (L_account_c l hfl g oF F C S h R T ln _ hO (-1)) hN kX0_fr (vx_cwSW 2 hts (k_gS kw961 cs_L_account) rfl rfl rfl pnL_account ⟨Nat.le_of_ble_eq_true rfl, Nat.le_of_ble_eq_true rfl⟩) hE hS hA hP hD rfl hl.1 rfl rfl dL_refused_736 ⟨Nat.le_of_ble_eq_true rfl, Nat.le_of_ble_eq_true rfl⟩ (fun r u H locs hp hP hD hS => ?_)
  have hP : kp g u H := hP
  have hD : kd A u := hD
  obtain ⟨hr, hO⟩ := hp
  have hr : r = (-1001) := hr.trans ra_ac2
  subst hr
  refine lv_sipush (v := (-1001)) hx hb dL_refused_739 (by decide) ?_
  refine lv_icmp_ne (tgt := 781) hx hb dL_refused_742 (by decide) (fun z => absurd z (fun y => y rfl)) (fun z => ?_)
  refine lv_aload_n hx hb dL_refused_745 rfl (lv_at hl 4 rfl) ?_
  refine lv_iconst (v := 3) hx hb dL_refused_746 (by decide) ?_
  refine kL_SW (As := [.ref oF, .int 3]) (rest := []) (wr := []) K kX0_s (L_reason_c l hfl g oF F C S h R T ln _ hO 3) hN kX0_fr (vx_cwSW 2 hts (k_gS kw997 cs_L_reason) rfl rfl rfl pnL_reason ⟨Nat.le_of_ble_eq_true rfl, Nat.le_of_ble_eq_true rfl⟩) hE hS hA hP hD rfl hl.1 rfl rfl dL_refused_747 ⟨Nat.le_of_ble_eq_true rfl, Nat.le_of_ble_eq_true rfl⟩ (fun r u H locs hp hP hD hS => ?_)
  have hP : kp g u H := hP
  have hD : kd A u := hD
  obtain ⟨hr, hO⟩ := hp
  have hr : r = (-1001) := hr.trans ra_re1
  subst hr
  refine lv_sipush (v := (-1001)) hx hb dL_refused_750 (by decide) ?_
  refine lv_icmp_ne (tgt := 781) hx hb dL_refused_753 (by decide) (fun z => absurd z (fun y => y rfl)) (fun z => ?_)
  refine lv_aload_n hx hb dL_refused_756 rfl (lv_at hl 4 rfl) ?_
  refine lv_iconst (v := (-1)) hx hb dL_refused_757 (by decide) ?_
  refine kL_SW (As := [.ref oF, .int (-1)]) (rest := []) (wr := []) K kX0_s (L_reason_c l hfl g oF F C S h R T ln _ hO (-1)) hN kX0_fr (vx_cwSW 2 hts (k_gS kw997 cs_L_reason) rfl rfl rfl pnL_reason ⟨Nat.le_of_ble_eq_true rfl, Nat.le_of_ble_eq_true rfl⟩) hE hS hA hP hD rfl hl.1 rfl rfl dL_refused_758 ⟨Nat.le_of_ble_eq_true rfl, Nat.le_of_ble_eq_true rfl⟩ (fun r u H locs hp hP hD hS => ?_)
  have hP : kp g u H := hP
  have hD : kd A u := hD
  obtain ⟨hr, hO⟩ := hp
  have hr : r = (-1001) := hr.trans ra_re2
  subst hr
  refine lv_sipush (v := (-1001)) hx hb dL_refused_761 (by decide) ?_
  refine lv_icmp_ne (tgt := 781) hx hb dL_refused_764 (by decide) (fun z => absurd z (fun y => y rfl)) (fun z => ?_)
  refine lv_aload_n hx hb dL_refused_767 rfl (lv_at hl 4 rfl) ?_
  refine lv_iconst (v := 1) hx hb dL_refused_768 (by decide) ?_
  refine lv_iconst (v := 0) hx hb dL_refused_769 (by decide) ?_
  refine lv_iconst (v := 0) hx hb dL_refused_770 (by decide) ?_
  refine kL_SC (As := [.ref oF, .int 1, .int 0, .int 0]) (rest := []) (wr := []) K kX0_s (L_is_c l hfl g oF F C S h R T ln _ hO 1 0 0 (by rw [hR.1]; decide) hR.1 hR.2.1 hR.2.2) hN kX0_fr (va_cwS 4 hts (k_gS kw994 cs_L_is) rfl rfl rfl pnL_is ⟨Nat.le_of_ble_eq_true rfl, Nat.le_of_ble_eq_true rfl⟩) hE hS hA hP hD rfl hl.1 rfl rfl dL_refused_771 ⟨Nat.le_of_ble_eq_true rfl, Nat.le_of_ble_eq_true rfl⟩ (fun r u H locs hp hP hD hS => ?_)
  have hP : kp g u H := hP
  have hD : kd A u := hD
  obtain ⟨hr, hO⟩ := hp
  subst hr
  refine lv_if_eq (tgt := 781) hx hb dL_refused_774 (by decide) (fun z => absurd z (by decide)) (fun z => ?_)
  refine lv_iconst (v := 1) hx hb dL_refused_777 (by decide) ?_
  refine lv_goto (tgt := 782) hx hb dL_refused_778 (by decide) ?_
  refine lv_istore (lv' := [(5, .int 1), (4, .int 5), (3, .int 5), (1, .long (kAsk C)), (0, .ref oF)]) hx hb dL_refused_782 hl (by decide) rfl (fun ls hl => ?_)
  refine lv_iload hx hb dL_refused_784 (lv_at hl 0 rfl) ?_
  refine lv_if_eq (tgt := 863) hx hb dL_refused_786 (by decide) (fun z => absurd z (by decide)) (fun z => ?_)
  refine lv_aload_n hx hb dL_refused_789 rfl (lv_at hl 4 rfl) ?_
  refine kg_ldcws K hE (List.mem_of_getElem? (i := 33) rfl) dL_refused_790 ?_
  refine kL_SC (As := [.ref oF, .ref (g.2.2 1006)]) (rest := []) (wr := []) K kStr_s (L_reads_c l hfl g oF F C S h R T ln _ hO (g.2.2 1006) (g.2.2 1056) 1 [113] (by decide) hT) hN (kX_fr (wr := []) (X := kStr (g.2.2 1006) (g.2.2 1056) 1 [113]) kStr_s (kStr_of hE 6 (by decide)) hS hA hD) (va_cwS 2 hts (k_gS kw1460 cs_L_reads) rfl rfl rfl pnL_reads ⟨Nat.le_of_ble_eq_true rfl, Nat.le_of_ble_eq_true rfl⟩) hE hS hA hP hD rfl hl.1 rfl rfl dL_refused_793 ⟨Nat.le_of_ble_eq_true rfl, Nat.le_of_ble_eq_true rfl⟩ (fun r u H locs hp hP hD hS => ?_)
  have hP : kp g u H := hP
  have hD : kd A u := hD
  obtain ⟨hr, F1, T, hF2, hF6, hT, hO⟩ := rq_q hT hp
  subst hr
  refine lv_sipush (v := (-1001)) hx hb dL_refused_796 (by decide) ?_
  refine lv_icmp_ne (tgt := 863) hx hb dL_refused_799 (by decide) (fun z => absurd z (fun y => y rfl)) (fun z => ?_)
  refine lv_aload_n hx hb dL_refused_802 rfl (lv_at hl 4 rfl) ?_
  obtain ⟨oC, oS, oH, oR, oT, oB, rC, rS, rH, rR, rT, oQ, rQ, vH, aH, q9, n9, ml9, f9, rfl, hb1, hb2, hb3⟩ := hO
  have hO : kOb g oF F1 C S h R T ln _ := ⟨oC, oS, oH, oR, oT, oB, rC, rS, rH, rR, rT, oQ, rQ, vH, aH, q9, n9, ml9, f9, rfl, hb1, hb2, hb3⟩
  refine kR_V (As := []) (rest := []) K (X4_faultPosition_c l g oF F1 oC oS oH oR oT oB) (cwV 0 hts (k_gV kw326 ca_X4_faultPosition) rfl rfl rfl ⟨rfl, pnX4_faultPosition⟩ ⟨Nat.le_of_ble_eq_true rfl, Nat.le_of_ble_eq_true rfl⟩) hE hS (hP.pick [0] rfl) (k_recv K kFX4 hP (i := 0) (q := 0) rfl rfl) rfl hl.1 rfl rfl dL_refused_803 ⟨Nat.le_of_ble_eq_true rfl, Nat.le_of_ble_eq_true rfl⟩ ?_
  refine k_top (0) (hF6) ?_
  refine lv_if_ne (tgt := 863) hx hb dL_refused_806 (by decide) (fun z => absurd z (fun y => y rfl)) (fun z => ?_)
  refine lv_aload_n hx hb dL_refused_809 rfl (lv_at hl 4 rfl) ?_
  refine lv_iconst (v := 1) hx hb dL_refused_810 (by decide) ?_
  refine lv_iconst (v := 0) hx hb dL_refused_811 (by decide) ?_
  refine lv_iconst (v := 0) hx hb dL_refused_812 (by decide) ?_
  refine kL_SC (As := [.ref oF, .int 1, .int 0, .int 0]) (rest := []) (wr := []) K kX0_s (L_is_c l hfl g oF F1 C S h R T ln _ hO 1 0 0 (by rw [hR.1]; decide) hR.1 hR.2.1 hR.2.2) hN kX0_fr (va_cwS 4 hts (k_gS kw994 cs_L_is) rfl rfl rfl pnL_is ⟨Nat.le_of_ble_eq_true rfl, Nat.le_of_ble_eq_true rfl⟩) hE hS hA hP hD rfl hl.1 rfl rfl dL_refused_813 ⟨Nat.le_of_ble_eq_true rfl, Nat.le_of_ble_eq_true rfl⟩ (fun r u H locs hp hP hD hS => ?_)
  have hP : kp g u H := hP
  have hD : kd A u := hD
  obtain ⟨hr, hO⟩ := hp
  subst hr
  refine lv_if_eq (tgt := 863) hx hb dL_refused_816 (by decide) (fun z => absurd z (by decide)) (fun z => ?_)
  refine lv_aload_n hx hb dL_refused_819 rfl (lv_at hl 4 rfl) ?_
  refine kg_ldcws K hE (List.mem_of_getElem? (i := 34) rfl) dL_refused_820 ?_
  refine kL_SC (As := [.ref oF, .ref (g.2.2 1007)]) (rest := []) (wr := []) K kStr_s (L_reads_c l hfl g oF F1 C S h R T ln _ hO (g.2.2 1007) (g.2.2 1057) 8 [110, 49, 59, 110, 49, 59, 110, 48] (by decide) hT) hN (kX_fr (wr := []) (X := kStr (g.2.2 1007) (g.2.2 1057) 8 [110, 49, 59, 110, 49, 59, 110, 48]) kStr_s (kStr_of hE 7 (by decide)) hS hA hD) (va_cwS 2 hts (k_gS kw1460 cs_L_reads) rfl rfl rfl pnL_reads ⟨Nat.le_of_ble_eq_true rfl, Nat.le_of_ble_eq_true rfl⟩) hE hS hA hP hD rfl hl.1 rfl rfl dL_refused_823 ⟨Nat.le_of_ble_eq_true rfl, Nat.le_of_ble_eq_true rfl⟩ (fun r u H locs hp hP hD hS => ?_)
  have hP : kp g u H := hP
  have hD : kd A u := hD
  obtain ⟨hr, F2, T, R, hF22, hF26, hT, hR, hO⟩ := rq_n hT hp
  subst hr
  refine lv_sipush (v := (-1002)) hx hb dL_refused_826 (by decide) ?_
  refine lv_icmp_ne (tgt := 863) hx hb dL_refused_829 (by decide) (fun z => absurd z (fun y => y rfl)) (fun z => ?_)
  refine lv_aload_n hx hb dL_refused_832 rfl (lv_at hl 4 rfl) ?_
  obtain ⟨oC, oS, oH, oR, oT, oB, rC, rS, rH, rR, rT, oQ, rQ, vH, aH, q9, n9, ml9, f9, rfl, hb1, hb2, hb3⟩ := hO
  have hO : kOb g oF F2 C S h R T ln _ := ⟨oC, oS, oH, oR, oT, oB, rC, rS, rH, rR, rT, oQ, rQ, vH, aH, q9, n9, ml9, f9, rfl, hb1, hb2, hb3⟩
  refine kR_V (As := []) (rest := []) K (X4_faultPosition_c l g oF F2 oC oS oH oR oT oB) (cwV 0 hts (k_gV kw326 ca_X4_faultPosition) rfl rfl rfl ⟨rfl, pnX4_faultPosition⟩ ⟨Nat.le_of_ble_eq_true rfl, Nat.le_of_ble_eq_true rfl⟩) hE hS (hP.pick [0] rfl) (k_recv K kFX4 hP (i := 0) (q := 0) rfl rfl) rfl hl.1 rfl rfl dL_refused_833 ⟨Nat.le_of_ble_eq_true rfl, Nat.le_of_ble_eq_true rfl⟩ ?_
  refine k_top ((-1)) (hF26) ?_
  refine lv_iconst (v := (-1)) hx hb dL_refused_836 (by decide) ?_
  refine lv_icmp_ne (tgt := 863) hx hb dL_refused_837 (by decide) (fun z => absurd z (fun y => y rfl)) (fun z => ?_)
  refine lv_aload_n hx hb dL_refused_840 rfl (lv_at hl 4 rfl) ?_
  refine lv_iconst (v := 1) hx hb dL_refused_841 (by decide) ?_
  refine lv_iconst (v := 0) hx hb dL_refused_842 (by decide) ?_
  refine lv_iconst (v := 2) hx hb dL_refused_843 (by decide) ?_
  refine kL_SC (As := [.ref oF, .int 1, .int 0, .int 2]) (rest := []) (wr := []) K kX0_s (L_is_c l hfl g oF F2 C S h R T ln _ hO 1 0 2 (by rw [hR.1]; decide) hR.1 hR.2.1 hR.2.2) hN kX0_fr (va_cwS 4 hts (k_gS kw994 cs_L_is) rfl rfl rfl pnL_is ⟨Nat.le_of_ble_eq_true rfl, Nat.le_of_ble_eq_true rfl⟩) hE hS hA hP hD rfl hl.1 rfl rfl dL_refused_844 ⟨Nat.le_of_ble_eq_true rfl, Nat.le_of_ble_eq_true rfl⟩ (fun r u H locs hp hP hD hS => ?_)
  have hP : kp g u H := hP
  have hD : kd A u := hD
  obtain ⟨hr, hO⟩ := hp
  subst hr
  refine lv_if_eq (tgt := 863) hx hb dL_refused_847 (by decide) (fun z => absurd z (by decide)) (fun z => ?_)
  refine lv_aload_n hx hb dL_refused_850 rfl (lv_at hl 4 rfl) ?_
  refine kLl_SC (As := [.ref oF]) (rest := []) (wr := []) K kX0_s (L_asks_c l hfl g oF F2 C S h R T ln _ hO ) hN kX0_fr (va_cwS 1 hts (k_gS kw1305 cs_L_asks) rfl rfl rfl pnL_asks ⟨Nat.le_of_ble_eq_true rfl, Nat.le_of_ble_eq_true rfl⟩) hE hS hA hP hD rfl hl.1 rfl rfl dL_refused_851 ⟨Nat.le_of_ble_eq_true rfl, Nat.le_of_ble_eq_true rfl⟩ (fun r u H locs hp hP hD hS => ?_)
  have hP : kp g u H := hP
  have hD : kd A u := hD
  obtain ⟨hr, ln, hO⟩ := hp
  subst hr
  refine lv_lload_n hx hb dL_refused_854 rfl (lv_at hl 3 rfl) ?_
  refine W.lcmp hx hb dL_refused_855 ?_
  refine k_top (0) (lg_self _) ?_
  refine lv_if_ne (tgt := 863) hx hb dL_refused_856 (by decide) (fun z => absurd z (fun y => y rfl)) (fun z => ?_)
  refine lv_iconst (v := 1) hx hb dL_refused_859 (by decide) ?_
  refine lv_goto (tgt := 864) hx hb dL_refused_860 (by decide) ?_
  exact kL_zret (b := true) K hP hD hS ⟨rfl, R, T, F2, ln, hF22.trans hF2, hT, hO⟩ ⟨Nat.le_of_ble_eq_true rfl, Nat.le_of_ble_eq_true rfl⟩ dL_refused_864
