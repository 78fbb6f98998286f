theorem pnX4_save : yX4_save.cls ≠ "java/lang/invoke/MethodHandle" ∧ yX4_save.cls ≠ "java/lang/invoke/VarHandle" ∧ (parseMethodDescriptor yX4_save.desc).map (fun d => d.parameters.length) = some 0 := by decide +kernel
theorem ca_X4_save : kCal yX4_save (Cond.code yX4_save cX4_save 1 (some .int)) := ⟨k_w 3 23 rfl rfl, k_w 3 24 rfl rfl, k_w 2 1 rfl rfl, k_w 3 25 rfl rfl⟩
theorem pnL_changes : yL_changes.cls ≠ "java/lang/invoke/MethodHandle" ∧ yL_changes.cls ≠ "java/lang/invoke/VarHandle" ∧ (parseMethodDescriptor yL_changes.desc).map (fun d => d.parameters.length) = some 2 := by decide +kernel
theorem cs_L_changes : kCst yL_changes (Cond.code yL_changes cL_changes 4 (some .boolean)) := ⟨k_w 7 172 rfl rfl, k_w 2 0 rfl rfl, k_w 7 173 rfl rfl⟩
theorem pnL_isLine : yL_isLine.cls ≠ "java/lang/invoke/MethodHandle" ∧ yL_isLine.cls ≠ "java/lang/invoke/VarHandle" ∧ (parseMethodDescriptor yL_isLine.desc).map (fun d => d.parameters.length) = some 3 := by decide +kernel
theorem cs_L_isLine : kCst yL_isLine (Cond.code yL_isLine cL_isLine 4 (some .boolean)) := ⟨k_w 5 235 rfl rfl, k_w 2 0 rfl rfl, k_w 5 236 rfl rfl⟩
theorem pnL_makes : yL_makes.cls ≠ "java/lang/invoke/MethodHandle" ∧ yL_makes.cls ≠ "java/lang/invoke/VarHandle" ∧ (parseMethodDescriptor yL_makes.desc).map (fun d => d.parameters.length) = some 2 := by decide +kernel
theorem cs_L_makes : kCst yL_makes (Cond.code yL_makes cL_makes 4 (some .boolean)) := ⟨k_w 7 35 rfl rfl, k_w 2 0 rfl rfl, k_w 7 36 rfl rfl⟩
theorem pnL_refused : yL_refused.cls ≠ "java/lang/invoke/MethodHandle" ∧ yL_refused.cls ≠ "java/lang/invoke/VarHandle" ∧ (parseMethodDescriptor yL_refused.desc).map (fun d => d.parameters.length) = some 1 := by decide +kernel
theorem cs_L_refused : kCst yL_refused (Cond.code yL_refused cL_refused 6 (some .boolean)) := ⟨k_w 7 196 rfl rfl, k_w 2 0 rfl rfl, k_w 7 197 rfl rfl⟩
theorem pnL_restore : yL_restore.cls ≠ "java/lang/invoke/MethodHandle" ∧ yL_restore.cls ≠ "java/lang/invoke/VarHandle" ∧ (parseMethodDescriptor yL_restore.desc).map (fun d => d.parameters.length) = some 1 := by decide +kernel
theorem cs_L_restore : kCst yL_restore (Cond.codeWith yL_restore cL_restore 2 (some .int) [(0, 4, 5, 105)]) := ⟨k_w 5 199 rfl rfl, k_w 2 0 rfl rfl, k_w 5 200 rfl rfl⟩
theorem pnL_undo : yL_undo.cls ≠ "java/lang/invoke/MethodHandle" ∧ yL_undo.cls ≠ "java/lang/invoke/VarHandle" ∧ (parseMethodDescriptor yL_undo.desc).map (fun d => d.parameters.length) = some 1 := by decide +kernel
theorem cs_L_undo : kCst yL_undo (Cond.codeWith yL_undo cL_undo 2 (some .int) [(0, 4, 5, 105)]) := ⟨k_w 5 187 rfl rfl, k_w 2 0 rfl rfl, k_w 5 188 rfl rfl⟩
theorem kw330 : Cond.methodLink RL 298 yX4_save ∈ kW := k_w 3 22 rfl rfl
theorem kw974 : Cond.methodLink RL 294 yL_undo ∈ kW := k_w 5 186 rfl rfl
theorem kw986 : Cond.methodLink RL 296 yL_restore ∈ kW := k_w 5 198 rfl rfl
theorem kw1302 : Cond.methodLink RL 307 yL_makes ∈ kW := k_w 7 34 rfl rfl
theorem kw1439 : Cond.methodLink RL 315 yL_changes ∈ kW := k_w 7 171 rfl rfl
theorem kw1463 : Cond.methodLink RL 311 yL_refused ∈ kW := k_w 7 195 rfl rfl
theorem kw1468 : Cond.methodLink RL 319 Lib.Math.min.name ∈ kW := k_w 7 200 rfl rfl
theorem kw1470 : Cond.arrayClass .long ∈ kW := k_w 7 202 rfl rfl
set_option maxHeartbeats 1000000 in
set_option maxRecDepth 100000 in
theorem law_5 (l : Launch) (hfl : l.stackTraces = false) {p : Program} {e : Env} {s : State} {m : MethodId} {below : List Frame} {meth : Method} {c : Code} {b L : Nat} {xs : Nat → Int32} {g : kG} {A : Nat → Prop} (hAe : A = kAh s) (K : kC p c code s m #[Value.ref b] meth RL g 11 ret) (hE : kE g A s s.heap) (hN : kNc s) (hA : ∀ q, s.heap.size ≤ q → A q) (hX : kScr b L xs A s s.heap) (hL : L ≤ 260) {oF : Nat} {F : Nat → Int32} {C S : kK} {h : List kK} {R : Nat → Int32} {T : kK} {ln : kTx} {u : List va_W} {H : Heap} {locs : List Loc} {ls : Array Slot} {cells slots : Nat} (hO : kOb g oF F C S h R T ln u) (hF : F 2 ≠ 0) (hS0 : kN S = S) (hP : kp g u H) (hD : kd A u) (hS : va_S A s.heap H locs) (hl : lv_has ls 11 [(2, .ref oF), (3, .long (kAsk S)), (5, .int (S.1 0))]) (hc : cells + 1151 ≤ 1029076) (hs : slots + 13674 ≤ 6003061) : W p l e room_1 s m #[Value.ref b] below meth c H locs cells slots (lw_Z below #[Value.ref b] s) (F0 m 990 ls []) := by
  have hx := K.1.1
  have hb := K.1.2.1
  have hts := K.1.2.2.2.2
  refine lv_aload_n hx hb dL_law_990 rfl (lv_at hl 0 rfl) ?_
  refine kL_SW (As := [.ref oF]) (rest := []) (wr := []) K kX0_s (L_restore_c l hfl g oF F C S h R T ln _ hO ) hN kX0_fr (vx_cwSW 1 hts (k_gS kw986 cs_L_restore) rfl rfl rfl pnL_restore ⟨Nat.le_of_ble_eq_true rfl, Nat.le_of_ble_eq_true rfl⟩) hE hS hA hP hD rfl hl.1 rfl rfl dL_law_991 ⟨(show cells + 1 ≤ 1029076 from by omega), (show slots + 6 ≤ 6003061 from by omega)⟩ (fun r u H locs hp hP hD hS => ?_)
  have hP : kp g u H := hP
  have hD : kd A u := hD
  obtain ⟨hF0, -⟩ | ⟨-, hr, hO⟩ := hp
  case inl => exact absurd hF0 hF
  subst hr
  rw [hS0] at hO
  refine lv_iload hx hb dL_law_994 (lv_at hl 2 rfl) ?_
  refine lv_icmp_ne (tgt := 1040) hx hb dL_law_996 (by decide) (fun z => absurd z (fun y => y rfl)) (fun z => ?_)
  refine lv_aload_n hx hb dL_law_999 rfl (lv_at hl 0 rfl) ?_
  refine kL_SW (As := [.ref oF]) (rest := []) (wr := []) K kX0_s (L_undo_c l hfl g oF F S S [] R T ln _ hO ) hN kX0_fr (vx_cwSW 1 hts (k_gS kw974 cs_L_undo) rfl rfl rfl pnL_undo ⟨Nat.le_of_ble_eq_true rfl, Nat.le_of_ble_eq_true rfl⟩) hE hS hA hP hD rfl hl.1 rfl rfl dL_law_1000 ⟨(show cells + 1 + 1 ≤ 1029076 from by omega), (show slots + 6 + 6 ≤ 6003061 from by omega)⟩ (fun r u H locs hp hP hD hS => ?_)
  have hP : kp g u H := hP
  have hD : kd A u := hD
  obtain ⟨-, hr, hO⟩ | ⟨c0, t0, hh, -⟩ := hp
  case inr => exact absurd hh (by intro z; cases z)
  subst hr
  refine lv_sipush (v := (-1001)) hx hb dL_law_1003 (by decide) ?_
  refine lv_icmp_ne (tgt := 1040) hx hb dL_law_1006 (by decide) (fun z => absurd z (fun y => y rfl)) (fun z => ?_)
  refine lv_aload_n hx hb dL_law_1009 rfl (lv_at hl 0 rfl) ?_
  refine kLl_SC (As := [.ref oF]) (rest := []) (wr := []) K kX0_s (L_asks_c l hfl g oF F S S [] R T ln _ hO ) hN kX0_fr (va_cwS 1 hts (k_gS kw1305 cs_L_asks) rfl rfl rfl pnL_asks ⟨Nat.le_of_ble_eq_true rfl, Nat.le_of_ble_eq_true rfl⟩) hE hS hA hP hD rfl hl.1 rfl rfl dL_law_1010 ⟨(show cells + 1 + 1 + 574 ≤ 1029076 from by omega), (show slots + 6 + 6 + 6828 ≤ 6003061 from by omega)⟩ (fun r u H locs hp hP hD hS => ?_)
  have hP : kp g u H := hP
  have hD : kd A u := hD
  obtain ⟨hr, ln, hO⟩ := hp
  subst hr
  refine lv_lload_n hx hb dL_law_1013 rfl (lv_at hl 1 rfl) ?_
  refine W.lcmp hx hb dL_law_1014 ?_
  refine k_top (0) (lg_self _) ?_
  refine lv_if_ne (tgt := 1040) hx hb dL_law_1015 (by decide) (fun z => absurd z (fun y => y rfl)) (fun z => ?_)
  refine lv_aload_n hx hb dL_law_1018 rfl (lv_at hl 0 rfl) ?_
  refine kL_SW (As := [.ref oF]) (rest := []) (wr := []) K kX0_s (L_restore_c l hfl g oF F S S [] R T ln _ hO ) hN kX0_fr (vx_cwSW 1 hts (k_gS kw986 cs_L_restore) rfl rfl rfl pnL_restore ⟨Nat.le_of_ble_eq_true rfl, Nat.le_of_ble_eq_true rfl⟩) hE hS hA hP hD rfl hl.1 rfl rfl dL_law_1019 ⟨(show cells + 1 + 1 + 574 + 1 ≤ 1029076 from by omega), (show slots + 6 + 6 + 6828 + 6 ≤ 6003061 from by omega)⟩ (fun r u H locs hp hP hD hS => ?_)
  have hP : kp g u H := hP
  have hD : kd A u := hD
  obtain ⟨hF0, -⟩ | ⟨-, hr, hO⟩ := hp
  case inl => exact absurd hF0 hF
  subst hr
  rw [hS0] at hO
  refine lv_iload hx hb dL_law_1022 (lv_at hl 2 rfl) ?_
  refine lv_icmp_ne (tgt := 1040) hx hb dL_law_1024 (by decide) (fun z => absurd z (fun y => y rfl)) (fun z => ?_)
  refine lv_aload_n hx hb dL_law_1027 rfl (lv_at hl 0 rfl) ?_
  refine kLl_SC (As := [.ref oF]) (rest := []) (wr := []) K kX0_s (L_asks_c l hfl g oF F S S [] R T ln _ hO ) hN kX0_fr (va_cwS 1 hts (k_gS kw1305 cs_L_asks) rfl rfl rfl pnL_asks ⟨Nat.le_of_ble_eq_true rfl, Nat.le_of_ble_eq_true rfl⟩) hE hS hA hP hD rfl hl.1 rfl rfl dL_law_1028 ⟨(show cells + 1 + 1 + 574 + 1 + 574 ≤ 1029076 from by omega), (show slots + 6 + 6 + 6828 + 6 + 6828 ≤ 6003061 from by omega)⟩ (fun r u H locs hp hP hD hS => ?_)
  have hP : kp g u H := hP
  have hD : kd A u := hD
  obtain ⟨hr, ln, hO⟩ := hp
  subst hr
  refine lv_lload_n hx hb dL_law_1031 rfl (lv_at hl 1 rfl) ?_
  refine W.lcmp hx hb dL_law_1032 ?_
  refine k_top (0) (lg_self _) ?_
  refine lv_if_ne (tgt := 1040) hx hb dL_law_1033 (by decide) (fun z => absurd z (fun y => y rfl)) (fun z => ?_)
  refine lv_iconst (v := 1) hx hb dL_law_1036 (by decide) ?_
  refine lv_goto (tgt := 1041) hx hb dL_law_1037 (by decide) ?_
  exact law_end hAe K hS (by omega) (by omega)
set_option maxHeartbeats 1000000 in
set_option maxRecDepth 100000 in
theorem law_4 (l : Launch) (hfl : l.stackTraces = false) {p : Program} {e : Env} {s : State} {m : MethodId} {below : List Frame} {meth : Method} {c : Code} {b L : Nat} {xs : Nat → Int32} {g : kG} {A : Nat → Prop} (hAe : A = kAh s) (K : kC p c code s m #[Value.ref b] meth RL g 11 ret) (hE : kE g A s s.heap) (hN : kNc s) (hA : ∀ q, s.heap.size ≤ q → A q) (hX : kScr b L xs A s s.heap) (hL : L ≤ 260) {oF w done : Nat} {F : Nat → Int32} {S : kK} {R : Nat → Int32} {T : kK} {f : Nat → Int64} (hF : F 2 ≠ 0) (hS0 : kN S = S) (hdn : done ≤ 12) : ∀ (q k cells slots : Nat) (C : kK) (h : List kK) (ln : kTx) (u : List va_W) (H : Heap) (locs : List Loc) (ls : Array Slot) (_ : Unit), k + q = min 8 done + 1 → 1 ≤ k → cells + 575 * q + 1151 ≤ 1029076 → slots + 6834 * q + 13674 ≤ 6003061 → h.length + (k - 1) ≤ 8 ∧ min 8 done ≤ h.length + (k - 1) → (∀ j c, j + (k - 1) < done → h[j]? = some c → f (done - k - j) = kAsk c) → kOb g oF F C S h R T ln u → kp g ([WAW g w f] ++ u) H → kd A ([WAW g w f] ++ u) → va_S A s.heap H locs → lv_has ls 11 [(9, .int (nI k)), (2, .ref oF), (3, .long (kAsk S)), (5, .int (S.1 0)), (6, .ref w), (7, .int (nI done)), (8, .int (nI (min 8 done)))] → W p l e room_1 s m #[Value.ref b] below meth c H locs cells slots (lw_Z below #[Value.ref b] s) (F0 m 933 ls []) := by
  have hx := K.1.1
  have hb := K.1.2.1
  have hts := K.1.2.2.2.2
  intro q
  induction q with
  | zero =>
    intro k cells slots C h ln u H locs ls _ hk h1 hc hs hlen hw hO hP hD hS hl
    refine lv_iload hx hb dL_law_933 (lv_at hl 0 rfl) ?_
    refine lv_iload hx hb dL_law_935 (lv_at hl 6 rfl) ?_
    refine lv_icmp_gt (tgt := 990) hx hb dL_law_937 (by decide) (fun z => ?_) (fun z => absurd (kIn2 (by omega) (by omega) (by omega)) z)
    exact law_5 l hfl hAe K hE hN hA hX hL hO hF hS0 (kp_app.mp hP).2 (kd_app.mp hD).2.1 hS (lv_sub hl [1, 2, 3] rfl) (by omega) (by omega)
  | succ q IH =>
    intro k cells slots C h ln u H locs ls _ hk h1 hc hs hlen hw hO hP hD hS hl
    refine lv_iload hx hb dL_law_933 (lv_at hl 0 rfl) ?_
    refine lv_iload hx hb dL_law_935 (lv_at hl 6 rfl) ?_
    refine lv_icmp_gt (tgt := 990) hx hb dL_law_937 (by decide) (fun z => absurd z (Int32.not_lt.mpr ((nI_leI (by omega) (by omega)).mpr (by omega)))) (fun z => ?_)
    refine lv_aload_n hx hb dL_law_940 rfl (lv_at hl 1 rfl) ?_
    refine kL_SW (As := [.ref oF]) (rest := []) (wr := [WAW g w f]) K kX0_s (L_undo_c l hfl g oF F C S h R T ln _ hO ) hN kX0_fr (vx_cwSW 1 hts (k_gS kw974 cs_L_undo) rfl rfl rfl pnL_undo ⟨Nat.le_of_ble_eq_true rfl, Nat.le_of_ble_eq_true rfl⟩) hE hS hA hP hD rfl hl.1 rfl rfl dL_law_941 ⟨(show cells + 1 ≤ 1029076 from by omega), (show slots + 6 ≤ 6003061 from by omega)⟩ (fun r u H locs hp hP hD hS => ?_)
    obtain ⟨hh, -⟩ | ⟨c0, t0, hh, hr, hO9⟩ := hp
    case inl => rw [hh] at hlen; exact absurd hlen.2 (by simp; omega)
    subst hh
    subst hr
    have hO := hO9
    have hlen1 : t0.length + 1 + (k - 1) ≤ 8 ∧ min 8 done ≤ t0.length + 1 + (k - 1) := hlen
    refine lv_istore (lv' := [(10, .int (nI t0.length)), (9, .int (nI k)), (2, .ref oF), (3, .long (kAsk S)), (5, .int (S.1 0)), (6, .ref w), (7, .int (nI done)), (8, .int (nI (min 8 done)))]) hx hb dL_law_944 hl (by decide) rfl (fun ls hl => ?_)
    refine lv_iload hx hb dL_law_946 (lv_at hl 0 rfl) ?_
    refine lv_iload hx hb dL_law_948 (lv_at hl 7 rfl) ?_
    refine lv_iload hx hb dL_law_950 (lv_at hl 1 rfl) ?_
    refine lv_isub hx hb dL_law_952 ?_
    refine k_top (nI (min 8 done - k)) (nI_sub (by omega)) ?_
    refine lv_icmp_lt (tgt := 982) hx hb dL_law_953 (by decide) (fun z => absurd z (nI_nlt (by omega) (by omega))) (fun z => ?_)
    refine lv_iload hx hb dL_law_956 (lv_at hl 0 rfl) ?_
    refine lv_bipush (v := 8) hx hb dL_law_958 (by decide) ?_
    refine lv_iload hx hb dL_law_960 (lv_at hl 1 rfl) ?_
    refine lv_isub hx hb dL_law_962 ?_
    refine k_top (nI (8 - k)) (nI_sub (a := 8) (by omega)) ?_
    refine lv_icmp_gt (tgt := 982) hx hb dL_law_963 (by decide) (fun z => absurd z (Int32.not_lt.mpr ((nI_leI (by omega) (by omega)).mpr (by omega)))) (fun z => ?_)
    refine lv_aload_n hx hb dL_law_966 rfl (lv_at hl 2 rfl) ?_
    refine kLl_SC (As := [.ref oF]) (rest := []) (wr := [WAW g w f]) K kX0_s (L_asks_c l hfl g oF F c0 S t0 R T ln _ hO ) hN kX0_fr (va_cwS 1 hts (k_gS kw1305 cs_L_asks) rfl rfl rfl pnL_asks ⟨Nat.le_of_ble_eq_true rfl, Nat.le_of_ble_eq_true rfl⟩) hE hS hA hP hD rfl hl.1 rfl rfl dL_law_967 ⟨(show cells + 1 + 574 ≤ 1029076 from by omega), (show slots + 6 + 6828 ≤ 6003061 from by omega)⟩ (fun r u H locs hp hP hD hS => ?_)
    obtain ⟨hr, ln, hO⟩ := hp
    subst hr
    refine lv_aload hx hb dL_law_970 (lv_at hl 5 rfl) ?_
    refine lv_iload hx hb dL_law_972 (lv_at hl 6 rfl) ?_
    refine lv_iload hx hb dL_law_974 (lv_at hl 1 rfl) ?_
    refine lv_isub hx hb dL_law_976 ?_
    refine k_top (nI (done - k)) (nI_sub (by omega)) ?_
    refine va_lald hx hb K.2.1.1 hP 0 3 (f := f) rfl rfl (vp_in_nI (by omega) (by omega)) dL_law_977 ?_
    rw [nI_clamp (by omega), show f (done - k) = kAsk c0 from hw 0 c0 (by omega) rfl]
    refine W.lcmp hx hb dL_law_978 ?_
    refine k_top (0) (lg_self _) ?_
    refine lv_if_eq (tgt := 984) hx hb dL_law_979 (by decide) (fun z => ?_) (fun z => absurd rfl z)
    refine lv_iinc (v := nI (k + 1)) (lv' := [(9, .int (nI (k + 1))), (10, .int (nI t0.length)), (2, .ref oF), (3, .long (kAsk S)), (5, .int (S.1 0)), (6, .ref w), (7, .int (nI done)), (8, .int (nI (min 8 done)))]) hx hb dL_law_984 hl (k := 1) rfl (nI_1 k) (by decide) rfl (fun ls hl => ?_)
    refine lv_goto (tgt := 933) hx hb dL_law_987 (by decide) ?_
    exact IH (k + 1) (cells + 1 + 574) (slots + 6 + 6828) _ _ _ _ _ _ _ () (by omega) (by omega) (by omega) (by omega) ⟨by omega, by omega⟩ (fun j c hj hc => by have := hw (j + 1) c (by omega) hc; rw [← this]; congr 1; omega) hO hP hD hS (lv_sub hl [0, 2, 3, 4, 5, 6, 7] rfl)
set_option maxHeartbeats 1000000 in
set_option maxRecDepth 100000 in
theorem law_3 (l : Launch) (hfl : l.stackTraces = false) {p : Program} {e : Env} {s : State} {m : MethodId} {below : List Frame} {meth : Method} {c : Code} {b L : Nat} {xs : Nat → Int32} {g : kG} {A : Nat → Prop} (hAe : A = kAh s) (K : kC p c code s m #[Value.ref b] meth RL g 11 ret) (hE : kE g A s s.heap) (hN : kNc s) (hA : ∀ q, s.heap.size ≤ q → A q) (hX : kScr b L xs A s s.heap) (hL : L ≤ 260) {oF w : Nat} {S : kK} (hS0 : kN S = S) : ∀ (q i done cells slots : Nat) (f : Nat → Int64) (F : Nat → Int32) (C : kK) (h : List kK) (R : Nat → Int32) (T : kK) (ln : kTx) (u : List va_W) (H : Heap) (locs : List Loc) (ls : Array Slot), i + q = 12 → done ≤ i → cells + 1223 * q + 5751 ≤ 1029076 → slots + 14364 * q + 68346 ≤ 6003061 → F 2 ≠ 0 → T.1 1 = 0 → kRg (3000 + 6200 * i) C → kWas done h f → kOb g oF F C S h R T ln u → kp g ([WAW g w f] ++ u) H → kd A ([WAW g w f] ++ u) → va_S A s.heap H locs → lv_has ls 11 [(8, .int (nI i)), (0, .ref b), (2, .ref oF), (3, .long (kAsk S)), (5, .int (S.1 0)), (6, .ref w), (7, .int (nI done))] → W p l e room_1 s m #[Value.ref b] below meth c H locs cells slots (lw_Z below #[Value.ref b] s) (F0 m 854 ls []) := by
  have hx := K.1.1
  have hb := K.1.2.1
  have hts := K.1.2.2.2.2
  intro q
  induction q with
  | zero =>
    intro i done cells slots f F C h R T ln u H locs ls hi hdn hc hs hF hT hC hw hO hP hD hS hl
    obtain rfl : i = 12 := by omega
    refine lv_iload hx hb dL_law_854 (lv_at hl 0 rfl) ?_
    refine lv_bipush (v := 12) hx hb dL_law_856 (by decide) ?_
    refine lv_icmp_ge (tgt := 921) hx hb dL_law_858 (by decide) (fun z => ?_) (fun z => absurd (Int32.le_refl 12) z)
    refine lv_bipush (v := 8) hx hb dL_law_921 (by decide) ?_
    refine lv_iload hx hb dL_law_923 (lv_at hl 6 rfl) ?_
    refine va_mmin hx hb (by rw [K.1.2.2.1, hl.1]) K.1.2.2.2.1 (hts _ (kw1468)) (hts _ kw551) (hts _ kw84) (hts _ kw552) (by first | exact Nat.le_of_ble_eq_true rfl | exact (show cells ≤ 1029076 from by omega) | exact (show slots ≤ 6003061 from by omega)) (by first | exact Nat.le_of_ble_eq_true rfl | exact (show cells ≤ 1029076 from by omega) | exact (show slots ≤ 6003061 from by omega)) (by first | exact Nat.le_of_ble_eq_true rfl | exact (show cells ≤ 1029076 from by omega) | exact (show slots ≤ 6003061 from by omega)) (by first | exact Nat.le_of_ble_eq_true rfl | exact (show cells ≤ 1029076 from by omega) | exact (show slots ≤ 6003061 from by omega)) dL_law_925 ?_
    refine k_top (nI (min 8 done)) (kMin done (by omega)) ?_
    refine lv_istore (lv' := [(8, .int (nI (min 8 done))), (0, .ref b), (2, .ref oF), (3, .long (kAsk S)), (5, .int (S.1 0)), (6, .ref w), (7, .int (nI done))]) hx hb dL_law_928 hl (by decide) rfl (fun ls hl => ?_)
    refine lv_iconst (v := 1) hx hb dL_law_930 (by decide) ?_
    refine lv_istore (lv' := [(9, .int 1), (8, .int (nI (min 8 done))), (0, .ref b), (2, .ref oF), (3, .long (kAsk S)), (5, .int (S.1 0)), (6, .ref w), (7, .int (nI done))]) hx hb dL_law_931 hl (by decide) rfl (fun ls hl => ?_)
    exact law_4 l hfl hAe K hE hN hA hX hL hF hS0 (by omega) (min 8 done) 1 (cells) (slots) _ _ _ _ _ _ _ () (by omega) (by omega) (by omega) (by omega) ⟨hw.1, hw.2.1⟩ (fun j c hj hc => hw.2.2 j c (by omega) hc) hO hP hD hS (lv_sub hl [0, 3, 4, 5, 6, 7, 1] rfl)
  | succ q IH =>
    intro i done cells slots f F C h R T ln u H locs ls hi hdn hc hs hF hT hC hw hO hP hD hS hl
    have hCN := (kOb_N hO).1
    refine lv_iload hx hb dL_law_854 (lv_at hl 0 rfl) ?_
    refine lv_bipush (v := 12) hx hb dL_law_856 (by decide) ?_
    refine lv_icmp_ge (tgt := 921) hx hb dL_law_858 (by decide) (fun z => absurd z (nI_ge (a := i) (b := 12) (by omega) (by omega))) (fun z => ?_)
    refine lv_aload_n hx hb dL_law_861 rfl (lv_at hl 2 rfl) ?_
    refine kLl_SC (As := [.ref oF]) (rest := []) (wr := [WAW g w f]) K kX0_s (L_asks_c l hfl g oF F C S h R T ln _ hO ) hN kX0_fr (va_cwS 1 hts (k_gS kw1305 cs_L_asks) rfl rfl rfl pnL_asks ⟨Nat.le_of_ble_eq_true rfl, Nat.le_of_ble_eq_true rfl⟩) hE hS hA hP hD rfl hl.1 rfl rfl dL_law_862 ⟨(show cells + 574 ≤ 1029076 from by omega), (show slots + 6828 ≤ 6003061 from by omega)⟩ (fun r u H locs hp hP hD hS => ?_)
    obtain ⟨hr, ln, hO⟩ := hp
    subst hr
    refine lv_lstore (lv' := [(9, .long (kAsk C)), (8, .int (nI i)), (0, .ref b), (2, .ref oF), (3, .long (kAsk S)), (5, .int (S.1 0)), (6, .ref w), (7, .int (nI done))]) hx hb dL_law_865 hl (by decide) rfl (fun ls hl => ?_)
    refine lv_aload_n hx hb dL_law_867 rfl (lv_at hl 3 rfl) ?_
    refine lv_aload_n hx hb dL_law_868 rfl (lv_at hl 2 rfl) ?_
    refine lv_bipush (v := 20) hx hb dL_law_869 (by decide) ?_
    refine lv_iload hx hb dL_law_871 (lv_at hl 1 rfl) ?_
    refine lv_iadd hx hb dL_law_873 ?_
    refine k_top (nI (20 + i)) (nI_add 20 i) ?_
    refine kRX_S (As := [.ref b, .int (nI (20 + i))]) (rest := [.ref oF]) K kScr_s hX (L_at_c l g (b := b) (L := L) (xs := xs) hL (20 + i) (by omega)) (va_cwS 2 hts (k_gS kw341 cs_L_at) rfl rfl rfl pnL_at ⟨Nat.le_of_ble_eq_true rfl, Nat.le_of_ble_eq_true rfl⟩) hE hS (hP.pick [] rfl) rfl hl.1 rfl rfl dL_law_874 ⟨(show cells + 574 + 0 ≤ 1029076 from by omega), (show slots + 6828 + 0 ≤ 6003061 from by omega)⟩ ?_
    refine lv_iload hx hb dL_law_877 (lv_at hl 1 rfl) ?_
    refine lv_sipush (v := 977) hx hb dL_law_879 (by decide) ?_
    refine lv_imul hx hb dL_law_882 ?_
    refine lv_ixor hx hb dL_law_883 ?_
    refine kL_SC (As := [.ref oF, .int ((kAt L xs (20 + i)) ^^^ ((nI i) * 977))]) (rest := []) (wr := [WAW g w f]) K kX0_s (L_changes_c l hfl g oF F C S h R T ln _ hO (((kAt L xs (20 + i)) ^^^ ((nI i) * 977))) (3000 + 6200 * i) (by omega) hT hC) hN kX0_fr (va_cwS 2 hts (k_gS kw1439 cs_L_changes) rfl rfl rfl pnL_changes ⟨Nat.le_of_ble_eq_true rfl, Nat.le_of_ble_eq_true rfl⟩) hE hS hA hP hD rfl hl.1 rfl rfl dL_law_884 ⟨(show cells + 574 + 75 ≤ 1029076 from by omega), (show slots + 6828 + 708 ≤ 6003061 from by omega)⟩ (fun r u H locs hp hP hD hS => ?_)
    obtain ⟨bo, rfl, E, h1, R, T, F1, hT, hF1, hcs, hO⟩ := hp
    have hF : F1 2 ≠ 0 := by rw [hF1]; exact hF
    rcases hcs with ⟨rfl, hEC, hhh⟩ | ⟨rfl, hC2, hhh⟩
    · rw [hEC, hhh] at hO
      refine lv_if_eq (tgt := 903) hx hb dL_law_887 (by decide) (fun z => ?_) (fun z => absurd rfl z)
      refine lv_aload_n hx hb dL_law_903 rfl (lv_at hl 3 rfl) ?_
      refine kLl_SC (As := [.ref oF]) (rest := []) (wr := [WAW g w f]) K kX0_s (L_asks_c l hfl g oF F1 C S h R T ln _ hO ) hN kX0_fr (va_cwS 1 hts (k_gS kw1305 cs_L_asks) rfl rfl rfl pnL_asks ⟨Nat.le_of_ble_eq_true rfl, Nat.le_of_ble_eq_true rfl⟩) hE hS hA hP hD rfl hl.1 rfl rfl dL_law_904 ⟨(show cells + 574 + 75 + 574 ≤ 1029076 from by omega), (show slots + 6828 + 708 + 6828 ≤ 6003061 from by omega)⟩ (fun r u H locs hp hP hD hS => ?_)
      obtain ⟨hr, ln, hO⟩ := hp
      subst hr
      refine lv_lload hx hb dL_law_907 (lv_at hl 0 rfl) ?_
      refine W.lcmp hx hb dL_law_909 ?_
      refine k_top (0) (lg_self _) ?_
      refine lv_if_eq (tgt := 915) hx hb dL_law_910 (by decide) (fun z => ?_) (fun z => absurd rfl z)
      refine lv_iinc (v := nI (i + 1)) (lv' := [(8, .int (nI (i + 1))), (9, .long (kAsk C)), (0, .ref b), (2, .ref oF), (3, .long (kAsk S)), (5, .int (S.1 0)), (6, .ref w), (7, .int (nI done))]) hx hb dL_law_915 hl (k := 1) rfl (nI_1 i) (by decide) rfl (fun ls hl => ?_)
      refine lv_goto (tgt := 854) hx hb dL_law_918 (by decide) ?_
      exact IH (i + 1) done (cells + 574 + 75 + 574) (slots + 6828 + 708 + 6828) f _ _ _ _ _ _ _ _ _ _ (by omega) (by omega) (by omega) (by omega) hF hT (hC.mono (by omega)) hw hO hP hD hS (lv_sub hl [0, 2, 3, 4, 5, 6, 7] rfl)
    · rw [hhh] at hO
      refine lv_if_eq (tgt := 903) hx hb dL_law_887 (by decide) (fun z => absurd z (by decide)) (fun z => ?_)
      refine lv_aload hx hb dL_law_890 (lv_at hl 6 rfl) ?_
      refine lv_iload hx hb dL_law_892 (lv_at hl 7 rfl) ?_
      refine lv_iinc (v := nI (done + 1)) (lv' := [(7, .int (nI (done + 1))), (9, .long (kAsk C)), (8, .int (nI i)), (0, .ref b), (2, .ref oF), (3, .long (kAsk S)), (5, .int (S.1 0)), (6, .ref w)]) hx hb dL_law_894 hl (k := 7) rfl (nI_1 done) (by decide) rfl (fun ls hl => ?_)
      refine lv_lload hx hb dL_law_897 (lv_at hl 1 rfl) ?_
      refine va_last hx hb K.2.1.1 hP hD hS 0 3 (f := f) rfl rfl (vp_in_nI (by omega) (by omega)) dL_law_899 (fun H locs hP hD hS => ?_)
      rw [nI_clamp (by omega)] at hP hD
      have hP : kp g ([WAW g w (vp_updL f done (kAsk C))] ++ u) H := hP
      have hD : kd A ([WAW g w (vp_updL f done (kAsk C))] ++ u) := hD
      refine lv_goto (tgt := 915) hx hb dL_law_900 (by decide) ?_
      refine lv_iinc (v := nI (i + 1)) (lv' := [(8, .int (nI (i + 1))), (7, .int (nI (done + 1))), (9, .long (kAsk C)), (0, .ref b), (2, .ref oF), (3, .long (kAsk S)), (5, .int (S.1 0)), (6, .ref w)]) hx hb dL_law_915 hl (k := 2) rfl (nI_1 i) (by decide) rfl (fun ls hl => ?_)
      refine lv_goto (tgt := 854) hx hb dL_law_918 (by decide) ?_
      exact IH (i + 1) (done + 1) (cells + 574 + 75) (slots + 6828 + 708) (vp_updL f done (kAsk C)) _ _ _ _ _ _ _ _ _ _ (by omega) (by omega) (by omega) (by omega) hF hT (hC2.mono (by omega)) (kWas_push hCN hw) hO hP hD hS (lv_sub hl [0, 3, 4, 5, 6, 7, 1] rfl)
set_option maxHeartbeats 1000000 in
set_option maxRecDepth 100000 in
theorem law_2 (l : Launch) (hfl : l.stackTraces = false) {p : Program} {e : Env} {s : State} {m : MethodId} {below : List Frame} {meth : Method} {c : Code} {b L : Nat} {xs : Nat → Int32} {g : kG} {A : Nat → Prop} (hAe : A = kAh s) (K : kC p c code s m #[Value.ref b] meth RL g 11 ret) (hE : kE g A s s.heap) (hN : kNc s) (hA : ∀ q, s.heap.size ≤ q → A q) (hX : kScr b L xs A s s.heap) (hL : L ≤ 260) {oF : Nat} {F : Nat → Int32} {C S : kK} {h : List kK} {R : Nat → Int32} {T : kK} {ln : kTx} {u : List va_W} {H : Heap} {locs : List Loc} {ls : Array Slot} {cells slots : Nat} (hO : kOb g oF F C S h R T ln u) (hT : T.1 1 = 0) (hC : kRg 3000 C) (hP : kp g u H) (hD : kd A u) (hS : va_S A s.heap H locs) (hl : lv_has ls 11 [(0, .ref b), (2, .ref oF), (3, .long (kAsk C))]) (hc : cells + 21003 ≤ 1029076) (hs : slots + 247561 ≤ 6003061) : W p l e room_1 s m #[Value.ref b] below meth c H locs cells slots (lw_Z below #[Value.ref b] s) (F0 m 815 ls []) := by
  have hx := K.1.1
  have hb := K.1.2.1
  have hts := K.1.2.2.2.2
  refine lv_aload_n hx hb dL_law_815 rfl (lv_at hl 1 rfl) ?_
  obtain ⟨oC, oS, oH, oR, oT, oB, rC, rS, rH, rR, rT, oQ, rQ, vH, aH, q9, n9, ml9, f9, rfl, hb1, hb2, hb3⟩ := hO
  refine kM_V (As := []) (rest := []) (wr := [X2W g oH rH vH oQ rQ aH, X3W g oR rR R kA0, X1W g oT rT T.1 T.2, JOW oB q9 ml9 (nI ln.2), JAW g q9 n9 f9]) K (X4_save_c l g oF F oH oR oT oB oC rC C.1 C.2 oS rS S.1 S.2) (cwV 0 hts (k_gV kw330 ca_X4_save) rfl rfl rfl ⟨rfl, pnX4_save⟩ ⟨Nat.le_of_ble_eq_true rfl, Nat.le_of_ble_eq_true rfl⟩) hE hS hA hP hD [0, 1, 2] [3, 4, 5, 6, 7] rfl rfl ⟨rfl, rfl, by decide⟩ (k_recv K kFX4 hP (i := 0) (q := 0) rfl rfl) rfl hl.1 rfl rfl dL_law_816 ⟨(show cells + 0 ≤ 1029076 from by omega), (show slots + 0 ≤ 6003061 from by omega)⟩ (fun r u H locs hp hP hD hS => ?_)
  obtain ⟨hr, rfl⟩ := hp
  have hO := kOb_save (g := g) (oF := oF) (F := F) (C := C) (S := S) (h := h) (R := R) (T := T) (ln := ln) (oC := oC) (oS := oS) (oH := oH) (oR := oR) (oT := oT) (oB := oB) (rC := rC) (rS := rS) (rH := rH) (rR := rR) (rT := rT) (oQ := oQ) (rQ := rQ) (vH := vH) (aH := aH) (q := q9) (ml := ml9) hb1 hb2 hb3
  have hP : kp g [X4W g oF (kFr oC oS oH oR oT oB) (X4_save_f F C.1 C.2 S.1 S.2).2.1, X0W g oC rC C.1 C.2, X0W g oS rS (X4_save_f F C.1 C.2 S.1 S.2).2.2.1 (X4_save_f F C.1 C.2 S.1 S.2).2.2.2, X2W g oH rH vH oQ rQ aH, X3W g oR rR R kA0, X1W g oT rT T.1 T.2, JOW oB q9 ml9 (nI ln.2), JAW g q9 n9 f9] H := hP.pick [5, 6, 7, 0, 1, 2, 3, 4] rfl
  have hD : kd A [X4W g oF (kFr oC oS oH oR oT oB) (X4_save_f F C.1 C.2 S.1 S.2).2.1, X0W g oC rC C.1 C.2, X0W g oS rS (X4_save_f F C.1 C.2 S.1 S.2).2.2.1 (X4_save_f F C.1 C.2 S.1 S.2).2.2.2, X2W g oH rH vH oQ rQ aH, X3W g oR rR R kA0, X1W g oT rT T.1 T.2, JOW oB q9 ml9 (nI ln.2), JAW g q9 n9 f9] := hD.pick [5, 6, 7, 0, 1, 2, 3, 4] rfl rfl
  generalize hu : [X4W g oF (kFr oC oS oH oR oT oB) (X4_save_f F C.1 C.2 S.1 S.2).2.1, X0W g oC rC C.1 C.2, X0W g oS rS (X4_save_f F C.1 C.2 S.1 S.2).2.2.1 (X4_save_f F C.1 C.2 S.1 S.2).2.2.2, X2W g oH rH vH oQ rQ aH, X3W g oR rR R kA0, X1W g oT rT T.1 T.2, JOW oB q9 ml9 (nI ln.2), JAW g q9 n9 f9] = u at hO hP hD
  clear hu
  have hr : r = C.1 0 := hr
  subst hr
  refine lv_istore (lv' := [(5, .int (C.1 0)), (0, .ref b), (2, .ref oF), (3, .long (kAsk C))]) hx hb dL_law_819 hl (by decide) rfl (fun ls hl => ?_)
  refine lv_iload hx hb dL_law_821 (lv_at hl 0 rfl) ?_
  refine lv_aload_n hx hb dL_law_823 rfl (lv_at hl 2 rfl) ?_
  refine lv_iconst (v := 0) hx hb dL_law_824 (by decide) ?_
  refine kL_SW (As := [.ref oF, .int 0]) (rest := [.int (C.1 0)]) (wr := []) K kX0_s (L_account_c l hfl g oF (upd F 2 1) C C h R T ln _ hO 0) hN kX0_fr (vx_cwSW 2 hts (k_gS kw961 cs_L_account) rfl rfl rfl pnL_account ⟨Nat.le_of_ble_eq_true rfl, Nat.le_of_ble_eq_true rfl⟩) hE hS hA hP hD rfl hl.1 rfl rfl dL_law_825 ⟨(show cells + 1 ≤ 1029076 from by omega), (show slots + 6 ≤ 6003061 from by omega)⟩ (fun r u H locs hp hP hD hS => ?_)
  have hP : kp g u H := hP
  have hD : kd A u := hD
  obtain ⟨hr, hO⟩ := hp
  have hr : r = C.1 0 := hr
  subst hr
  refine lv_icmp_ne (tgt := 840) hx hb dL_law_828 (by decide) (fun z => absurd z (fun y => y rfl)) (fun z => ?_)
  refine lv_aload_n hx hb dL_law_831 rfl (lv_at hl 2 rfl) ?_
  refine kLl_SC (As := [.ref oF]) (rest := []) (wr := []) K kX0_s (L_asks_c l hfl g oF (upd F 2 1) C C h R T ln _ hO ) hN kX0_fr (va_cwS 1 hts (k_gS kw1305 cs_L_asks) rfl rfl rfl pnL_asks ⟨Nat.le_of_ble_eq_true rfl, Nat.le_of_ble_eq_true rfl⟩) hE hS hA hP hD rfl hl.1 rfl rfl dL_law_832 ⟨(show cells + 1 + 574 ≤ 1029076 from by omega), (show slots + 6 + 6828 ≤ 6003061 from by omega)⟩ (fun r u H locs hp hP hD hS => ?_)
  have hP : kp g u H := hP
  have hD : kd A u := hD
  obtain ⟨hr, ln, hO⟩ := hp
  subst hr
  refine lv_lload_n hx hb dL_law_835 rfl (lv_at hl 3 rfl) ?_
  refine W.lcmp hx hb dL_law_836 ?_
  refine k_top (0) (lg_self _) ?_
  refine lv_if_eq (tgt := 842) hx hb dL_law_837 (by decide) (fun z => ?_) (fun z => absurd rfl z)
  refine lv_bipush (v := 13) hx hb dL_law_842 (by decide) ?_
  refine kg_newA K (at' := .long) (ty := .long) (t := 3) (N' := 13) (a0 := (13, .inr (.inl (fun _ => 0)))) kw1470 rfl (fun C h => by cases h) rfl hP hD hS hA (fun cA => rfl) (by decide) rfl (by decide) (show cells + 1 + 574 + 1 ≤ 1029076 from by omega) (show slots + 6 + 6828 + 13 ≤ 6003061 from by omega) dL_law_844 (fun w H hP hD hS => ?_)
  have hP := kp_sw hP
  have hD := kd_sw hD
  have hP : kp g ([WAW g w (fun _ => 0)] ++ u) H := hP
  have hD : kd A ([WAW g w (fun _ => 0)] ++ u) := hD
  refine lv_astore (lv' := [(6, .ref w), (5, .int (C.1 0)), (0, .ref b), (2, .ref oF), (3, .long (kAsk C))]) hx hb dL_law_846 hl (by decide) rfl (fun ls hl => ?_)
  refine lv_iconst (v := 0) hx hb dL_law_848 (by decide) ?_
  refine lv_istore (lv' := [(7, .int 0), (6, .ref w), (5, .int (C.1 0)), (0, .ref b), (2, .ref oF), (3, .long (kAsk C))]) hx hb dL_law_849 hl (by decide) rfl (fun ls hl => ?_)
  refine lv_iconst (v := 0) hx hb dL_law_851 (by decide) ?_
  refine lv_istore (lv' := [(8, .int 0), (7, .int 0), (6, .ref w), (5, .int (C.1 0)), (0, .ref b), (2, .ref oF), (3, .long (kAsk C))]) hx hb dL_law_852 hl (by decide) rfl (fun ls hl => ?_)
  exact law_3 l hfl hAe K hE hN hA hX hL (kOb_N hO).1 12 0 0 (cells + 1 + 574 + 1) (slots + 6 + 6828 + 13) (fun _ => 0) (upd F 2 1) C h R T ln u H _ _ rfl (by omega) (by omega) (by omega) (by show (1 : Int32) ≠ 0; decide) hT hC (kWas_0 (kOb_N hO).2.1) hO hP hD hS (lv_sub hl [0, 4, 5, 6, 3, 2, 1] rfl)
set_option maxHeartbeats 1000000 in
set_option maxRecDepth 100000 in
theorem law_1 (l : Launch) (hfl : l.stackTraces = false) {p : Program} {e : Env} {s : State} {m : MethodId} {below : List Frame} {meth : Method} {c : Code} {b L : Nat} {xs : Nat → Int32} {g : kG} {A : Nat → Prop} (hAe : A = kAh s) (K : kC p c code s m #[Value.ref b] meth RL g 11 ret) (hE : kE g A s s.heap) (hN : kNc s) (hA : ∀ q, s.heap.size ≤ q → A q) (hX : kScr b L xs A s s.heap) (hL : L ≤ 260) {oF : Nat} {F : Nat → Int32} {C S : kK} {h : List kK} {R : Nat → Int32} {T : kK} {ln : kTx} {u : List va_W} {H : Heap} {locs : List Loc} {ls : Array Slot} {cells slots : Nat} (hO : kOb g oF F C S h R T ln u) (hT : T.1 1 = 0) (hM0 : kMk 0 0 0 C) (hP : kp g u H) (hD : kd A u) (hS : va_S A s.heap H locs) (hl : lv_has ls 11 [(0, .ref b), (2, .ref oF)]) (hc : cells + 23572 ≤ 1029076) (hs : slots + 277075 ≤ 6003061) : W p l e room_1 s m #[Value.ref b] below meth c H locs cells slots (lw_Z below #[Value.ref b] s) (F0 m 728 ls []) := by
  have hx := K.1.1
  have hb := K.1.2.1
  have hts := K.1.2.2.2.2
  refine lv_aload_n hx hb dL_law_728 rfl (lv_at hl 1 rfl) ?_
  refine lv_aload_n hx hb dL_law_729 rfl (lv_at hl 0 rfl) ?_
  refine kL_SC (As := [.ref oF, .ref b]) (rest := []) (wr := []) K kScr_s (L_makes_c l hfl g oF F C S h R T ln u hO b L xs hL hM0) hN (kX_fr (wr := []) kScr_s hX hS hA hD) (va_cwS 2 hts (k_gS kw1302 cs_L_makes) rfl rfl rfl pnL_makes ⟨Nat.le_of_ble_eq_true rfl, Nat.le_of_ble_eq_true rfl⟩) hE hS hA hP hD rfl hl.1 rfl rfl dL_law_730 ⟨(show cells + 17 ≤ 1029076 from by omega), (show slots + 102 ≤ 6003061 from by omega)⟩ (fun r u H locs hp hP hD hS => ?_)
  have hP : kp g u H := hP
  have hD : kd A u := hD
  obtain ⟨hr, C, h, R, hM, hO⟩ := hp
  subst hr
  refine lv_if_ne (tgt := 738) hx hb dL_law_733 (by decide) (fun z => ?_) (fun z => absurd z (by decide))
  refine lv_iconst (v := 0) hx hb dL_law_738 (by decide) ?_
  refine lv_istore_n (lv' := [(3, .int 0), (0, .ref b), (2, .ref oF)]) hx hb dL_law_739 rfl hl (by decide) rfl (fun ls hl => ?_)
  refine lv_iload_n hx hb dL_law_740 rfl (lv_at hl 0 rfl) ?_
  refine lv_iconst (v := 3) hx hb dL_law_741 (by decide) ?_
  refine lv_icmp_ge (tgt := 772) hx hb dL_law_742 (by decide) (fun z => absurd z (by decide)) (fun z => ?_)
  refine lv_aload_n hx hb dL_law_745 rfl (lv_at hl 2 rfl) ?_
  refine lv_aload_n hx hb dL_law_746 rfl (lv_at hl 1 rfl) ?_
  refine lv_bipush (v := 24) hx hb dL_law_747 (by decide) ?_
  refine lv_iload_n hx hb dL_law_749 rfl (lv_at hl 0 rfl) ?_
  refine lv_iadd hx hb dL_law_750 ?_
  refine k_top (nI 24) (by decide) ?_
  refine kRX_S (As := [.ref b, .int (nI 24)]) (rest := [.ref oF]) K kScr_s hX (L_at_c l g (b := b) (L := L) (xs := xs) hL (24) (by omega)) (va_cwS 2 hts (k_gS kw341 cs_L_at) rfl rfl rfl pnL_at ⟨Nat.le_of_ble_eq_true rfl, Nat.le_of_ble_eq_true rfl⟩) hE hS (hP.pick [] rfl) rfl hl.1 rfl rfl dL_law_751 ⟨(show cells + 17 + 0 ≤ 1029076 from by omega), (show slots + 102 + 0 ≤ 6003061 from by omega)⟩ ?_
  refine lv_iconst (v := 5) hx hb dL_law_754 (by decide) ?_
  refine kR_S (As := [.int (kAt L xs (24)), .int 5]) (rest := [.ref oF]) K (L_some_c l g (kAt L xs (24)) 5 (by decide)) (va_cwS 2 hts (k_gS kw344 cs_L_some) rfl rfl rfl pnL_some ⟨Nat.le_of_ble_eq_true rfl, Nat.le_of_ble_eq_true rfl⟩) hE hS (hP.pick [] rfl) rfl hl.1 rfl rfl dL_law_755 ⟨(show cells + 17 + 0 ≤ 1029076 from by omega), (show slots + 102 + 0 ≤ 6003061 from by omega)⟩ ?_
  obtain ⟨t0, ht0, et0⟩ := kSome_i (v := (kAt L xs (24))) (n := 5) (m := 5) rfl (by omega) (by omega)
  refine k_top (nI t0) (et0) ?_
  refine kL_SW (As := [.ref oF, .int (nI t0)]) (rest := []) (wr := []) K kX0_s (L_weigh_c l hfl g oF F C S h R T ln _ hO (nI t0)) hN kX0_fr (vx_cwSW 2 hts (k_gS kw663 cs_L_weigh) rfl rfl rfl pnL_weigh ⟨Nat.le_of_ble_eq_true rfl, Nat.le_of_ble_eq_true rfl⟩) hE hS hA hP hD rfl hl.1 rfl rfl dL_law_758 ⟨(show cells + 17 + 1 ≤ 1029076 from by omega), (show slots + 102 + 6 ≤ 6003061 from by omega)⟩ (fun r u H locs hp hP hD hS => ?_)
  have hP : kp g u H := hP
  have hD : kd A u := hD
  obtain ⟨hr, C, h, R, hM, hO⟩ := mk_weigh (by omega) (by omega) hM hp
  refine lv_if_ge (tgt := 766) hx hb dL_law_761 (by decide) (fun z => ?_) (fun z => absurd (Int32.not_lt.mp hr) z)
  refine lv_iinc (v := (nI 1)) (lv' := [(3, .int (nI 1)), (0, .ref b), (2, .ref oF)]) hx hb dL_law_766 hl (k := 0) rfl (by decide) (by decide) rfl (fun ls hl => ?_)
  refine lv_goto (tgt := 740) hx hb dL_law_769 (by decide) ?_
  refine lv_iload_n hx hb dL_law_740 rfl (lv_at hl 0 rfl) ?_
  refine lv_iconst (v := 3) hx hb dL_law_741 (by decide) ?_
  refine lv_icmp_ge (tgt := 772) hx hb dL_law_742 (by decide) (fun z => absurd z (by decide)) (fun z => ?_)
  refine lv_aload_n hx hb dL_law_745 rfl (lv_at hl 2 rfl) ?_
  refine lv_aload_n hx hb dL_law_746 rfl (lv_at hl 1 rfl) ?_
  refine lv_bipush (v := 24) hx hb dL_law_747 (by decide) ?_
  refine lv_iload_n hx hb dL_law_749 rfl (lv_at hl 0 rfl) ?_
  refine lv_iadd hx hb dL_law_750 ?_
  refine k_top (nI 25) (by decide) ?_
  refine kRX_S (As := [.ref b, .int (nI 25)]) (rest := [.ref oF]) K kScr_s hX (L_at_c l g (b := b) (L := L) (xs := xs) hL (25) (by omega)) (va_cwS 2 hts (k_gS kw341 cs_L_at) rfl rfl rfl pnL_at ⟨Nat.le_of_ble_eq_true rfl, Nat.le_of_ble_eq_true rfl⟩) hE hS (hP.pick [] rfl) rfl hl.1 rfl rfl dL_law_751 ⟨(show cells + 17 + 1 + 0 ≤ 1029076 from by omega), (show slots + 102 + 6 + 0 ≤ 6003061 from by omega)⟩ ?_
  refine lv_iconst (v := 5) hx hb dL_law_754 (by decide) ?_
  refine kR_S (As := [.int (kAt L xs (25)), .int 5]) (rest := [.ref oF]) K (L_some_c l g (kAt L xs (25)) 5 (by decide)) (va_cwS 2 hts (k_gS kw344 cs_L_some) rfl rfl rfl pnL_some ⟨Nat.le_of_ble_eq_true rfl, Nat.le_of_ble_eq_true rfl⟩) hE hS (hP.pick [] rfl) rfl hl.1 rfl rfl dL_law_755 ⟨(show cells + 17 + 1 + 0 ≤ 1029076 from by omega), (show slots + 102 + 6 + 0 ≤ 6003061 from by omega)⟩ ?_
  obtain ⟨t1, ht1, et1⟩ := kSome_i (v := (kAt L xs (25))) (n := 5) (m := 5) rfl (by omega) (by omega)
  refine k_top (nI t1) (et1) ?_
  refine kL_SW (As := [.ref oF, .int (nI t1)]) (rest := []) (wr := []) K kX0_s (L_weigh_c l hfl g oF F C S h R T ln _ hO (nI t1)) hN kX0_fr (vx_cwSW 2 hts (k_gS kw663 cs_L_weigh) rfl rfl rfl pnL_weigh ⟨Nat.le_of_ble_eq_true rfl, Nat.le_of_ble_eq_true rfl⟩) hE hS hA hP hD rfl hl.1 rfl rfl dL_law_758 ⟨(show cells + 17 + 1 + 1 ≤ 1029076 from by omega), (show slots + 102 + 6 + 6 ≤ 6003061 from by omega)⟩ (fun r u H locs hp hP hD hS => ?_)
  have hP : kp g u H := hP
  have hD : kd A u := hD
  obtain ⟨hr, C, h, R, hM, hO⟩ := mk_weigh (by omega) (by omega) hM hp
  refine lv_if_ge (tgt := 766) hx hb dL_law_761 (by decide) (fun z => ?_) (fun z => absurd (Int32.not_lt.mp hr) z)
  refine lv_iinc (v := (nI 2)) (lv' := [(3, .int (nI 2)), (0, .ref b), (2, .ref oF)]) hx hb dL_law_766 hl (k := 0) rfl (by decide) (by decide) rfl (fun ls hl => ?_)
  refine lv_goto (tgt := 740) hx hb dL_law_769 (by decide) ?_
  refine lv_iload_n hx hb dL_law_740 rfl (lv_at hl 0 rfl) ?_
  refine lv_iconst (v := 3) hx hb dL_law_741 (by decide) ?_
  refine lv_icmp_ge (tgt := 772) hx hb dL_law_742 (by decide) (fun z => absurd z (by decide)) (fun z => ?_)
  refine lv_aload_n hx hb dL_law_745 rfl (lv_at hl 2 rfl) ?_
  refine lv_aload_n hx hb dL_law_746 rfl (lv_at hl 1 rfl) ?_
  refine lv_bipush (v := 24) hx hb dL_law_747 (by decide) ?_
  refine lv_iload_n hx hb dL_law_749 rfl (lv_at hl 0 rfl) ?_
  refine lv_iadd hx hb dL_law_750 ?_
  refine k_top (nI 26) (by decide) ?_
  refine kRX_S (As := [.ref b, .int (nI 26)]) (rest := [.ref oF]) K kScr_s hX (L_at_c l g (b := b) (L := L) (xs := xs) hL (26) (by omega)) (va_cwS 2 hts (k_gS kw341 cs_L_at) rfl rfl rfl pnL_at ⟨Nat.le_of_ble_eq_true rfl, Nat.le_of_ble_eq_true rfl⟩) hE hS (hP.pick [] rfl) rfl hl.1 rfl rfl dL_law_751 ⟨(show cells + 17 + 1 + 1 + 0 ≤ 1029076 from by omega), (show slots + 102 + 6 + 6 + 0 ≤ 6003061 from by omega)⟩ ?_
  refine lv_iconst (v := 5) hx hb dL_law_754 (by decide) ?_
  refine kR_S (As := [.int (kAt L xs (26)), .int 5]) (rest := [.ref oF]) K (L_some_c l g (kAt L xs (26)) 5 (by decide)) (va_cwS 2 hts (k_gS kw344 cs_L_some) rfl rfl rfl pnL_some ⟨Nat.le_of_ble_eq_true rfl, Nat.le_of_ble_eq_true rfl⟩) hE hS (hP.pick [] rfl) rfl hl.1 rfl rfl dL_law_755 ⟨(show cells + 17 + 1 + 1 + 0 ≤ 1029076 from by omega), (show slots + 102 + 6 + 6 + 0 ≤ 6003061 from by omega)⟩ ?_
  obtain ⟨t2, ht2, et2⟩ := kSome_i (v := (kAt L xs (26))) (n := 5) (m := 5) rfl (by omega) (by omega)
  refine k_top (nI t2) (et2) ?_
  refine kL_SW (As := [.ref oF, .int (nI t2)]) (rest := []) (wr := []) K kX0_s (L_weigh_c l hfl g oF F C S h R T ln _ hO (nI t2)) hN kX0_fr (vx_cwSW 2 hts (k_gS kw663 cs_L_weigh) rfl rfl rfl pnL_weigh ⟨Nat.le_of_ble_eq_true rfl, Nat.le_of_ble_eq_true rfl⟩) hE hS hA hP hD rfl hl.1 rfl rfl dL_law_758 ⟨(show cells + 17 + 1 + 1 + 1 ≤ 1029076 from by omega), (show slots + 102 + 6 + 6 + 6 ≤ 6003061 from by omega)⟩ (fun r u H locs hp hP hD hS => ?_)
  have hP : kp g u H := hP
  have hD : kd A u := hD
  obtain ⟨hr, C, h, R, hM, hO⟩ := mk_weigh (by omega) (by omega) hM hp
  refine lv_if_ge (tgt := 766) hx hb dL_law_761 (by decide) (fun z => ?_) (fun z => absurd (Int32.not_lt.mp hr) z)
  refine lv_iinc (v := (nI 3)) (lv' := [(3, .int (nI 3)), (0, .ref b), (2, .ref oF)]) hx hb dL_law_766 hl (k := 0) rfl (by decide) (by decide) rfl (fun ls hl => ?_)
  refine lv_goto (tgt := 740) hx hb dL_law_769 (by decide) ?_
  refine lv_iload_n hx hb dL_law_740 rfl (lv_at hl 0 rfl) ?_
  refine lv_iconst (v := 3) hx hb dL_law_741 (by decide) ?_
  refine lv_icmp_ge (tgt := 772) hx hb dL_law_742 (by decide) (fun z => ?_) (fun z => absurd (by decide) z)
  refine lv_aload_n hx hb dL_law_772 rfl (lv_at hl 2 rfl) ?_
  refine lv_aload_n hx hb dL_law_773 rfl (lv_at hl 1 rfl) ?_
  refine lv_bipush (v := 27) hx hb dL_law_774 (by decide) ?_
  refine k_top (nI 27) (rfl) ?_
  refine kRX_S (As := [.ref b, .int (nI 27)]) (rest := [.ref oF]) K kScr_s hX (L_at_c l g (b := b) (L := L) (xs := xs) hL (27) (by omega)) (va_cwS 2 hts (k_gS kw341 cs_L_at) rfl rfl rfl pnL_at ⟨Nat.le_of_ble_eq_true rfl, Nat.le_of_ble_eq_true rfl⟩) hE hS (hP.pick [] rfl) rfl hl.1 rfl rfl dL_law_776 ⟨(show cells + 17 + 1 + 1 + 1 + 0 ≤ 1029076 from by omega), (show slots + 102 + 6 + 6 + 6 + 0 ≤ 6003061 from by omega)⟩ ?_
  refine lv_bipush (v := 31) hx hb dL_law_779 (by decide) ?_
  refine kR_S (As := [.int (kAt L xs (27)), .int 31]) (rest := [.ref oF]) K (L_some_c l g (kAt L xs (27)) 31 (by decide)) (va_cwS 2 hts (k_gS kw344 cs_L_some) rfl rfl rfl pnL_some ⟨Nat.le_of_ble_eq_true rfl, Nat.le_of_ble_eq_true rfl⟩) hE hS (hP.pick [] rfl) rfl hl.1 rfl rfl dL_law_781 ⟨(show cells + 17 + 1 + 1 + 1 + 0 ≤ 1029076 from by omega), (show slots + 102 + 6 + 6 + 6 + 0 ≤ 6003061 from by omega)⟩ ?_
  obtain ⟨th, hth, eth⟩ := kSome_i (v := (kAt L xs (27))) (n := 31) (m := 31) rfl (by omega) (by omega)
  refine k_top (nI th) (eth) ?_
  refine kL_SW (As := [.ref oF, .int (nI th)]) (rest := []) (wr := []) K kX0_s (L_thumb_c l hfl g oF F C S h R T ln _ hO (nI th)) hN kX0_fr (vx_cwSW 2 hts (k_gS kw656 cs_L_thumb) rfl rfl rfl pnL_thumb ⟨Nat.le_of_ble_eq_true rfl, Nat.le_of_ble_eq_true rfl⟩) hE hS hA hP hD rfl hl.1 rfl rfl dL_law_784 ⟨(show cells + 17 + 1 + 1 + 1 + 1 ≤ 1029076 from by omega), (show slots + 102 + 6 + 6 + 6 + 6 ≤ 6003061 from by omega)⟩ (fun r u H locs hp hP hD hS => ?_)
  have hP : kp g u H := hP
  have hD : kd A u := hD
  obtain ⟨hr, C, h, R, ⟨hC, h4, h7⟩, hO⟩ := mk_thumb (by omega) (by omega) hM hp
  subst hr
  refine lv_if_eq (tgt := 792) hx hb dL_law_787 (by decide) (fun z => ?_) (fun z => absurd rfl z)
  refine lv_aload_n hx hb dL_law_792 rfl (lv_at hl 2 rfl) ?_
  refine kLl_SC (As := [.ref oF]) (rest := []) (wr := []) K kX0_s (L_asks_c l hfl g oF F C S h R T ln _ hO ) hN kX0_fr (va_cwS 1 hts (k_gS kw1305 cs_L_asks) rfl rfl rfl pnL_asks ⟨Nat.le_of_ble_eq_true rfl, Nat.le_of_ble_eq_true rfl⟩) hE hS hA hP hD rfl hl.1 rfl rfl dL_law_793 ⟨(show cells + 17 + 1 + 1 + 1 + 1 + 574 ≤ 1029076 from by omega), (show slots + 102 + 6 + 6 + 6 + 6 + 6828 ≤ 6003061 from by omega)⟩ (fun r u H locs hp hP hD hS => ?_)
  have hP : kp g u H := hP
  have hD : kd A u := hD
  obtain ⟨hr, ln, hO⟩ := hp
  subst hr
  refine lv_lstore_n (lv' := [(3, .long (kAsk C)), (0, .ref b), (2, .ref oF)]) hx hb dL_law_796 rfl hl (by decide) rfl (fun ls hl => ?_)
  refine lv_aload_n hx hb dL_law_797 rfl (lv_at hl 2 rfl) ?_
  refine kLl_SC (As := [.ref oF]) (rest := []) (wr := []) K kX0_s (L_asks_c l hfl g oF F C S h R T ln _ hO ) hN kX0_fr (va_cwS 1 hts (k_gS kw1305 cs_L_asks) rfl rfl rfl pnL_asks ⟨Nat.le_of_ble_eq_true rfl, Nat.le_of_ble_eq_true rfl⟩) hE hS hA hP hD rfl hl.1 rfl rfl dL_law_798 ⟨(show cells + 17 + 1 + 1 + 1 + 1 + 574 + 574 ≤ 1029076 from by omega), (show slots + 102 + 6 + 6 + 6 + 6 + 6828 + 6828 ≤ 6003061 from by omega)⟩ (fun r u H locs hp hP hD hS => ?_)
  have hP : kp g u H := hP
  have hD : kd A u := hD
  obtain ⟨hr, ln, hO⟩ := hp
  subst hr
  refine lv_lload_n hx hb dL_law_801 rfl (lv_at hl 0 rfl) ?_
  refine W.lcmp hx hb dL_law_802 ?_
  refine k_top (0) (lg_self _) ?_
  refine lv_if_ne (tgt := 813) hx hb dL_law_803 (by decide) (fun z => absurd z (fun y => y rfl)) (fun z => ?_)
  refine lv_aload_n hx hb dL_law_806 rfl (lv_at hl 2 rfl) ?_
  refine kL_SC (As := [.ref oF]) (rest := []) (wr := []) K kX0_s (L_refused_c l hfl g oF F C S h R T ln _ hO _ hC h4 h7 hT) hN kX0_fr (va_cwS 1 hts (k_gS kw1463 cs_L_refused) rfl rfl rfl pnL_refused ⟨Nat.le_of_ble_eq_true rfl, Nat.le_of_ble_eq_true rfl⟩) hE hS hA hP hD rfl hl.1 rfl rfl dL_law_807 ⟨(show cells + 17 + 1 + 1 + 1 + 1 + 574 + 574 + 1400 ≤ 1029076 from by omega), (show slots + 102 + 6 + 6 + 6 + 6 + 6828 + 6828 + 15732 ≤ 6003061 from by omega)⟩ (fun r u H locs hp hP hD hS => ?_)
  have hP : kp g u H := hP
  have hD : kd A u := hD
  obtain ⟨hr, R, T, F1, ln, hF1, hT, hO⟩ := hp
  subst hr
  refine lv_if_ne (tgt := 815) hx hb dL_law_810 (by decide) (fun z => ?_) (fun z => absurd z (by decide))
  exact law_2 l hfl hAe K hE hN hA hX hL hO hT (hC.mono (by omega)) hP hD hS (lv_sub hl [1, 2, 0] rfl) (by omega) (by omega)
