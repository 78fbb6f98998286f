theorem pnL_jar : yL_jar.cls ≠ "java/lang/invoke/MethodHandle" ∧ yL_jar.cls ≠ "java/lang/invoke/VarHandle" ∧ (parseMethodDescriptor yL_jar.desc).map (fun d => d.parameters.length) = some 3 := by decide +kernel
theorem cs_L_jar : kCst yL_jar (Cond.codeWith yL_jar cL_jar 4 (some .int) [(0, 6, 7, 13)]) := ⟨k_w 3 40 rfl rfl, k_w 2 0 rfl rfl, k_w 3 41 rfl rfl⟩
theorem pnL_bag : yL_bag.cls ≠ "java/lang/invoke/MethodHandle" ∧ yL_bag.cls ≠ "java/lang/invoke/VarHandle" ∧ (parseMethodDescriptor yL_bag.desc).map (fun d => d.parameters.length) = some 2 := by decide +kernel
theorem cs_L_bag : kCst yL_bag (Cond.codeWith yL_bag cL_bag 3 (some .int) [(0, 5, 6, 13)]) := ⟨k_w 4 88 rfl rfl, k_w 2 0 rfl rfl, k_w 4 89 rfl rfl⟩
theorem pnL_fill : yL_fill.cls ≠ "java/lang/invoke/MethodHandle" ∧ yL_fill.cls ≠ "java/lang/invoke/VarHandle" ∧ (parseMethodDescriptor yL_fill.desc).map (fun d => d.parameters.length) = some 4 := by decide +kernel
theorem cs_L_fill : kCst yL_fill (Cond.codeWith yL_fill cL_fill 5 (some .int) [(0, 7, 8, 13)]) := ⟨k_w 4 95 rfl rfl, k_w 2 0 rfl rfl, k_w 4 96 rfl rfl⟩
theorem pnL_days : yL_days.cls ≠ "java/lang/invoke/MethodHandle" ∧ yL_days.cls ≠ "java/lang/invoke/VarHandle" ∧ (parseMethodDescriptor yL_days.desc).map (fun d => d.parameters.length) = some 2 := by decide +kernel
theorem cs_L_days : kCst yL_days (Cond.codeWith yL_days cL_days 3 (some .int) [(0, 5, 6, 13)]) := ⟨k_w 4 151 rfl rfl, k_w 2 0 rfl rfl, k_w 4 152 rfl rfl⟩
theorem pnL_go : yL_go.cls ≠ "java/lang/invoke/MethodHandle" ∧ yL_go.cls ≠ "java/lang/invoke/VarHandle" ∧ (parseMethodDescriptor yL_go.desc).map (fun d => d.parameters.length) = some 2 := by decide +kernel
theorem cs_L_go : kCst yL_go (Cond.codeWith yL_go cL_go 3 (some .int) [(0, 5, 6, 13)]) := ⟨k_w 4 137 rfl rfl, k_w 2 0 rfl rfl, k_w 4 138 rfl rfl⟩
theorem pnL_at : yL_at.cls ≠ "java/lang/invoke/MethodHandle" ∧ yL_at.cls ≠ "java/lang/invoke/VarHandle" ∧ (parseMethodDescriptor yL_at.desc).map (fun d => d.parameters.length) = some 2 := by decide +kernel
theorem cs_L_at : kCst yL_at (Cond.code yL_at cL_at 2 (some .int)) := ⟨k_w 3 34 rfl rfl, k_w 2 0 rfl rfl, k_w 3 35 rfl rfl⟩
theorem pnL_some : yL_some.cls ≠ "java/lang/invoke/MethodHandle" ∧ yL_some.cls ≠ "java/lang/invoke/VarHandle" ∧ (parseMethodDescriptor yL_some.desc).map (fun d => d.parameters.length) = some 2 := by decide +kernel
theorem cs_L_some : kCst yL_some (Cond.code yL_some cL_some 3 (some .int)) := ⟨k_w 3 37 rfl rfl, k_w 2 0 rfl rfl, k_w 3 38 rfl rfl⟩
theorem kw341 : Cond.methodLink RL 165 yL_at ∈ kW := k_w 3 33 rfl rfl
theorem kw344 : Cond.methodLink RL 169 yL_some ∈ kW := k_w 3 36 rfl rfl
theorem kw347 : Cond.methodLink RL 172 yL_jar ∈ kW := k_w 3 39 rfl rfl
theorem kw635 : Cond.methodLink RL 175 yL_bag ∈ kW := k_w 4 87 rfl rfl
theorem kw642 : Cond.methodLink RL 177 yL_fill ∈ kW := k_w 4 94 rfl rfl
theorem kw684 : Cond.methodLink RL 182 yL_go ∈ kW := k_w 4 136 rfl rfl
theorem kw698 : Cond.methodLink RL 180 yL_days ∈ kW := k_w 4 150 rfl rfl
abbrev wL_makes : List Cond := Cond.code yL_makes cL_makes 4 (some .boolean) :: kW
set_option maxHeartbeats 8000000 in
set_option maxRecDepth 100000 in
theorem L_makes_c (l : Launch) (hfl : l.stackTraces = false) (g : kG) (oF : Nat) (F : Nat → Int32) (C S : kK) (h : List kK) (R : Nat → Int32) (T : kK) (ln : kTx) (cs : List va_W) (hO : kOb g oF F C S h R T ln cs) (b L : Nat) (xs : Nat → Int32) (hL : L ≤ 260) (hM0 : kMk 0 0 0 C) : kL (kScr b L xs) l yL_makes wL_makes 9 188 17 102 g [.ref oF, .ref b] cs (fun x u => x = 1 ∧ ∃ (E : kK) (h1 : List kK) (R1 : Nat → Int32), kMd5 1800 E ∧ kOb g oF F E S h1 R1 T ln u) := by
  refine kLg_ofC (cc := cL_makes) (nL := 4) (ret := some .boolean) (lv := [(0, .ref oF), (1, .ref b)]) (by decide) rfl (Nat.le_of_ble_eq_true rfl) rfl ?_
  intro p e s m args below meth c ls A hN hX K hP hD hE hA hS hl
  have K : kC p c cL_makes s m args meth RL g 4 (some .boolean) := K
  have hx := K.1.1
  have hb := K.1.2.1
  have hts := K.1.2.2.2.2
  have lp2 : ∀ (q j cells slots : Nat) (C : kK) (h : List kK) (R : Nat → Int32) (u : List va_W) (H : Heap) (locs : List Loc) (ls : Array Slot), j + q = 5 → cells + 2 * q + 2 ≤ 17 → slots + 12 * q + 12 ≤ 102 → kMk 5 j (500 + 200 * j) C → kOb g oF F C S h R T ln u → kp g u H → kd A u → va_S A s.heap H locs → lv_has ls 4 [(2, .int (nI j)), (0, .ref oF), (1, .ref b)] → W p l e (kRm 9 17 102 188) s m args below meth c H locs cells slots (MQ below (kQi g (fun x u => x = 1 ∧ ∃ (E : kK) (h1 : List kK) (R1 : Nat → Int32), kMd5 1800 E ∧ kOb g oF F E S h1 R1 T ln u) A) args s 17 102 A) (F0 m 51 ls []) := by
    intro q
    induction q with
    | zero =>
      intro j cells slots C h R u H locs ls hj hc hs hMk hO hP hD hS hl
      obtain rfl : j = 5 := by omega
      refine lv_iload_n hx hb dL_makes_51 rfl (lv_at hl 0 rfl) ?_
      refine lv_iconst (v := 5) hx hb dL_makes_52 (by decide) ?_
      refine lv_icmp_ge (tgt := 118) hx hb dL_makes_53 (by decide) (fun z => ?_) (fun z => absurd (Int32.le_refl 5) z)
      refine lv_aload_n hx hb dL_makes_118 rfl (lv_at hl 1 rfl) ?_
      refine lv_iconst (v := 1) hx hb dL_makes_119 (by decide) ?_
      refine lv_aload_n hx hb dL_makes_120 rfl (lv_at hl 2 rfl) ?_
      refine lv_bipush (v := 15) hx hb dL_makes_121 (by decide) ?_
      refine k_top (nI 15) (rfl) ?_
      refine kRX_S (As := [.ref b, .int (nI 15)]) (rest := [.int 1, .ref oF]) K kScr_s hX (L_at_c l g (b := b) (L := L) (xs := xs) hL (15) (by omega)) (va_cwS 2 hts (k_gS kw341 cs_L_at) rfl rfl rfl pnL_at ⟨Nat.le_of_ble_eq_true rfl, Nat.le_of_ble_eq_true rfl⟩) hE hS (hP.pick [] rfl) rfl hl.1 rfl rfl dL_makes_123 ⟨(show cells + 0 ≤ 17 from by omega), (show slots + 0 ≤ 102 from by omega)⟩ ?_
      refine lv_bipush (v := 9) hx hb dL_makes_126 (by decide) ?_
      refine kR_S (As := [.int (kAt L xs (15)), .int 9]) (rest := [.int 1, .ref oF]) K (L_some_c l g (kAt L xs (15)) 9 (by decide)) (va_cwS 2 hts (k_gS kw344 cs_L_some) rfl rfl rfl pnL_some ⟨Nat.le_of_ble_eq_true rfl, Nat.le_of_ble_eq_true rfl⟩) hE hS (hP.pick [] rfl) rfl hl.1 rfl rfl dL_makes_128 ⟨(show cells + 0 ≤ 17 from by omega), (show slots + 0 ≤ 102 from by omega)⟩ ?_
      obtain ⟨y, hy, ey⟩ := kSome_i (v := (kAt L xs (15))) (n := 9) (m := 9) rfl (by omega) (by omega)
      refine k_top (nI y) (ey) ?_
      refine lv_iadd hx hb dL_makes_131 ?_
      refine k_top (nI (1 + y)) (nI_add 1 y) ?_
      refine kL_SW (As := [.ref oF, .int (nI (1 + y))]) (rest := []) (wr := []) K kX0_s (L_days_c l hfl g oF F C S h R T ln _ hO (nI (1 + y))) hN kX0_fr (vx_cwSW 2 hts (k_gS kw698 cs_L_days) rfl rfl rfl pnL_days ⟨Nat.le_of_ble_eq_true rfl, Nat.le_of_ble_eq_true rfl⟩) hE hS hA hP hD rfl hl.1 rfl rfl dL_makes_132 ⟨(show cells + 1 ≤ 17 from by omega), (show slots + 6 ≤ 102 from by omega)⟩ (fun r u H locs hp hP hD hS => ?_)
      have hP : kp g u H := hP
      have hD : kd A u := hD
      obtain ⟨hr, C, h, R, ⟨hMk, d, hd⟩, hO⟩ := mk_days (by omega) (by omega) hMk hp
      refine lv_if_lt (tgt := 161) hx hb dL_makes_135 (by decide) (fun z => absurd z hr) (fun z => ?_)
      refine lv_aload_n hx hb dL_makes_138 rfl (lv_at hl 1 rfl) ?_
      refine lv_iconst (v := 1) hx hb dL_makes_139 (by decide) ?_
      refine lv_aload_n hx hb dL_makes_140 rfl (lv_at hl 2 rfl) ?_
      refine lv_bipush (v := 16) hx hb dL_makes_141 (by decide) ?_
      refine k_top (nI 16) (rfl) ?_
      refine kRX_S (As := [.ref b, .int (nI 16)]) (rest := [.int 1, .ref oF]) K kScr_s hX (L_at_c l g (b := b) (L := L) (xs := xs) hL (16) (by omega)) (va_cwS 2 hts (k_gS kw341 cs_L_at) rfl rfl rfl pnL_at ⟨Nat.le_of_ble_eq_true rfl, Nat.le_of_ble_eq_true rfl⟩) hE hS (hP.pick [] rfl) rfl hl.1 rfl rfl dL_makes_143 ⟨(show cells + 1 + 0 ≤ 17 from by omega), (show slots + 6 + 0 ≤ 102 from by omega)⟩ ?_
      refine lv_iconst (v := 3) hx hb dL_makes_146 (by decide) ?_
      refine kR_S (As := [.int (kAt L xs (16)), .int 3]) (rest := [.int 1, .ref oF]) K (L_some_c l g (kAt L xs (16)) 3 (by decide)) (va_cwS 2 hts (k_gS kw344 cs_L_some) rfl rfl rfl pnL_some ⟨Nat.le_of_ble_eq_true rfl, Nat.le_of_ble_eq_true rfl⟩) hE hS (hP.pick [] rfl) rfl hl.1 rfl rfl dL_makes_147 ⟨(show cells + 1 + 0 ≤ 17 from by omega), (show slots + 6 + 0 ≤ 102 from by omega)⟩ ?_
      obtain ⟨z, hz, ez⟩ := kSome_i (v := (kAt L xs (16))) (n := 3) (m := 3) rfl (by omega) (by omega)
      refine k_top (nI z) (ez) ?_
      refine lv_iadd hx hb dL_makes_150 ?_
      refine k_top (nI (1 + z)) (nI_add 1 z) ?_
      refine kL_SW (As := [.ref oF, .int (nI (1 + z))]) (rest := []) (wr := []) K kX0_s (L_go_c l hfl g oF F C S h R T ln _ hO (nI (1 + z))) hN kX0_fr (vx_cwSW 2 hts (k_gS kw684 cs_L_go) rfl rfl rfl pnL_go ⟨Nat.le_of_ble_eq_true rfl, Nat.le_of_ble_eq_true rfl⟩) hE hS hA hP hD rfl hl.1 rfl rfl dL_makes_151 ⟨(show cells + 1 + 1 ≤ 17 from by omega), (show slots + 6 + 6 ≤ 102 from by omega)⟩ (fun r u H locs hp hP hD hS => ?_)
      have hP : kp g u H := hP
      have hD : kd A u := hD
      obtain ⟨hr, C, h, R, hMd, hO⟩ := mk_go (by omega) (by omega) hMk ⟨hd.1, by omega, hd.2.2⟩ hp
      refine lv_if_le (tgt := 161) hx hb dL_makes_154 (by decide) (fun z => absurd z (Int32.not_le.mpr hr)) (fun z => ?_)
      refine lv_iconst (v := 1) hx hb dL_makes_157 (by decide) ?_
      refine lv_goto (tgt := 162) hx hb dL_makes_158 (by decide) ?_
      exact kL_zret (b := true) K hP hD hS ⟨rfl, C, h, R, ⟨hMd.1.mono (by omega), hMd.2.1, hMd.2.2.1, hMd.2.2.2.1, ⟨_, hMd.2.2.2.2.1.choose_spec.1, by have := hMd.2.2.2.2.1.choose_spec.2.1; omega, hMd.2.2.2.2.1.choose_spec.2.2⟩, hMd.2.2.2.2.2⟩, hO⟩ ⟨(show cells + 1 + 1 ≤ 17 from by omega), (show slots + 6 + 6 ≤ 102 from by omega)⟩ dL_makes_162
    | succ q IH =>
      intro j cells slots C h R u H locs ls hj hc hs hMk hO hP hD hS hl
      refine lv_iload_n hx hb dL_makes_51 rfl (lv_at hl 0 rfl) ?_
      refine lv_iconst (v := 5) hx hb dL_makes_52 (by decide) ?_
      refine lv_icmp_ge (tgt := 118) hx hb dL_makes_53 (by decide) (fun z => absurd z (nI_ge (a := j) (b := 5) (by omega) (by omega))) (fun z => ?_)
      refine lv_aload_n hx hb dL_makes_56 rfl (lv_at hl 1 rfl) ?_
      refine lv_iconst (v := 5) hx hb dL_makes_57 (by decide) ?_
      refine lv_aload_n hx hb dL_makes_58 rfl (lv_at hl 2 rfl) ?_
      refine lv_iconst (v := 5) hx hb dL_makes_59 (by decide) ?_
      refine lv_iload_n hx hb dL_makes_60 rfl (lv_at hl 0 rfl) ?_
      refine lv_iadd hx hb dL_makes_61 ?_
      refine k_top (nI (5 + j)) (nI_add 5 j) ?_
      refine kRX_S (As := [.ref b, .int (nI (5 + j))]) (rest := [.int 5, .ref oF]) K kScr_s hX (L_at_c l g (b := b) (L := L) (xs := xs) hL (5 + j) (by omega)) (va_cwS 2 hts (k_gS kw341 cs_L_at) rfl rfl rfl pnL_at ⟨Nat.le_of_ble_eq_true rfl, Nat.le_of_ble_eq_true rfl⟩) hE hS (hP.pick [] rfl) rfl hl.1 rfl rfl dL_makes_62 ⟨(show cells + 0 ≤ 17 from by omega), (show slots + 0 ≤ 102 from by omega)⟩ ?_
      refine lv_bipush (v := 46) hx hb dL_makes_65 (by decide) ?_
      refine kR_S (As := [.int (kAt L xs (5 + j)), .int 46]) (rest := [.int 5, .ref oF]) K (L_some_c l g (kAt L xs (5 + j)) 46 (by decide)) (va_cwS 2 hts (k_gS kw344 cs_L_some) rfl rfl rfl pnL_some ⟨Nat.le_of_ble_eq_true rfl, Nat.le_of_ble_eq_true rfl⟩) hE hS (hP.pick [] rfl) rfl hl.1 rfl rfl dL_makes_67 ⟨(show cells + 0 ≤ 17 from by omega), (show slots + 0 ≤ 102 from by omega)⟩ ?_
      obtain ⟨t, ht, et⟩ := kSome_i (v := (kAt L xs (5 + j))) (n := 46) (m := 46) rfl (by omega) (by omega)
      refine k_top (nI t) (et) ?_
      refine lv_iadd hx hb dL_makes_70 ?_
      refine k_top (nI (5 + t)) (nI_add 5 t) ?_
      refine kL_SW (As := [.ref oF, .int (nI (5 + t))]) (rest := []) (wr := []) K kX0_s (L_bag_c l hfl g oF F C S h R T ln _ hO (nI (5 + t))) hN kX0_fr (vx_cwSW 2 hts (k_gS kw635 cs_L_bag) rfl rfl rfl pnL_bag ⟨Nat.le_of_ble_eq_true rfl, Nat.le_of_ble_eq_true rfl⟩) hE hS hA hP hD rfl hl.1 rfl rfl dL_makes_71 ⟨(show cells + 1 ≤ 17 from by omega), (show slots + 6 ≤ 102 from by omega)⟩ (fun r u H locs hp hP hD hS => ?_)
      have hP : kp g u H := hP
      have hD : kd A u := hD
      obtain ⟨rfl, C, h, R, hMb, hO⟩ := mk_bg (by omega) (by omega) ⟨by omega, by omega⟩ hMk hp
      refine lv_iload_n hx hb dL_makes_74 rfl (lv_at hl 0 rfl) ?_
      refine lv_icmp_eq (tgt := 80) hx hb dL_makes_75 (by decide) (fun z => ?_) (fun z => absurd rfl z)
      refine lv_aload_n hx hb dL_makes_80 rfl (lv_at hl 2 rfl) ?_
      refine lv_bipush (v := 10) hx hb dL_makes_81 (by decide) ?_
      refine lv_iload_n hx hb dL_makes_83 rfl (lv_at hl 0 rfl) ?_
      refine lv_iadd hx hb dL_makes_84 ?_
      refine k_top (nI (10 + j)) (nI_add 10 j) ?_
      refine kRX_S (As := [.ref b, .int (nI (10 + j))]) (rest := []) K kScr_s hX (L_at_c l g (b := b) (L := L) (xs := xs) hL (10 + j) (by omega)) (va_cwS 2 hts (k_gS kw341 cs_L_at) rfl rfl rfl pnL_at ⟨Nat.le_of_ble_eq_true rfl, Nat.le_of_ble_eq_true rfl⟩) hE hS (hP.pick [] rfl) rfl hl.1 rfl rfl dL_makes_85 ⟨(show cells + 1 + 0 ≤ 17 from by omega), (show slots + 6 + 0 ≤ 102 from by omega)⟩ ?_
      refine lv_sipush (v := 300) hx hb dL_makes_88 (by decide) ?_
      refine kR_S (As := [.int (kAt L xs (10 + j)), .int 300]) (rest := []) K (L_some_c l g (kAt L xs (10 + j)) 300 (by decide)) (va_cwS 2 hts (k_gS kw344 cs_L_some) rfl rfl rfl pnL_some ⟨Nat.le_of_ble_eq_true rfl, Nat.le_of_ble_eq_true rfl⟩) hE hS (hP.pick [] rfl) rfl hl.1 rfl rfl dL_makes_91 ⟨(show cells + 1 + 0 ≤ 17 from by omega), (show slots + 6 + 0 ≤ 102 from by omega)⟩ ?_
      obtain ⟨n, hn, en⟩ := kSome_i (v := (kAt L xs (10 + j))) (n := 300) (m := 300) rfl (by omega) (by omega)
      refine k_top (nI n) (en) ?_
      refine lv_istore_n (lv' := [(3, .int (nI n)), (2, .int (nI j)), (0, .ref oF), (1, .ref b)]) hx hb dL_makes_94 rfl hl (by decide) rfl (fun ls hl => ?_)
      refine lv_iload_n hx hb dL_makes_95 rfl (lv_at hl 0 rfl) ?_
      rcases Nat.eq_zero_or_pos n with hn0 | hn0
      · have hn2 : nI n ≤ 0 := by rw [hn0]; exact Int32.le_refl 0
        refine lv_if_le (tgt := 112) hx hb dL_makes_96 (by decide) (fun z => ?_) (fun z => absurd hn2 z)
        refine lv_iinc (v := nI (j + 1)) (lv' := [(2, .int (nI (j + 1))), (3, .int (nI n)), (0, .ref oF), (1, .ref b)]) hx hb dL_makes_112 hl (k := 1) rfl (nI_1 j) (by decide) rfl (fun ls hl => ?_)
        refine lv_goto (tgt := 51) hx hb dL_makes_115 (by decide) ?_
        exact IH (j + 1) (cells + 1) (slots + 6) _ _ _ _ _ _ _ (by omega) (by omega) (by omega) (hMb.1.mono (by omega)) hO hP hD hS (lv_sub hl [0, 2, 3] rfl)
      · have hn1 : 1 ≤ n := hn0
        refine lv_if_le (tgt := 112) hx hb dL_makes_96 (by decide) (fun z => absurd z (nI_nle (by omega) (by omega))) (fun z => ?_)
        refine lv_aload_n hx hb dL_makes_99 rfl (lv_at hl 2 rfl) ?_
        refine lv_iload_n hx hb dL_makes_100 rfl (lv_at hl 1 rfl) ?_
        refine lv_iload_n hx hb dL_makes_101 rfl (lv_at hl 1 rfl) ?_
        refine lv_iload_n hx hb dL_makes_102 rfl (lv_at hl 0 rfl) ?_
        refine kL_SW (As := [.ref oF, .int (nI j), .int (nI j), .int (nI n)]) (rest := []) (wr := []) K kX0_s (L_fill_c l hfl g oF F C S h R T ln _ hO (nI j) (nI j) (nI n)) hN kX0_fr (vx_cwSW 4 hts (k_gS kw642 cs_L_fill) rfl rfl rfl pnL_fill ⟨Nat.le_of_ble_eq_true rfl, Nat.le_of_ble_eq_true rfl⟩) hE hS hA hP hD rfl hl.1 rfl rfl dL_makes_103 ⟨(show cells + 1 + 1 ≤ 17 from by omega), (show slots + 6 + 6 ≤ 102 from by omega)⟩ (fun r u H locs hp hP hD hS => ?_)
        have hP : kp g u H := hP
        have hD : kd A u := hD
        obtain ⟨rfl, C, h, R, hMk, hO⟩ := mk_fill (by omega) (by omega) ⟨hn1, hn⟩ hMb hp
        refine lv_iload_n hx hb dL_makes_106 rfl (lv_at hl 0 rfl) ?_
        refine lv_icmp_eq (tgt := 112) hx hb dL_makes_107 (by decide) (fun z => ?_) (fun z => absurd rfl z)
        refine lv_iinc (v := nI (j + 1)) (lv' := [(2, .int (nI (j + 1))), (3, .int (nI n)), (0, .ref oF), (1, .ref b)]) hx hb dL_makes_112 hl (k := 1) rfl (nI_1 j) (by decide) rfl (fun ls hl => ?_)
        refine lv_goto (tgt := 51) hx hb dL_makes_115 (by decide) ?_
        exact IH (j + 1) (cells + 1 + 1) (slots + 6 + 6) _ _ _ _ _ _ _ (by omega) (by omega) (by omega) (hMk.mono (by omega)) hO hP hD hS (lv_sub hl [0, 2, 3] rfl)
  have lp1 : ∀ (q j cells slots : Nat) (C : kK) (h : List kK) (R : Nat → Int32) (u : List va_W) (H : Heap) (locs : List Loc) (ls : Array Slot), j + q = 5 → cells + 1 * q + 12 ≤ 17 → slots + 6 * q + 72 ≤ 102 → kMk j 0 (100 * j) C → kOb g oF F C S h R T ln u → kp g u H → kd A u → va_S A s.heap H locs → lv_has ls 4 [(2, .int (nI j)), (0, .ref oF), (1, .ref b)] → W p l e (kRm 9 17 102 188) s m args below meth c H locs cells slots (MQ below (kQi g (fun x u => x = 1 ∧ ∃ (E : kK) (h1 : List kK) (R1 : Nat → Int32), kMd5 1800 E ∧ kOb g oF F E S h1 R1 T ln u) A) args s 17 102 A) (F0 m 2 ls []) := by
    intro q
    induction q with
    | zero =>
      intro j cells slots C h R u H locs ls hj hc hs hMk hO hP hD hS hl
      obtain rfl : j = 5 := by omega
      refine lv_iload_n hx hb dL_makes_2 rfl (lv_at hl 0 rfl) ?_
      refine lv_iconst (v := 5) hx hb dL_makes_3 (by decide) ?_
      refine lv_icmp_ge (tgt := 49) hx hb dL_makes_4 (by decide) (fun z => ?_) (fun z => absurd (Int32.le_refl 5) z)
      refine lv_iconst (v := 0) hx hb dL_makes_49 (by decide) ?_
      refine lv_istore_n (lv' := [(2, .int 0), (0, .ref oF), (1, .ref b)]) hx hb dL_makes_50 rfl hl (by decide) rfl (fun ls hl => ?_)
      exact lp2 5 0 cells slots _ _ _ _ _ _ _ rfl (by omega) (by omega) hMk hO hP hD hS (lv_sub hl [0, 1, 2] rfl)
    | succ q IH =>
      intro j cells slots C h R u H locs ls hj hc hs hMk hO hP hD hS hl
      refine lv_iload_n hx hb dL_makes_2 rfl (lv_at hl 0 rfl) ?_
      refine lv_iconst (v := 5) hx hb dL_makes_3 (by decide) ?_
      refine lv_icmp_ge (tgt := 49) hx hb dL_makes_4 (by decide) (fun z => absurd z (nI_ge (a := j) (b := 5) (by omega) (by omega))) (fun z => ?_)
      refine lv_aload_n hx hb dL_makes_7 rfl (lv_at hl 1 rfl) ?_
      refine lv_aload_n hx hb dL_makes_8 rfl (lv_at hl 2 rfl) ?_
      refine lv_iload_n hx hb dL_makes_9 rfl (lv_at hl 0 rfl) ?_
      refine kRX_S (As := [.ref b, .int (nI j)]) (rest := [.ref oF]) K kScr_s hX (L_at_c l g (b := b) (L := L) (xs := xs) hL (j) (by omega)) (va_cwS 2 hts (k_gS kw341 cs_L_at) rfl rfl rfl pnL_at ⟨Nat.le_of_ble_eq_true rfl, Nat.le_of_ble_eq_true rfl⟩) hE hS (hP.pick [] rfl) rfl hl.1 rfl rfl dL_makes_10 ⟨(show cells + 0 ≤ 17 from by omega), (show slots + 0 ≤ 102 from by omega)⟩ ?_
      refine lv_iconst (v := 5) hx hb dL_makes_13 (by decide) ?_
      refine kR_S (As := [.int (kAt L xs (j)), .int 5]) (rest := [.ref oF]) K (L_some_c l g (kAt L xs (j)) 5 (by decide)) (va_cwS 2 hts (k_gS kw344 cs_L_some) rfl rfl rfl pnL_some ⟨Nat.le_of_ble_eq_true rfl, Nat.le_of_ble_eq_true rfl⟩) hE hS (hP.pick [] rfl) rfl hl.1 rfl rfl dL_makes_14 ⟨(show cells + 0 ≤ 17 from by omega), (show slots + 0 ≤ 102 from by omega)⟩ ?_
      obtain ⟨a, ha, ea⟩ := kSome_i (v := (kAt L xs (j))) (n := 5) (m := 5) rfl (by omega) (by omega)
      refine k_top (nI a) (ea) ?_
      refine lv_sipush (v := 300) hx hb dL_makes_17 (by decide) ?_
      refine lv_aload_n hx hb dL_makes_20 rfl (lv_at hl 2 rfl) ?_
      refine lv_iload_n hx hb dL_makes_21 rfl (lv_at hl 0 rfl) ?_
      refine kRX_S (As := [.ref b, .int (nI j)]) (rest := [.int 300, .int (nI a), .ref oF]) K kScr_s hX (L_at_c l g (b := b) (L := L) (xs := xs) hL (j) (by omega)) (va_cwS 2 hts (k_gS kw341 cs_L_at) rfl rfl rfl pnL_at ⟨Nat.le_of_ble_eq_true rfl, Nat.le_of_ble_eq_true rfl⟩) hE hS (hP.pick [] rfl) rfl hl.1 rfl rfl dL_makes_22 ⟨(show cells + 0 ≤ 17 from by omega), (show slots + 0 ≤ 102 from by omega)⟩ ?_
      refine lv_iconst (v := 4) hx hb dL_makes_25 (by decide) ?_
      refine lv_ishr hx hb dL_makes_26 ?_
      refine lv_sipush (v := 601) hx hb dL_makes_27 (by decide) ?_
      refine kR_S (As := [.int ((kAt L xs (j)) >>> (4 &&& 31)), .int 601]) (rest := [.int 300, .int (nI a), .ref oF]) K (L_some_c l g ((kAt L xs (j)) >>> (4 &&& 31)) 601 (by decide)) (va_cwS 2 hts (k_gS kw344 cs_L_some) rfl rfl rfl pnL_some ⟨Nat.le_of_ble_eq_true rfl, Nat.le_of_ble_eq_true rfl⟩) hE hS (hP.pick [] rfl) rfl hl.1 rfl rfl dL_makes_30 ⟨(show cells + 0 ≤ 17 from by omega), (show slots + 0 ≤ 102 from by omega)⟩ ?_
      obtain ⟨t, ht, et⟩ := kSome_i (v := ((kAt L xs (j)) >>> (4 &&& 31))) (n := 601) (m := 601) rfl (by omega) (by omega)
      refine k_top (nI t) (et) ?_
      refine lv_iadd hx hb dL_makes_33 ?_
      refine k_top (nI (300 + t)) (nI_add 300 t) ?_
      refine kL_SW (As := [.ref oF, .int (nI a), .int (nI (300 + t))]) (rest := []) (wr := []) K kX0_s (L_jar_c l hfl g oF F C S h R T ln _ hO (nI a) (nI (300 + t))) hN kX0_fr (vx_cwSW 3 hts (k_gS kw347 cs_L_jar) rfl rfl rfl pnL_jar ⟨Nat.le_of_ble_eq_true rfl, Nat.le_of_ble_eq_true rfl⟩) hE hS hA hP hD rfl hl.1 rfl rfl dL_makes_34 ⟨(show cells + 1 ≤ 17 from by omega), (show slots + 6 ≤ 102 from by omega)⟩ (fun r u H locs hp hP hD hS => ?_)
      have hP : kp g u H := hP
      have hD : kd A u := hD
      obtain ⟨rfl, C, h, R, hMk, hO⟩ := mk_jar (by omega) (by omega) ha ⟨by omega, by omega⟩ hMk hp
      refine lv_iload_n hx hb dL_makes_37 rfl (lv_at hl 0 rfl) ?_
      refine lv_icmp_eq (tgt := 43) hx hb dL_makes_38 (by decide) (fun z => ?_) (fun z => absurd rfl z)
      refine lv_iinc (v := nI (j + 1)) (lv' := [(2, .int (nI (j + 1))), (0, .ref oF), (1, .ref b)]) hx hb dL_makes_43 hl (k := 0) rfl (nI_1 j) (by decide) rfl (fun ls hl => ?_)
      refine lv_goto (tgt := 2) hx hb dL_makes_46 (by decide) ?_
      exact IH (j + 1) (cells + 1) (slots + 6) _ _ _ _ _ _ _ (by omega) (by omega) (by omega) hMk hO hP hD hS (lv_sub hl [0, 1, 2] rfl)
  refine lv_iconst (v := 0) hx hb dL_makes_0 (by decide) ?_
  refine lv_istore_n (lv' := [(2, .int 0), (0, .ref oF), (1, .ref b)]) hx hb dL_makes_1 rfl hl (by decide) rfl (fun ls hl => ?_)
  exact lp1 5 0 0 0 _ _ _ _ _ _ _ rfl (by omega) (by omega) hM0 hO hP hD hS (lv_sub hl [0, 1, 2] rfl)
