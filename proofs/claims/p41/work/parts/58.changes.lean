/-- the law's texts, letter by letter -/
def kLtt (i : Nat) : Nat → Nat := fun j => (([[119], [59, 110], [116], [59, 102], [60], [43], [113], [110, 49, 59, 110, 49, 59, 110, 48]] : List (List Nat)).getD i []).getD j 0
theorem kLtt_ok (i : Nat) (hi : i < 8 := by decide) : ∀ j, j < kq_len.getD i 0 → kLtt i j < 256 ∧ (kq_byt.getD i []).getD j 0 = sb_b (kLtt i j) :=
  (by decide +kernel : ∀ i, i < 8 → ∀ j, j < kq_len.getD i 0 → kLtt i j < 256 ∧ (kq_byt.getD i []).getD j 0 = sb_b (kLtt i j)) i hi
theorem pnL_empty : yL_empty.cls ≠ "java/lang/invoke/MethodHandle" ∧ yL_empty.cls ≠ "java/lang/invoke/VarHandle" ∧ (parseMethodDescriptor yL_empty.desc).map (fun d => d.parameters.length) = some 3 := by decide +kernel
theorem cs_L_empty : kCst yL_empty (Cond.codeWith yL_empty cL_empty 4 (some .int) [(0, 6, 7, 13)]) := ⟨k_w 4 102 rfl rfl, k_w 2 0 rfl rfl, k_w 4 103 rfl rfl⟩
theorem pnL_beat : yL_beat.cls ≠ "java/lang/invoke/MethodHandle" ∧ yL_beat.cls ≠ "java/lang/invoke/VarHandle" ∧ (parseMethodDescriptor yL_beat.desc).map (fun d => d.parameters.length) = some 2 := by decide +kernel
theorem cs_L_beat : kCst yL_beat (Cond.codeWith yL_beat cL_beat 3 (some .int) [(0, 5, 6, 13)]) := ⟨k_w 7 175 rfl rfl, k_w 2 0 rfl rfl, k_w 7 176 rfl rfl⟩
theorem pnL_thumb : yL_thumb.cls ≠ "java/lang/invoke/MethodHandle" ∧ yL_thumb.cls ≠ "java/lang/invoke/VarHandle" ∧ (parseMethodDescriptor yL_thumb.desc).map (fun d => d.parameters.length) = some 2 := by decide +kernel
theorem cs_L_thumb : kCst yL_thumb (Cond.codeWith yL_thumb cL_thumb 3 (some .int) [(0, 5, 6, 13)]) := ⟨k_w 4 109 rfl rfl, k_w 2 0 rfl rfl, k_w 4 110 rfl rfl⟩
theorem pnL_weigh : yL_weigh.cls ≠ "java/lang/invoke/MethodHandle" ∧ yL_weigh.cls ≠ "java/lang/invoke/VarHandle" ∧ (parseMethodDescriptor yL_weigh.desc).map (fun d => d.parameters.length) = some 2 := by decide +kernel
theorem cs_L_weigh : kCst yL_weigh (Cond.codeWith yL_weigh cL_weigh 3 (some .int) [(0, 5, 6, 13)]) := ⟨k_w 4 116 rfl rfl, k_w 2 0 rfl rfl, k_w 4 117 rfl rfl⟩
theorem pnL_sell : yL_sell.cls ≠ "java/lang/invoke/MethodHandle" ∧ yL_sell.cls ≠ "java/lang/invoke/VarHandle" ∧ (parseMethodDescriptor yL_sell.desc).map (fun d => d.parameters.length) = some 2 := by decide +kernel
theorem cs_L_sell : kCst yL_sell (Cond.codeWith yL_sell cL_sell 3 (some .int) [(0, 5, 6, 13)]) := ⟨k_w 4 123 rfl rfl, k_w 2 0 rfl rfl, k_w 4 124 rfl rfl⟩
theorem pnL_oath : yL_oath.cls ≠ "java/lang/invoke/MethodHandle" ∧ yL_oath.cls ≠ "java/lang/invoke/VarHandle" ∧ (parseMethodDescriptor yL_oath.desc).map (fun d => d.parameters.length) = some 1 := by decide +kernel
theorem cs_L_oath : kCst yL_oath (Cond.codeWith yL_oath cL_oath 2 (some .int) [(0, 4, 5, 13)]) := ⟨k_w 4 130 rfl rfl, k_w 2 0 rfl rfl, k_w 4 131 rfl rfl⟩
theorem pnL_seal : yL_seal.cls ≠ "java/lang/invoke/MethodHandle" ∧ yL_seal.cls ≠ "java/lang/invoke/VarHandle" ∧ (parseMethodDescriptor yL_seal.desc).map (fun d => d.parameters.length) = some 2 := by decide +kernel
theorem cs_L_seal : kCst yL_seal (Cond.codeWith yL_seal cL_seal 3 (some .int) [(0, 5, 6, 13)]) := ⟨k_w 4 144 rfl rfl, k_w 2 0 rfl rfl, k_w 4 145 rfl rfl⟩
theorem pnL_reads : yL_reads.cls ≠ "java/lang/invoke/MethodHandle" ∧ yL_reads.cls ≠ "java/lang/invoke/VarHandle" ∧ (parseMethodDescriptor yL_reads.desc).map (fun d => d.parameters.length) = some 2 := by decide +kernel
theorem cs_L_reads : kCst yL_reads (Cond.code yL_reads cL_reads 3 (some .int)) := ⟨k_w 7 193 rfl rfl, k_w 2 0 rfl rfl, k_w 7 194 rfl rfl⟩
theorem kw649 : Cond.methodLink RL 235 yL_empty ∈ kW := k_w 4 101 rfl rfl
theorem kw656 : Cond.methodLink RL 239 yL_thumb ∈ kW := k_w 4 108 rfl rfl
theorem kw663 : Cond.methodLink RL 241 yL_weigh ∈ kW := k_w 4 115 rfl rfl
theorem kw670 : Cond.methodLink RL 243 yL_sell ∈ kW := k_w 4 122 rfl rfl
theorem kw677 : Cond.methodLink RL 245 yL_oath ∈ kW := k_w 4 129 rfl rfl
theorem kw691 : Cond.methodLink RL 247 yL_seal ∈ kW := k_w 4 143 rfl rfl
theorem kw1442 : Cond.methodLink RL 237 yL_beat ∈ kW := k_w 7 174 rfl rfl
theorem kw1449 : Cond.classLink RL 249 "java/lang/StringBuilder" ∈ kW := k_w 7 181 rfl rfl
theorem kw1450 : Cond.methodLink RL 251 yJ4_init_da8c8 ∈ kW := k_w 7 182 rfl rfl
theorem kw1452 : Cond.methodLink RL 254 yJ4_append_15ec4 ∈ kW := k_w 7 184 rfl rfl
theorem kw1453 : Cond.methodLink RL 257 yJ4_append_bf812 ∈ kW := k_w 7 185 rfl rfl
theorem kw1455 : Cond.methodLink RL 262 yJ4_toString_0e30d ∈ kW := k_w 7 187 rfl rfl
theorem kw1460 : Cond.methodLink RL 274 yL_reads ∈ kW := k_w 7 192 rfl rfl
abbrev wL_changes : List Cond := Cond.code yL_changes cL_changes 4 (some .boolean) :: kW
set_option maxHeartbeats 8000000 in
set_option maxRecDepth 100000 in
theorem L_changes_c (l : Launch) (hfl : l.stackTraces = false) (g : kG) (oF : Nat) (F : Nat → Int32) (C S : kK) (h : List kK) (R : Nat → Int32) (T : kK) (ln : kTx) (cs : List va_W) (hO : kOb g oF F C S h R T ln cs) (x : Int32) (D : Nat) (hDm : D ≤ 700000) (hT : T.1 1 = 0) (hC : kRg D C) : kL kX0 l yL_changes wL_changes 10 341 75 708 g [.ref oF, .int x] cs (fun r u => ∃ b : Bool, r = b2i b ∧ kDone g oF F C S h ln D b u) := by
  refine kLg_ofC (cc := cL_changes) (nL := 4) (ret := some .boolean) (lv := [(0, .ref oF), (1, .int x)]) (by decide) rfl (Nat.le_of_ble_eq_true rfl) rfl ?_
  intro p e s m args below meth c ls A hN hX K hP hD hE hA hS hl
  have K : kC p c cL_changes s m args meth RL g 4 (some .boolean) := K
  have hx := K.1.1
  have hb := K.1.2.1
  have hts := K.1.2.2.2.2
  obtain ⟨⟨nb, hnb, e7⟩, ⟨nj, hnj, e4⟩, -⟩ := hC.1
  refine lv_iload_n hx hb dL_changes_0 rfl (lv_at hl 1 rfl) ?_
  refine lv_iconst (v := 4) hx hb dL_changes_1 (by decide) ?_
  refine lv_ishr hx hb dL_changes_2 ?_
  refine lv_aload_n hx hb dL_changes_3 rfl (lv_at hl 0 rfl) ?_
  refine lv_iconst (v := 5) hx hb dL_changes_4 (by decide) ?_
  refine kL_SW (As := [.ref oF, .int 5]) (rest := [.int (x >>> (4 &&& 31))]) (wr := []) K kX0_s (L_account_c l hfl g oF F C S h R T ln _ hO 5) hN kX0_fr (vx_cwSW 2 hts (k_gS kw961 cs_L_account) rfl rfl rfl pnL_account ⟨Nat.le_of_ble_eq_true rfl, Nat.le_of_ble_eq_true rfl⟩) hE hS hA hP hD rfl hl.1 rfl rfl dL_changes_5 ⟨Nat.le_of_ble_eq_true rfl, Nat.le_of_ble_eq_true rfl⟩ (fun r u H locs hp hP hD hS => ?_)
  have hP : kp g u H := hP
  have hD : kd A u := hD
  obtain ⟨hr, hO⟩ := hp
  have hr : r = nI nb := (hr.trans kAcc_5).trans e7
  subst hr
  refine lv_iconst (v := 1) hx hb dL_changes_8 (by decide) ?_
  refine lv_iadd hx hb dL_changes_9 ?_
  refine k_top (nI (nb + 1)) (nI_1 nb) ?_
  refine kR_S (As := [.int (x >>> (4 &&& 31)), .int (nI (nb + 1))]) (rest := []) K (L_some_c l g (x >>> (4 &&& 31)) (nI (nb + 1)) (nI_ne0 (by omega) (by omega))) (va_cwS 2 hts (k_gS kw344 cs_L_some) rfl rfl rfl pnL_some ⟨Nat.le_of_ble_eq_true rfl, Nat.le_of_ble_eq_true rfl⟩) hE hS (hP.pick [] rfl) rfl hl.1 rfl rfl dL_changes_10 ⟨Nat.le_of_ble_eq_true rfl, Nat.le_of_ble_eq_true rfl⟩ ?_
  generalize kSome (x >>> (4 &&& 31)) (nI (nb + 1)) = vb
  refine lv_istore_n (lv' := [(2, .int vb), (0, .ref oF), (1, .int x)]) hx hb dL_changes_13 rfl hl (by decide) rfl (fun ls hl => ?_)
  refine lv_iload_n hx hb dL_changes_14 rfl (lv_at hl 2 rfl) ?_
  refine lv_bipush (v := 7) hx hb dL_changes_15 (by decide) ?_
  refine lv_ishr hx hb dL_changes_17 ?_
  refine lv_aload_n hx hb dL_changes_18 rfl (lv_at hl 1 rfl) ?_
  refine lv_iconst (v := 4) hx hb dL_changes_19 (by decide) ?_
  refine kL_SW (As := [.ref oF, .int 4]) (rest := [.int (x >>> (7 &&& 31))]) (wr := []) K kX0_s (L_account_c l hfl g oF F C S h R T ln _ hO 4) hN kX0_fr (vx_cwSW 2 hts (k_gS kw961 cs_L_account) rfl rfl rfl pnL_account ⟨Nat.le_of_ble_eq_true rfl, Nat.le_of_ble_eq_true rfl⟩) hE hS hA hP hD rfl hl.1 rfl rfl dL_changes_20 ⟨Nat.le_of_ble_eq_true rfl, Nat.le_of_ble_eq_true rfl⟩ (fun r u H locs hp hP hD hS => ?_)
  have hP : kp g u H := hP
  have hD : kd A u := hD
  obtain ⟨hr, hO⟩ := hp
  have hr : r = nI nj := (hr.trans kAcc_4).trans e4
  subst hr
  refine lv_iconst (v := 1) hx hb dL_changes_23 (by decide) ?_
  refine lv_iadd hx hb dL_changes_24 ?_
  refine k_top (nI (nj + 1)) (nI_1 nj) ?_
  refine kR_S (As := [.int (x >>> (7 &&& 31)), .int (nI (nj + 1))]) (rest := []) K (L_some_c l g (x >>> (7 &&& 31)) (nI (nj + 1)) (nI_ne0 (by omega) (by omega))) (va_cwS 2 hts (k_gS kw344 cs_L_some) rfl rfl rfl pnL_some ⟨Nat.le_of_ble_eq_true rfl, Nat.le_of_ble_eq_true rfl⟩) hE hS (hP.pick [] rfl) rfl hl.1 rfl rfl dL_changes_25 ⟨Nat.le_of_ble_eq_true rfl, Nat.le_of_ble_eq_true rfl⟩ ?_
  generalize kSome (x >>> (7 &&& 31)) (nI (nj + 1)) = vj
  refine lv_istore_n (lv' := [(3, .int vj), (2, .int vb), (0, .ref oF), (1, .int x)]) hx hb dL_changes_28 rfl hl (by decide) rfl (fun ls hl => ?_)
  refine lv_iload_n hx hb dL_changes_29 rfl (lv_at hl 3 rfl) ?_
  refine lv_bipush (v := 17) hx hb dL_changes_30 (by decide) ?_
  refine kR_S (As := [.int x, .int 17]) (rest := []) K (L_some_c l g x 17 (by decide)) (va_cwS 2 hts (k_gS kw344 cs_L_some) rfl rfl rfl pnL_some ⟨Nat.le_of_ble_eq_true rfl, Nat.le_of_ble_eq_true rfl⟩) hE hS (hP.pick [] rfl) rfl hl.1 rfl rfl dL_changes_32 ⟨Nat.le_of_ble_eq_true rfl, Nat.le_of_ble_eq_true rfl⟩ ?_
  obtain ⟨i, hi, ei⟩ := kSome_i (v := x) (n := 17) (m := 17) rfl (by omega) (by omega)
  refine k_top (nI i) (ei) ?_
  by_cases hi15 : i < 15
  · obtain rfl | rfl | rfl | rfl | rfl | rfl | rfl | rfl | rfl | rfl | rfl | rfl | rfl | rfl | rfl : i = 0 ∨ i = 1 ∨ i = 2 ∨ i = 3 ∨ i = 4 ∨ i = 5 ∨ i = 6 ∨ i = 7 ∨ i = 8 ∨ i = 9 ∨ i = 10 ∨ i = 11 ∨ i = 12 ∨ i = 13 ∨ i = 14 := by omega
    · refine lv_tableIn (off := 73) (tgt := 108) hx hb dL_changes_35 (by decide) (by decide) rfl (by decide) ?_
      refine lv_aload_n hx hb dL_changes_108 rfl (lv_at hl 2 rfl) ?_
      refine lv_iload_n hx hb dL_changes_109 rfl (lv_at hl 3 rfl) ?_
      refine lv_iconst (v := 4) hx hb dL_changes_110 (by decide) ?_
      refine lv_ishr hx hb dL_changes_111 ?_
      refine lv_bipush (v := 6) hx hb dL_changes_112 (by decide) ?_
      refine kR_S (As := [.int (x >>> (4 &&& 31)), .int 6]) (rest := [.ref oF]) K (L_some_c l g (x >>> (4 &&& 31)) 6 (by decide)) (va_cwS 2 hts (k_gS kw344 cs_L_some) rfl rfl rfl pnL_some ⟨Nat.le_of_ble_eq_true rfl, Nat.le_of_ble_eq_true rfl⟩) hE hS (hP.pick [] rfl) rfl hl.1 rfl rfl dL_changes_114 ⟨Nat.le_of_ble_eq_true rfl, Nat.le_of_ble_eq_true rfl⟩ ?_
      obtain ⟨s1, hs1, es1⟩ := kSome_i (v := (x >>> (4 &&& 31))) (n := 6) (m := 6) rfl (by omega) (by omega)
      refine k_top (nI s1) (es1) ?_
      refine lv_iload_n hx hb dL_changes_117 rfl (lv_at hl 3 rfl) ?_
      refine lv_bipush (v := 6) hx hb dL_changes_118 (by decide) ?_
      refine lv_ishr hx hb dL_changes_120 ?_
      refine lv_sipush (v := 902) hx hb dL_changes_121 (by decide) ?_
      refine kR_S (As := [.int (x >>> (6 &&& 31)), .int 902]) (rest := [.int (nI s1), .ref oF]) K (L_some_c l g (x >>> (6 &&& 31)) 902 (by decide)) (va_cwS 2 hts (k_gS kw344 cs_L_some) rfl rfl rfl pnL_some ⟨Nat.le_of_ble_eq_true rfl, Nat.le_of_ble_eq_true rfl⟩) hE hS (hP.pick [] rfl) rfl hl.1 rfl rfl dL_changes_124 ⟨Nat.le_of_ble_eq_true rfl, Nat.le_of_ble_eq_true rfl⟩ ?_
      obtain ⟨s2, hs2, es2⟩ := kSome_i (v := (x >>> (6 &&& 31))) (n := 902) (m := 902) rfl (by omega) (by omega)
      refine k_top (nI s2) (es2) ?_
      refine kL_SW (As := [.ref oF, .int (nI s1), .int (nI s2)]) (rest := []) (wr := []) K kX0_s (L_jar_c l hfl g oF F C S h R T ln _ hO (nI s1) (nI s2)) hN kX0_fr (vx_cwSW 3 hts (k_gS kw347 cs_L_jar) rfl rfl rfl pnL_jar ⟨Nat.le_of_ble_eq_true rfl, Nat.le_of_ble_eq_true rfl⟩) hE hS hA hP hD rfl hl.1 rfl rfl dL_changes_127 ⟨Nat.le_of_ble_eq_true rfl, Nat.le_of_ble_eq_true rfl⟩ (fun r u H locs hp hP hD hS => ?_)
      have hP : kp g u H := hP
      have hD : kd A u := hD
      rcases ch_done hDm hT hC hp with ⟨hr, hq⟩ | ⟨hr, hq⟩
      · refine lv_if_lt (tgt := 137) hx hb dL_changes_130 (by decide) (fun z => ?_) (fun z => absurd hr z)
        refine lv_iconst (v := 0) hx hb dL_changes_137 (by decide) ?_
        exact kL_zret (b := false) K hP hD hS ⟨false, rfl, hq⟩ ⟨Nat.le_of_ble_eq_true rfl, Nat.le_of_ble_eq_true rfl⟩ dL_changes_138
      · refine lv_if_lt (tgt := 137) hx hb dL_changes_130 (by decide) (fun z => absurd z hr) (fun z => ?_)
        refine lv_iconst (v := 1) hx hb dL_changes_133 (by decide) ?_
        refine lv_goto (tgt := 138) hx hb dL_changes_134 (by decide) ?_
        exact kL_zret (b := true) K hP hD hS ⟨true, rfl, hq⟩ ⟨Nat.le_of_ble_eq_true rfl, Nat.le_of_ble_eq_true rfl⟩ dL_changes_138
    · refine lv_tableIn (off := 104) (tgt := 139) hx hb dL_changes_35 (by decide) (by decide) rfl (by decide) ?_
      refine lv_aload_n hx hb dL_changes_139 rfl (lv_at hl 2 rfl) ?_
      refine lv_iconst (v := 4) hx hb dL_changes_140 (by decide) ?_
      refine lv_iload_n hx hb dL_changes_141 rfl (lv_at hl 3 rfl) ?_
      refine lv_iconst (v := 4) hx hb dL_changes_142 (by decide) ?_
      refine lv_ishr hx hb dL_changes_143 ?_
      refine lv_bipush (v := 48) hx hb dL_changes_144 (by decide) ?_
      refine kR_S (As := [.int (x >>> (4 &&& 31)), .int 48]) (rest := [.int 4, .ref oF]) K (L_some_c l g (x >>> (4 &&& 31)) 48 (by decide)) (va_cwS 2 hts (k_gS kw344 cs_L_some) rfl rfl rfl pnL_some ⟨Nat.le_of_ble_eq_true rfl, Nat.le_of_ble_eq_true rfl⟩) hE hS (hP.pick [] rfl) rfl hl.1 rfl rfl dL_changes_146 ⟨Nat.le_of_ble_eq_true rfl, Nat.le_of_ble_eq_true rfl⟩ ?_
      obtain ⟨s1, hs1, es1⟩ := kSome_i (v := (x >>> (4 &&& 31))) (n := 48) (m := 48) rfl (by omega) (by omega)
      refine k_top (nI s1) (es1) ?_
      refine lv_iadd hx hb dL_changes_149 ?_
      refine kL_SW (As := [.ref oF, .int (4 + (nI s1))]) (rest := []) (wr := []) K kX0_s (L_bag_c l hfl g oF F C S h R T ln _ hO (4 + (nI s1))) hN kX0_fr (vx_cwSW 2 hts (k_gS kw635 cs_L_bag) rfl rfl rfl pnL_bag ⟨Nat.le_of_ble_eq_true rfl, Nat.le_of_ble_eq_true rfl⟩) hE hS hA hP hD rfl hl.1 rfl rfl dL_changes_150 ⟨Nat.le_of_ble_eq_true rfl, Nat.le_of_ble_eq_true rfl⟩ (fun r u H locs hp hP hD hS => ?_)
      have hP : kp g u H := hP
      have hD : kd A u := hD
      rcases ch_done hDm hT hC hp with ⟨hr, hq⟩ | ⟨hr, hq⟩
      · refine lv_if_lt (tgt := 160) hx hb dL_changes_153 (by decide) (fun z => ?_) (fun z => absurd hr z)
        refine lv_iconst (v := 0) hx hb dL_changes_160 (by decide) ?_
        exact kL_zret (b := false) K hP hD hS ⟨false, rfl, hq⟩ ⟨Nat.le_of_ble_eq_true rfl, Nat.le_of_ble_eq_true rfl⟩ dL_changes_161
      · refine lv_if_lt (tgt := 160) hx hb dL_changes_153 (by decide) (fun z => absurd z hr) (fun z => ?_)
        refine lv_iconst (v := 1) hx hb dL_changes_156 (by decide) ?_
        refine lv_goto (tgt := 161) hx hb dL_changes_157 (by decide) ?_
        exact kL_zret (b := true) K hP hD hS ⟨true, rfl, hq⟩ ⟨Nat.le_of_ble_eq_true rfl, Nat.le_of_ble_eq_true rfl⟩ dL_changes_161
    · refine lv_tableIn (off := 127) (tgt := 162) hx hb dL_changes_35 (by decide) (by decide) rfl (by decide) ?_
      refine lv_aload_n hx hb dL_changes_162 rfl (lv_at hl 2 rfl) ?_
      refine lv_iload_n hx hb dL_changes_163 rfl (lv_at hl 1 rfl) ?_
      refine lv_iload_n hx hb dL_changes_164 rfl (lv_at hl 0 rfl) ?_
      refine lv_iload_n hx hb dL_changes_165 rfl (lv_at hl 3 rfl) ?_
      refine lv_bipush (v := 8) hx hb dL_changes_166 (by decide) ?_
      refine lv_ishr hx hb dL_changes_168 ?_
      refine lv_sipush (v := 402) hx hb dL_changes_169 (by decide) ?_
      refine kR_S (As := [.int (x >>> (8 &&& 31)), .int 402]) (rest := [.int vj, .int vb, .ref oF]) K (L_some_c l g (x >>> (8 &&& 31)) 402 (by decide)) (va_cwS 2 hts (k_gS kw344 cs_L_some) rfl rfl rfl pnL_some ⟨Nat.le_of_ble_eq_true rfl, Nat.le_of_ble_eq_true rfl⟩) hE hS (hP.pick [] rfl) rfl hl.1 rfl rfl dL_changes_172 ⟨Nat.le_of_ble_eq_true rfl, Nat.le_of_ble_eq_true rfl⟩ ?_
      obtain ⟨s1, hs1, es1⟩ := kSome_i (v := (x >>> (8 &&& 31))) (n := 402) (m := 402) rfl (by omega) (by omega)
      refine k_top (nI s1) (es1) ?_
      refine kL_SW (As := [.ref oF, .int vb, .int vj, .int (nI s1)]) (rest := []) (wr := []) K kX0_s (L_fill_c l hfl g oF F C S h R T ln _ hO vb vj (nI s1)) hN kX0_fr (vx_cwSW 4 hts (k_gS kw642 cs_L_fill) rfl rfl rfl pnL_fill ⟨Nat.le_of_ble_eq_true rfl, Nat.le_of_ble_eq_true rfl⟩) hE hS hA hP hD rfl hl.1 rfl rfl dL_changes_175 ⟨Nat.le_of_ble_eq_true rfl, Nat.le_of_ble_eq_true rfl⟩ (fun r u H locs hp hP hD hS => ?_)
      have hP : kp g u H := hP
      have hD : kd A u := hD
      rcases ch_done hDm hT hC hp with ⟨hr, hq⟩ | ⟨hr, hq⟩
      · refine lv_if_lt (tgt := 185) hx hb dL_changes_178 (by decide) (fun z => ?_) (fun z => absurd hr z)
        refine lv_iconst (v := 0) hx hb dL_changes_185 (by decide) ?_
        exact kL_zret (b := false) K hP hD hS ⟨false, rfl, hq⟩ ⟨Nat.le_of_ble_eq_true rfl, Nat.le_of_ble_eq_true rfl⟩ dL_changes_186
      · refine lv_if_lt (tgt := 185) hx hb dL_changes_178 (by decide) (fun z => absurd z hr) (fun z => ?_)
        refine lv_iconst (v := 1) hx hb dL_changes_181 (by decide) ?_
        refine lv_goto (tgt := 186) hx hb dL_changes_182 (by decide) ?_
        exact kL_zret (b := true) K hP hD hS ⟨true, rfl, hq⟩ ⟨Nat.le_of_ble_eq_true rfl, Nat.le_of_ble_eq_true rfl⟩ dL_changes_186
    · refine lv_tableIn (off := 127) (tgt := 162) hx hb dL_changes_35 (by decide) (by decide) rfl (by decide) ?_
      refine lv_aload_n hx hb dL_changes_162 rfl (lv_at hl 2 rfl) ?_
      refine lv_iload_n hx hb dL_changes_163 rfl (lv_at hl 1 rfl) ?_
      refine lv_iload_n hx hb dL_changes_164 rfl (lv_at hl 0 rfl) ?_
      refine lv_iload_n hx hb dL_changes_165 rfl (lv_at hl 3 rfl) ?_
      refine lv_bipush (v := 8) hx hb dL_changes_166 (by decide) ?_
      refine lv_ishr hx hb dL_changes_168 ?_
      refine lv_sipush (v := 402) hx hb dL_changes_169 (by decide) ?_
      refine kR_S (As := [.int (x >>> (8 &&& 31)), .int 402]) (rest := [.int vj, .int vb, .ref oF]) K (L_some_c l g (x >>> (8 &&& 31)) 402 (by decide)) (va_cwS 2 hts (k_gS kw344 cs_L_some) rfl rfl rfl pnL_some ⟨Nat.le_of_ble_eq_true rfl, Nat.le_of_ble_eq_true rfl⟩) hE hS (hP.pick [] rfl) rfl hl.1 rfl rfl dL_changes_172 ⟨Nat.le_of_ble_eq_true rfl, Nat.le_of_ble_eq_true rfl⟩ ?_
      obtain ⟨s1, hs1, es1⟩ := kSome_i (v := (x >>> (8 &&& 31))) (n := 402) (m := 402) rfl (by omega) (by omega)
      refine k_top (nI s1) (es1) ?_
      refine kL_SW (As := [.ref oF, .int vb, .int vj, .int (nI s1)]) (rest := []) (wr := []) K kX0_s (L_fill_c l hfl g oF F C S h R T ln _ hO vb vj (nI s1)) hN kX0_fr (vx_cwSW 4 hts (k_gS kw642 cs_L_fill) rfl rfl rfl pnL_fill ⟨Nat.le_of_ble_eq_true rfl, Nat.le_of_ble_eq_true rfl⟩) hE hS hA hP hD rfl hl.1 rfl rfl dL_changes_175 ⟨Nat.le_of_ble_eq_true rfl, Nat.le_of_ble_eq_true rfl⟩ (fun r u H locs hp hP hD hS => ?_)
      have hP : kp g u H := hP
      have hD : kd A u := hD
      rcases ch_done hDm hT hC hp with ⟨hr, hq⟩ | ⟨hr, hq⟩
      · refine lv_if_lt (tgt := 185) hx hb dL_changes_178 (by decide) (fun z => ?_) (fun z => absurd hr z)
        refine lv_iconst (v := 0) hx hb dL_changes_185 (by decide) ?_
        exact kL_zret (b := false) K hP hD hS ⟨false, rfl, hq⟩ ⟨Nat.le_of_ble_eq_true rfl, Nat.le_of_ble_eq_true rfl⟩ dL_changes_186
      · refine lv_if_lt (tgt := 185) hx hb dL_changes_178 (by decide) (fun z => absurd z hr) (fun z => ?_)
        refine lv_iconst (v := 1) hx hb dL_changes_181 (by decide) ?_
        refine lv_goto (tgt := 186) hx hb dL_changes_182 (by decide) ?_
        exact kL_zret (b := true) K hP hD hS ⟨true, rfl, hq⟩ ⟨Nat.le_of_ble_eq_true rfl, Nat.le_of_ble_eq_true rfl⟩ dL_changes_186
    · refine lv_tableIn (off := 152) (tgt := 187) hx hb dL_changes_35 (by decide) (by decide) rfl (by decide) ?_
      refine lv_aload_n hx hb dL_changes_187 rfl (lv_at hl 2 rfl) ?_
      refine lv_iload_n hx hb dL_changes_188 rfl (lv_at hl 1 rfl) ?_
      refine lv_iload_n hx hb dL_changes_189 rfl (lv_at hl 0 rfl) ?_
      refine kL_SW (As := [.ref oF, .int vb, .int vj]) (rest := []) (wr := []) K kX0_s (L_empty_c l hfl g oF F C S h R T ln _ hO vb vj) hN kX0_fr (vx_cwSW 3 hts (k_gS kw649 cs_L_empty) rfl rfl rfl pnL_empty ⟨Nat.le_of_ble_eq_true rfl, Nat.le_of_ble_eq_true rfl⟩) hE hS hA hP hD rfl hl.1 rfl rfl dL_changes_190 ⟨Nat.le_of_ble_eq_true rfl, Nat.le_of_ble_eq_true rfl⟩ (fun r u H locs hp hP hD hS => ?_)
      have hP : kp g u H := hP
      have hD : kd A u := hD
      rcases ch_done hDm hT hC hp with ⟨hr, hq⟩ | ⟨hr, hq⟩
      · refine lv_if_lt (tgt := 200) hx hb dL_changes_193 (by decide) (fun z => ?_) (fun z => absurd hr z)
        refine lv_iconst (v := 0) hx hb dL_changes_200 (by decide) ?_
        exact kL_zret (b := false) K hP hD hS ⟨false, rfl, hq⟩ ⟨Nat.le_of_ble_eq_true rfl, Nat.le_of_ble_eq_true rfl⟩ dL_changes_201
      · refine lv_if_lt (tgt := 200) hx hb dL_changes_193 (by decide) (fun z => absurd z hr) (fun z => ?_)
        refine lv_iconst (v := 1) hx hb dL_changes_196 (by decide) ?_
        refine lv_goto (tgt := 201) hx hb dL_changes_197 (by decide) ?_
        exact kL_zret (b := true) K hP hD hS ⟨true, rfl, hq⟩ ⟨Nat.le_of_ble_eq_true rfl, Nat.le_of_ble_eq_true rfl⟩ dL_changes_201
    · refine lv_tableIn (off := 167) (tgt := 202) hx hb dL_changes_35 (by decide) (by decide) rfl (by decide) ?_
      refine lv_aload_n hx hb dL_changes_202 rfl (lv_at hl 2 rfl) ?_
      refine lv_iload_n hx hb dL_changes_203 rfl (lv_at hl 1 rfl) ?_
      refine kL_SW (As := [.ref oF, .int vb]) (rest := []) (wr := []) K kX0_s (L_beat_c l hfl g oF F C S h R T ln _ hO vb) hN kX0_fr (vx_cwSW 2 hts (k_gS kw1442 cs_L_beat) rfl rfl rfl pnL_beat ⟨Nat.le_of_ble_eq_true rfl, Nat.le_of_ble_eq_true rfl⟩) hE hS hA hP hD rfl hl.1 rfl rfl dL_changes_204 ⟨Nat.le_of_ble_eq_true rfl, Nat.le_of_ble_eq_true rfl⟩ (fun r u H locs hp hP hD hS => ?_)
      have hP : kp g u H := hP
      have hD : kd A u := hD
      rcases ch_done hDm hT hC hp with ⟨hr, hq⟩ | ⟨hr, hq⟩
      · refine lv_if_lt (tgt := 214) hx hb dL_changes_207 (by decide) (fun z => ?_) (fun z => absurd hr z)
        refine lv_iconst (v := 0) hx hb dL_changes_214 (by decide) ?_
        exact kL_zret (b := false) K hP hD hS ⟨false, rfl, hq⟩ ⟨Nat.le_of_ble_eq_true rfl, Nat.le_of_ble_eq_true rfl⟩ dL_changes_215
      · refine lv_if_lt (tgt := 214) hx hb dL_changes_207 (by decide) (fun z => absurd z hr) (fun z => ?_)
        refine lv_iconst (v := 1) hx hb dL_changes_210 (by decide) ?_
        refine lv_goto (tgt := 215) hx hb dL_changes_211 (by decide) ?_
        exact kL_zret (b := true) K hP hD hS ⟨true, rfl, hq⟩ ⟨Nat.le_of_ble_eq_true rfl, Nat.le_of_ble_eq_true rfl⟩ dL_changes_215
    · refine lv_tableIn (off := 181) (tgt := 216) hx hb dL_changes_35 (by decide) (by decide) rfl (by decide) ?_
      refine lv_aload_n hx hb dL_changes_216 rfl (lv_at hl 2 rfl) ?_
      refine lv_iload_n hx hb dL_changes_217 rfl (lv_at hl 3 rfl) ?_
      refine lv_iconst (v := 4) hx hb dL_changes_218 (by decide) ?_
      refine lv_ishr hx hb dL_changes_219 ?_
      refine lv_bipush (v := 32) hx hb dL_changes_220 (by decide) ?_
      refine kR_S (As := [.int (x >>> (4 &&& 31)), .int 32]) (rest := [.ref oF]) K (L_some_c l g (x >>> (4 &&& 31)) 32 (by decide)) (va_cwS 2 hts (k_gS kw344 cs_L_some) rfl rfl rfl pnL_some ⟨Nat.le_of_ble_eq_true rfl, Nat.le_of_ble_eq_true rfl⟩) hE hS (hP.pick [] rfl) rfl hl.1 rfl rfl dL_changes_222 ⟨Nat.le_of_ble_eq_true rfl, Nat.le_of_ble_eq_true rfl⟩ ?_
      obtain ⟨s1, hs1, es1⟩ := kSome_i (v := (x >>> (4 &&& 31))) (n := 32) (m := 32) rfl (by omega) (by omega)
      refine k_top (nI s1) (es1) ?_
      refine kL_SW (As := [.ref oF, .int (nI s1)]) (rest := []) (wr := []) K kX0_s (L_thumb_c l hfl g oF F C S h R T ln _ hO (nI s1)) hN kX0_fr (vx_cwSW 2 hts (k_gS kw656 cs_L_thumb) rfl rfl rfl pnL_thumb ⟨Nat.le_of_ble_eq_true rfl, Nat.le_of_ble_eq_true rfl⟩) hE hS hA hP hD rfl hl.1 rfl rfl dL_changes_225 ⟨Nat.le_of_ble_eq_true rfl, Nat.le_of_ble_eq_true rfl⟩ (fun r u H locs hp hP hD hS => ?_)
      have hP : kp g u H := hP
      have hD : kd A u := hD
      rcases ch_done hDm hT hC hp with ⟨hr, hq⟩ | ⟨hr, hq⟩
      · refine lv_if_lt (tgt := 235) hx hb dL_changes_228 (by decide) (fun z => ?_) (fun z => absurd hr z)
        refine lv_iconst (v := 0) hx hb dL_changes_235 (by decide) ?_
        exact kL_zret (b := false) K hP hD hS ⟨false, rfl, hq⟩ ⟨Nat.le_of_ble_eq_true rfl, Nat.le_of_ble_eq_true rfl⟩ dL_changes_236
      · refine lv_if_lt (tgt := 235) hx hb dL_changes_228 (by decide) (fun z => absurd z hr) (fun z => ?_)
        refine lv_iconst (v := 1) hx hb dL_changes_231 (by decide) ?_
        refine lv_goto (tgt := 236) hx hb dL_changes_232 (by decide) ?_
        exact kL_zret (b := true) K hP hD hS ⟨true, rfl, hq⟩ ⟨Nat.le_of_ble_eq_true rfl, Nat.le_of_ble_eq_true rfl⟩ dL_changes_236
    · refine lv_tableIn (off := 202) (tgt := 237) hx hb dL_changes_35 (by decide) (by decide) rfl (by decide) ?_
      refine lv_aload_n hx hb dL_changes_237 rfl (lv_at hl 2 rfl) ?_
      refine lv_iload_n hx hb dL_changes_238 rfl (lv_at hl 1 rfl) ?_
      refine kL_SW (As := [.ref oF, .int vb]) (rest := []) (wr := []) K kX0_s (L_weigh_c l hfl g oF F C S h R T ln _ hO vb) hN kX0_fr (vx_cwSW 2 hts (k_gS kw663 cs_L_weigh) rfl rfl rfl pnL_weigh ⟨Nat.le_of_ble_eq_true rfl, Nat.le_of_ble_eq_true rfl⟩) hE hS hA hP hD rfl hl.1 rfl rfl dL_changes_239 ⟨Nat.le_of_ble_eq_true rfl, Nat.le_of_ble_eq_true rfl⟩ (fun r u H locs hp hP hD hS => ?_)
      have hP : kp g u H := hP
      have hD : kd A u := hD
      rcases ch_done hDm hT hC hp with ⟨hr, hq⟩ | ⟨hr, hq⟩
      · refine lv_if_lt (tgt := 249) hx hb dL_changes_242 (by decide) (fun z => ?_) (fun z => absurd hr z)
        refine lv_iconst (v := 0) hx hb dL_changes_249 (by decide) ?_
        exact kL_zret (b := false) K hP hD hS ⟨false, rfl, hq⟩ ⟨Nat.le_of_ble_eq_true rfl, Nat.le_of_ble_eq_true rfl⟩ dL_changes_250
      · refine lv_if_lt (tgt := 249) hx hb dL_changes_242 (by decide) (fun z => absurd z hr) (fun z => ?_)
        refine lv_iconst (v := 1) hx hb dL_changes_245 (by decide) ?_
        refine lv_goto (tgt := 250) hx hb dL_changes_246 (by decide) ?_
        exact kL_zret (b := true) K hP hD hS ⟨true, rfl, hq⟩ ⟨Nat.le_of_ble_eq_true rfl, Nat.le_of_ble_eq_true rfl⟩ dL_changes_250
    · refine lv_tableIn (off := 202) (tgt := 237) hx hb dL_changes_35 (by decide) (by decide) rfl (by decide) ?_
      refine lv_aload_n hx hb dL_changes_237 rfl (lv_at hl 2 rfl) ?_
      refine lv_iload_n hx hb dL_changes_238 rfl (lv_at hl 1 rfl) ?_
      refine kL_SW (As := [.ref oF, .int vb]) (rest := []) (wr := []) K kX0_s (L_weigh_c l hfl g oF F C S h R T ln _ hO vb) hN kX0_fr (vx_cwSW 2 hts (k_gS kw663 cs_L_weigh) rfl rfl rfl pnL_weigh ⟨Nat.le_of_ble_eq_true rfl, Nat.le_of_ble_eq_true rfl⟩) hE hS hA hP hD rfl hl.1 rfl rfl dL_changes_239 ⟨Nat.le_of_ble_eq_true rfl, Nat.le_of_ble_eq_true rfl⟩ (fun r u H locs hp hP hD hS => ?_)
      have hP : kp g u H := hP
      have hD : kd A u := hD
      rcases ch_done hDm hT hC hp with ⟨hr, hq⟩ | ⟨hr, hq⟩
      · refine lv_if_lt (tgt := 249) hx hb dL_changes_242 (by decide) (fun z => ?_) (fun z => absurd hr z)
        refine lv_iconst (v := 0) hx hb dL_changes_249 (by decide) ?_
        exact kL_zret (b := false) K hP hD hS ⟨false, rfl, hq⟩ ⟨Nat.le_of_ble_eq_true rfl, Nat.le_of_ble_eq_true rfl⟩ dL_changes_250
      · refine lv_if_lt (tgt := 249) hx hb dL_changes_242 (by decide) (fun z => absurd z hr) (fun z => ?_)
        refine lv_iconst (v := 1) hx hb dL_changes_245 (by decide) ?_
        refine lv_goto (tgt := 250) hx hb dL_changes_246 (by decide) ?_
        exact kL_zret (b := true) K hP hD hS ⟨true, rfl, hq⟩ ⟨Nat.le_of_ble_eq_true rfl, Nat.le_of_ble_eq_true rfl⟩ dL_changes_250
    · refine lv_tableIn (off := 216) (tgt := 251) hx hb dL_changes_35 (by decide) (by decide) rfl (by decide) ?_
      refine lv_aload_n hx hb dL_changes_251 rfl (lv_at hl 2 rfl) ?_
      refine lv_iload_n hx hb dL_changes_252 rfl (lv_at hl 1 rfl) ?_
      refine kL_SW (As := [.ref oF, .int vb]) (rest := []) (wr := []) K kX0_s (L_sell_c l hfl g oF F C S h R T ln _ hO vb) hN kX0_fr (vx_cwSW 2 hts (k_gS kw670 cs_L_sell) rfl rfl rfl pnL_sell ⟨Nat.le_of_ble_eq_true rfl, Nat.le_of_ble_eq_true rfl⟩) hE hS hA hP hD rfl hl.1 rfl rfl dL_changes_253 ⟨Nat.le_of_ble_eq_true rfl, Nat.le_of_ble_eq_true rfl⟩ (fun r u H locs hp hP hD hS => ?_)
      have hP : kp g u H := hP
      have hD : kd A u := hD
      rcases ch_done hDm hT hC hp with ⟨hr, hq⟩ | ⟨hr, hq⟩
      · refine lv_if_lt (tgt := 263) hx hb dL_changes_256 (by decide) (fun z => ?_) (fun z => absurd hr z)
        refine lv_iconst (v := 0) hx hb dL_changes_263 (by decide) ?_
        exact kL_zret (b := false) K hP hD hS ⟨false, rfl, hq⟩ ⟨Nat.le_of_ble_eq_true rfl, Nat.le_of_ble_eq_true rfl⟩ dL_changes_264
      · refine lv_if_lt (tgt := 263) hx hb dL_changes_256 (by decide) (fun z => absurd z hr) (fun z => ?_)
        refine lv_iconst (v := 1) hx hb dL_changes_259 (by decide) ?_
        refine lv_goto (tgt := 264) hx hb dL_changes_260 (by decide) ?_
        exact kL_zret (b := true) K hP hD hS ⟨true, rfl, hq⟩ ⟨Nat.le_of_ble_eq_true rfl, Nat.le_of_ble_eq_true rfl⟩ dL_changes_264
    · refine lv_tableIn (off := 216) (tgt := 251) hx hb dL_changes_35 (by decide) (by decide) rfl (by decide) ?_
      refine lv_aload_n hx hb dL_changes_251 rfl (lv_at hl 2 rfl) ?_
      refine lv_iload_n hx hb dL_changes_252 rfl (lv_at hl 1 rfl) ?_
      refine kL_SW (As := [.ref oF, .int vb]) (rest := []) (wr := []) K kX0_s (L_sell_c l hfl g oF F C S h R T ln _ hO vb) hN kX0_fr (vx_cwSW 2 hts (k_gS kw670 cs_L_sell) rfl rfl rfl pnL_sell ⟨Nat.le_of_ble_eq_true rfl, Nat.le_of_ble_eq_true rfl⟩) hE hS hA hP hD rfl hl.1 rfl rfl dL_changes_253 ⟨Nat.le_of_ble_eq_true rfl, Nat.le_of_ble_eq_true rfl⟩ (fun r u H locs hp hP hD hS => ?_)
      have hP : kp g u H := hP
      have hD : kd A u := hD
      rcases ch_done hDm hT hC hp with ⟨hr, hq⟩ | ⟨hr, hq⟩
      · refine lv_if_lt (tgt := 263) hx hb dL_changes_256 (by decide) (fun z => ?_) (fun z => absurd hr z)
        refine lv_iconst (v := 0) hx hb dL_changes_263 (by decide) ?_
        exact kL_zret (b := false) K hP hD hS ⟨false, rfl, hq⟩ ⟨Nat.le_of_ble_eq_true rfl, Nat.le_of_ble_eq_true rfl⟩ dL_changes_264
      · refine lv_if_lt (tgt := 263) hx hb dL_changes_256 (by decide) (fun z => absurd z hr) (fun z => ?_)
        refine lv_iconst (v := 1) hx hb dL_changes_259 (by decide) ?_
        refine lv_goto (tgt := 264) hx hb dL_changes_260 (by decide) ?_
        exact kL_zret (b := true) K hP hD hS ⟨true, rfl, hq⟩ ⟨Nat.le_of_ble_eq_true rfl, Nat.le_of_ble_eq_true rfl⟩ dL_changes_264
    · refine lv_tableIn (off := 230) (tgt := 265) hx hb dL_changes_35 (by decide) (by decide) rfl (by decide) ?_
      refine lv_aload_n hx hb dL_changes_265 rfl (lv_at hl 2 rfl) ?_
      refine kL_SW (As := [.ref oF]) (rest := []) (wr := []) K kX0_s (L_oath_c l hfl g oF F C S h R T ln _ hO ) hN kX0_fr (vx_cwSW 1 hts (k_gS kw677 cs_L_oath) rfl rfl rfl pnL_oath ⟨Nat.le_of_ble_eq_true rfl, Nat.le_of_ble_eq_true rfl⟩) hE hS hA hP hD rfl hl.1 rfl rfl dL_changes_266 ⟨Nat.le_of_ble_eq_true rfl, Nat.le_of_ble_eq_true rfl⟩ (fun r u H locs hp hP hD hS => ?_)
      have hP : kp g u H := hP
      have hD : kd A u := hD
      rcases ch_done hDm hT hC hp with ⟨hr, hq⟩ | ⟨hr, hq⟩
      · refine lv_if_lt (tgt := 276) hx hb dL_changes_269 (by decide) (fun z => ?_) (fun z => absurd hr z)
        refine lv_iconst (v := 0) hx hb dL_changes_276 (by decide) ?_
        exact kL_zret (b := false) K hP hD hS ⟨false, rfl, hq⟩ ⟨Nat.le_of_ble_eq_true rfl, Nat.le_of_ble_eq_true rfl⟩ dL_changes_277
      · refine lv_if_lt (tgt := 276) hx hb dL_changes_269 (by decide) (fun z => absurd z hr) (fun z => ?_)
        refine lv_iconst (v := 1) hx hb dL_changes_272 (by decide) ?_
        refine lv_goto (tgt := 277) hx hb dL_changes_273 (by decide) ?_
        exact kL_zret (b := true) K hP hD hS ⟨true, rfl, hq⟩ ⟨Nat.le_of_ble_eq_true rfl, Nat.le_of_ble_eq_true rfl⟩ dL_changes_277
    · refine lv_tableIn (off := 243) (tgt := 278) hx hb dL_changes_35 (by decide) (by decide) rfl (by decide) ?_
      refine lv_aload_n hx hb dL_changes_278 rfl (lv_at hl 2 rfl) ?_
      refine lv_iload_n hx hb dL_changes_279 rfl (lv_at hl 3 rfl) ?_
      refine lv_iconst (v := 4) hx hb dL_changes_280 (by decide) ?_
      refine lv_ishr hx hb dL_changes_281 ?_
      refine lv_iconst (v := 5) hx hb dL_changes_282 (by decide) ?_
      refine kR_S (As := [.int (x >>> (4 &&& 31)), .int 5]) (rest := [.ref oF]) K (L_some_c l g (x >>> (4 &&& 31)) 5 (by decide)) (va_cwS 2 hts (k_gS kw344 cs_L_some) rfl rfl rfl pnL_some ⟨Nat.le_of_ble_eq_true rfl, Nat.le_of_ble_eq_true rfl⟩) hE hS (hP.pick [] rfl) rfl hl.1 rfl rfl dL_changes_283 ⟨Nat.le_of_ble_eq_true rfl, Nat.le_of_ble_eq_true rfl⟩ ?_
      obtain ⟨s1, hs1, es1⟩ := kSome_i (v := (x >>> (4 &&& 31))) (n := 5) (m := 5) rfl (by omega) (by omega)
      refine k_top (nI s1) (es1) ?_
      refine kL_SW (As := [.ref oF, .int (nI s1)]) (rest := []) (wr := []) K kX0_s (L_go_c l hfl g oF F C S h R T ln _ hO (nI s1)) hN kX0_fr (vx_cwSW 2 hts (k_gS kw684 cs_L_go) rfl rfl rfl pnL_go ⟨Nat.le_of_ble_eq_true rfl, Nat.le_of_ble_eq_true rfl⟩) hE hS hA hP hD rfl hl.1 rfl rfl dL_changes_286 ⟨Nat.le_of_ble_eq_true rfl, Nat.le_of_ble_eq_true rfl⟩ (fun r u H locs hp hP hD hS => ?_)
      have hP : kp g u H := hP
      have hD : kd A u := hD
      rcases ch_done hDm hT hC hp with ⟨hr, hq⟩ | ⟨hr, hq⟩
      · refine lv_if_lt (tgt := 296) hx hb dL_changes_289 (by decide) (fun z => ?_) (fun z => absurd hr z)
        refine lv_iconst (v := 0) hx hb dL_changes_296 (by decide) ?_
        exact kL_zret (b := false) K hP hD hS ⟨false, rfl, hq⟩ ⟨Nat.le_of_ble_eq_true rfl, Nat.le_of_ble_eq_true rfl⟩ dL_changes_297
      · refine lv_if_lt (tgt := 296) hx hb dL_changes_289 (by decide) (fun z => absurd z hr) (fun z => ?_)
        refine lv_iconst (v := 1) hx hb dL_changes_292 (by decide) ?_
        refine lv_goto (tgt := 297) hx hb dL_changes_293 (by decide) ?_
        exact kL_zret (b := true) K hP hD hS ⟨true, rfl, hq⟩ ⟨Nat.le_of_ble_eq_true rfl, Nat.le_of_ble_eq_true rfl⟩ dL_changes_297
    · refine lv_tableIn (off := 263) (tgt := 298) hx hb dL_changes_35 (by decide) (by decide) rfl (by decide) ?_
      refine lv_aload_n hx hb dL_changes_298 rfl (lv_at hl 2 rfl) ?_
      refine lv_iload_n hx hb dL_changes_299 rfl (lv_at hl 3 rfl) ?_
      refine lv_iconst (v := 4) hx hb dL_changes_300 (by decide) ?_
      refine lv_ishr hx hb dL_changes_301 ?_
      refine lv_bipush (v := 9) hx hb dL_changes_302 (by decide) ?_
      refine kR_S (As := [.int (x >>> (4 &&& 31)), .int 9]) (rest := [.ref oF]) K (L_some_c l g (x >>> (4 &&& 31)) 9 (by decide)) (va_cwS 2 hts (k_gS kw344 cs_L_some) rfl rfl rfl pnL_some ⟨Nat.le_of_ble_eq_true rfl, Nat.le_of_ble_eq_true rfl⟩) hE hS (hP.pick [] rfl) rfl hl.1 rfl rfl dL_changes_304 ⟨Nat.le_of_ble_eq_true rfl, Nat.le_of_ble_eq_true rfl⟩ ?_
      obtain ⟨s1, hs1, es1⟩ := kSome_i (v := (x >>> (4 &&& 31))) (n := 9) (m := 9) rfl (by omega) (by omega)
      refine k_top (nI s1) (es1) ?_
      refine kL_SW (As := [.ref oF, .int (nI s1)]) (rest := []) (wr := []) K kX0_s (L_seal_c l hfl g oF F C S h R T ln _ hO (nI s1)) hN kX0_fr (vx_cwSW 2 hts (k_gS kw691 cs_L_seal) rfl rfl rfl pnL_seal ⟨Nat.le_of_ble_eq_true rfl, Nat.le_of_ble_eq_true rfl⟩) hE hS hA hP hD rfl hl.1 rfl rfl dL_changes_307 ⟨Nat.le_of_ble_eq_true rfl, Nat.le_of_ble_eq_true rfl⟩ (fun r u H locs hp hP hD hS => ?_)
      have hP : kp g u H := hP
      have hD : kd A u := hD
      rcases ch_done hDm hT hC hp with ⟨hr, hq⟩ | ⟨hr, hq⟩
      · refine lv_if_lt (tgt := 317) hx hb dL_changes_310 (by decide) (fun z => ?_) (fun z => absurd hr z)
        refine lv_iconst (v := 0) hx hb dL_changes_317 (by decide) ?_
        exact kL_zret (b := false) K hP hD hS ⟨false, rfl, hq⟩ ⟨Nat.le_of_ble_eq_true rfl, Nat.le_of_ble_eq_true rfl⟩ dL_changes_318
      · refine lv_if_lt (tgt := 317) hx hb dL_changes_310 (by decide) (fun z => absurd z hr) (fun z => ?_)
        refine lv_iconst (v := 1) hx hb dL_changes_313 (by decide) ?_
        refine lv_goto (tgt := 318) hx hb dL_changes_314 (by decide) ?_
        exact kL_zret (b := true) K hP hD hS ⟨true, rfl, hq⟩ ⟨Nat.le_of_ble_eq_true rfl, Nat.le_of_ble_eq_true rfl⟩ dL_changes_318
    · refine lv_tableIn (off := 284) (tgt := 319) hx hb dL_changes_35 (by decide) (by decide) rfl (by decide) ?_
      refine lv_aload_n hx hb dL_changes_319 rfl (lv_at hl 2 rfl) ?_
      refine lv_iload_n hx hb dL_changes_320 rfl (lv_at hl 3 rfl) ?_
      refine lv_iconst (v := 4) hx hb dL_changes_321 (by decide) ?_
      refine lv_ishr hx hb dL_changes_322 ?_
      refine lv_bipush (v := 62) hx hb dL_changes_323 (by decide) ?_
      refine kR_S (As := [.int (x >>> (4 &&& 31)), .int 62]) (rest := [.ref oF]) K (L_some_c l g (x >>> (4 &&& 31)) 62 (by decide)) (va_cwS 2 hts (k_gS kw344 cs_L_some) rfl rfl rfl pnL_some ⟨Nat.le_of_ble_eq_true rfl, Nat.le_of_ble_eq_true rfl⟩) hE hS (hP.pick [] rfl) rfl hl.1 rfl rfl dL_changes_325 ⟨Nat.le_of_ble_eq_true rfl, Nat.le_of_ble_eq_true rfl⟩ ?_
      obtain ⟨s1, hs1, es1⟩ := kSome_i (v := (x >>> (4 &&& 31))) (n := 62) (m := 62) rfl (by omega) (by omega)
      refine k_top (nI s1) (es1) ?_
      refine kL_SW (As := [.ref oF, .int (nI s1)]) (rest := []) (wr := []) K kX0_s (L_days_c l hfl g oF F C S h R T ln _ hO (nI s1)) hN kX0_fr (vx_cwSW 2 hts (k_gS kw698 cs_L_days) rfl rfl rfl pnL_days ⟨Nat.le_of_ble_eq_true rfl, Nat.le_of_ble_eq_true rfl⟩) hE hS hA hP hD rfl hl.1 rfl rfl dL_changes_328 ⟨Nat.le_of_ble_eq_true rfl, Nat.le_of_ble_eq_true rfl⟩ (fun r u H locs hp hP hD hS => ?_)
      have hP : kp g u H := hP
      have hD : kd A u := hD
      rcases ch_done hDm hT hC hp with ⟨hr, hq⟩ | ⟨hr, hq⟩
      · refine lv_if_lt (tgt := 338) hx hb dL_changes_331 (by decide) (fun z => ?_) (fun z => absurd hr z)
        refine lv_iconst (v := 0) hx hb dL_changes_338 (by decide) ?_
        exact kL_zret (b := false) K hP hD hS ⟨false, rfl, hq⟩ ⟨Nat.le_of_ble_eq_true rfl, Nat.le_of_ble_eq_true rfl⟩ dL_changes_339
      · refine lv_if_lt (tgt := 338) hx hb dL_changes_331 (by decide) (fun z => absurd z hr) (fun z => ?_)
        refine lv_iconst (v := 1) hx hb dL_changes_334 (by decide) ?_
        refine lv_goto (tgt := 339) hx hb dL_changes_335 (by decide) ?_
        exact kL_zret (b := true) K hP hD hS ⟨true, rfl, hq⟩ ⟨Nat.le_of_ble_eq_true rfl, Nat.le_of_ble_eq_true rfl⟩ dL_changes_339
  · refine lv_tableOut (tgt := 340) hx hb dL_changes_35 (Or.inr (by rw [nI_toInt (by omega)]; omega)) (by decide) ?_
    refine lv_aload_n hx hb dL_changes_340 rfl (lv_at hl 2 rfl) ?_
    refine lv_iload_n hx hb dL_changes_341 rfl (lv_at hl 3 rfl) ?_
    refine lv_bipush (v := 6) hx hb dL_changes_342 (by decide) ?_
    refine lv_ishr hx hb dL_changes_344 ?_
    refine lv_iconst (v := 1) hx hb dL_changes_345 (by decide) ?_
    refine lv_iand hx hb dL_changes_346 ?_
    refine lv_if_ne (tgt := 396) hx hb dL_changes_347 (by decide) (fun _ => ?_) (fun _ => ?_)
    · refine kg_new K kFJ4 (fs := [.null, .int 0, .int 0, .int 0]) kw1449 kw269 kw75 hP hD hS hA (fun j hj => by match j, hj with | 0, _ => rfl | 1, _ => rfl | 2, _ => rfl | 3, _ => rfl | n + 4, h => exact absurd h (by omega)) (Nat.le_of_ble_eq_true rfl) (Nat.le_of_ble_eq_true rfl) dL_changes_396 (fun o H hP hD hS => ?_)
      refine lv_dup hx hb dL_changes_399 rfl ?_
      refine kW_I (As := []) (rest := [.ref o, .ref oF]) (wr := u) K (J4_init_da8c8_c l g o) ⟨callB_of 0 hts (k_gI kw272) rfl rfl rfl (hts _ kw75) (hts _ kw1450) pnJ4_init_da8c8 ⟨Nat.le_of_ble_eq_true rfl, Nat.le_of_ble_eq_true rfl⟩, rfl, hts _ kw271⟩ hE hS hA hP hD rfl hl.1 rfl rfl dL_changes_400 ⟨Nat.le_of_ble_eq_true rfl, Nat.le_of_ble_eq_true rfl⟩ (fun cs H locs hp hP hD hS => ?_)
      obtain ⟨q, rfl⟩ := hp
      have hB : kSB g o 0 _ := kSB_0 (q := q)
      refine kg_ldcws K hE (List.mem_of_getElem? (i := 29) rfl) dL_changes_403 ?_
      refine kY_V (As := [.ref (g.2.2 1002)]) (rest := [.ref oF]) (wr := u) K kStr_s (ap_s l g _ _ _ _ o (0) _ hB (kLtt 2) (kLtt_ok 2) (by show 0 + 1 ≤ 34; omega)) hN (kX_fr kStr_s (kStr_of hE 2 (by decide)) hS hA hD) (cwV 1 hts (k_gV kw1452 ca_J4_append_15ec4) rfl rfl rfl ⟨rfl, pnJ4_append_15ec4⟩ ⟨Nat.le_of_ble_eq_true rfl, Nat.le_of_ble_eq_true rfl⟩) hE hS hA hP hD (ap_rec K hP hB) rfl hl.1 rfl rfl dL_changes_406 ⟨Nat.le_of_ble_eq_true rfl, Nat.le_of_ble_eq_true rfl⟩ (fun r cs H locs hp hP hD hS => ?_)
      have hB : kSB g o (0 + 1) cs := hp.2
      have hro : o = r := hp.1.symm
      subst hro
      refine lv_iload_n hx hb dL_changes_409 rfl (lv_at hl 3 rfl) ?_
      refine lv_iconst (v := 3) hx hb dL_changes_410 (by decide) ?_
      refine lv_ishr hx hb dL_changes_411 ?_
      refine lv_bipush (v := 9) hx hb dL_changes_412 (by decide) ?_
      refine kR_S (As := [.int (x >>> (3 &&& 31)), .int 9]) (rest := [.ref o, .ref oF]) K (L_some_c l g (x >>> (3 &&& 31)) 9 (by decide)) (va_cwS 2 hts (k_gS kw344 cs_L_some) rfl rfl rfl pnL_some ⟨Nat.le_of_ble_eq_true rfl, Nat.le_of_ble_eq_true rfl⟩) hE hS (hP.pick [] rfl) rfl hl.1 rfl rfl dL_changes_414 ⟨Nat.le_of_ble_eq_true rfl, Nat.le_of_ble_eq_true rfl⟩ ?_
      obtain ⟨a1, ha1, ea1⟩ := kSome_i (v := (x >>> (3 &&& 31))) (n := 9) (m := 9) rfl (by omega) (by omega)
      refine k_top (nI a1) (ea1) ?_
      have ga1 := dg1 (v := a1) (by omega)
      refine kW_V (As := [.int (nI a1)]) (rest := [.ref oF]) (wr := u) K (ap_i l g o (0 + 1) _ hB a1 (by omega) (by omega)) (cwV 1 hts (k_gV kw1453 ca_J4_append_bf812) rfl rfl rfl ⟨rfl, pnJ4_append_bf812⟩ ⟨Nat.le_of_ble_eq_true rfl, Nat.le_of_ble_eq_true rfl⟩) hE hS hA hP hD (ap_rec K hP hB) rfl hl.1 rfl rfl dL_changes_417 ⟨Nat.le_of_ble_eq_true rfl, Nat.le_of_ble_eq_true rfl⟩ (fun r cs H locs hp hP hD hS => ?_)
      have hB : kSB g o (0 + 1 + sb_dg a1) cs := hp.2
      have hro : o = r := hp.1.symm
      subst hro
      refine kg_ldcws K hE (List.mem_of_getElem? (i := 30) rfl) dL_changes_420 ?_
      refine kY_V (As := [.ref (g.2.2 1003)]) (rest := [.ref oF]) (wr := u) K kStr_s (ap_s l g _ _ _ _ o (0 + 1 + sb_dg a1) _ hB (kLtt 3) (kLtt_ok 3) (by show 0 + 1 + sb_dg a1 + 2 ≤ 34; omega)) hN (kX_fr kStr_s (kStr_of hE 3 (by decide)) hS hA hD) (cwV 1 hts (k_gV kw1452 ca_J4_append_15ec4) rfl rfl rfl ⟨rfl, pnJ4_append_15ec4⟩ ⟨Nat.le_of_ble_eq_true rfl, Nat.le_of_ble_eq_true rfl⟩) hE hS hA hP hD (ap_rec K hP hB) rfl hl.1 rfl rfl dL_changes_423 ⟨Nat.le_of_ble_eq_true rfl, Nat.le_of_ble_eq_true rfl⟩ (fun r cs H locs hp hP hD hS => ?_)
      have hB : kSB g o (0 + 1 + sb_dg a1 + 2) cs := hp.2
      have hro : o = r := hp.1.symm
      subst hro
      refine lv_iload_n hx hb dL_changes_426 rfl (lv_at hl 3 rfl) ?_
      refine lv_iconst (v := 5) hx hb dL_changes_427 (by decide) ?_
      refine lv_ishr hx hb dL_changes_428 ?_
      refine lv_bipush (v := 7) hx hb dL_changes_429 (by decide) ?_
      refine kR_S (As := [.int (x >>> (5 &&& 31)), .int 7]) (rest := [.ref o, .ref oF]) K (L_some_c l g (x >>> (5 &&& 31)) 7 (by decide)) (va_cwS 2 hts (k_gS kw344 cs_L_some) rfl rfl rfl pnL_some ⟨Nat.le_of_ble_eq_true rfl, Nat.le_of_ble_eq_true rfl⟩) hE hS (hP.pick [] rfl) rfl hl.1 rfl rfl dL_changes_431 ⟨Nat.le_of_ble_eq_true rfl, Nat.le_of_ble_eq_true rfl⟩ ?_
      obtain ⟨a2, ha2, ea2⟩ := kSome_i (v := (x >>> (5 &&& 31))) (n := 7) (m := 7) rfl (by omega) (by omega)
      refine k_top (nI a2) (ea2) ?_
      have ga2 := dg1 (v := a2) (by omega)
      refine kW_V (As := [.int (nI a2)]) (rest := [.ref oF]) (wr := u) K (ap_i l g o (0 + 1 + sb_dg a1 + 2) _ hB a2 (by omega) (by omega)) (cwV 1 hts (k_gV kw1453 ca_J4_append_bf812) rfl rfl rfl ⟨rfl, pnJ4_append_bf812⟩ ⟨Nat.le_of_ble_eq_true rfl, Nat.le_of_ble_eq_true rfl⟩) hE hS hA hP hD (ap_rec K hP hB) rfl hl.1 rfl rfl dL_changes_434 ⟨Nat.le_of_ble_eq_true rfl, Nat.le_of_ble_eq_true rfl⟩ (fun r cs H locs hp hP hD hS => ?_)
      have hB : kSB g o (0 + 1 + sb_dg a1 + 2 + sb_dg a2) cs := hp.2
      have hro : o = r := hp.1.symm
      subst hro
      refine kg_ldcws K hE (List.mem_of_getElem? (i := 31) rfl) dL_changes_437 ?_
      refine kY_V (As := [.ref (g.2.2 1004)]) (rest := [.ref oF]) (wr := u) K kStr_s (ap_s l g _ _ _ _ o (0 + 1 + sb_dg a1 + 2 + sb_dg a2) _ hB (kLtt 4) (kLtt_ok 4) (by show 0 + 1 + sb_dg a1 + 2 + sb_dg a2 + 1 ≤ 34; omega)) hN (kX_fr kStr_s (kStr_of hE 4 (by decide)) hS hA hD) (cwV 1 hts (k_gV kw1452 ca_J4_append_15ec4) rfl rfl rfl ⟨rfl, pnJ4_append_15ec4⟩ ⟨Nat.le_of_ble_eq_true rfl, Nat.le_of_ble_eq_true rfl⟩) hE hS hA hP hD (ap_rec K hP hB) rfl hl.1 rfl rfl dL_changes_440 ⟨Nat.le_of_ble_eq_true rfl, Nat.le_of_ble_eq_true rfl⟩ (fun r cs H locs hp hP hD hS => ?_)
      have hB : kSB g o (0 + 1 + sb_dg a1 + 2 + sb_dg a2 + 1) cs := hp.2
      have hro : o = r := hp.1.symm
      subst hro
      refine lv_iload_n hx hb dL_changes_443 rfl (lv_at hl 3 rfl) ?_
      refine lv_iconst (v := 4) hx hb dL_changes_444 (by decide) ?_
      refine lv_ishr hx hb dL_changes_445 ?_
      refine lv_bipush (v := 6) hx hb dL_changes_446 (by decide) ?_
      refine kR_S (As := [.int (x >>> (4 &&& 31)), .int 6]) (rest := [.ref o, .ref oF]) K (L_some_c l g (x >>> (4 &&& 31)) 6 (by decide)) (va_cwS 2 hts (k_gS kw344 cs_L_some) rfl rfl rfl pnL_some ⟨Nat.le_of_ble_eq_true rfl, Nat.le_of_ble_eq_true rfl⟩) hE hS (hP.pick [] rfl) rfl hl.1 rfl rfl dL_changes_448 ⟨Nat.le_of_ble_eq_true rfl, Nat.le_of_ble_eq_true rfl⟩ ?_
      obtain ⟨a3, ha3, ea3⟩ := kSome_i (v := (x >>> (4 &&& 31))) (n := 6) (m := 6) rfl (by omega) (by omega)
      refine k_top (nI a3) (ea3) ?_
      have ga3 := dg1 (v := a3) (by omega)
      refine kW_V (As := [.int (nI a3)]) (rest := [.ref oF]) (wr := u) K (ap_i l g o (0 + 1 + sb_dg a1 + 2 + sb_dg a2 + 1) _ hB a3 (by omega) (by omega)) (cwV 1 hts (k_gV kw1453 ca_J4_append_bf812) rfl rfl rfl ⟨rfl, pnJ4_append_bf812⟩ ⟨Nat.le_of_ble_eq_true rfl, Nat.le_of_ble_eq_true rfl⟩) hE hS hA hP hD (ap_rec K hP hB) rfl hl.1 rfl rfl dL_changes_451 ⟨Nat.le_of_ble_eq_true rfl, Nat.le_of_ble_eq_true rfl⟩ (fun r cs H locs hp hP hD hS => ?_)
      have hB : kSB g o (0 + 1 + sb_dg a1 + 2 + sb_dg a2 + 1 + sb_dg a3) cs := hp.2
      have hro : o = r := hp.1.symm
      subst hro
      refine kg_ldcws K hE (List.mem_of_getElem? (i := 32) rfl) dL_changes_454 ?_
      refine kY_V (As := [.ref (g.2.2 1005)]) (rest := [.ref oF]) (wr := u) K kStr_s (ap_s l g _ _ _ _ o (0 + 1 + sb_dg a1 + 2 + sb_dg a2 + 1 + sb_dg a3) _ hB (kLtt 5) (kLtt_ok 5) (by show 0 + 1 + sb_dg a1 + 2 + sb_dg a2 + 1 + sb_dg a3 + 1 ≤ 34; omega)) hN (kX_fr kStr_s (kStr_of hE 5 (by decide)) hS hA hD) (cwV 1 hts (k_gV kw1452 ca_J4_append_15ec4) rfl rfl rfl ⟨rfl, pnJ4_append_15ec4⟩ ⟨Nat.le_of_ble_eq_true rfl, Nat.le_of_ble_eq_true rfl⟩) hE hS hA hP hD (ap_rec K hP hB) rfl hl.1 rfl rfl dL_changes_457 ⟨Nat.le_of_ble_eq_true rfl, Nat.le_of_ble_eq_true rfl⟩ (fun r cs H locs hp hP hD hS => ?_)
      have hB : kSB g o (0 + 1 + sb_dg a1 + 2 + sb_dg a2 + 1 + sb_dg a3 + 1) cs := hp.2
      have hro : o = r := hp.1.symm
      subst hro
      refine lv_iload_n hx hb dL_changes_460 rfl (lv_at hl 3 rfl) ?_
      refine lv_iconst (v := 3) hx hb dL_changes_461 (by decide) ?_
      refine lv_ishr hx hb dL_changes_462 ?_
      refine lv_bipush (v := 90) hx hb dL_changes_463 (by decide) ?_
      refine kR_S (As := [.int (x >>> (3 &&& 31)), .int 90]) (rest := [.ref o, .ref oF]) K (L_some_c l g (x >>> (3 &&& 31)) 90 (by decide)) (va_cwS 2 hts (k_gS kw344 cs_L_some) rfl rfl rfl pnL_some ⟨Nat.le_of_ble_eq_true rfl, Nat.le_of_ble_eq_true rfl⟩) hE hS (hP.pick [] rfl) rfl hl.1 rfl rfl dL_changes_465 ⟨Nat.le_of_ble_eq_true rfl, Nat.le_of_ble_eq_true rfl⟩ ?_
      obtain ⟨a4, ha4, ea4⟩ := kSome_i (v := (x >>> (3 &&& 31))) (n := 90) (m := 90) rfl (by omega) (by omega)
      refine k_top (nI a4) (ea4) ?_
      have ga4 := dg2 (v := a4) (by omega)
      refine kW_V (As := [.int (nI a4)]) (rest := [.ref oF]) (wr := u) K (ap_i l g o (0 + 1 + sb_dg a1 + 2 + sb_dg a2 + 1 + sb_dg a3 + 1) _ hB a4 (by omega) (by omega)) (cwV 1 hts (k_gV kw1453 ca_J4_append_bf812) rfl rfl rfl ⟨rfl, pnJ4_append_bf812⟩ ⟨Nat.le_of_ble_eq_true rfl, Nat.le_of_ble_eq_true rfl⟩) hE hS hA hP hD (ap_rec K hP hB) rfl hl.1 rfl rfl dL_changes_468 ⟨Nat.le_of_ble_eq_true rfl, Nat.le_of_ble_eq_true rfl⟩ (fun r cs H locs hp hP hD hS => ?_)
      have hB : kSB g o (0 + 1 + sb_dg a1 + 2 + sb_dg a2 + 1 + sb_dg a3 + 1 + sb_dg a4) cs := hp.2
      have hro : o = r := hp.1.symm
      subst hro
      have hlt : 0 + 1 + sb_dg a1 + 2 + sb_dg a2 + 1 + sb_dg a3 + 1 + sb_dg a4 < 16 := by omega
      generalize 0 + 1 + sb_dg a1 + 2 + sb_dg a2 + 1 + sb_dg a3 + 1 + sb_dg a4 = kk at hB hlt
      have hrc := ap_rec K hP hB
      obtain ⟨q, n0, ml, f, t, rfl, hn0, hk0, hff, hL⟩ := hB
      refine kW_V (As := []) (rest := [.ref oF]) (wr := u) K (J4_toString_0e30d_c l g o q n0 ml f hff kk (by omega) (by omega)) (cwV 0 hts (k_gV kw1455 ca_J4_toString_0e30d) rfl rfl rfl ⟨rfl, pnJ4_toString_0e30d⟩ ⟨Nat.le_of_ble_eq_true rfl, Nat.le_of_ble_eq_true rfl⟩) hE hS hA hP hD hrc rfl hl.1 rfl rfl dL_changes_471 ⟨Nat.le_of_ble_eq_true rfl, Nat.le_of_ble_eq_true rfl⟩ (fun sa cs H locs hp hP hD hS => ?_)
      obtain ⟨sv, f', rfl, -⟩ := hp
      have hP := kp_sw hP
      have hD := kd_sw hD
      refine kL_SC (As := [.ref oF, .ref sa]) (rest := []) (wr := [JOW o q ml (nI kk), JAW g q n0 f, JSW sa (.ref sv), JAW g sv kk f']) K kStr_s (L_reads_c l hfl g oF F C S h R T ln u hO sa sv kk ((List.range kk).map f') (by omega) hT) hN (kStr_nw K hP hD (by simp) (by simp) (by omega)) (va_cwS 2 hts (k_gS kw1460 cs_L_reads) rfl rfl rfl pnL_reads ⟨Nat.le_of_ble_eq_true rfl, Nat.le_of_ble_eq_true rfl⟩) hE hS hA hP hD rfl hl.1 rfl rfl dL_changes_474 ⟨Nat.le_of_ble_eq_true rfl, Nat.le_of_ble_eq_true rfl⟩ (fun r u H locs hp hP hD hS => ?_)
      have hP : kp g u H := (kp_app.mp hP).2
      have hD : kd A u := (kd_app.mp hD).2.1
      rcases ch_cmd hDm hC hp with ⟨hr, hq⟩ | ⟨hr, hq⟩
      · refine lv_if_lt (tgt := 484) hx hb dL_changes_477 (by decide) (fun z => ?_) (fun z => absurd hr z)
        refine lv_iconst (v := 0) hx hb dL_changes_484 (by decide) ?_
        exact kL_zret (b := false) K hP hD hS ⟨false, rfl, hq⟩ ⟨Nat.le_of_ble_eq_true rfl, Nat.le_of_ble_eq_true rfl⟩ dL_changes_485
      · refine lv_if_lt (tgt := 484) hx hb dL_changes_477 (by decide) (fun z => absurd z hr) (fun z => ?_)
        refine lv_iconst (v := 1) hx hb dL_changes_480 (by decide) ?_
        refine lv_goto (tgt := 485) hx hb dL_changes_481 (by decide) ?_
        exact kL_zret (b := true) K hP hD hS ⟨true, rfl, hq⟩ ⟨Nat.le_of_ble_eq_true rfl, Nat.le_of_ble_eq_true rfl⟩ dL_changes_485
    · refine kg_new K kFJ4 (fs := [.null, .int 0, .int 0, .int 0]) kw1449 kw269 kw75 hP hD hS hA (fun j hj => by match j, hj with | 0, _ => rfl | 1, _ => rfl | 2, _ => rfl | 3, _ => rfl | n + 4, h => exact absurd h (by omega)) (Nat.le_of_ble_eq_true rfl) (Nat.le_of_ble_eq_true rfl) dL_changes_350 (fun o H hP hD hS => ?_)
      refine lv_dup hx hb dL_changes_353 rfl ?_
      refine kW_I (As := []) (rest := [.ref o, .ref oF]) (wr := u) K (J4_init_da8c8_c l g o) ⟨callB_of 0 hts (k_gI kw272) rfl rfl rfl (hts _ kw75) (hts _ kw1450) pnJ4_init_da8c8 ⟨Nat.le_of_ble_eq_true rfl, Nat.le_of_ble_eq_true rfl⟩, rfl, hts _ kw271⟩ hE hS hA hP hD rfl hl.1 rfl rfl dL_changes_354 ⟨Nat.le_of_ble_eq_true rfl, Nat.le_of_ble_eq_true rfl⟩ (fun cs H locs hp hP hD hS => ?_)
      obtain ⟨q, rfl⟩ := hp
      have hB : kSB g o 0 _ := kSB_0 (q := q)
      refine kg_ldcs K hE (List.mem_of_getElem? (i := 27) rfl) dL_changes_357 ?_
      refine kY_V (As := [.ref (g.2.2 1000)]) (rest := [.ref oF]) (wr := u) K kStr_s (ap_s l g _ _ _ _ o (0) _ hB (kLtt 0) (kLtt_ok 0) (by show 0 + 1 ≤ 34; omega)) hN (kX_fr kStr_s (kStr_of hE 0 (by decide)) hS hA hD) (cwV 1 hts (k_gV kw1452 ca_J4_append_15ec4) rfl rfl rfl ⟨rfl, pnJ4_append_15ec4⟩ ⟨Nat.le_of_ble_eq_true rfl, Nat.le_of_ble_eq_true rfl⟩) hE hS hA hP hD (ap_rec K hP hB) rfl hl.1 rfl rfl dL_changes_359 ⟨Nat.le_of_ble_eq_true rfl, Nat.le_of_ble_eq_true rfl⟩ (fun r cs H locs hp hP hD hS => ?_)
      have hB : kSB g o (0 + 1) cs := hp.2
      have hro : o = r := hp.1.symm
      subst hro
      refine lv_iload_n hx hb dL_changes_362 rfl (lv_at hl 3 rfl) ?_
      refine lv_iconst (v := 3) hx hb dL_changes_363 (by decide) ?_
      refine lv_ishr hx hb dL_changes_364 ?_
      refine lv_bipush (v := 7) hx hb dL_changes_365 (by decide) ?_
      refine kR_S (As := [.int (x >>> (3 &&& 31)), .int 7]) (rest := [.ref o, .ref oF]) K (L_some_c l g (x >>> (3 &&& 31)) 7 (by decide)) (va_cwS 2 hts (k_gS kw344 cs_L_some) rfl rfl rfl pnL_some ⟨Nat.le_of_ble_eq_true rfl, Nat.le_of_ble_eq_true rfl⟩) hE hS (hP.pick [] rfl) rfl hl.1 rfl rfl dL_changes_367 ⟨Nat.le_of_ble_eq_true rfl, Nat.le_of_ble_eq_true rfl⟩ ?_
      obtain ⟨a1, ha1, ea1⟩ := kSome_i (v := (x >>> (3 &&& 31))) (n := 7) (m := 7) rfl (by omega) (by omega)
      refine k_top (nI a1) (ea1) ?_
      have ga1 := dg1 (v := a1) (by omega)
      refine kW_V (As := [.int (nI a1)]) (rest := [.ref oF]) (wr := u) K (ap_i l g o (0 + 1) _ hB a1 (by omega) (by omega)) (cwV 1 hts (k_gV kw1453 ca_J4_append_bf812) rfl rfl rfl ⟨rfl, pnJ4_append_bf812⟩ ⟨Nat.le_of_ble_eq_true rfl, Nat.le_of_ble_eq_true rfl⟩) hE hS hA hP hD (ap_rec K hP hB) rfl hl.1 rfl rfl dL_changes_370 ⟨Nat.le_of_ble_eq_true rfl, Nat.le_of_ble_eq_true rfl⟩ (fun r cs H locs hp hP hD hS => ?_)
      have hB : kSB g o (0 + 1 + sb_dg a1) cs := hp.2
      have hro : o = r := hp.1.symm
      subst hro
      refine kg_ldcws K hE (List.mem_of_getElem? (i := 28) rfl) dL_changes_373 ?_
      refine kY_V (As := [.ref (g.2.2 1001)]) (rest := [.ref oF]) (wr := u) K kStr_s (ap_s l g _ _ _ _ o (0 + 1 + sb_dg a1) _ hB (kLtt 1) (kLtt_ok 1) (by show 0 + 1 + sb_dg a1 + 2 ≤ 34; omega)) hN (kX_fr kStr_s (kStr_of hE 1 (by decide)) hS hA hD) (cwV 1 hts (k_gV kw1452 ca_J4_append_15ec4) rfl rfl rfl ⟨rfl, pnJ4_append_15ec4⟩ ⟨Nat.le_of_ble_eq_true rfl, Nat.le_of_ble_eq_true rfl⟩) hE hS hA hP hD (ap_rec K hP hB) rfl hl.1 rfl rfl dL_changes_376 ⟨Nat.le_of_ble_eq_true rfl, Nat.le_of_ble_eq_true rfl⟩ (fun r cs H locs hp hP hD hS => ?_)
      have hB : kSB g o (0 + 1 + sb_dg a1 + 2) cs := hp.2
      have hro : o = r := hp.1.symm
      subst hro
      refine lv_iload_n hx hb dL_changes_379 rfl (lv_at hl 3 rfl) ?_
      refine lv_iconst (v := 5) hx hb dL_changes_380 (by decide) ?_
      refine lv_ishr hx hb dL_changes_381 ?_
      refine lv_bipush (v := 9) hx hb dL_changes_382 (by decide) ?_
      refine kR_S (As := [.int (x >>> (5 &&& 31)), .int 9]) (rest := [.ref o, .ref oF]) K (L_some_c l g (x >>> (5 &&& 31)) 9 (by decide)) (va_cwS 2 hts (k_gS kw344 cs_L_some) rfl rfl rfl pnL_some ⟨Nat.le_of_ble_eq_true rfl, Nat.le_of_ble_eq_true rfl⟩) hE hS (hP.pick [] rfl) rfl hl.1 rfl rfl dL_changes_384 ⟨Nat.le_of_ble_eq_true rfl, Nat.le_of_ble_eq_true rfl⟩ ?_
      obtain ⟨a2, ha2, ea2⟩ := kSome_i (v := (x >>> (5 &&& 31))) (n := 9) (m := 9) rfl (by omega) (by omega)
      refine k_top (nI a2) (ea2) ?_
      have ga2 := dg1 (v := a2) (by omega)
      refine kW_V (As := [.int (nI a2)]) (rest := [.ref oF]) (wr := u) K (ap_i l g o (0 + 1 + sb_dg a1 + 2) _ hB a2 (by omega) (by omega)) (cwV 1 hts (k_gV kw1453 ca_J4_append_bf812) rfl rfl rfl ⟨rfl, pnJ4_append_bf812⟩ ⟨Nat.le_of_ble_eq_true rfl, Nat.le_of_ble_eq_true rfl⟩) hE hS hA hP hD (ap_rec K hP hB) rfl hl.1 rfl rfl dL_changes_387 ⟨Nat.le_of_ble_eq_true rfl, Nat.le_of_ble_eq_true rfl⟩ (fun r cs H locs hp hP hD hS => ?_)
      have hB : kSB g o (0 + 1 + sb_dg a1 + 2 + sb_dg a2) cs := hp.2
      have hro : o = r := hp.1.symm
      subst hro
      have hlt : 0 + 1 + sb_dg a1 + 2 + sb_dg a2 < 16 := by omega
      generalize 0 + 1 + sb_dg a1 + 2 + sb_dg a2 = kk at hB hlt
      have hrc := ap_rec K hP hB
      obtain ⟨q, n0, ml, f, t, rfl, hn0, hk0, hff, hL⟩ := hB
      refine kW_V (As := []) (rest := [.ref oF]) (wr := u) K (J4_toString_0e30d_c l g o q n0 ml f hff kk (by omega) (by omega)) (cwV 0 hts (k_gV kw1455 ca_J4_toString_0e30d) rfl rfl rfl ⟨rfl, pnJ4_toString_0e30d⟩ ⟨Nat.le_of_ble_eq_true rfl, Nat.le_of_ble_eq_true rfl⟩) hE hS hA hP hD hrc rfl hl.1 rfl rfl dL_changes_390 ⟨Nat.le_of_ble_eq_true rfl, Nat.le_of_ble_eq_true rfl⟩ (fun sa cs H locs hp hP hD hS => ?_)
      obtain ⟨sv, f', rfl, -⟩ := hp
      have hP := kp_sw hP
      have hD := kd_sw hD
      refine lv_goto (tgt := 474) hx hb dL_changes_393 (by decide) ?_
      refine kL_SC (As := [.ref oF, .ref sa]) (rest := []) (wr := [JOW o q ml (nI kk), JAW g q n0 f, JSW sa (.ref sv), JAW g sv kk f']) K kStr_s (L_reads_c l hfl g oF F C S h R T ln u hO sa sv kk ((List.range kk).map f') (by omega) hT) hN (kStr_nw K hP hD (by simp) (by simp) (by omega)) (va_cwS 2 hts (k_gS kw1460 cs_L_reads) rfl rfl rfl pnL_reads ⟨Nat.le_of_ble_eq_true rfl, Nat.le_of_ble_eq_true rfl⟩) hE hS hA hP hD rfl hl.1 rfl rfl dL_changes_474 ⟨Nat.le_of_ble_eq_true rfl, Nat.le_of_ble_eq_true rfl⟩ (fun r u H locs hp hP hD hS => ?_)
      have hP : kp g u H := (kp_app.mp hP).2
      have hD : kd A u := (kd_app.mp hD).2.1
      rcases ch_cmd hDm hC hp with ⟨hr, hq⟩ | ⟨hr, hq⟩
      · refine lv_if_lt (tgt := 484) hx hb dL_changes_477 (by decide) (fun z => ?_) (fun z => absurd hr z)
        refine lv_iconst (v := 0) hx hb dL_changes_484 (by decide) ?_
        exact kL_zret (b := false) K hP hD hS ⟨false, rfl, hq⟩ ⟨Nat.le_of_ble_eq_true rfl, Nat.le_of_ble_eq_true rfl⟩ dL_changes_485
      · refine lv_if_lt (tgt := 484) hx hb dL_changes_477 (by decide) (fun z => absurd z hr) (fun z => ?_)
        refine lv_iconst (v := 1) hx hb dL_changes_480 (by decide) ?_
        refine lv_goto (tgt := 485) hx hb dL_changes_481 (by decide) ?_
        exact kL_zret (b := true) K hP hD hS ⟨true, rfl, hq⟩ ⟨Nat.le_of_ble_eq_true rfl, Nat.le_of_ble_eq_true rfl⟩ dL_changes_485
