theorem kw3 : Cond.selects "java/lang/StringBuilder" yJ5_putStringAt_47b60 yJ5_putStringAt_47b60 ∈ kW := k_w 0 3 rfl rfl
theorem kw4 : Cond.selects "java/lang/StringBuilder" yJ5_inflateIfNeededFor_a7421 yJ5_inflateIfNeededFor_a7421 ∈ kW := k_w 0 4 rfl rfl
theorem kw1055 : Cond.methodLink RJ4 29 yJ5_append_cf1ce ∈ kW := k_w 6 27 rfl rfl
theorem kw1056 : Cond.instanceMethod yJ5_append_cf1ce ∈ kW := k_w 6 28 rfl rfl
theorem kw1057 : Cond.code yJ5_append_cf1ce cJ5_append_cf1ce 3 (some (.object "java/lang/AbstractStringBuilder")) ∈ kW := k_w 6 29 rfl rfl
theorem kw1113 : Cond.methodLink RJ5 32 yJ0_length_8abf5 ∈ kW := k_w 6 85 rfl rfl
theorem kw1114 : Cond.methodLink RJ5 208 yJ5_putStringAt_47b60 ∈ kW := k_w 6 86 rfl rfl
theorem kw1116 : Cond.instanceMethod yJ5_putStringAt_47b60 ∈ kW := k_w 6 88 rfl rfl
theorem kw1117 : Cond.code yJ5_putStringAt_47b60 cJ5_putStringAt_47b60 3 none ∈ kW := k_w 6 89 rfl rfl
theorem kw1118 : Cond.methodLink RJ5 397 yJ5_inflateIfNeededFor_a7421 ∈ kW := k_w 6 90 rfl rfl
theorem kw1120 : Cond.instanceMethod yJ5_inflateIfNeededFor_a7421 ∈ kW := k_w 6 92 rfl rfl
theorem kw1121 : Cond.code yJ5_inflateIfNeededFor_a7421 cJ5_inflateIfNeededFor_a7421 2 none ∈ kW := k_w 6 93 rfl rfl
theorem kw1122 : Cond.methodLink RJ5 40 yJ0_coder_7d493 ∈ kW := k_w 6 94 rfl rfl
theorem kw1142 : Cond.methodLink RJ5 399 yJ0_getBytes_840e7 ∈ kW := k_w 6 114 rfl rfl
theorem kw1146 : Cond.methodLink RJ0 212 arraycopyName ∈ kW := k_w 6 118 rfl rfl
theorem kw1473 : Cond.sameMethod "java/lang/AbstractStringBuilder" "java/lang/AbstractStringBuilder" "append" "(Ljava/lang/String;)Ljava/lang/AbstractStringBuilder;" ∈ kW := k_w 7 205 rfl rfl
theorem pnJ0_getBytes_840e7 : yJ0_getBytes_840e7.cls ≠ "java/lang/invoke/MethodHandle" ∧ yJ0_getBytes_840e7.cls ≠ "java/lang/invoke/VarHandle" ∧ (parseMethodDescriptor yJ0_getBytes_840e7.desc).map (fun d => d.parameters.length) = some 3 := by decide +kernel
theorem ca_J0_getBytes_840e7 : kCal yJ0_getBytes_840e7 (Cond.code yJ0_getBytes_840e7 cJ0_getBytes_840e7 4 none) := ⟨k_w 6 115 rfl rfl, k_w 6 116 rfl rfl, k_w 2 8 rfl rfl, k_w 6 117 rfl rfl⟩
abbrev wJ0_getBytes_840e7_x : List Cond := Cond.code yJ0_getBytes_840e7 cJ0_getBytes_840e7 4 none :: kW
set_option maxHeartbeats 4000000 in
theorem js_get (l : Launch) (g : kG) (a v n : Nat) (bs : List Int32) (q N : Nat) (f : Nat → Int32) (k : Nat) (hk : k < 2 ^ 30) (hf : ∀ i, i < n → fits .byte (.int (bs.getD i 0)) = true) (hn : n < 2 ^ 30) (hkN : k + n ≤ N) : kLv (kStr a v n bs) l yJ0_getBytes_840e7 wJ0_getBytes_840e7_x 1 60 0 0 g [.ref a, .ref q, .int (nI k), .int 0] [JAW g q N f] (fun u => u = [JAW g q N (va_cpy (fun j => bs.getD j 0) f 0 k n)]) := by
  refine kLg_ofC (cc := cJ0_getBytes_840e7) (nL := 4) (ret := none) (lv := [(0, .ref a), (1, .ref q), (2, .int (nI k)), (3, .int 0)]) (by decide) rfl (Nat.le_of_ble_eq_true rfl) rfl ?_
  intro p e s m args below meth c ls A hN hX C hP hD hE hA hS hl
  have C : kC p c cJ0_getBytes_840e7 s m args meth RJ0 g 4 none := C
  have hx := C.1.1
  have hb := C.1.2.1
  have hts := C.1.2.2.2.2
  refine lv_aload_n hx hb dJ0_getBytes_840e7_0 rfl (lv_at hl 0 rfl) ?_
  refine kRX_V (As := []) (rest := []) C kStr_s hX (js_coder l g a v n bs) (cwV 0 hts (k_gV kw900 ca_J0_coder_7d493) rfl rfl rfl ⟨rfl, pnJ0_coder_7d493⟩ ⟨Nat.le_of_ble_eq_true rfl, Nat.le_of_ble_eq_true rfl⟩) hE hS (hP.pick [] rfl) (ks_recv hX hS) rfl hl.1 rfl rfl dJ0_getBytes_840e7_1 ⟨Nat.le_of_ble_eq_true rfl, Nat.le_of_ble_eq_true rfl⟩ ?_
  refine lv_iload_n hx hb dJ0_getBytes_840e7_4 rfl (lv_at hl 3 rfl) ?_
  refine lv_icmp_ne (tgt := 28) hx hb dJ0_getBytes_840e7_5 (by decide) (fun z => absurd rfl z) (fun z => ?_)
  refine lv_aload_n hx hb dJ0_getBytes_840e7_8 rfl (lv_at hl 0 rfl) ?_
  refine ks_val C hX hS kw1226 dJ0_getBytes_840e7_9 ?_
  refine lv_iconst (v := 0) hx hb dJ0_getBytes_840e7_12 (by decide) ?_
  refine lv_aload_n hx hb dJ0_getBytes_840e7_13 rfl (lv_at hl 1 rfl) ?_
  refine lv_iload_n hx hb dJ0_getBytes_840e7_14 rfl (lv_at hl 2 rfl) ?_
  refine lv_iload_n hx hb dJ0_getBytes_840e7_15 rfl (lv_at hl 3 rfl) ?_
  refine lv_ishl hx hb dJ0_getBytes_840e7_16 ?_
  rw [sb_shl0]
  refine lv_aload_n hx hb dJ0_getBytes_840e7_17 rfl (lv_at hl 0 rfl) ?_
  refine ks_val C hX hS kw1226 dJ0_getBytes_840e7_18 ?_
  refine ks_len C hX hS dJ0_getBytes_840e7_21 ?_
  refine ks_copy C hl.1 kw1146 kw340 kw339 kw82 hX hP hD hS (i1 := 0) (q1 := 0) rfl rfl hf hk hn hkN (ch' := JAW g q N (va_cpy (fun j => bs.getD j 0) f 0 k n)) rfl rfl (Nat.le_of_ble_eq_true rfl) (Nat.le_of_ble_eq_true rfl) dJ0_getBytes_840e7_22 (fun H locs hP hD hS => ?_)
  refine lv_goto (tgt := 43) hx hb dJ0_getBytes_840e7_25 (by decide) ?_
  exact kV_retW C hP hD hS rfl ⟨Nat.le_of_ble_eq_true rfl, Nat.le_of_ble_eq_true rfl⟩ dJ0_getBytes_840e7_43
theorem pnJ5_inflateIfNeededFor_a7421 : yJ5_inflateIfNeededFor_a7421.cls ≠ "java/lang/invoke/MethodHandle" ∧ yJ5_inflateIfNeededFor_a7421.cls ≠ "java/lang/invoke/VarHandle" ∧ (parseMethodDescriptor yJ5_inflateIfNeededFor_a7421.desc).map (fun d => d.parameters.length) = some 1 := by decide +kernel
abbrev wJ5_inflateIfNeededFor_a7421_x : List Cond := Cond.code yJ5_inflateIfNeededFor_a7421 cJ5_inflateIfNeededFor_a7421 2 none :: kW
set_option maxHeartbeats 4000000 in
theorem js_inf (l : Launch) (g : kG) (a v n : Nat) (bs : List Int32) (o q : Nat) (ml cnt : Int32) : kLv (kStr a v n bs) l yJ5_inflateIfNeededFor_a7421 wJ5_inflateIfNeededFor_a7421_x 1 60 0 0 g [.ref o, .ref a] [JOW o q ml cnt] (fun u => u = [JOW o q ml cnt]) := by
  refine kLg_ofC (cc := cJ5_inflateIfNeededFor_a7421) (nL := 2) (ret := none) (lv := [(0, .ref o), (1, .ref a)]) (by decide) rfl (Nat.le_of_ble_eq_true rfl) rfl ?_
  intro p e s m args below meth c ls A hN hX C hP hD hE hA hS hl
  have C : kC p c cJ5_inflateIfNeededFor_a7421 s m args meth RJ5 g 2 none := C
  have hx := C.1.1
  have hb := C.1.2.1
  have hts := C.1.2.2.2.2
  refine kg_compact C rfl hE hS kw277 dJ5_inflateIfNeededFor_a7421_0 ?_
  refine lv_if_eq (tgt := 21) hx hb dJ5_inflateIfNeededFor_a7421_3 (by decide) (fun z => absurd z (by decide)) (fun z => ?_)
  refine lv_aload_n hx hb dJ5_inflateIfNeededFor_a7421_6 rfl (lv_at hl 0 rfl) ?_
  refine kg_get C kFJ4 (k := 1) kw287 hP (i := 0) (q := 0) rfl rfl (by decide) rfl dJ5_inflateIfNeededFor_a7421_7 ?_
  refine lv_aload_n hx hb dJ5_inflateIfNeededFor_a7421_10 rfl (lv_at hl 1 rfl) ?_
  refine kRX_V (As := []) (rest := [.int 0]) C kStr_s hX (js_coder l g a v n bs) (cwV 0 hts (k_gV kw1122 ca_J0_coder_7d493) rfl rfl rfl ⟨rfl, pnJ0_coder_7d493⟩ ⟨Nat.le_of_ble_eq_true rfl, Nat.le_of_ble_eq_true rfl⟩) hE hS (hP.pick [] rfl) (ks_recv hX hS) rfl hl.1 rfl rfl dJ5_inflateIfNeededFor_a7421_11 ⟨Nat.le_of_ble_eq_true rfl, Nat.le_of_ble_eq_true rfl⟩ ?_
  refine lv_icmp_eq (tgt := 21) hx hb dJ5_inflateIfNeededFor_a7421_14 (by decide) (fun z => ?_) (fun z => absurd rfl z)
  exact kV_retW C hP hD hS rfl ⟨Nat.le_of_ble_eq_true rfl, Nat.le_of_ble_eq_true rfl⟩ dJ5_inflateIfNeededFor_a7421_21
theorem pnJ5_putStringAt_47b60 : yJ5_putStringAt_47b60.cls ≠ "java/lang/invoke/MethodHandle" ∧ yJ5_putStringAt_47b60.cls ≠ "java/lang/invoke/VarHandle" ∧ (parseMethodDescriptor yJ5_putStringAt_47b60.desc).map (fun d => d.parameters.length) = some 2 := by decide +kernel
abbrev wJ5_putStringAt_47b60_x : List Cond := Cond.code yJ5_putStringAt_47b60 cJ5_putStringAt_47b60 3 none :: kW
set_option maxHeartbeats 4000000 in
theorem js_put (l : Launch) (g : kG) (a v n : Nat) (bs : List Int32) (o q : Nat) (ml cnt : Int32) (N : Nat) (f : Nat → Int32) (k : Nat) (hk : k < 2 ^ 30) (hf : ∀ i, i < n → fits .byte (.int (bs.getD i 0)) = true) (hn : n < 2 ^ 30) (hkN : k + n ≤ N) : kLv (kStr a v n bs) l yJ5_putStringAt_47b60 wJ5_putStringAt_47b60_x 2 120 0 0 g [.ref o, .int (nI k), .ref a] [JOW o q ml cnt, JAW g q N f] (fun u => u = [JOW o q ml cnt, JAW g q N (va_cpy (fun j => bs.getD j 0) f 0 k n)]) := by
  refine kLg_ofC (cc := cJ5_putStringAt_47b60) (nL := 3) (ret := none) (lv := [(0, .ref o), (1, .int (nI k)), (2, .ref a)]) (by decide) rfl (Nat.le_of_ble_eq_true rfl) rfl ?_
  intro p e s m args below meth c ls A hN hX C hP hD hE hA hS hl
  have C : kC p c cJ5_putStringAt_47b60 s m args meth RJ5 g 3 none := C
  have hx := C.1.1
  have hb := C.1.2.1
  have hts := C.1.2.2.2.2
  refine lv_aload_n hx hb dJ5_putStringAt_47b60_0 rfl (lv_at hl 0 rfl) ?_
  refine lv_aload_n hx hb dJ5_putStringAt_47b60_1 rfl (lv_at hl 2 rfl) ?_
  have hP : kp g ([JAW g q N f] ++ [JOW o q ml cnt]) s.heap := hP.pick [1, 0] rfl
  have hD : kd A ([JAW g q N f] ++ [JOW o q ml cnt]) := hD.pick [1, 0] rfl rfl
  refine kL_backv (wr := [JAW g q N f]) (va_runV (As := [.ref a]) (rest := []) C.1 (js_inf l g a v n bs o q ml cnt _) (k_cwSB 1 hts kw1118 kw1120 kw4 kw74 kw1121 pnJ5_inflateIfNeededFor_a7421 ⟨Nat.le_of_ble_eq_true rfl, Nat.le_of_ble_eq_true rfl⟩) ⟨kPreL_blind kStr_s, (k_recv C kFJ4 hP (i := 1) (q := 0) rfl rfl), (kLg_pre hN hE hS hA hP hD (kX_fr kStr_s hX hS hA hD))⟩ rfl rfl hl.1 rfl (lv_room (Nat.le_of_ble_eq_true rfl)) dJ5_putStringAt_47b60_2 ⟨Nat.le_of_ble_eq_true rfl, Nat.le_of_ble_eq_true rfl⟩) hS hA hP hD (fun u H locs hp hP hD hS => ?_)
  subst hp
  have hP : kp g ([JOW o q ml cnt] ++ [JAW g q N f]) H := hP.pick [1, 0] rfl
  have hD : kd A ([JOW o q ml cnt] ++ [JAW g q N f]) := hD.pick [1, 0] rfl rfl
  refine lv_aload_n hx hb dJ5_putStringAt_47b60_5 rfl (lv_at hl 2 rfl) ?_
  refine lv_aload_n hx hb dJ5_putStringAt_47b60_6 rfl (lv_at hl 0 rfl) ?_
  refine kg_get C kFJ4 (k := 0) kw286 hP (i := 0) (q := 0) rfl rfl (by decide) rfl dJ5_putStringAt_47b60_7 ?_
  refine lv_iload_n hx hb dJ5_putStringAt_47b60_10 rfl (lv_at hl 1 rfl) ?_
  refine lv_aload_n hx hb dJ5_putStringAt_47b60_11 rfl (lv_at hl 0 rfl) ?_
  refine kg_get C kFJ4 (k := 1) kw287 hP (i := 0) (q := 0) rfl rfl (by decide) rfl dJ5_putStringAt_47b60_12 ?_
  refine kL_backv (wr := [JOW o q ml cnt]) (va_runV (As := [.ref q, .int (nI k), .int 0]) (rest := []) C.1 (js_get l g a v n bs q N f k hk hf hn hkN _) (cwV 3 hts (k_gV kw1142 ca_J0_getBytes_840e7) rfl rfl rfl ⟨rfl, pnJ0_getBytes_840e7⟩ ⟨Nat.le_of_ble_eq_true rfl, Nat.le_of_ble_eq_true rfl⟩) ⟨kPreL_blind kStr_s, ks_recv hX hS, (kLg_pre hN hE hS hA hP hD (kX_fr kStr_s hX hS hA hD))⟩ rfl rfl hl.1 rfl (lv_room (Nat.le_of_ble_eq_true rfl)) dJ5_putStringAt_47b60_15 ⟨Nat.le_of_ble_eq_true rfl, Nat.le_of_ble_eq_true rfl⟩) hS hA hP hD (fun u H locs hp hP hD hS => ?_)
  subst hp
  exact kV_retW C hP hD hS rfl ⟨Nat.le_of_ble_eq_true rfl, Nat.le_of_ble_eq_true rfl⟩ dJ5_putStringAt_47b60_18
theorem pnJ5_append_cf1ce : yJ5_append_cf1ce.cls ≠ "java/lang/invoke/MethodHandle" ∧ yJ5_append_cf1ce.cls ≠ "java/lang/invoke/VarHandle" ∧ (parseMethodDescriptor yJ5_append_cf1ce.desc).map (fun d => d.parameters.length) = some 1 := by decide +kernel
abbrev wJ5_append_cf1ce_x : List Cond := Cond.code yJ5_append_cf1ce cJ5_append_cf1ce 3 (some (.object "java/lang/AbstractStringBuilder")) :: kW
set_option maxHeartbeats 4000000 in
theorem js_ap5 (l : Launch) (g : kG) (a v n : Nat) (bs : List Int32) (o q n0 : Nat) (ml : Int32) (f : Nat → Int32) (t : Nat → Nat) (k : Nat) (hn0 : n0 = 16 ∨ n0 = 34) (hk : k ≤ n0) (hff : sb_Fit f) (hL : sb_Lat t k f) (s0 : Nat → Nat) (hs0 : ∀ i, i < n → s0 i < 256 ∧ bs.getD i 0 = sb_b (s0 i)) (h34 : k + n ≤ 34) : kLa (kStr a v n bs) l yJ5_append_cf1ce wJ5_append_cf1ce_x 4 260 1 34 g [.ref o, .ref a] [JOW o q ml (nI k), JAW g q n0 f] (fun _ u => ∃ (q' n' : Nat) (ml' : Int32) (f' : Nat → Int32), u = [JOW o q' ml' (nI (k + n)), JAW g q' n' f'] ∧ (n' = 16 ∨ n' = 34) ∧ k + n ≤ n' ∧ sb_Fit f' ∧ sb_Lat (sb_cat t k s0) (k + n) f') := by
  refine kLg_ofC (cc := cJ5_append_cf1ce) (nL := 3) (ret := (some (.object "java/lang/AbstractStringBuilder"))) (lv := [(0, .ref o), (1, .ref a)]) (by decide) rfl (Nat.le_of_ble_eq_true rfl) rfl ?_
  intro p e s m args below meth c ls A hN hX C hP hD hE hA hS hl
  have C : kC p c cJ5_append_cf1ce s m args meth RJ5 g 3 (some (.object "java/lang/AbstractStringBuilder")) := C
  have hx := C.1.1
  have hb := C.1.2.1
  have hts := C.1.2.2.2.2
  refine lv_aload_n hx hb dJ5_append_cf1ce_0 rfl (lv_at hl 1 rfl) ?_
  refine lv_ifnonnull (tgt := 9) hx hb dJ5_append_cf1ce_1 (by decide) ?_
  refine lv_aload_n hx hb dJ5_append_cf1ce_9 rfl (lv_at hl 1 rfl) ?_
  refine kRX_V (As := []) (rest := []) C kStr_s hX (js_len l g a v n bs) (cwV 0 hts (k_gV kw1113 ca_J0_length_8abf5) rfl rfl rfl ⟨rfl, pnJ0_length_8abf5⟩ ⟨Nat.le_of_ble_eq_true rfl, Nat.le_of_ble_eq_true rfl⟩) hE hS (hP.pick [] rfl) (ks_recv hX hS) rfl hl.1 rfl rfl dJ5_append_cf1ce_10 ⟨Nat.le_of_ble_eq_true rfl, Nat.le_of_ble_eq_true rfl⟩ ?_
  refine lv_istore_n (lv' := [(2, .int (nI n)), (0, .ref o), (1, .ref a)]) hx hb dJ5_append_cf1ce_13 rfl hl (by decide) rfl (fun ls hl => ?_)
  refine lv_aload_n hx hb dJ5_append_cf1ce_14 rfl (lv_at hl 1 rfl) ?_
  refine lv_aload_n hx hb dJ5_append_cf1ce_15 rfl (lv_at hl 1 rfl) ?_
  refine kg_get C kFJ4 (k := 3) kw290 hP (i := 0) (q := 0) rfl rfl (by decide) rfl dJ5_append_cf1ce_16 ?_
  refine lv_iload_n hx hb dJ5_append_cf1ce_19 rfl (lv_at hl 0 rfl) ?_
  refine lv_iadd hx hb dJ5_append_cf1ce_20 ?_
  refine k_top (y := nI (k + n)) (nI_add k n) ?_
  refine kV_V (As := [.int (nI (k + n))]) (rest := []) (wr := []) C (J5_ensureCapacityInternal_d00df_c l g o q n0 ml (nI k) f (k + n) hn0 h34 hff) (k_cwSB 1 hts kw1062 kw1064 kw1 kw74 kw1065 pnJ5_ensureCapacityInternal_d00df ⟨Nat.le_of_ble_eq_true rfl, Nat.le_of_ble_eq_true rfl⟩) hE hS hA hP hD [0, 1] [] rfl rfl ⟨rfl, rfl, by decide⟩ (k_recv C kFJ4 hP (i := 0) (q := 0) rfl rfl) rfl hl.1 rfl rfl dJ5_append_cf1ce_21 ⟨Nat.le_of_ble_eq_true rfl, Nat.le_of_ble_eq_true rfl⟩ (fun u H locs hp hP hD hS => ?_)
  obtain ⟨q1, n1, f1, rfl, hn1, hx1, hnn, hf1, hk1⟩ := hp
  have hP : kp g [JOW o q1 ml (nI k), JAW g q1 n1 f1] H := hP
  have hD : kd A [JOW o q1 ml (nI k), JAW g q1 n1 f1] := hD
  refine lv_aload_n hx hb dJ5_append_cf1ce_24 rfl (lv_at hl 1 rfl) ?_
  refine lv_aload_n hx hb dJ5_append_cf1ce_25 rfl (lv_at hl 1 rfl) ?_
  refine kg_get C kFJ4 (k := 3) kw290 hP (i := 0) (q := 0) rfl rfl (by decide) rfl dJ5_append_cf1ce_26 ?_
  refine lv_aload_n hx hb dJ5_append_cf1ce_29 rfl (lv_at hl 2 rfl) ?_
  refine kL_backv (wr := []) (va_runV (As := [.int (nI k), .ref a]) (rest := []) C.1 (js_put l g a v n bs o q1 ml (nI k) n1 f1 k (by omega) (fun i hi => by rw [(hs0 i hi).2]; exact sb_fitB _) (by omega) hx1 _) (k_cwSB 2 hts kw1114 kw1116 kw3 kw74 kw1117 pnJ5_putStringAt_47b60 ⟨Nat.le_of_ble_eq_true rfl, Nat.le_of_ble_eq_true rfl⟩) ⟨kPreL_blind kStr_s, (k_recv C kFJ4 hP (i := 0) (q := 0) rfl rfl), (kLg_pre (wr := []) hN hE hS hA hP hD (kX_fr kStr_s (wr := []) hX hS hA hD))⟩ rfl rfl hl.1 rfl (lv_room (Nat.le_of_ble_eq_true rfl)) dJ5_append_cf1ce_30 ⟨Nat.le_of_ble_eq_true rfl, Nat.le_of_ble_eq_true rfl⟩) hS hA hP hD (fun u H locs hp hP hD hS => ?_)
  subst hp
  have hP : kp g [JOW o q1 ml (nI k), JAW g q1 n1 (va_cpy (fun j => bs.getD j 0) f1 0 k n)] H := hP
  have hD : kd A [JOW o q1 ml (nI k), JAW g q1 n1 (va_cpy (fun j => bs.getD j 0) f1 0 k n)] := hD
  refine lv_aload_n hx hb dJ5_append_cf1ce_33 rfl (lv_at hl 1 rfl) ?_
  refine lv_dup hx hb dJ5_append_cf1ce_34 rfl ?_
  refine kg_get C kFJ4 (k := 3) kw290 hP (i := 0) (q := 0) rfl rfl (by decide) rfl dJ5_append_cf1ce_35 ?_
  refine lv_iload_n hx hb dJ5_append_cf1ce_38 rfl (lv_at hl 0 rfl) ?_
  refine lv_iadd hx hb dJ5_append_cf1ce_39 ?_
  refine k_top (y := nI (k + n)) (nI_add k n) ?_
  refine kg_put C kFJ4 (k := 3) kw290 hP hD hS (i := 0) (q := 0) rfl rfl (by decide) rfl rfl rfl (Nat.le_of_ble_eq_true rfl) JOs_3 rfl dJ5_append_cf1ce_40 (fun H locs hP hD hS => ?_)
  have hP : kp g [JOW o q1 ml (nI (k + n)), JAW g q1 n1 (va_cpy (fun j => bs.getD j 0) f1 0 k n)] H := hP
  have hD : kd A [JOW o q1 ml (nI (k + n)), JAW g q1 n1 (va_cpy (fun j => bs.getD j 0) f1 0 k n)] := hD
  refine lv_aload_n hx hb dJ5_append_cf1ce_43 rfl (lv_at hl 1 rfl) ?_
  refine kA_ret C (Or.inl ⟨_, rfl⟩) hP hD hS ⟨q1, n1, ml, _, rfl, hn1, hx1, fun j => ?_, sb_latPut hL (fun j hj => ?_) (fun i hi => ?_)⟩ ⟨Nat.le_of_ble_eq_true rfl, Nat.le_of_ble_eq_true rfl⟩ dJ5_append_cf1ce_44
  · unfold va_cpy
    split
    · rename_i h
      show fits .byte (.int (bs.getD (0 + (j - k)) 0)) = true
      rw [(hs0 (0 + (j - k)) (by omega)).2]
      exact sb_fitB _
    · exact hf1 j
  · rw [pk_cpy_out (Or.inl hj)]
    exact hk1 j (by omega)
  · refine ⟨(hs0 i hi).1, ?_⟩
    rw [pk_cpy_in (by omega) (by omega), show 0 + (k + i - k) = i by omega]
    exact (hs0 i hi).2
theorem pnJ4_append_15ec4 : yJ4_append_15ec4.cls ≠ "java/lang/invoke/MethodHandle" ∧ yJ4_append_15ec4.cls ≠ "java/lang/invoke/VarHandle" ∧ (parseMethodDescriptor yJ4_append_15ec4.desc).map (fun d => d.parameters.length) = some 1 := by decide +kernel
theorem ca_J4_append_15ec4 : kCal yJ4_append_15ec4 (Cond.code yJ4_append_15ec4 cJ4_append_15ec4 2 (some (.object "java/lang/StringBuilder"))) := ⟨k_w 6 24 rfl rfl, k_w 6 25 rfl rfl, k_w 2 7 rfl rfl, k_w 6 26 rfl rfl⟩
abbrev wJ4_append_15ec4_x : List Cond := Cond.code yJ4_append_15ec4 cJ4_append_15ec4 2 (some (.object "java/lang/StringBuilder")) :: kW
set_option maxHeartbeats 4000000 in
theorem js_ap4 (l : Launch) (g : kG) (a v n : Nat) (bs : List Int32) (o q n0 : Nat) (ml : Int32) (f : Nat → Int32) (t : Nat → Nat) (k : Nat) (hn0 : n0 = 16 ∨ n0 = 34) (hk : k ≤ n0) (hff : sb_Fit f) (hL : sb_Lat t k f) (s0 : Nat → Nat) (hs0 : ∀ i, i < n → s0 i < 256 ∧ bs.getD i 0 = sb_b (s0 i)) (h34 : k + n ≤ 34) : kLa (kStr a v n bs) l yJ4_append_15ec4 wJ4_append_15ec4_x 5 320 1 34 g [.ref o, .ref a] [JOW o q ml (nI k), JAW g q n0 f] (fun _ u => ∃ (q' n' : Nat) (ml' : Int32) (f' : Nat → Int32), u = [JOW o q' ml' (nI (k + n)), JAW g q' n' f'] ∧ (n' = 16 ∨ n' = 34) ∧ k + n ≤ n' ∧ sb_Fit f' ∧ sb_Lat (sb_cat t k s0) (k + n) f') := by
  refine kLg_ofC (cc := cJ4_append_15ec4) (nL := 2) (ret := (some (.object "java/lang/StringBuilder"))) (lv := [(0, .ref o), (1, .ref a)]) (by decide) rfl (Nat.le_of_ble_eq_true rfl) rfl ?_
  intro p e s m args below meth c ls A hN hX C hP hD hE hA hS hl
  have C : kC p c cJ4_append_15ec4 s m args meth RJ4 g 2 (some (.object "java/lang/StringBuilder")) := C
  have hx := C.1.1
  have hb := C.1.2.1
  have hts := C.1.2.2.2.2
  refine lv_aload_n hx hb dJ4_append_15ec4_0 rfl (lv_at hl 0 rfl) ?_
  refine lv_aload_n hx hb dJ4_append_15ec4_1 rfl (lv_at hl 1 rfl) ?_
  refine kL_backa (wr := []) (va_runSU (As := [.ref a]) (rest := []) (k_atSB C) C.1 ((js_ap5 l g a v n bs o q n0 ml f t k hn0 hk hff hL s0 hs0 h34) s.heap.size) (k_cwSU 1 hts kw1055 kw1473 kw299 kw1056 kw74 kw1057 ⟨by decide +kernel, pnJ5_append_cf1ce.2.2⟩ ⟨Nat.le_of_ble_eq_true rfl, Nat.le_of_ble_eq_true rfl⟩) ⟨kPreL_blind kStr_s, (k_recv C kFJ4 hP (i := 0) (q := 0) rfl rfl), kLg_pre (wr := []) hN hE hS hA hP hD (kX_fr kStr_s (wr := []) hX hS hA hD)⟩ rfl rfl hl.1 rfl (lv_room (Nat.le_of_ble_eq_true rfl)) dJ4_append_15ec4_2 ⟨Nat.le_of_ble_eq_true rfl, Nat.le_of_ble_eq_true rfl⟩) hS hA hP hD (fun ra u H locs hp hP hD hS => ?_)
  refine lv_pop hx hb dJ4_append_15ec4_5 rfl ?_
  refine lv_aload_n hx hb dJ4_append_15ec4_6 rfl (lv_at hl 0 rfl) ?_
  exact kA_ret C (Or.inl ⟨_, rfl⟩) hP hD hS hp ⟨Nat.le_of_ble_eq_true rfl, Nat.le_of_ble_eq_true rfl⟩ dJ4_append_15ec4_7
