/-! a text handed in letter by letter; a text just made is a text under kStr -/
def kApp (T : kK) (bs : List Int32) : Nat → kK
  | 0 => T
  | i + 1 => (X4_append_f kF0 (kApp T bs i).1 (kApp T bs i).2 (kChr (bs.getD i 0))).2.2
theorem kApp_at {T : kK} {i : Nat} (hi : i < 60) (h : T.1 1 = nI i) (p : Int32) : (X4_append_f kF0 T.1 T.2 p).1 = 0 ∧ (X4_append_f kF0 T.1 T.2 p).2.1 = nI (i + 1) ∧ (X4_append_f kF0 T.1 T.2 p).2.2.1 1 = nI (i + 1) := by
  have hc : T.1 1 < 60 := by rw [h]; exact nI_lt hi (by decide)
  have e : X4_append_f kF0 T.1 T.2 p = (0, T.1 1 + 1, upd T.1 1 (T.1 1 + 1), va_up T.2 0 (upd (T.2 0) (T.1 1).toNatClampNeg (vp_nar .char p))) := if_pos hc
  rw [e, h]
  exact ⟨rfl, nI_1 i, nI_1 i⟩
theorem kApp_len {T : kK} {bs : List Int32} (h0 : T.1 1 = 0) : ∀ i : Nat, i ≤ 60 → (kApp T bs i).1 1 = nI i
  | 0, _ => h0
  | i + 1, h => (kApp_at (by omega) (kApp_len h0 i (by omega)) _).2.2
theorem kA1_of {r : Nat × Int32} {x : Int32} (h0 : r.1 = 0) (h1 : r.2 = x) : kA1 r = x := by
  unfold kA1
  rw [if_pos h0, h1]
theorem kch_end {ln : kTx} {n : Nat} (h : ln.2 = n) (hn : n ≤ 60) : kA1 (X4_character_f ln (nI n)) = -1001 := by
  unfold X4_character_f
  rw [if_neg (nI_pos (by omega)), h, if_neg (nI_nlt (Nat.le_refl n) (by omega))]
  rfl
/-- two cells of the world that the callee does not hold: a text -/
theorem kStr_new {g : kG} {A : Nat → Prop} {s : State} {args : Array Value} {a v n : Nat} {f : Nat → Int32} {H : Heap} (hts : ∀ w ∈ kW, w.before args s = true) (hK : va_K g.1 vwCl (kT g) s) (hP : kp g [JSW a (.ref v), JAW g v n f] H) (hn : n < 2 ^ 31) (ha : ¬ A a) (hv : ¬ A v) : kStr a v n ((List.range n).map f) A s H := by
  have hP := kp_iff.mp hP
  obtain ⟨r, hr, cell, q1, q2, q3, q4⟩ := hP (JSW a (.ref v)) (by simp) (a, .inr (0, [.ref v, .int 0, .int 0, .int 0])) (by unfold JSW; simp)
  obtain rfl : r = (RJ0, TJ0, 4) := (Option.some.inj hr).symm
  have hc : H[v]? = some (vp_cell (g.2.1 0) (n, .inl f)) := hP (JAW g v n f) (by simp) (v, .inl (g.2.1 0, n, .inl f)) (by unfold JAW; simp)
  obtain ⟨hSl, hfc, kC, hkC, hkind⟩ := hK.1 0 _ rfl
  have hof : ∀ k, k < 4 → ∀ x : Value, vp_V [.ref v, .int 0, .int 0, .int 0] k = x → va_OF (TJ0 k).1 (TJ0 k).2.1 (TJ0 k).2.2.1 x a A s H := by
    intro k hk x hx
    obtain ⟨cf, kf, fi, fd, hi, he⟩ := hSl k hk
    refine ⟨cf, kf, fi, fd, cell, hi, (u_facts hfc hkC (u_lays hts ku_J0 hk) hi).1, q1, by rw [q3]; exact (fun h => by cases h), ?_, ha⟩
    rw [he, ← hx]
    exact q4 k hk
  have e : ∀ j, j < n → ((List.range n).map f).getD j 0 = f j := fun j hj => by simp [List.getD, hj]
  refine ⟨fun i hi => ?_, fun i j hi hj _ => by omega⟩
  obtain rfl : i = 0 := by omega
  refine ⟨⟨cell, q1, by rw [q3]; rfl, by rw [q2]; exact hfc, ha⟩, hof 1 (by decide) _ rfl, hof 0 (by decide) _ rfl, ⟨_, hc, (hK.2 0 _ rfl).1 n _, by rw [vp_cell_i]; exact (fun h => by cases h), ?_, ?_, fun j hj => ?_, hv⟩⟩
  · rw [vp_cell_i, arrV_size]; exact Nat.le_refl _
  · rw [vp_cell_i, arrV_size]; rfl
  · rw [vp_cell_i]
    show _ = some (Value.int (((List.range n).map f).getD j 0))
    rw [e j hj]
    exact arrV_read _ _ hj
theorem pnL_append : yL_append.cls ≠ "java/lang/invoke/MethodHandle" ∧ yL_append.cls ≠ "java/lang/invoke/VarHandle" ∧ (parseMethodDescriptor yL_append.desc).map (fun d => d.parameters.length) = some 2 := by decide +kernel
theorem cs_L_append : kCst yL_append (Cond.codeWith yL_append cL_append 3 (some .int) [(0, 5, 6, 105)]) := ⟨k_w 5 54 rfl rfl, k_w 2 0 rfl rfl, k_w 5 55 rfl rfl⟩
theorem pnL_commands : yL_commands.cls ≠ "java/lang/invoke/MethodHandle" ∧ yL_commands.cls ≠ "java/lang/invoke/VarHandle" ∧ (parseMethodDescriptor yL_commands.desc).map (fun d => d.parameters.length) = some 1 := by decide +kernel
theorem cs_L_commands : kCst yL_commands (Cond.codeWith yL_commands cL_commands 2 (some .int) [(0, 4, 5, 60), (0, 4, 10, 13)]) := ⟨k_w 5 78 rfl rfl, k_w 2 0 rfl rfl, k_w 5 79 rfl rfl⟩
theorem kw841 : Cond.methodLink RL 150 yL_append ∈ kW := k_w 5 53 rfl rfl
theorem kw865 : Cond.methodLink RL 155 yL_commands ∈ kW := k_w 5 77 rfl rfl
theorem kw1282 : Cond.methodLink RL 142 yJ0_length_8abf5 ∈ kW := k_w 7 14 rfl rfl
theorem kw1301 : Cond.methodLink RL 147 yJ0_charAt_5068e ∈ kW := k_w 7 33 rfl rfl
abbrev wL_reads : List Cond := Cond.code yL_reads cL_reads 3 (some .int) :: kW
set_option maxHeartbeats 8000000 in
set_option maxRecDepth 100000 in
theorem L_reads_c (l : Launch) (hfl : l.stackTraces = false) (g : kG) (oF : Nat) (F : Nat → Int32) (C S : kK) (h : List kK) (R : Nat → Int32) (T : kK) (ln : kTx) (cs : List va_W) (hO : kOb g oF F C S h R T ln cs) (a v n : Nat) (bs : List Int32) (hn : n ≤ 60) (hT0 : T.1 1 = 0) : kL (kStr a v n bs) l yL_reads wL_reads 9 196 61 366 g [.ref oF, .ref a] cs (fun x u => kCmd g oF F C S h R (kApp T bs n) ln x u) := by
  refine kLg_ofC (cc := cL_reads) (nL := 3) (ret := some .int) (lv := [(0, .ref oF), (1, .ref a)]) (by decide) rfl (Nat.le_of_ble_eq_true rfl) rfl ?_
  intro p e s m args below meth c ls A hN hX K hP hD hE hA hS hl
  have K : kC p c cL_reads s m args meth RL g 3 (some .int) := K
  have hx := K.1.1
  have hb := K.1.2.1
  have hts := K.1.2.2.2.2
  refine lv_iconst (v := 0) hx hb dL_reads_0 (by decide) ?_
  refine lv_istore_n (lv' := [(2, .int 0), (0, .ref oF), (1, .ref a)]) hx hb dL_reads_1 rfl hl (by decide) rfl (fun ls hl => ?_)
  have lp : ∀ (q i cells slots : Nat) (u : List va_W) (H : Heap) (locs : List Loc) (ls : Array Slot), i + q = n → cells + 1 * q + 1 ≤ 61 → slots + 6 * q + 6 ≤ 366 → kOb g oF F C S h R (kApp T bs i) ln u → kp g u H → kd A u → va_S A s.heap H locs → lv_has ls 3 [(2, .int (nI i)), (0, .ref oF), (1, .ref a)] → W p l e (kRm 9 61 366 196) s m args below meth c H locs cells slots (MQ below (kQi g (fun x u => kCmd g oF F C S h R (kApp T bs n) ln x u) A) args s 61 366 A) (F0 m 2 ls []) := by
    intro q
    induction q with
    | zero =>
      intro i cells slots u H locs ls hi hc hs hO hP hD hS hl
      obtain rfl : i = n := by omega
      refine lv_iload_n hx hb dL_reads_2 rfl (lv_at hl 0 rfl) ?_
      refine lv_aload_n hx hb dL_reads_3 rfl (lv_at hl 2 rfl) ?_
      refine kRX_V (As := []) (rest := [.int (nI i)]) K kStr_s hX (js_len l g a v i bs) (cwV 0 hts (k_gV kw1282 ca_J0_length_8abf5) rfl rfl rfl ⟨rfl, pnJ0_length_8abf5⟩ ⟨Nat.le_of_ble_eq_true rfl, Nat.le_of_ble_eq_true rfl⟩) hE hS (hP.pick [] rfl) (ks_recv hX hS) rfl hl.1 rfl rfl dL_reads_4 ⟨(show cells + 0 ≤ 61 from by omega), (show slots + 0 ≤ 366 from by omega)⟩ ?_
      refine lv_icmp_ge (tgt := 35) hx hb dL_reads_7 (by decide) (fun z => ?_) (fun z => absurd (Int32.le_refl (nI i)) z)
      refine lv_aload_n hx hb dL_reads_35 rfl (lv_at hl 1 rfl) ?_
      refine kL_SW (As := [.ref oF]) (rest := []) (wr := []) K kX0_s (L_commands_c l hfl g oF F C S h R (kApp T bs i) ln _ hO ) hN kX0_fr (vx_cwSW 1 hts (k_gS kw865 cs_L_commands) rfl rfl rfl pnL_commands ⟨Nat.le_of_ble_eq_true rfl, Nat.le_of_ble_eq_true rfl⟩) hE hS hA hP hD rfl hl.1 rfl rfl dL_reads_36 ⟨(show cells + 1 ≤ 61 from by omega), (show slots + 6 ≤ 366 from by omega)⟩ (fun r u H locs hp hP hD hS => ?_)
      have hP : kp g u H := hP
      have hD : kd A u := hD
      exact kL_ret K hP hD hS hp ⟨(show cells + 1 ≤ 61 from by omega), (show slots + 6 ≤ 366 from by omega)⟩ dL_reads_39
    | succ q IH =>
      intro i cells slots u H locs ls hi hc hs hO hP hD hS hl
      refine lv_iload_n hx hb dL_reads_2 rfl (lv_at hl 0 rfl) ?_
      refine lv_aload_n hx hb dL_reads_3 rfl (lv_at hl 2 rfl) ?_
      refine kRX_V (As := []) (rest := [.int (nI i)]) K kStr_s hX (js_len l g a v n bs) (cwV 0 hts (k_gV kw1282 ca_J0_length_8abf5) rfl rfl rfl ⟨rfl, pnJ0_length_8abf5⟩ ⟨Nat.le_of_ble_eq_true rfl, Nat.le_of_ble_eq_true rfl⟩) hE hS (hP.pick [] rfl) (ks_recv hX hS) rfl hl.1 rfl rfl dL_reads_4 ⟨(show cells + 0 ≤ 61 from by omega), (show slots + 0 ≤ 366 from by omega)⟩ ?_
      refine lv_icmp_ge (tgt := 35) hx hb dL_reads_7 (by decide) (fun z => absurd z (nI_ge (a := i) (b := n) (by omega) (by omega))) (fun z => ?_)
      refine lv_aload_n hx hb dL_reads_10 rfl (lv_at hl 1 rfl) ?_
      refine lv_aload_n hx hb dL_reads_11 rfl (lv_at hl 2 rfl) ?_
      refine lv_iload_n hx hb dL_reads_12 rfl (lv_at hl 0 rfl) ?_
      refine kRX_V (As := [.int (nI i)]) (rest := [.ref oF]) K kStr_s hX (js_ch l g a v n bs (by omega) i (by omega)) (cwV 1 hts (k_gV kw1301 ca_J0_charAt_5068e) rfl rfl rfl ⟨rfl, pnJ0_charAt_5068e⟩ ⟨Nat.le_of_ble_eq_true rfl, Nat.le_of_ble_eq_true rfl⟩) hE hS (hP.pick [] rfl) (ks_recv hX hS) rfl hl.1 rfl rfl dL_reads_13 ⟨(show cells + 0 ≤ 61 from by omega), (show slots + 0 ≤ 366 from by omega)⟩ ?_
      refine kL_SW (As := [.ref oF, .int (kChr (bs.getD i 0))]) (rest := []) (wr := []) K kX0_s (L_append_c l hfl g oF F C S h R (kApp T bs i) ln _ hO (kChr (bs.getD i 0))) hN kX0_fr (vx_cwSW 2 hts (k_gS kw841 cs_L_append) rfl rfl rfl pnL_append ⟨Nat.le_of_ble_eq_true rfl, Nat.le_of_ble_eq_true rfl⟩) hE hS hA hP hD rfl hl.1 rfl rfl dL_reads_16 ⟨(show cells + 1 ≤ 61 from by omega), (show slots + 6 ≤ 366 from by omega)⟩ (fun r u H locs hp hP hD hS => ?_)
      have hP : kp g u H := hP
      have hD : kd A u := hD
      obtain ⟨hr, hO⟩ := hp
      have ha := kApp_at (T := kApp T bs i) (i := i) (by omega) (kApp_len hT0 i (by omega)) (kChr (bs.getD i 0))
      have hr : r = nI (i + 1) := hr.trans (kA1_of ha.1 ha.2.1)
      subst hr
      refine lv_iload_n hx hb dL_reads_19 rfl (lv_at hl 0 rfl) ?_
      refine lv_iconst (v := 1) hx hb dL_reads_20 (by decide) ?_
      refine lv_iadd hx hb dL_reads_21 ?_
      refine k_top (nI (i + 1)) (nI_1 i) ?_
      refine lv_icmp_eq (tgt := 29) hx hb dL_reads_22 (by decide) (fun z => ?_) (fun z => absurd rfl z)
      refine lv_iinc (v := nI (i + 1)) (lv' := [(2, .int (nI (i + 1))), (0, .ref oF), (1, .ref a)]) hx hb dL_reads_29 hl (k := 0) rfl (nI_1 i) (by decide) rfl (fun ls hl => ?_)
      refine lv_goto (tgt := 2) hx hb dL_reads_32 (by decide) ?_
      exact IH (i + 1) (cells + 1) (slots + 6) _ _ _ _ (by omega) (by omega) (by omega) hO hP hD hS (lv_sub hl [0, 1, 2] rfl)
  exact lp n 0 0 0 _ _ _ _ (by omega) (by omega) (by omega) hO hP hD hS (lv_sub hl [0, 1, 2] rfl)
abbrev wL_isLine : List Cond := Cond.code yL_isLine cL_isLine 4 (some .boolean) :: kW
set_option maxHeartbeats 8000000 in
set_option maxRecDepth 100000 in
theorem L_isLine_c (l : Launch) (hfl : l.stackTraces = false) (g : kG) (oF : Nat) (F : Nat → Int32) (C S : kK) (h : List kK) (R : Nat → Int32) (T : kK) (ln : kTx) (cs : List va_W) (hO : kOb g oF F C S h R T ln cs) (p0 : Int32) (a v n : Nat) (bs : List Int32) (hn : n ≤ 60) (hcb : X4_checkBag_f kF0 C.1 C.2 p0 = 0) (hlen : (kLine (X4_line_w C.1 C.2 p0)).2 = n) (hch : ∀ i, i < n → kA1 (X4_character_f (kLine (X4_line_w C.1 C.2 p0)) (nI i)) = kChr (bs.getD i 0)) : kL (kStr a v n bs) l yL_isLine wL_isLine 10 543 82 1056 g [.ref oF, .int p0, .ref a] cs (fun x u => x = 1 ∧ kOb g oF F C S h R T (kLine (X4_line_w C.1 C.2 p0)) u) := by
  refine kLg_ofC (cc := cL_isLine) (nL := 4) (ret := some .boolean) (lv := [(0, .ref oF), (1, .int p0), (2, .ref a)]) (by decide) rfl (Nat.le_of_ble_eq_true rfl) rfl ?_
  intro p e s m args below meth c ls A hN hX K hP hD hE hA hS hl
  have K : kC p c cL_isLine s m args meth RL g 4 (some .boolean) := K
  have hx := K.1.1
  have hb := K.1.2.1
  have hts := K.1.2.2.2.2
  refine lv_aload_n hx hb dL_isLine_0 rfl (lv_at hl 0 rfl) ?_
  refine lv_iload_n hx hb dL_isLine_1 rfl (lv_at hl 1 rfl) ?_
  refine kL_SW (As := [.ref oF, .int p0]) (rest := []) (wr := []) K kX0_s (L_line_c l hfl g oF F C S h R T ln _ hO p0) hN kX0_fr (vx_cwSW 2 hts (k_gS kw1025 cs_L_line) rfl rfl rfl pnL_line ⟨Nat.le_of_ble_eq_true rfl, Nat.le_of_ble_eq_true rfl⟩) hE hS hA hP hD rfl hl.1 rfl rfl dL_isLine_2 ⟨Nat.le_of_ble_eq_true rfl, Nat.le_of_ble_eq_true rfl⟩ (fun r u H locs hp hP hD hS => ?_)
  have hP : kp g u H := hP
  have hD : kd A u := hD
  obtain ⟨-, hr, hO⟩ | ⟨hcb2, -, -⟩ := hp
  case inr => exact absurd hcb hcb2
  have hr : r = nI n := hr.trans (congrArg nI hlen)
  subst hr
  refine lv_aload_n hx hb dL_isLine_5 rfl (lv_at hl 2 rfl) ?_
  refine kRX_V (As := []) (rest := [.int (nI n)]) K kStr_s hX (js_len l g a v n bs) (cwV 0 hts (k_gV kw1282 ca_J0_length_8abf5) rfl rfl rfl ⟨rfl, pnJ0_length_8abf5⟩ ⟨Nat.le_of_ble_eq_true rfl, Nat.le_of_ble_eq_true rfl⟩) hE hS (hP.pick [] rfl) (ks_recv hX hS) rfl hl.1 rfl rfl dL_isLine_6 ⟨Nat.le_of_ble_eq_true rfl, Nat.le_of_ble_eq_true rfl⟩ ?_
  refine lv_icmp_eq (tgt := 14) hx hb dL_isLine_9 (by decide) (fun z => ?_) (fun z => absurd rfl z)
  refine lv_iconst (v := 0) hx hb dL_isLine_14 (by decide) ?_
  refine lv_istore_n (lv' := [(3, .int 0), (0, .ref oF), (1, .int p0), (2, .ref a)]) hx hb dL_isLine_15 rfl hl (by decide) rfl (fun ls hl => ?_)
  have lp : ∀ (q i cells slots : Nat) (u : List va_W) (H : Heap) (locs : List Loc) (ls : Array Slot), i + q = n → cells + 1 * q + 1 ≤ 82 → slots + 6 * q + 6 ≤ 1056 → kOb g oF F C S h R T (kLine (X4_line_w C.1 C.2 p0)) u → kp g u H → kd A u → va_S A s.heap H locs → lv_has ls 4 [(3, .int (nI i)), (0, .ref oF), (2, .ref a)] → W p l e (kRm 10 82 1056 543) s m args below meth c H locs cells slots (MQ below (kQi g (fun x u => x = 1 ∧ kOb g oF F C S h R T (kLine (X4_line_w C.1 C.2 p0)) u) A) args s 82 1056 A) (F0 m 16 ls []) := by
    intro q
    induction q with
    | zero =>
      intro i cells slots u H locs ls hi hc hs hO hP hD hS hl
      obtain rfl : i = n := by omega
      refine lv_iload_n hx hb dL_isLine_16 rfl (lv_at hl 0 rfl) ?_
      refine lv_aload_n hx hb dL_isLine_17 rfl (lv_at hl 2 rfl) ?_
      refine kRX_V (As := []) (rest := [.int (nI i)]) K kStr_s hX (js_len l g a v i bs) (cwV 0 hts (k_gV kw1282 ca_J0_length_8abf5) rfl rfl rfl ⟨rfl, pnJ0_length_8abf5⟩ ⟨Nat.le_of_ble_eq_true rfl, Nat.le_of_ble_eq_true rfl⟩) hE hS (hP.pick [] rfl) (ks_recv hX hS) rfl hl.1 rfl rfl dL_isLine_18 ⟨(show cells + 0 ≤ 82 from by omega), (show slots + 0 ≤ 1056 from by omega)⟩ ?_
      refine lv_icmp_ge (tgt := 45) hx hb dL_isLine_21 (by decide) (fun z => ?_) (fun z => absurd (Int32.le_refl (nI i)) z)
      refine lv_aload_n hx hb dL_isLine_45 rfl (lv_at hl 1 rfl) ?_
      refine lv_aload_n hx hb dL_isLine_46 rfl (lv_at hl 2 rfl) ?_
      refine kRX_V (As := []) (rest := [.ref oF]) K kStr_s hX (js_len l g a v i bs) (cwV 0 hts (k_gV kw1282 ca_J0_length_8abf5) rfl rfl rfl ⟨rfl, pnJ0_length_8abf5⟩ ⟨Nat.le_of_ble_eq_true rfl, Nat.le_of_ble_eq_true rfl⟩) hE hS (hP.pick [] rfl) (ks_recv hX hS) rfl hl.1 rfl rfl dL_isLine_47 ⟨(show cells + 0 ≤ 82 from by omega), (show slots + 0 ≤ 1056 from by omega)⟩ ?_
      refine kL_SW (As := [.ref oF, .int (nI i)]) (rest := []) (wr := []) K kX0_s (L_character_c l hfl g oF F C S h R T (kLine (X4_line_w C.1 C.2 p0)) _ hO (nI i)) hN kX0_fr (vx_cwSW 2 hts (k_gS kw1283 cs_L_character) rfl rfl rfl pnL_character ⟨Nat.le_of_ble_eq_true rfl, Nat.le_of_ble_eq_true rfl⟩) hE hS hA hP hD rfl hl.1 rfl rfl dL_isLine_50 ⟨(show cells + 1 ≤ 82 from by omega), (show slots + 6 ≤ 1056 from by omega)⟩ (fun r u H locs hp hP hD hS => ?_)
      have hP : kp g u H := hP
      have hD : kd A u := hD
      obtain ⟨hr, hO⟩ := hp
      have hr : r = -1001 := hr.trans (kch_end hlen hn)
      subst hr
      refine lv_sipush (v := (-1001)) hx hb dL_isLine_53 (by decide) ?_
      refine lv_icmp_ne (tgt := 63) hx hb dL_isLine_56 (by decide) (fun z => absurd z (fun y => y rfl)) (fun z => ?_)
      refine lv_iconst (v := 1) hx hb dL_isLine_59 (by decide) ?_
      refine lv_goto (tgt := 64) hx hb dL_isLine_60 (by decide) ?_
      exact kL_zret (b := true) K hP hD hS ⟨rfl, hO⟩ ⟨(show cells + 1 ≤ 82 from by omega), (show slots + 6 ≤ 1056 from by omega)⟩ dL_isLine_64
    | succ q IH =>
      intro i cells slots u H locs ls hi hc hs hO hP hD hS hl
      refine lv_iload_n hx hb dL_isLine_16 rfl (lv_at hl 0 rfl) ?_
      refine lv_aload_n hx hb dL_isLine_17 rfl (lv_at hl 2 rfl) ?_
      refine kRX_V (As := []) (rest := [.int (nI i)]) K kStr_s hX (js_len l g a v n bs) (cwV 0 hts (k_gV kw1282 ca_J0_length_8abf5) rfl rfl rfl ⟨rfl, pnJ0_length_8abf5⟩ ⟨Nat.le_of_ble_eq_true rfl, Nat.le_of_ble_eq_true rfl⟩) hE hS (hP.pick [] rfl) (ks_recv hX hS) rfl hl.1 rfl rfl dL_isLine_18 ⟨(show cells + 0 ≤ 82 from by omega), (show slots + 0 ≤ 1056 from by omega)⟩ ?_
      refine lv_icmp_ge (tgt := 45) hx hb dL_isLine_21 (by decide) (fun z => absurd z (nI_ge (a := i) (b := n) (by omega) (by omega))) (fun z => ?_)
      refine lv_aload_n hx hb dL_isLine_24 rfl (lv_at hl 1 rfl) ?_
      refine lv_iload_n hx hb dL_isLine_25 rfl (lv_at hl 0 rfl) ?_
      refine kL_SW (As := [.ref oF, .int (nI i)]) (rest := []) (wr := []) K kX0_s (L_character_c l hfl g oF F C S h R T (kLine (X4_line_w C.1 C.2 p0)) _ hO (nI i)) hN kX0_fr (vx_cwSW 2 hts (k_gS kw1283 cs_L_character) rfl rfl rfl pnL_character ⟨Nat.le_of_ble_eq_true rfl, Nat.le_of_ble_eq_true rfl⟩) hE hS hA hP hD rfl hl.1 rfl rfl dL_isLine_26 ⟨(show cells + 1 ≤ 82 from by omega), (show slots + 6 ≤ 1056 from by omega)⟩ (fun r u H locs hp hP hD hS => ?_)
      have hP : kp g u H := hP
      have hD : kd A u := hD
      obtain ⟨hr, hO⟩ := hp
      have hr : r = kChr (bs.getD i 0) := hr.trans (hch i (by omega))
      subst hr
      refine lv_aload_n hx hb dL_isLine_29 rfl (lv_at hl 2 rfl) ?_
      refine lv_iload_n hx hb dL_isLine_30 rfl (lv_at hl 0 rfl) ?_
      refine kRX_V (As := [.int (nI i)]) (rest := [.int (kChr (bs.getD i 0))]) K kStr_s hX (js_ch l g a v n bs (by omega) i (by omega)) (cwV 1 hts (k_gV kw1301 ca_J0_charAt_5068e) rfl rfl rfl ⟨rfl, pnJ0_charAt_5068e⟩ ⟨Nat.le_of_ble_eq_true rfl, Nat.le_of_ble_eq_true rfl⟩) hE hS (hP.pick [] rfl) (ks_recv hX hS) rfl hl.1 rfl rfl dL_isLine_31 ⟨(show cells + 1 + 0 ≤ 82 from by omega), (show slots + 6 + 0 ≤ 1056 from by omega)⟩ ?_
      refine lv_icmp_eq (tgt := 39) hx hb dL_isLine_34 (by decide) (fun z => ?_) (fun z => absurd rfl z)
      refine lv_iinc (v := nI (i + 1)) (lv' := [(3, .int (nI (i + 1))), (0, .ref oF), (2, .ref a)]) hx hb dL_isLine_39 hl (k := 0) rfl (nI_1 i) (by decide) rfl (fun ls hl => ?_)
      refine lv_goto (tgt := 16) hx hb dL_isLine_42 (by decide) ?_
      exact IH (i + 1) (cells + 1) (slots + 6) _ _ _ _ (by omega) (by omega) (by omega) hO hP hD hS (lv_sub hl [0, 1, 2] rfl)
  exact lp n 0 (0 + 21) (0 + 690) _ _ _ _ (by omega) (by omega) (by omega) hO hP hD hS (lv_sub hl [0, 1, 3] rfl)
