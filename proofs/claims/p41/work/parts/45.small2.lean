theorem dJxe99ae_isNaN_b9ae7_0 : decode cJxe99ae_isNaN_b9ae7 0 = .ok (.dload_n 0, 1) := by decide +kernel
theorem dJxe99ae_isNaN_b9ae7_1 : decode cJxe99ae_isNaN_b9ae7 1 = .ok (.dload_n 0, 1) := by decide +kernel
theorem dJxe99ae_isNaN_b9ae7_2 : decode cJxe99ae_isNaN_b9ae7 2 = .ok (.dcmp .l, 1) := by decide +kernel
theorem dJxe99ae_isNaN_b9ae7_3 : decode cJxe99ae_isNaN_b9ae7 3 = .ok (.ifCond .eq 7, 3) := by decide +kernel
theorem dJxe99ae_isNaN_b9ae7_6 : decode cJxe99ae_isNaN_b9ae7 6 = .ok (.iconst 1, 1) := by decide +kernel
theorem dJxe99ae_isNaN_b9ae7_7 : decode cJxe99ae_isNaN_b9ae7 7 = .ok (.goto 4, 3) := by decide +kernel
theorem dJxe99ae_isNaN_b9ae7_10 : decode cJxe99ae_isNaN_b9ae7 10 = .ok (.iconst 0, 1) := by decide +kernel
theorem dJxe99ae_isNaN_b9ae7_11 : decode cJxe99ae_isNaN_b9ae7 11 = .ok (.ireturn, 1) := by decide +kernel
theorem dJxe99ae_doubleToLongBits_ccdee_0 : decode cJxe99ae_doubleToLongBits_ccdee 0 = .ok (.dload_n 0, 1) := by decide +kernel
theorem dJxe99ae_doubleToLongBits_ccdee_1 : decode cJxe99ae_doubleToLongBits_ccdee 1 = .ok (.invokestatic 122, 3) := by decide +kernel
theorem dJxe99ae_doubleToLongBits_ccdee_4 : decode cJxe99ae_doubleToLongBits_ccdee 4 = .ok (.ifCond .ne 8, 3) := by decide +kernel
theorem dJxe99ae_doubleToLongBits_ccdee_7 : decode cJxe99ae_doubleToLongBits_ccdee 7 = .ok (.dload_n 0, 1) := by decide +kernel
theorem dJxe99ae_doubleToLongBits_ccdee_8 : decode cJxe99ae_doubleToLongBits_ccdee 8 = .ok (.invokestatic 134, 3) := by decide +kernel
theorem dJxe99ae_doubleToLongBits_ccdee_11 : decode cJxe99ae_doubleToLongBits_ccdee 11 = .ok (.lreturn, 1) := by decide +kernel
theorem dJxe99ae_doubleToLongBits_ccdee_12 : decode cJxe99ae_doubleToLongBits_ccdee 12 = .ok (.ldc2_w 137, 3) := by decide +kernel
theorem dJxe99ae_doubleToLongBits_ccdee_15 : decode cJxe99ae_doubleToLongBits_ccdee 15 = .ok (.lreturn, 1) := by decide +kernel
theorem dJxf58ca_isNaN_12338_0 : decode cJxf58ca_isNaN_12338 0 = .ok (.fload_n 0, 1) := by decide +kernel
theorem dJxf58ca_isNaN_12338_1 : decode cJxf58ca_isNaN_12338 1 = .ok (.fload_n 0, 1) := by decide +kernel
theorem dJxf58ca_isNaN_12338_2 : decode cJxf58ca_isNaN_12338 2 = .ok (.fcmp .l, 1) := by decide +kernel
theorem dJxf58ca_isNaN_12338_3 : decode cJxf58ca_isNaN_12338 3 = .ok (.ifCond .eq 7, 3) := by decide +kernel
theorem dJxf58ca_isNaN_12338_6 : decode cJxf58ca_isNaN_12338 6 = .ok (.iconst 1, 1) := by decide +kernel
theorem dJxf58ca_isNaN_12338_7 : decode cJxf58ca_isNaN_12338 7 = .ok (.goto 4, 3) := by decide +kernel
theorem dJxf58ca_isNaN_12338_10 : decode cJxf58ca_isNaN_12338 10 = .ok (.iconst 0, 1) := by decide +kernel
theorem dJxf58ca_isNaN_12338_11 : decode cJxf58ca_isNaN_12338 11 = .ok (.ireturn, 1) := by decide +kernel
theorem dJxf58ca_floatToIntBits_5c35a_0 : decode cJxf58ca_floatToIntBits_5c35a 0 = .ok (.fload_n 0, 1) := by decide +kernel
theorem dJxf58ca_floatToIntBits_5c35a_1 : decode cJxf58ca_floatToIntBits_5c35a 1 = .ok (.invokestatic 59, 3) := by decide +kernel
theorem dJxf58ca_floatToIntBits_5c35a_4 : decode cJxf58ca_floatToIntBits_5c35a 4 = .ok (.ifCond .ne 8, 3) := by decide +kernel
theorem dJxf58ca_floatToIntBits_5c35a_7 : decode cJxf58ca_floatToIntBits_5c35a 7 = .ok (.fload_n 0, 1) := by decide +kernel
theorem dJxf58ca_floatToIntBits_5c35a_8 : decode cJxf58ca_floatToIntBits_5c35a 8 = .ok (.invokestatic 74, 3) := by decide +kernel
theorem dJxf58ca_floatToIntBits_5c35a_11 : decode cJxf58ca_floatToIntBits_5c35a 11 = .ok (.ireturn, 1) := by decide +kernel
theorem dJxf58ca_floatToIntBits_5c35a_12 : decode cJxf58ca_floatToIntBits_5c35a 12 = .ok (.ldc 77, 2) := by decide +kernel
theorem dJxf58ca_floatToIntBits_5c35a_14 : decode cJxf58ca_floatToIntBits_5c35a 14 = .ok (.ireturn, 1) := by decide +kernel
theorem kw97 : Cond.initialized "java/lang/Double" ∈ kW := k_w 2 29 rfl rfl
theorem kw98 : Cond.initialized "java/lang/Float" ∈ kW := k_w 2 30 rfl rfl
theorem kw1337 : Cond.methodLink RJxe99ae 122 yJxe99ae_isNaN_b9ae7 ∈ kW := k_w 7 69 rfl rfl
theorem kw1340 : Cond.methodLink RJxe99ae 134 ⟨"java/lang/Double", "doubleToRawLongBits", "(D)J"⟩ ∈ kW := k_w 7 72 rfl rfl
theorem kw1341 : Cond.static ⟨"java/lang/Double", "doubleToRawLongBits", "(D)J"⟩ ∈ kW := k_w 7 73 rfl rfl
theorem kw1342 : Cond.native ⟨"java/lang/Double", "doubleToRawLongBits", "(D)J"⟩ ∈ kW := k_w 7 74 rfl rfl
theorem kw1343 : Cond.constantLong RJxe99ae 137 (9221120237041090560 : Int64) ∈ kW := k_w 7 75 rfl rfl
theorem kw1357 : Cond.methodLink RJxf58ca 59 yJxf58ca_isNaN_12338 ∈ kW := k_w 7 89 rfl rfl
theorem kw1360 : Cond.methodLink RJxf58ca 74 ⟨"java/lang/Float", "floatToRawIntBits", "(F)I"⟩ ∈ kW := k_w 7 92 rfl rfl
theorem kw1361 : Cond.static ⟨"java/lang/Float", "floatToRawIntBits", "(F)I"⟩ ∈ kW := k_w 7 93 rfl rfl
theorem kw1362 : Cond.native ⟨"java/lang/Float", "floatToRawIntBits", "(F)I"⟩ ∈ kW := k_w 7 94 rfl rfl
theorem kw1363 : Cond.constant RJxf58ca 77 (2143289344) ∈ kW := k_w 7 95 rfl rfl
abbrev wL_at : List Cond := Cond.code yL_at cL_at 2 (some .int) :: kW
theorem L_at_c (l : Launch) (g : kG) {b L : Nat} {xs : Nat → Int32} (hL : L ≤ 260) (j : Nat) (hj : j < 1000) : kRX (kScr b L xs) l yL_at wL_at 0 0 g [.ref b, .int (nI j)] [] (kAt L xs j) := by
  refine kRX_of (cc := cL_at) (nL := 2) (ret := (some .int)) (lv := [(0, .ref b), (1, .int (nI j))]) (by decide) rfl (Nat.le_of_ble_eq_true rfl) rfl ?_
  intro p e s m args below meth c ls hX K hP hE hl
  have hS : va_S (fun _ => False) s.heap s.heap [] := va_S.rf
  have K : kC p c cL_at s m args meth RL g 2 (some .int) := K
  have hx := K.1.1
  have hb := K.1.2.1
  have hts := K.1.2.2.2.2
  refine lv_iload_n hx hb dL_at_0 rfl (lv_at hl 1 rfl) ?_
  refine lv_aload_n hx hb dL_at_1 rfl (lv_at hl 0 rfl) ?_
  refine va_slen hx hb hX.1 hX.2.1 hX.2.2 hS dL_at_2 ?_
  by_cases c : j < L
  · refine lv_icmp_ge (tgt := 12) hx hb dL_at_3 (by decide) (fun z => absurd z (nI_ge c (by omega))) (fun _ => ?_)
    refine lv_aload_n hx hb dL_at_6 rfl (lv_at hl 0 rfl) ?_
    refine lv_iload_n hx hb dL_at_7 rfl (lv_at hl 1 rfl) ?_
    refine va_sld hx hb hX.1 hX.2.1 hX.2.2 hS (vp_in_nI c (by omega)) dL_at_8 ?_
    refine lv_goto (tgt := 13) hx hb dL_at_9 (by decide) ?_
    exact kR_ret K (by rw [nI_clamp (by omega)]; exact (if_pos c).symm) dL_at_13
  · refine lv_icmp_ge (tgt := 12) hx hb dL_at_3 (by decide) (fun _ => ?_) (fun z => absurd (nI_le (by omega) (by omega)) z)
    refine lv_iconst (v := 0) hx hb dL_at_12 (by decide) ?_
    exact kR_ret K (if_neg c).symm dL_at_13
abbrev wL_some : List Cond := Cond.code yL_some cL_some 3 (some .int) :: kW
theorem L_some_c (l : Launch) (g : kG) (v n : Int32) (hn : ¬ n = 0) : kR l yL_some wL_some 0 0 g [.int v, .int n] [] (kSome v n) := by
  refine kR_of (cc := cL_some) (nL := 3) (ret := (some .int)) (lv := [(0, .int v), (1, .int n)]) (by decide) rfl (Nat.le_of_ble_eq_true rfl) rfl ?_
  intro p e s m args below meth c ls K hP hE hl
  have hS : va_S (fun _ => False) s.heap s.heap [] := va_S.rf
  have K : kC p c cL_some s m args meth RL g 3 (some .int) := K
  have hx := K.1.1
  have hb := K.1.2.1
  have hts := K.1.2.2.2.2
  refine lv_iload_n hx hb dL_some_0 rfl (lv_at hl 0 rfl) ?_
  refine lv_iload_n hx hb dL_some_1 rfl (lv_at hl 1 rfl) ?_
  refine lv_irem hx hb dL_some_2 hn ?_
  refine lv_istore_n (lv' := [(2, .int (v - v / n * n)), (0, .int v), (1, .int n)]) hx hb dL_some_3 rfl hl (by decide) rfl (fun ls hl => ?_)
  refine lv_iload_n hx hb dL_some_4 rfl (lv_at hl 0 rfl) ?_
  refine lv_if_ge (tgt := 14) hx hb dL_some_5 (by decide) (fun z => ?_) (fun z => ?_)
  · refine lv_iload_n hx hb dL_some_14 rfl (lv_at hl 0 rfl) ?_
    exact kR_ret K (if_neg (Int32.not_lt.mpr z)).symm dL_some_15
  · refine lv_iload_n hx hb dL_some_8 rfl (lv_at hl 0 rfl) ?_
    refine lv_iload_n hx hb dL_some_9 rfl (lv_at hl 2 rfl) ?_
    refine lv_iadd hx hb dL_some_10 ?_
    refine lv_goto (tgt := 15) hx hb dL_some_11 (by decide) ?_
    exact kR_ret K (if_pos (Int32.not_le.mp z)).symm dL_some_15
def kNanD (x : UInt64) : Bool := !decide (Op.cmpValue (FP.dcmp x x) .l = 0)
abbrev wJxe99ae_isNaN_b9ae7 : List Cond := Cond.code yJxe99ae_isNaN_b9ae7 cJxe99ae_isNaN_b9ae7 2 (some .boolean) :: kW
theorem Jxe99ae_isNaN_b9ae7_c (l : Launch) (g : kG) (x : UInt64) : kR l yJxe99ae_isNaN_b9ae7 wJxe99ae_isNaN_b9ae7 0 0 g [.double x] [] (b2i (kNanD x)) := by
  refine kR_of (cc := cJxe99ae_isNaN_b9ae7) (nL := 2) (ret := (some .boolean)) (lv := [(0, .double x)]) (by decide) rfl (Nat.le_of_ble_eq_true rfl) rfl ?_
  intro p e s m args below meth c ls K hP hE hl
  have hS : va_S (fun _ => False) s.heap s.heap [] := va_S.rf
  have K : kC p c cJxe99ae_isNaN_b9ae7 s m args meth RJxe99ae g 2 (some .boolean) := K
  have hx := K.1.1
  have hb := K.1.2.1
  have hts := K.1.2.2.2.2
  refine lv_dload_n hx hb dJxe99ae_isNaN_b9ae7_0 rfl (lv_at hl 0 rfl) ?_
  refine lv_dload_n hx hb dJxe99ae_isNaN_b9ae7_1 rfl (lv_at hl 0 rfl) ?_
  refine lv_dcmp hx hb dJxe99ae_isNaN_b9ae7_2 ?_
  refine lv_if_eq (tgt := 10) hx hb dJxe99ae_isNaN_b9ae7_3 (by decide) (fun z => ?_) (fun z => ?_)
  · refine lv_iconst (v := 0) hx hb dJxe99ae_isNaN_b9ae7_10 (by decide) ?_
    have e : kNanD x = false := by unfold kNanD; rw [decide_eq_true z]; rfl
    exact kR_zret K rfl (by rw [e]; rfl) dJxe99ae_isNaN_b9ae7_11
  · refine lv_iconst (v := 1) hx hb dJxe99ae_isNaN_b9ae7_6 (by decide) ?_
    refine lv_goto (tgt := 11) hx hb dJxe99ae_isNaN_b9ae7_7 (by decide) ?_
    have e : kNanD x = true := by unfold kNanD; rw [decide_eq_false z]; rfl
    exact kR_zret K rfl (by rw [e]; rfl) dJxe99ae_isNaN_b9ae7_11
def kNanF (x : UInt32) : Bool := !decide (Op.cmpValue (FP.fcmp x x) .l = 0)
abbrev wJxf58ca_isNaN_12338 : List Cond := Cond.code yJxf58ca_isNaN_12338 cJxf58ca_isNaN_12338 1 (some .boolean) :: kW
theorem Jxf58ca_isNaN_12338_c (l : Launch) (g : kG) (x : UInt32) : kR l yJxf58ca_isNaN_12338 wJxf58ca_isNaN_12338 0 0 g [.float x] [] (b2i (kNanF x)) := by
  refine kR_ofF (cc := cJxf58ca_isNaN_12338) (nL := 1) (ret := (some .boolean)) (lv := [(0, .float x)]) (by decide +kernel) rfl (Nat.le_of_ble_eq_true rfl) rfl ?_
  intro p e s m args below meth c ls K hP hE hl
  have hS : va_S (fun _ => False) s.heap s.heap [] := va_S.rf
  have K : kC p c cJxf58ca_isNaN_12338 s m args meth RJxf58ca g 1 (some .boolean) := K
  have hx := K.1.1
  have hb := K.1.2.1
  have hts := K.1.2.2.2.2
  refine lv_fload_n hx hb dJxf58ca_isNaN_12338_0 rfl (lv_at hl 0 rfl) ?_
  refine lv_fload_n hx hb dJxf58ca_isNaN_12338_1 rfl (lv_at hl 0 rfl) ?_
  refine lv_fcmp hx hb dJxf58ca_isNaN_12338_2 ?_
  refine lv_if_eq (tgt := 10) hx hb dJxf58ca_isNaN_12338_3 (by decide) (fun z => ?_) (fun z => ?_)
  · refine lv_iconst (v := 0) hx hb dJxf58ca_isNaN_12338_10 (by decide) ?_
    have e : kNanF x = false := by unfold kNanF; rw [decide_eq_true z]; rfl
    exact kR_zret K rfl (by rw [e]; rfl) dJxf58ca_isNaN_12338_11
  · refine lv_iconst (v := 1) hx hb dJxf58ca_isNaN_12338_6 (by decide) ?_
    refine lv_goto (tgt := 11) hx hb dJxf58ca_isNaN_12338_7 (by decide) ?_
    have e : kNanF x = true := by unfold kNanF; rw [decide_eq_false z]; rfl
    exact kR_zret K rfl (by rw [e]; rfl) dJxf58ca_isNaN_12338_11
theorem pnJxf58ca_isNaN_12338 : yJxf58ca_isNaN_12338.cls ≠ "java/lang/invoke/MethodHandle" ∧ yJxf58ca_isNaN_12338.cls ≠ "java/lang/invoke/VarHandle" ∧ (parseMethodDescriptor yJxf58ca_isNaN_12338.desc).map (fun d => d.parameters.length) = some 1 := by decide +kernel
theorem cs_Jxf58ca_isNaN_12338 : kCst yJxf58ca_isNaN_12338 (Cond.code yJxf58ca_isNaN_12338 cJxf58ca_isNaN_12338 1 (some .boolean)) := ⟨k_w 7 90 rfl rfl, k_w 2 30 rfl rfl, k_w 7 91 rfl rfl⟩
def kBitF (x : UInt32) : Int32 := if kNanF x = true then 2143289344 else x.toInt32
abbrev wJxf58ca_floatToIntBits_5c35a : List Cond := Cond.code yJxf58ca_floatToIntBits_5c35a cJxf58ca_floatToIntBits_5c35a 1 (some .int) :: kW
theorem Jxf58ca_floatToIntBits_5c35a_c (l : Launch) (g : kG) (x : UInt32) : kR l yJxf58ca_floatToIntBits_5c35a wJxf58ca_floatToIntBits_5c35a 1 40 g [.float x] [] (kBitF x) := by
  refine kR_ofF (cc := cJxf58ca_floatToIntBits_5c35a) (nL := 1) (ret := (some .int)) (lv := [(0, .float x)]) (by decide +kernel) rfl (Nat.le_of_ble_eq_true rfl) rfl ?_
  intro p e s m args below meth c ls K hP hE hl
  have hS : va_S (fun _ => False) s.heap s.heap [] := va_S.rf
  have K : kC p c cJxf58ca_floatToIntBits_5c35a s m args meth RJxf58ca g 1 (some .int) := K
  have hx := K.1.1
  have hb := K.1.2.1
  have hts := K.1.2.2.2.2
  refine lv_fload_n hx hb dJxf58ca_floatToIntBits_5c35a_0 rfl (lv_at hl 0 rfl) ?_
  refine kR_S (As := [.float x]) (rest := []) K (Jxf58ca_isNaN_12338_c l g x) (va_cwS 1 hts (k_gS kw1357 cs_Jxf58ca_isNaN_12338) rfl rfl rfl pnJxf58ca_isNaN_12338 ⟨Nat.le_of_ble_eq_true rfl, Nat.le_of_ble_eq_true rfl⟩) hE hS (hP.pick [] rfl) rfl hl.1 rfl rfl dJxf58ca_floatToIntBits_5c35a_1 ⟨Nat.le_of_ble_eq_true rfl, Nat.le_of_ble_eq_true rfl⟩ ?_
  cases hz : kNanF x with
  | true =>
    refine lv_if_ne (tgt := 12) hx hb dJxf58ca_floatToIntBits_5c35a_4 (by decide) (fun _ => ?_) (fun z => absurd z (by decide))
    refine lv_ldc (v := 2143289344) hx hb K.1.2.2.2.1 (hts _ kw1363) dJxf58ca_floatToIntBits_5c35a_12 ?_
    exact kR_ret K (by unfold kBitF; rw [if_pos hz]) dJxf58ca_floatToIntBits_5c35a_14
  | false =>
    refine lv_if_ne (tgt := 12) hx hb dJxf58ca_floatToIntBits_5c35a_4 (by decide) (fun z => absurd rfl z) (fun _ => ?_)
    refine lv_fload_n hx hb dJxf58ca_floatToIntBits_5c35a_7 rfl (lv_at hl 0 rfl) ?_
    refine vn_f2i hx hb (by rw [K.1.2.2.1, hl.1]) K.1.2.2.2.1 (hts _ kw1360) (hts _ kw1362) (hts _ kw1361) (hts _ kw98) (Nat.le_of_ble_eq_true rfl) (Nat.le_of_ble_eq_true rfl) dJxf58ca_floatToIntBits_5c35a_8 ?_
    exact kR_ret K (by unfold kBitF; rw [if_neg (by rw [hz]; decide)]) dJxf58ca_floatToIntBits_5c35a_11
theorem pnJxe99ae_isNaN_b9ae7 : yJxe99ae_isNaN_b9ae7.cls ≠ "java/lang/invoke/MethodHandle" ∧ yJxe99ae_isNaN_b9ae7.cls ≠ "java/lang/invoke/VarHandle" ∧ (parseMethodDescriptor yJxe99ae_isNaN_b9ae7.desc).map (fun d => d.parameters.length) = some 1 := by decide +kernel
theorem cs_Jxe99ae_isNaN_b9ae7 : kCst yJxe99ae_isNaN_b9ae7 (Cond.code yJxe99ae_isNaN_b9ae7 cJxe99ae_isNaN_b9ae7 2 (some .boolean)) := ⟨k_w 7 70 rfl rfl, k_w 2 29 rfl rfl, k_w 7 71 rfl rfl⟩
def kBitD (x : UInt64) : Int64 := if kNanD x = true then 9221120237041090560 else x.toInt64
abbrev wJxe99ae_doubleToLongBits_ccdee : List Cond := Cond.code yJxe99ae_doubleToLongBits_ccdee cJxe99ae_doubleToLongBits_ccdee 2 (some .long) :: kW
theorem Jxe99ae_doubleToLongBits_ccdee_c (l : Launch) (g : kG) (x : UInt64) : kO l yJxe99ae_doubleToLongBits_ccdee wJxe99ae_doubleToLongBits_ccdee 1 41 g [.double x] [] (some (.long (kBitD x))) := by
  refine kO_of (cc := cJxe99ae_doubleToLongBits_ccdee) (nL := 2) (ret := (some .long)) (lv := [(0, .double x)]) (by decide) rfl (Nat.le_of_ble_eq_true rfl) rfl ?_
  intro p e s m args below meth c ls K hP hE hl
  have hS : va_S (fun _ => False) s.heap s.heap [] := va_S.rf
  have K : kC p c cJxe99ae_doubleToLongBits_ccdee s m args meth RJxe99ae g 2 (some .long) := K
  have hx := K.1.1
  have hb := K.1.2.1
  have hts := K.1.2.2.2.2
  refine lv_dload_n hx hb dJxe99ae_doubleToLongBits_ccdee_0 rfl (lv_at hl 0 rfl) ?_
  refine kR_S (As := [.double x]) (rest := []) K (Jxe99ae_isNaN_b9ae7_c l g x) (va_cwS 1 hts (k_gS kw1337 cs_Jxe99ae_isNaN_b9ae7) rfl rfl rfl pnJxe99ae_isNaN_b9ae7 ⟨Nat.le_of_ble_eq_true rfl, Nat.le_of_ble_eq_true rfl⟩) hE hS (hP.pick [] rfl) rfl hl.1 rfl rfl dJxe99ae_doubleToLongBits_ccdee_1 ⟨Nat.le_of_ble_eq_true rfl, Nat.le_of_ble_eq_true rfl⟩ ?_
  cases hz : kNanD x with
  | true =>
    refine lv_if_ne (tgt := 12) hx hb dJxe99ae_doubleToLongBits_ccdee_4 (by decide) (fun _ => ?_) (fun z => absurd z (by decide))
    refine lv_ldc2 (v := 9221120237041090560) hx hb K.1.2.2.2.1 (hts _ kw1343) dJxe99ae_doubleToLongBits_ccdee_12 ?_
    rw [show kBitD x = 9221120237041090560 from if_pos hz]
    exact kO_lret K dJxe99ae_doubleToLongBits_ccdee_15
  | false =>
    refine lv_if_ne (tgt := 12) hx hb dJxe99ae_doubleToLongBits_ccdee_4 (by decide) (fun z => absurd rfl z) (fun _ => ?_)
    refine lv_dload_n hx hb dJxe99ae_doubleToLongBits_ccdee_7 rfl (lv_at hl 0 rfl) ?_
    refine vn_d2l hx hb (by rw [K.1.2.2.1, hl.1]) K.1.2.2.2.1 (hts _ kw1340) (hts _ kw1342) (hts _ kw1341) (hts _ kw97) (Nat.le_of_ble_eq_true rfl) (Nat.le_of_ble_eq_true rfl) dJxe99ae_doubleToLongBits_ccdee_8 ?_
    rw [show kBitD x = x.toInt64 from if_neg (by rw [hz]; decide)]
    exact kO_lret K dJxe99ae_doubleToLongBits_ccdee_11
