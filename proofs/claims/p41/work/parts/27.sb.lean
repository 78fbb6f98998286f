theorem k_dec {p : Nat} (h : 0 < p) : nI p + Int32.ofInt (-1) = nI (p - 1) := by
  rw [show Int32.ofInt (-1) = (-1 : Int32) from by decide]
  exact sb_m1 h
theorem k_dig1 {v : Nat} (h : v < 10) : sb_dg v = 1 ∧ sb_dec v 0 = 48 + v % 10 := by
  have e : sb_dg v = 1 := if_pos h
  refine ⟨e, ?_⟩
  unfold sb_dec
  rw [e]
  simp
theorem k_dig2 {v : Nat} (h : 10 ≤ v) (h2 : v < 100) : sb_dg v = 2 ∧ sb_dec v 0 = 48 + v / 10 ∧ sb_dec v 1 = 48 + v % 10 := by
  have e : sb_dg v = 2 := by unfold sb_dg; (repeat' split) <;> omega
  refine ⟨e, ?_, ?_⟩
  · unfold sb_dec
    rw [e]
    show 48 + v / 10 ^ 1 % 10 = _
    omega
  · unfold sb_dec
    rw [e]
    show 48 + v / 10 ^ 0 % 10 = _
    omega
theorem k_dig3 {v : Nat} (h : 100 ≤ v) (h2 : v < 1000) : sb_dg v = 3 ∧ sb_dec v 0 = 48 + v / 100 % 10 ∧ sb_dec v 1 = 48 + v % 100 / 10 ∧ sb_dec v 2 = 48 + v % 100 % 10 := by
  have e : sb_dg v = 3 := by unfold sb_dg; (repeat' split) <;> omega
  refine ⟨e, ?_, ?_, ?_⟩
  · unfold sb_dec
    rw [e]
  · unfold sb_dec
    rw [e]
    show 48 + v / 10 ^ 1 % 10 = _
    omega
  · unfold sb_dec
    rw [e]
    show 48 + v / 10 ^ 0 % 10 = _
    omega
theorem kw1 : Cond.selects "java/lang/StringBuilder" yJ5_ensureCapacityInternal_d00df yJ5_ensureCapacityInternal_d00df ∈ kW := k_w 0 1 rfl rfl
theorem kw2 : Cond.selects "java/lang/StringBuilder" yJ5_newCapacity_0f7a4 yJ5_newCapacity_0f7a4 ∈ kW := k_w 0 2 rfl rfl
theorem kw74 : Cond.initialized "java/lang/AbstractStringBuilder" ∈ kW := k_w 2 6 rfl rfl
theorem kw277 : Cond.fieldLink RJ5 18 "java/lang/String" "COMPACT_STRINGS" "Z" ∈ kW := k_w 2 209 rfl rfl
theorem kw286 : Cond.fieldLink RJ5 15 "java/lang/AbstractStringBuilder" "value" "[B" ∈ kW := k_w 2 218 rfl rfl
theorem kw287 : Cond.fieldLink RJ5 22 "java/lang/AbstractStringBuilder" "coder" "B" ∈ kW := k_w 2 219 rfl rfl
theorem kw288 : Cond.fieldLink RJ5 73 "java/lang/AbstractStringBuilder" "maybeLatin1" "Z" ∈ kW := k_w 2 220 rfl rfl
theorem kw290 : Cond.fieldLink RJ5 79 "java/lang/AbstractStringBuilder" "count" "I" ∈ kW := k_w 2 222 rfl rfl
theorem kw299 : Cond.superclass "java/lang/StringBuilder" "java/lang/AbstractStringBuilder" ∈ kW := k_w 2 231 rfl rfl
theorem kw300 : Cond.arrayClass .byte ∈ kW := k_w 2 232 rfl rfl
theorem kw1040 : Cond.methodLink RJ4 333 yJ5_setLength_d00df ∈ kW := k_w 6 12 rfl rfl
theorem kw1041 : Cond.instanceMethod yJ5_setLength_d00df ∈ kW := k_w 6 13 rfl rfl
theorem kw1042 : Cond.code yJ5_setLength_d00df cJ5_setLength_d00df 2 none ∈ kW := k_w 6 14 rfl rfl
theorem kw1062 : Cond.methodLink RJ5 100 yJ5_ensureCapacityInternal_d00df ∈ kW := k_w 6 34 rfl rfl
theorem kw1064 : Cond.instanceMethod yJ5_ensureCapacityInternal_d00df ∈ kW := k_w 6 36 rfl rfl
theorem kw1065 : Cond.code yJ5_ensureCapacityInternal_d00df cJ5_ensureCapacityInternal_d00df 3 none ∈ kW := k_w 6 37 rfl rfl
theorem kw1066 : Cond.methodLink RJ5 104 yJ5_newCapacity_0f7a4 ∈ kW := k_w 6 38 rfl rfl
theorem kw1068 : Cond.instanceMethod yJ5_newCapacity_0f7a4 ∈ kW := k_w 6 40 rfl rfl
theorem kw1069 : Cond.code yJ5_newCapacity_0f7a4 cJ5_newCapacity_0f7a4 6 (some .int) ∈ kW := k_w 6 41 rfl rfl
theorem kw1070 : Cond.methodLink RJ5 114 yJ8_newLength_cabcc ∈ kW := k_w 6 42 rfl rfl
theorem kw1073 : Cond.methodLink RJ8 194 Lib.Math.max.name ∈ kW := k_w 6 45 rfl rfl
theorem kw1074 : Cond.static Lib.Math.max.name ∈ kW := k_w 6 46 rfl rfl
theorem kw1075 : Cond.code Lib.Math.max.name Lib.Math.max.code 2 (some .int) ∈ kW := k_w 6 47 rfl rfl
theorem kw1076 : Cond.constant RJ8 200 (2147483639) ∈ kW := k_w 6 48 rfl rfl
theorem kw1080 : Cond.constant RJ5 39 (2147483647) ∈ kW := k_w 6 52 rfl rfl
theorem kw1081 : Cond.methodLink RJ5 108 yJ7_copyOf_9075b ∈ kW := k_w 6 53 rfl rfl
theorem kw1091 : Cond.methodLink RJ7 304 Lib.Math.min.name ∈ kW := k_w 6 63 rfl rfl
theorem kw1092 : Cond.methodLink RJ7 150 arraycopyName ∈ kW := k_w 6 64 rfl rfl
theorem kw1093 : Cond.methodLink RJ5 83 yJ5_isLatin1_aae02 ∈ kW := k_w 6 65 rfl rfl
theorem kw1094 : Cond.instanceMethod yJ5_isLatin1_aae02 ∈ kW := k_w 6 66 rfl rfl
theorem kw1096 : Cond.selects "java/lang/StringBuilder" yJ5_isLatin1_aae02 yJ5_isLatin1_aae02 ∈ kW := k_w 6 68 rfl rfl
theorem kw1097 : Cond.code yJ5_isLatin1_aae02 cJ5_isLatin1_aae02 1 (some .boolean) ∈ kW := k_w 6 69 rfl rfl
theorem kw1152 : Cond.methodLink RJ4 53 yJ5_append_c97b9 ∈ kW := k_w 6 124 rfl rfl
theorem kw1153 : Cond.instanceMethod yJ5_append_c97b9 ∈ kW := k_w 6 125 rfl rfl
theorem kw1154 : Cond.code yJ5_append_c97b9 cJ5_append_c97b9 4 (some (.object "java/lang/AbstractStringBuilder")) ∈ kW := k_w 6 126 rfl rfl
theorem kw1155 : Cond.methodLink RJ5 245 yJ6_stringSize_0f7a4 ∈ kW := k_w 6 127 rfl rfl
theorem kw1158 : Cond.methodLink RJ5 248 yJ6_getChars_ba4f3 ∈ kW := k_w 6 130 rfl rfl
theorem kw1161 : Cond.fieldLink RJ6 83 "java/lang/Integer" "DigitOnes" "[B" ∈ kW := k_w 6 133 rfl rfl
theorem kw1163 : Cond.fieldLink RJ6 87 "java/lang/Integer" "DigitTens" "[B" ∈ kW := k_w 6 135 rfl rfl
theorem kw1191 : Cond.instanceMethod yJ5_length_8abf5 ∈ kW := k_w 6 163 rfl rfl
theorem kw1192 : Cond.sameMethod "java/lang/AbstractStringBuilder" "java/lang/AbstractStringBuilder" "length" "()I" ∈ kW := k_w 6 164 rfl rfl
theorem kw1196 : Cond.methodLink RJ4 343 yJ5_length_8abf5 ∈ kW := k_w 6 168 rfl rfl
theorem kw1197 : Cond.code yJ5_length_8abf5 cJ5_length_8abf5 1 (some .int) ∈ kW := k_w 6 169 rfl rfl
theorem kw1272 : Cond.methodLink RJ4 50 yJ5_append_3fe6f ∈ kW := k_w 7 4 rfl rfl
theorem kw1273 : Cond.instanceMethod yJ5_append_3fe6f ∈ kW := k_w 7 5 rfl rfl
theorem kw1274 : Cond.code yJ5_append_3fe6f cJ5_append_3fe6f 2 (some (.object "java/lang/AbstractStringBuilder")) ∈ kW := k_w 7 6 rfl rfl
theorem kw1275 : Cond.methodLink RJ5 191 yJ1_canEncode_fc78d ∈ kW := k_w 7 7 rfl rfl
theorem kw1295 : Cond.methodLink RJ4 329 yJ5_charAt_5068e ∈ kW := k_w 7 27 rfl rfl
theorem kw1296 : Cond.instanceMethod yJ5_charAt_5068e ∈ kW := k_w 7 28 rfl rfl
theorem kw1297 : Cond.code yJ5_charAt_5068e cJ5_charAt_5068e 5 (some .char) ∈ kW := k_w 7 29 rfl rfl
theorem kw1298 : Cond.methodLink RJ5 138 Lib.Math.min.name ∈ kW := k_w 7 30 rfl rfl
theorem kw1299 : Cond.methodLink RJ5 144 yJ0_checkIndex_df160 ∈ kW := k_w 7 31 rfl rfl
theorem kw1472 : Cond.sameMethod "java/lang/AbstractStringBuilder" "java/lang/AbstractStringBuilder" "setLength" "(I)V" ∈ kW := k_w 7 204 rfl rfl
theorem kw1480 : Cond.sameMethod "java/lang/AbstractStringBuilder" "java/lang/AbstractStringBuilder" "append" "(I)Ljava/lang/AbstractStringBuilder;" ∈ kW := k_w 7 212 rfl rfl
theorem kw1482 : Cond.sameMethod "java/lang/AbstractStringBuilder" "java/lang/AbstractStringBuilder" "append" "(C)Ljava/lang/AbstractStringBuilder;" ∈ kW := k_w 7 214 rfl rfl
theorem kw1483 : Cond.sameMethod "java/lang/AbstractStringBuilder" "java/lang/AbstractStringBuilder" "charAt" "(I)C" ∈ kW := k_w 7 215 rfl rfl
theorem pnJ1_canEncode_fc78d : yJ1_canEncode_fc78d.cls ≠ "java/lang/invoke/MethodHandle" ∧ yJ1_canEncode_fc78d.cls ≠ "java/lang/invoke/VarHandle" ∧ (parseMethodDescriptor yJ1_canEncode_fc78d.desc).map (fun d => d.parameters.length) = some 1 := by decide +kernel
theorem cs_J1_canEncode_fc78d : kCst yJ1_canEncode_fc78d (Cond.code yJ1_canEncode_fc78d cJ1_canEncode_fc78d 1 (some .boolean)) := ⟨k_w 7 8 rfl rfl, k_w 2 18 rfl rfl, k_w 7 9 rfl rfl⟩
abbrev wJ1_canEncode_fc78d : List Cond := Cond.code yJ1_canEncode_fc78d cJ1_canEncode_fc78d 1 (some .boolean) :: kW
theorem J1_canEncode_fc78d_c (l : Launch) (g : kG) (c0 : Nat) (hc : c0 < 256) : kR l yJ1_canEncode_fc78d wJ1_canEncode_fc78d 0 0 g [.int (nI c0)] [] 1 := by
  refine kR_of (cc := cJ1_canEncode_fc78d) (nL := 1) (ret := (some .boolean)) (lv := [(0, .int (nI c0))]) (by decide) rfl (Nat.le_of_ble_eq_true rfl) rfl ?_
  intro p e s m args below meth c ls C hP hE hl
  have hS : va_S (fun _ => False) s.heap s.heap [] := va_S.rf
  have C : kC p c cJ1_canEncode_fc78d s m args meth RJ1 g 1 (some .boolean) := C
  have hx := C.1.1
  have hb := C.1.2.1
  have hts := C.1.2.2.2.2
  refine lv_iload_n hx hb dJ1_canEncode_fc78d_0 rfl (lv_at hl 0 rfl) ?_
  refine lv_sipush (v := 255) hx hb dJ1_canEncode_fc78d_1 (by decide) ?_
  refine lv_icmp_gt (tgt := 11) hx hb dJ1_canEncode_fc78d_4 (by decide) (fun z => absurd z (nI_nlt (a := 255) (by omega) (by omega))) (fun z => ?_)
  refine lv_iconst (v := 1) hx hb dJ1_canEncode_fc78d_7 (by decide) ?_
  refine lv_goto (tgt := 12) hx hb dJ1_canEncode_fc78d_8 (by decide) ?_
  exact kR_zret C rfl rfl dJ1_canEncode_fc78d_12
theorem pnJ5_length_8abf5 : yJ5_length_8abf5.cls ≠ "java/lang/invoke/MethodHandle" ∧ yJ5_length_8abf5.cls ≠ "java/lang/invoke/VarHandle" ∧ (parseMethodDescriptor yJ5_length_8abf5.desc).map (fun d => d.parameters.length) = some 0 := by decide +kernel
abbrev wJ5_length_8abf5 : List Cond := Cond.code yJ5_length_8abf5 cJ5_length_8abf5 1 (some .int) :: kW
theorem J5_length_8abf5_c (l : Launch) (g : kG) (o q : Nat) (ml cnt : Int32) : kR l yJ5_length_8abf5 wJ5_length_8abf5 0 0 g [.ref o] [JOW o q ml cnt] cnt := by
  refine kR_of (cc := cJ5_length_8abf5) (nL := 1) (ret := (some .int)) (lv := [(0, .ref o)]) (by decide) rfl (Nat.le_of_ble_eq_true rfl) rfl ?_
  intro p e s m args below meth c ls C hP hE hl
  have hS : va_S (fun _ => False) s.heap s.heap [] := va_S.rf
  have C : kC p c cJ5_length_8abf5 s m args meth RJ5 g 1 (some .int) := C
  have hx := C.1.1
  have hb := C.1.2.1
  have hts := C.1.2.2.2.2
  refine lv_aload_n hx hb dJ5_length_8abf5_0 rfl (lv_at hl 0 rfl) ?_
  refine kg_get C kFJ4 (k := 3) kw290 hP (i := 0) (q := 0) rfl rfl (by decide) rfl dJ5_length_8abf5_1 ?_
  exact kR_ret C rfl dJ5_length_8abf5_4
theorem pnJ5_isLatin1_aae02 : yJ5_isLatin1_aae02.cls ≠ "java/lang/invoke/MethodHandle" ∧ yJ5_isLatin1_aae02.cls ≠ "java/lang/invoke/VarHandle" ∧ (parseMethodDescriptor yJ5_isLatin1_aae02.desc).map (fun d => d.parameters.length) = some 0 := by decide +kernel
abbrev wJ5_isLatin1_aae02 : List Cond := Cond.code yJ5_isLatin1_aae02 cJ5_isLatin1_aae02 1 (some .boolean) :: kW
theorem J5_isLatin1_aae02_c (l : Launch) (g : kG) (o q : Nat) (ml cnt : Int32) : kR l yJ5_isLatin1_aae02 wJ5_isLatin1_aae02 0 0 g [.ref o] [JOW o q ml cnt] 1 := by
  refine kR_of (cc := cJ5_isLatin1_aae02) (nL := 1) (ret := (some .boolean)) (lv := [(0, .ref o)]) (by decide) rfl (Nat.le_of_ble_eq_true rfl) rfl ?_
  intro p e s m args below meth c ls C hP hE hl
  have hS : va_S (fun _ => False) s.heap s.heap [] := va_S.rf
  have C : kC p c cJ5_isLatin1_aae02 s m args meth RJ5 g 1 (some .boolean) := C
  have hx := C.1.1
  have hb := C.1.2.1
  have hts := C.1.2.2.2.2
  refine kg_compact C rfl hE hS kw277 dJ5_isLatin1_aae02_0 ?_
  refine lv_if_eq (tgt := 17) hx hb dJ5_isLatin1_aae02_3 (by decide) (fun z => absurd z (by decide)) (fun z => ?_)
  refine lv_aload_n hx hb dJ5_isLatin1_aae02_6 rfl (lv_at hl 0 rfl) ?_
  refine kg_get C kFJ4 (k := 1) kw287 hP (i := 0) (q := 0) rfl rfl (by decide) rfl dJ5_isLatin1_aae02_7 ?_
  refine lv_if_ne (tgt := 17) hx hb dJ5_isLatin1_aae02_10 (by decide) (fun z => absurd rfl z) (fun z => ?_)
  refine lv_iconst (v := 1) hx hb dJ5_isLatin1_aae02_13 (by decide) ?_
  refine lv_goto (tgt := 18) hx hb dJ5_isLatin1_aae02_14 (by decide) ?_
  exact kR_zret C rfl rfl dJ5_isLatin1_aae02_18
theorem pnJ8_newLength_cabcc : yJ8_newLength_cabcc.cls ≠ "java/lang/invoke/MethodHandle" ∧ yJ8_newLength_cabcc.cls ≠ "java/lang/invoke/VarHandle" ∧ (parseMethodDescriptor yJ8_newLength_cabcc.desc).map (fun d => d.parameters.length) = some 3 := by decide +kernel
theorem cs_J8_newLength_cabcc : kCst yJ8_newLength_cabcc (Cond.code yJ8_newLength_cabcc cJ8_newLength_cabcc 4 (some .int)) := ⟨k_w 6 43 rfl rfl, k_w 2 24 rfl rfl, k_w 6 44 rfl rfl⟩
abbrev wJ8_newLength_cabcc : List Cond := Cond.code yJ8_newLength_cabcc cJ8_newLength_cabcc 4 (some .int) :: kW
theorem J8_newLength_cabcc_c (l : Launch) (g : kG) (e0 : Nat) (he : e0 ≤ 18) : kR l yJ8_newLength_cabcc wJ8_newLength_cabcc 1 40 g [.int 16, .int (nI e0), .int 18] [] 34 := by
  refine kR_of (cc := cJ8_newLength_cabcc) (nL := 4) (ret := (some .int)) (lv := [(0, .int 16), (1, .int (nI e0)), (2, .int 18)]) (by decide) rfl (Nat.le_of_ble_eq_true rfl) rfl ?_
  intro p e s m args below meth c ls C hP hE hl
  have hS : va_S (fun _ => False) s.heap s.heap [] := va_S.rf
  have C : kC p c cJ8_newLength_cabcc s m args meth RJ8 g 4 (some .int) := C
  have hx := C.1.1
  have hb := C.1.2.1
  have hts := C.1.2.2.2.2
  refine lv_iload_n hx hb dJ8_newLength_cabcc_0 rfl (lv_at hl 0 rfl) ?_
  refine lv_iload_n hx hb dJ8_newLength_cabcc_1 rfl (lv_at hl 1 rfl) ?_
  refine lv_iload_n hx hb dJ8_newLength_cabcc_2 rfl (lv_at hl 2 rfl) ?_
  refine va_mmax hx hb (by rw [C.1.2.2.1, hl.1]) C.1.2.2.2.1 (hts _ kw1073) (hts _ kw1074) (hts _ kw84) (hts _ kw1075) (Nat.le_of_ble_eq_true rfl) (Nat.le_of_ble_eq_true rfl) (Nat.le_of_ble_eq_true rfl) (Nat.le_of_ble_eq_true rfl) dJ8_newLength_cabcc_3 ?_
  have e1 : (if (nI e0) < 18 then 18 else (nI e0)) = 18 := by
    rcases Nat.lt_or_ge e0 18 with h | h
    · exact if_pos ((nI_ltI (b := 18) (by omega) (by omega)).mpr h)
    · obtain rfl : e0 = 18 := by omega
      decide
  rw [e1]
  refine lv_iadd hx hb dJ8_newLength_cabcc_6 ?_
  refine lv_istore_n (lv' := [(3, .int 34), (0, .int 16), (1, .int (nI e0)), (2, .int 18)]) hx hb dJ8_newLength_cabcc_7 rfl hl (by decide) rfl (fun ls hl => ?_)
  refine lv_iconst (v := 0) hx hb dJ8_newLength_cabcc_8 (by decide) ?_
  refine lv_iload_n hx hb dJ8_newLength_cabcc_9 rfl (lv_at hl 0 rfl) ?_
  refine lv_icmp_ge (tgt := 21) hx hb dJ8_newLength_cabcc_10 (by decide) (fun z => absurd z (by decide)) (fun z => ?_)
  refine lv_iload_n hx hb dJ8_newLength_cabcc_13 rfl (lv_at hl 0 rfl) ?_
  refine lv_ldc (v := 2147483639) hx hb C.1.2.2.2.1 (hts _ kw1076) dJ8_newLength_cabcc_14 ?_
  refine lv_icmp_gt (tgt := 21) hx hb dJ8_newLength_cabcc_16 (by decide) (fun z => absurd z (by decide)) (fun z => ?_)
  refine lv_iload_n hx hb dJ8_newLength_cabcc_19 rfl (lv_at hl 0 rfl) ?_
  exact kR_ret C rfl dJ8_newLength_cabcc_20
theorem pnJ5_newCapacity_0f7a4 : yJ5_newCapacity_0f7a4.cls ≠ "java/lang/invoke/MethodHandle" ∧ yJ5_newCapacity_0f7a4.cls ≠ "java/lang/invoke/VarHandle" ∧ (parseMethodDescriptor yJ5_newCapacity_0f7a4.desc).map (fun d => d.parameters.length) = some 1 := by decide +kernel
abbrev wJ5_newCapacity_0f7a4 : List Cond := Cond.code yJ5_newCapacity_0f7a4 cJ5_newCapacity_0f7a4 6 (some .int) :: kW
theorem J5_newCapacity_0f7a4_c (l : Launch) (g : kG) (o q : Nat) (ml cnt : Int32) (f : Nat → Int32) (x : Nat) (h1 : 16 < x) (h2 : x ≤ 34) : kR l yJ5_newCapacity_0f7a4 wJ5_newCapacity_0f7a4 2 100 g [.ref o, .int (nI x)] [JOW o q ml cnt, JAW g q 16 f] 34 := by
  refine kR_of (cc := cJ5_newCapacity_0f7a4) (nL := 6) (ret := (some .int)) (lv := [(0, .ref o), (1, .int (nI x))]) (by decide) rfl (Nat.le_of_ble_eq_true rfl) rfl ?_
  intro p e s m args below meth c ls C hP hE hl
  have hS : va_S (fun _ => False) s.heap s.heap [] := va_S.rf
  have C : kC p c cJ5_newCapacity_0f7a4 s m args meth RJ5 g 6 (some .int) := C
  have hx := C.1.1
  have hb := C.1.2.1
  have hts := C.1.2.2.2.2
  refine lv_aload_n hx hb dJ5_newCapacity_0f7a4_0 rfl (lv_at hl 0 rfl) ?_
  refine kg_get C kFJ4 (k := 0) kw286 hP (i := 0) (q := 0) rfl rfl (by decide) rfl dJ5_newCapacity_0f7a4_1 ?_
  refine kg_blen C hP (i := 1) (q := 0) rfl rfl dJ5_newCapacity_0f7a4_4 ?_
  refine lv_istore_n (lv' := [(2, .int 16), (0, .ref o), (1, .int (nI x))]) hx hb dJ5_newCapacity_0f7a4_5 rfl hl (by decide) rfl (fun ls hl => ?_)
  refine lv_iload_n hx hb dJ5_newCapacity_0f7a4_6 rfl (lv_at hl 2 rfl) ?_
  refine lv_aload_n hx hb dJ5_newCapacity_0f7a4_7 rfl (lv_at hl 1 rfl) ?_
  refine kg_get C kFJ4 (k := 1) kw287 hP (i := 0) (q := 0) rfl rfl (by decide) rfl dJ5_newCapacity_0f7a4_8 ?_
  refine lv_ishl hx hb dJ5_newCapacity_0f7a4_11 ?_
  rw [sb_shl0]
  refine lv_istore_n (lv' := [(3, .int (nI x)), (2, .int 16), (0, .ref o), (1, .int (nI x))]) hx hb dJ5_newCapacity_0f7a4_12 rfl hl (by decide) rfl (fun ls hl => ?_)
  refine lv_iload_n hx hb dJ5_newCapacity_0f7a4_13 rfl (lv_at hl 0 rfl) ?_
  refine lv_iload_n hx hb dJ5_newCapacity_0f7a4_14 rfl (lv_at hl 1 rfl) ?_
  refine lv_isub hx hb dJ5_newCapacity_0f7a4_15 ?_
  refine k_top (y := nI (x - 16)) (pk_sub (a := x) (b := 16) (by omega)) ?_
  refine lv_istore (lv' := [(4, .int (nI (x - 16))), (3, .int (nI x)), (2, .int 16), (0, .ref o), (1, .int (nI x))]) hx hb dJ5_newCapacity_0f7a4_16 hl (by decide) rfl (fun ls hl => ?_)
  refine lv_iload_n hx hb dJ5_newCapacity_0f7a4_18 rfl (lv_at hl 2 rfl) ?_
  refine lv_iload hx hb dJ5_newCapacity_0f7a4_19 (lv_at hl 0 rfl) ?_
  refine lv_iload_n hx hb dJ5_newCapacity_0f7a4_21 rfl (lv_at hl 2 rfl) ?_
  refine lv_iconst (v := 2) hx hb dJ5_newCapacity_0f7a4_22 (by decide) ?_
  refine lv_aload_n hx hb dJ5_newCapacity_0f7a4_23 rfl (lv_at hl 3 rfl) ?_
  refine kg_get C kFJ4 (k := 1) kw287 hP (i := 0) (q := 0) rfl rfl (by decide) rfl dJ5_newCapacity_0f7a4_24 ?_
  refine lv_ishl hx hb dJ5_newCapacity_0f7a4_27 ?_
  refine lv_iadd hx hb dJ5_newCapacity_0f7a4_28 ?_
  refine k_top (y := 18) (by decide) ?_
  refine kR_S (As := [.int 16, .int (nI (x - 16)), .int 18]) (rest := []) C (J8_newLength_cabcc_c l g (x - 16) (by omega)) (va_cwS 3 hts (k_gS kw1070 cs_J8_newLength_cabcc) rfl rfl rfl pnJ8_newLength_cabcc ⟨Nat.le_of_ble_eq_true rfl, Nat.le_of_ble_eq_true rfl⟩) hE hS (hP.pick [] rfl) rfl hl.1 rfl rfl dJ5_newCapacity_0f7a4_29 ⟨Nat.le_of_ble_eq_true rfl, Nat.le_of_ble_eq_true rfl⟩ ?_
  refine lv_istore (lv' := [(5, .int 34), (4, .int (nI (x - 16))), (3, .int (nI x)), (2, .int 16), (0, .ref o), (1, .int (nI x))]) hx hb dJ5_newCapacity_0f7a4_32 hl (by decide) rfl (fun ls hl => ?_)
  refine lv_iload hx hb dJ5_newCapacity_0f7a4_34 (lv_at hl 0 rfl) ?_
  refine lv_ldc (v := 2147483647) hx hb C.1.2.2.2.1 (hts _ kw1080) dJ5_newCapacity_0f7a4_36 ?_
  refine lv_icmp_ne (tgt := 51) hx hb dJ5_newCapacity_0f7a4_38 (by decide) (fun z => ?_) (fun z => absurd z (by decide))
  refine lv_iload hx hb dJ5_newCapacity_0f7a4_51 (lv_at hl 0 rfl) ?_
  refine lv_aload_n hx hb dJ5_newCapacity_0f7a4_53 rfl (lv_at hl 4 rfl) ?_
  refine kg_get C kFJ4 (k := 1) kw287 hP (i := 0) (q := 0) rfl rfl (by decide) rfl dJ5_newCapacity_0f7a4_54 ?_
  refine lv_ishr hx hb dJ5_newCapacity_0f7a4_57 ?_
  exact kR_ret C (by decide) dJ5_newCapacity_0f7a4_58
theorem pnJ7_copyOf_9075b : yJ7_copyOf_9075b.cls ≠ "java/lang/invoke/MethodHandle" ∧ yJ7_copyOf_9075b.cls ≠ "java/lang/invoke/VarHandle" ∧ (parseMethodDescriptor yJ7_copyOf_9075b.desc).map (fun d => d.parameters.length) = some 2 := by decide +kernel
theorem cs_J7_copyOf_9075b : kCst yJ7_copyOf_9075b (Cond.code yJ7_copyOf_9075b cJ7_copyOf_9075b 3 (some (.array .byte))) := ⟨k_w 6 54 rfl rfl, k_w 2 25 rfl rfl, k_w 6 55 rfl rfl⟩
abbrev wJ7_copyOf_9075b : List Cond := Cond.code yJ7_copyOf_9075b cJ7_copyOf_9075b 3 (some (.array .byte)) :: kW
theorem J7_copyOf_9075b_c (l : Launch) (g : kG) (q : Nat) (f : Nat → Int32) (hf : sb_Fit f) : kA l yJ7_copyOf_9075b wJ7_copyOf_9075b 1 60 1 34 g [.ref q, .int 34] [JAW g q 16 f] (fun b u => ∃ f' : Nat → Int32, u = [JAW g q 16 f, JAW g b 34 f'] ∧ sb_Fit f' ∧ ∀ j, j < 16 → f' j = f j) := by
  refine kA_of (cc := cJ7_copyOf_9075b) (nL := 3) (ret := (some (.array .byte))) (lv := [(0, .ref q), (1, .int 34)]) (by decide) rfl (Nat.le_of_ble_eq_true rfl) rfl ?_
  intro p e s m args below meth c ls A C hP hD hE hA hS hl
  have C : kC p c cJ7_copyOf_9075b s m args meth RJ7 g 3 (some (.array .byte)) := C
  have hx := C.1.1
  have hb := C.1.2.1
  have hts := C.1.2.2.2.2
  refine lv_iload_n hx hb dJ7_copyOf_9075b_0 rfl (lv_at hl 1 rfl) ?_
  refine lv_aload_n hx hb dJ7_copyOf_9075b_1 rfl (lv_at hl 0 rfl) ?_
  refine kg_blen C hP (i := 0) (q := 0) rfl rfl dJ7_copyOf_9075b_2 ?_
  refine lv_icmp_ne (tgt := 14) hx hb dJ7_copyOf_9075b_3 (by decide) (fun z => ?_) (fun z => absurd z (by decide))
  refine lv_iload_n hx hb dJ7_copyOf_9075b_14 rfl (lv_at hl 1 rfl) ?_
  refine kg_newA C (at' := .byte) (ty := .byte) (t := 0) (a0 := (34, .inl (fun _ => 0))) kw300 rfl (by intro C; exact FieldType.noConfusion) rfl hP hD hS hA (fun _ => rfl) (by decide) (by decide) (by decide) (Nat.le_of_ble_eq_true rfl) (Nat.le_of_ble_eq_true rfl) dJ7_copyOf_9075b_15 (fun b H hP hD hS => ?_)
  have hP : kp g [JAW g q 16 f, JAW g b 34 (fun _ => 0)] H := hP
  have hD : kd A [JAW g q 16 f, JAW g b 34 (fun _ => 0)] := hD
  refine lv_astore_n (lv' := [(2, .ref b), (0, .ref q), (1, .int 34)]) hx hb dJ7_copyOf_9075b_17 rfl hl (by decide) rfl (fun ls hl => ?_)
  refine lv_aload_n hx hb dJ7_copyOf_9075b_18 rfl (lv_at hl 1 rfl) ?_
  refine lv_iconst (v := 0) hx hb dJ7_copyOf_9075b_19 (by decide) ?_
  refine lv_aload_n hx hb dJ7_copyOf_9075b_20 rfl (lv_at hl 0 rfl) ?_
  refine lv_iconst (v := 0) hx hb dJ7_copyOf_9075b_21 (by decide) ?_
  refine lv_aload_n hx hb dJ7_copyOf_9075b_22 rfl (lv_at hl 1 rfl) ?_
  refine kg_blen C hP (i := 0) (q := 0) rfl rfl dJ7_copyOf_9075b_23 ?_
  refine lv_iload_n hx hb dJ7_copyOf_9075b_24 rfl (lv_at hl 2 rfl) ?_
  refine va_mmin hx hb (by rw [C.1.2.2.1, hl.1]) C.1.2.2.2.1 (hts _ kw1091) (hts _ kw551) (hts _ kw84) (hts _ kw552) (Nat.le_of_ble_eq_true rfl) (Nat.le_of_ble_eq_true rfl) (Nat.le_of_ble_eq_true rfl) (Nat.le_of_ble_eq_true rfl) dJ7_copyOf_9075b_25 ?_
  refine k_top (y := nI 16) (by decide) ?_
  refine kg_copyb C hl.1 kw1092 kw340 kw339 kw82 hP hD hS (i0 := 0) (q0 := 0) (i1 := 1) (q1 := 0) (k := 16) rfl rfl rfl rfl hf (by decide) (by decide) (by decide) (ch' := JAW g b 34 (va_cpy f (fun _ => 0) 0 0 16)) rfl rfl (Nat.le_of_ble_eq_true rfl) (Nat.le_of_ble_eq_true rfl) dJ7_copyOf_9075b_28 (fun H locs hP hD hS => ?_)
  refine lv_aload_n hx hb dJ7_copyOf_9075b_31 rfl (lv_at hl 0 rfl) ?_
  exact kA_ret C (Or.inr ⟨_, rfl⟩) hP hD hS ⟨_, rfl, sb_fitC hf sb_fit0, fun j hj => sb_cpy0 hj⟩ ⟨Nat.le_refl _, Nat.le_refl _⟩ dJ7_copyOf_9075b_32
theorem pnJ5_ensureCapacityInternal_d00df : yJ5_ensureCapacityInternal_d00df.cls ≠ "java/lang/invoke/MethodHandle" ∧ yJ5_ensureCapacityInternal_d00df.cls ≠ "java/lang/invoke/VarHandle" ∧ (parseMethodDescriptor yJ5_ensureCapacityInternal_d00df.desc).map (fun d => d.parameters.length) = some 1 := by decide +kernel
abbrev wJ5_ensureCapacityInternal_d00df : List Cond := Cond.code yJ5_ensureCapacityInternal_d00df cJ5_ensureCapacityInternal_d00df 3 none :: kW
theorem J5_ensureCapacityInternal_d00df_c (l : Launch) (g : kG) (o q n : Nat) (ml cnt : Int32) (f : Nat → Int32) (x : Nat) (hn : n = 16 ∨ n = 34) (hx34 : x ≤ 34) (hf : sb_Fit f) : kV l yJ5_ensureCapacityInternal_d00df wJ5_ensureCapacityInternal_d00df 3 200 1 34 g [.ref o, .int (nI x)] [JOW o q ml cnt, JAW g q n f] (fun u => ∃ (q' n' : Nat) (f' : Nat → Int32), u = [JOW o q' ml cnt, JAW g q' n' f'] ∧ (n' = 16 ∨ n' = 34) ∧ x ≤ n' ∧ n ≤ n' ∧ sb_Fit f' ∧ ∀ j, j < n → f' j = f j) := by
  refine kV_of (cc := cJ5_ensureCapacityInternal_d00df) (nL := 3) (ret := none) (lv := [(0, .ref o), (1, .int (nI x))]) (by decide) rfl (Nat.le_of_ble_eq_true rfl) rfl ?_
  intro p e s m args below meth c ls A hnm C hP hD hE hA hS hl
  have C : kC p c cJ5_ensureCapacityInternal_d00df s m args meth RJ5 g 3 none := C
  have hx := C.1.1
  have hb := C.1.2.1
  have hts := C.1.2.2.2.2
  refine lv_aload_n hx hb dJ5_ensureCapacityInternal_d00df_0 rfl (lv_at hl 0 rfl) ?_
  refine kg_get C kFJ4 (k := 0) kw286 hP (i := 0) (q := 0) rfl rfl (by decide) rfl dJ5_ensureCapacityInternal_d00df_1 ?_
  refine kg_blen C hP (i := 1) (q := 0) rfl rfl dJ5_ensureCapacityInternal_d00df_4 ?_
  refine lv_aload_n hx hb dJ5_ensureCapacityInternal_d00df_5 rfl (lv_at hl 0 rfl) ?_
  refine kg_get C kFJ4 (k := 1) kw287 hP (i := 0) (q := 0) rfl rfl (by decide) rfl dJ5_ensureCapacityInternal_d00df_6 ?_
  refine lv_ishr hx hb dJ5_ensureCapacityInternal_d00df_9 ?_
  rw [sb_shr0]
  refine lv_istore_n (lv' := [(2, .int (nI n)), (0, .ref o), (1, .int (nI x))]) hx hb dJ5_ensureCapacityInternal_d00df_10 rfl hl (by decide) rfl (fun ls hl => ?_)
  refine lv_iload_n hx hb dJ5_ensureCapacityInternal_d00df_11 rfl (lv_at hl 2 rfl) ?_
  refine lv_iload_n hx hb dJ5_ensureCapacityInternal_d00df_12 rfl (lv_at hl 0 rfl) ?_
  refine lv_isub hx hb dJ5_ensureCapacityInternal_d00df_13 ?_
  by_cases hle : x ≤ n
  · refine lv_if_le (tgt := 38) hx hb dJ5_ensureCapacityInternal_d00df_14 (by decide) (fun z => ?_) (fun z => absurd (by rw [Int32.le_iff_toInt_le, pk_sub_toInt (by omega) (by omega), Int32.toInt_zero]; omega) z)
    exact kV_retW C hP hD hS ⟨q, n, f, rfl, hn, hle, Nat.le_refl _, hf, fun _ _ => rfl⟩ ⟨Nat.zero_le _, Nat.zero_le _⟩ dJ5_ensureCapacityInternal_d00df_38
  have hn16 : n = 16 := by omega
  subst hn16
  refine lv_if_le (tgt := 38) hx hb dJ5_ensureCapacityInternal_d00df_14 (by decide) (fun z => absurd z (by rw [Int32.le_iff_toInt_le, pk_sub_toInt (by omega) (by omega), Int32.toInt_zero]; omega)) (fun z => ?_)
  refine lv_aload_n hx hb dJ5_ensureCapacityInternal_d00df_17 rfl (lv_at hl 1 rfl) ?_
  refine lv_aload_n hx hb dJ5_ensureCapacityInternal_d00df_18 rfl (lv_at hl 1 rfl) ?_
  refine kg_get C kFJ4 (k := 0) kw286 hP (i := 0) (q := 0) rfl rfl (by decide) rfl dJ5_ensureCapacityInternal_d00df_19 ?_
  refine lv_aload_n hx hb dJ5_ensureCapacityInternal_d00df_22 rfl (lv_at hl 1 rfl) ?_
  refine lv_iload_n hx hb dJ5_ensureCapacityInternal_d00df_23 rfl (lv_at hl 2 rfl) ?_
  refine kR_V (As := [.int (nI x)]) (rest := [.ref q, .ref o]) C (J5_newCapacity_0f7a4_c l g o q ml cnt f x (by omega) (by omega)) (k_cwSB 1 hts kw1066 kw1068 kw2 kw74 kw1069 pnJ5_newCapacity_0f7a4 ⟨Nat.le_of_ble_eq_true rfl, Nat.le_of_ble_eq_true rfl⟩) hE hS hP (k_recv C kFJ4 hP (i := 0) (q := 0) rfl rfl) rfl hl.1 rfl rfl dJ5_ensureCapacityInternal_d00df_24 ⟨Nat.le_of_ble_eq_true rfl, Nat.le_of_ble_eq_true rfl⟩ ?_
  refine lv_aload_n hx hb dJ5_ensureCapacityInternal_d00df_27 rfl (lv_at hl 1 rfl) ?_
  refine kg_get C kFJ4 (k := 1) kw287 hP (i := 0) (q := 0) rfl rfl (by decide) rfl dJ5_ensureCapacityInternal_d00df_28 ?_
  refine lv_ishl hx hb dJ5_ensureCapacityInternal_d00df_31 ?_
  refine k_top (y := 34) (by decide) ?_
  refine kA_S (As := [.ref q, .int 34]) (rest := [.ref o]) (wr := [JOW o q ml cnt]) C (J7_copyOf_9075b_c l g q f hf) (va_cwS 2 hts (k_gS kw1081 cs_J7_copyOf_9075b) rfl rfl rfl pnJ7_copyOf_9075b ⟨Nat.le_of_ble_eq_true rfl, Nat.le_of_ble_eq_true rfl⟩) hE hS hA hP hD [1] [0] rfl rfl ⟨rfl, rfl, by decide⟩ rfl hl.1 rfl rfl dJ5_ensureCapacityInternal_d00df_32 ⟨Nat.le_of_ble_eq_true rfl, Nat.le_of_ble_eq_true rfl⟩ (fun b u H locs hp hP hD hS => ?_)
  obtain ⟨f', rfl, hf', hk⟩ := hp
  have hP : kp g [JOW o q ml cnt, JAW g q 16 f, JAW g b 34 f'] H := hP
  have hD : kd A [JOW o q ml cnt, JAW g q 16 f, JAW g b 34 f'] := hD
  refine kg_put C kFJ4 (k := 0) kw286 hP hD hS (i := 0) (q := 0) rfl rfl (by decide) rfl rfl rfl (Nat.le_of_ble_eq_true rfl) JOs_0 rfl dJ5_ensureCapacityInternal_d00df_35 (fun H locs hP hD hS => ?_)
  have hP : kp g [JOW o b ml cnt, JAW g q 16 f, JAW g b 34 f'] H := hP
  have hD : kd A [JOW o b ml cnt, JAW g q 16 f, JAW g b 34 f'] := hD
  exact kV_retW C (u := [JOW o b ml cnt, JAW g b 34 f']) (hP.pick [0, 2] rfl) (hD.pick [0, 2] rfl rfl) hS ⟨b, 34, f', rfl, Or.inr rfl, hx34, by decide, hf', hk⟩ ⟨Nat.le_refl _, Nat.le_refl _⟩ dJ5_ensureCapacityInternal_d00df_38
theorem pnJ5_append_3fe6f : yJ5_append_3fe6f.cls ≠ "java/lang/invoke/MethodHandle" ∧ yJ5_append_3fe6f.cls ≠ "java/lang/invoke/VarHandle" ∧ (parseMethodDescriptor yJ5_append_3fe6f.desc).map (fun d => d.parameters.length) = some 1 := by decide +kernel
abbrev wJ5_append_3fe6f : List Cond := Cond.code yJ5_append_3fe6f cJ5_append_3fe6f 2 (some (.object "java/lang/AbstractStringBuilder")) :: kW
theorem J5_append_3fe6f_c (l : Launch) (g : kG) (o q n : Nat) (ml : Int32) (f : Nat → Int32) (t : Nat → Nat) (k : Nat) (hn : n = 16 ∨ n = 34) (hk : k ≤ n) (hf : sb_Fit f) (hL : sb_Lat t k f) (c0 : Nat) (hc : c0 < 256) (h34 : k + 1 ≤ 34) : kA l yJ5_append_3fe6f wJ5_append_3fe6f 4 240 1 34 g [.ref o, .int (nI c0)] [JOW o q ml (nI k), JAW g q n f] (fun _ u => ∃ (q' n' : Nat) (ml' : Int32) (f' : Nat → Int32), u = [JOW o q' ml' (nI (k + 1)), JAW g q' n' f'] ∧ (n' = 16 ∨ n' = 34) ∧ k + 1 ≤ n' ∧ sb_Fit f' ∧ sb_Lat (sb_cat t k (fun _ => c0)) (k + 1) f') := by
  refine kA_of (cc := cJ5_append_3fe6f) (nL := 2) (ret := (some (.object "java/lang/AbstractStringBuilder"))) (lv := [(0, .ref o), (1, .int (nI c0))]) (by decide) rfl (Nat.le_of_ble_eq_true rfl) rfl ?_
  intro p e s m args below meth c ls A C hP hD hE hA hS hl
  have C : kC p c cJ5_append_3fe6f s m args meth RJ5 g 2 (some (.object "java/lang/AbstractStringBuilder")) := C
  have hx := C.1.1
  have hb := C.1.2.1
  have hts := C.1.2.2.2.2
  refine lv_aload_n hx hb dJ5_append_3fe6f_0 rfl (lv_at hl 0 rfl) ?_
  refine lv_aload_n hx hb dJ5_append_3fe6f_1 rfl (lv_at hl 0 rfl) ?_
  refine kg_get C kFJ4 (k := 3) kw290 hP (i := 0) (q := 0) rfl rfl (by decide) rfl dJ5_append_3fe6f_2 ?_
  refine lv_iconst (v := 1) hx hb dJ5_append_3fe6f_5 (by decide) ?_
  refine lv_iadd hx hb dJ5_append_3fe6f_6 ?_
  refine k_top (y := nI (k + 1)) (nI_1 k) ?_
  refine kV_V (As := [.int (nI (k + 1))]) (rest := []) (wr := []) C (J5_ensureCapacityInternal_d00df_c l g o q n ml (nI k) f (k + 1) hn (by omega) hf) (k_cwSB 1 hts kw1062 kw1064 kw1 kw74 kw1065 pnJ5_ensureCapacityInternal_d00df ⟨Nat.le_of_ble_eq_true rfl, Nat.le_of_ble_eq_true rfl⟩) hE hS hA hP hD [0, 1] [] rfl rfl ⟨rfl, rfl, by decide⟩ (k_recv C kFJ4 hP (i := 0) (q := 0) rfl rfl) rfl hl.1 rfl rfl dJ5_append_3fe6f_7 ⟨Nat.le_of_ble_eq_true rfl, Nat.le_of_ble_eq_true rfl⟩ (fun u H locs hp hP hD hS => ?_)
  obtain ⟨q1, n1, f1, rfl, hn1, hx1, hnn, hf1, hk1⟩ := hp
  have hP : kp g [JOW o q1 ml (nI k), JAW g q1 n1 f1] H := hP
  have hD : kd A [JOW o q1 ml (nI k), JAW g q1 n1 f1] := hD
  refine lv_aload_n hx hb dJ5_append_3fe6f_10 rfl (lv_at hl 0 rfl) ?_
  refine kR_V (As := []) (rest := []) C (J5_isLatin1_aae02_c l g o q1 ml (nI k)) (k_cwSB 0 hts kw1093 kw1094 kw1096 kw74 kw1097 pnJ5_isLatin1_aae02 ⟨Nat.le_of_ble_eq_true rfl, Nat.le_of_ble_eq_true rfl⟩) hE hS (hP.pick [0] rfl) (k_recv C kFJ4 hP (i := 0) (q := 0) rfl rfl) rfl hl.1 rfl rfl dJ5_append_3fe6f_11 ⟨Nat.le_of_ble_eq_true rfl, Nat.le_of_ble_eq_true rfl⟩ ?_
  refine lv_if_eq (tgt := 45) hx hb dJ5_append_3fe6f_14 (by decide) (fun z => absurd z (by decide)) (fun z => ?_)
  refine lv_iload_n hx hb dJ5_append_3fe6f_17 rfl (lv_at hl 1 rfl) ?_
  refine kR_S (As := [.int (nI c0)]) (rest := []) C (J1_canEncode_fc78d_c l g c0 hc) (va_cwS 1 hts (k_gS kw1275 cs_J1_canEncode_fc78d) rfl rfl rfl pnJ1_canEncode_fc78d ⟨Nat.le_of_ble_eq_true rfl, Nat.le_of_ble_eq_true rfl⟩) hE hS (hP.pick [] rfl) rfl hl.1 rfl rfl dJ5_append_3fe6f_18 ⟨Nat.le_of_ble_eq_true rfl, Nat.le_of_ble_eq_true rfl⟩ ?_
  refine lv_if_eq (tgt := 45) hx hb dJ5_append_3fe6f_21 (by decide) (fun z => absurd z (by decide)) (fun z => ?_)
  refine lv_aload_n hx hb dJ5_append_3fe6f_24 rfl (lv_at hl 0 rfl) ?_
  refine kg_get C kFJ4 (k := 0) kw286 hP (i := 0) (q := 0) rfl rfl (by decide) rfl dJ5_append_3fe6f_25 ?_
  refine lv_aload_n hx hb dJ5_append_3fe6f_28 rfl (lv_at hl 0 rfl) ?_
  refine lv_dup hx hb dJ5_append_3fe6f_29 rfl ?_
  refine kg_get C kFJ4 (k := 3) kw290 hP (i := 0) (q := 0) rfl rfl (by decide) rfl dJ5_append_3fe6f_30 ?_
  refine lv_dup_x1 hx hb dJ5_append_3fe6f_33 rfl rfl ?_
  refine lv_iconst (v := 1) hx hb dJ5_append_3fe6f_34 (by decide) ?_
  refine lv_iadd hx hb dJ5_append_3fe6f_35 ?_
  refine k_top (y := nI (k + 1)) (nI_1 k) ?_
  refine kg_put C kFJ4 (k := 3) kw290 hP hD hS (i := 0) (q := 0) rfl rfl (by decide) rfl rfl rfl (Nat.le_of_ble_eq_true rfl) JOs_3 rfl dJ5_append_3fe6f_36 (fun H locs hP hD hS => ?_)
  have hP : kp g [JOW o q1 ml (nI (k + 1)), JAW g q1 n1 f1] H := hP
  have hD : kd A [JOW o q1 ml (nI (k + 1)), JAW g q1 n1 f1] := hD
  refine lv_iload_n hx hb dJ5_append_3fe6f_39 rfl (lv_at hl 1 rfl) ?_
  refine lv_i2b hx hb dJ5_append_3fe6f_40 rfl ?_
  refine kg_bast C hP hD hS (i := 1) (q := 0) (k := k) (z := sb_b c0) rfl rfl (by omega) (by omega) (pk_vb _) (ch' := JAW g q1 n1 (upd f1 k (sb_b c0))) rfl rfl dJ5_append_3fe6f_41 (fun H locs hP hD hS => ?_)
  refine lv_goto (tgt := 75) hx hb dJ5_append_3fe6f_42 (by decide) ?_
  refine lv_aload_n hx hb dJ5_append_3fe6f_75 rfl (lv_at hl 0 rfl) ?_
  refine kA_ret C (Or.inl ⟨_, rfl⟩) hP hD hS ⟨q1, n1, ml, upd f1 k (sb_b c0), rfl, hn1, hx1, sb_fitU hf1 (sb_fitB _), sb_latPut hL (fun j hj => ?_) (fun i hi => ?_)⟩ ⟨Nat.le_refl _, Nat.le_refl _⟩ dJ5_append_3fe6f_76
  · rw [pk_un (by omega)]
    exact hk1 j (by omega)
  · obtain rfl : i = 0 := by omega
    exact ⟨hc, pk_us⟩
theorem pnJ4_append_cf468 : yJ4_append_cf468.cls ≠ "java/lang/invoke/MethodHandle" ∧ yJ4_append_cf468.cls ≠ "java/lang/invoke/VarHandle" ∧ (parseMethodDescriptor yJ4_append_cf468.desc).map (fun d => d.parameters.length) = some 1 := by decide +kernel
theorem ca_J4_append_cf468 : kCal yJ4_append_cf468 (Cond.code yJ4_append_cf468 cJ4_append_cf468 2 (some (.object "java/lang/StringBuilder"))) := ⟨k_w 7 1 rfl rfl, k_w 7 2 rfl rfl, k_w 2 7 rfl rfl, k_w 7 3 rfl rfl⟩
abbrev wJ4_append_cf468 : List Cond := Cond.code yJ4_append_cf468 cJ4_append_cf468 2 (some (.object "java/lang/StringBuilder")) :: kW
theorem J4_append_cf468_c (l : Launch) (g : kG) (o q n : Nat) (ml : Int32) (f : Nat → Int32) (t : Nat → Nat) (k : Nat) (hn : n = 16 ∨ n = 34) (hk : k ≤ n) (hf : sb_Fit f) (hL : sb_Lat t k f) (c0 : Nat) (hc : c0 < 256) (h34 : k + 1 ≤ 34) : kA l yJ4_append_cf468 wJ4_append_cf468 5 300 1 34 g [.ref o, .int (nI c0)] [JOW o q ml (nI k), JAW g q n f] (fun _ u => ∃ (q' n' : Nat) (ml' : Int32) (f' : Nat → Int32), u = [JOW o q' ml' (nI (k + 1)), JAW g q' n' f'] ∧ (n' = 16 ∨ n' = 34) ∧ k + 1 ≤ n' ∧ sb_Fit f' ∧ sb_Lat (sb_cat t k (fun _ => c0)) (k + 1) f') := by
  refine kA_of (cc := cJ4_append_cf468) (nL := 2) (ret := (some (.object "java/lang/StringBuilder"))) (lv := [(0, .ref o), (1, .int (nI c0))]) (by decide) rfl (Nat.le_of_ble_eq_true rfl) rfl ?_
  intro p e s m args below meth c ls A C hP hD hE hA hS hl
  have C : kC p c cJ4_append_cf468 s m args meth RJ4 g 2 (some (.object "java/lang/StringBuilder")) := C
  have hx := C.1.1
  have hb := C.1.2.1
  have hts := C.1.2.2.2.2
  refine lv_aload_n hx hb dJ4_append_cf468_0 rfl (lv_at hl 0 rfl) ?_
  refine lv_iload_n hx hb dJ4_append_cf468_1 rfl (lv_at hl 1 rfl) ?_
  refine kA_SU (As := [.int (nI c0)]) (rest := []) (wr := []) C (J5_append_3fe6f_c l g o q n ml f t k hn hk hf hL c0 hc h34) (k_cwSU 1 hts kw1272 kw1482 kw299 kw1273 kw74 kw1274 ⟨by decide +kernel, pnJ5_append_3fe6f.2.2⟩ ⟨Nat.le_of_ble_eq_true rfl, Nat.le_of_ble_eq_true rfl⟩) hE hS hA hP hD [0, 1] [] rfl rfl ⟨rfl, rfl, by decide⟩ (k_recv C kFJ4 hP (i := 0) (q := 0) rfl rfl) rfl hl.1 rfl rfl dJ4_append_cf468_2 ⟨Nat.le_of_ble_eq_true rfl, Nat.le_of_ble_eq_true rfl⟩ (fun ra u H locs hp hP hD hS => ?_)
  refine lv_pop hx hb dJ4_append_cf468_5 rfl ?_
  refine lv_aload_n hx hb dJ4_append_cf468_6 rfl (lv_at hl 0 rfl) ?_
  exact kA_ret C (Or.inl ⟨_, rfl⟩) hP hD hS hp ⟨Nat.le_refl _, Nat.le_refl _⟩ dJ4_append_cf468_7
theorem pnJ5_setLength_d00df : yJ5_setLength_d00df.cls ≠ "java/lang/invoke/MethodHandle" ∧ yJ5_setLength_d00df.cls ≠ "java/lang/invoke/VarHandle" ∧ (parseMethodDescriptor yJ5_setLength_d00df.desc).map (fun d => d.parameters.length) = some 1 := by decide +kernel
abbrev wJ5_setLength_d00df : List Cond := Cond.code yJ5_setLength_d00df cJ5_setLength_d00df 2 none :: kW
theorem J5_setLength_d00df_c (l : Launch) (g : kG) (o q n : Nat) (ml : Int32) (f : Nat → Int32) (k : Nat) (hn : n = 16 ∨ n = 34) (hk : k ≤ n) (hf : sb_Fit f) : kV l yJ5_setLength_d00df wJ5_setLength_d00df 4 240 1 34 g [.ref o, .int 0] [JOW o q ml (nI k), JAW g q n f] (fun u => ∃ (q' n' : Nat) (ml' : Int32) (f' : Nat → Int32), u = [JOW o q' ml' 0, JAW g q' n' f'] ∧ (n' = 16 ∨ n' = 34) ∧ sb_Fit f') := by
  refine kV_of (cc := cJ5_setLength_d00df) (nL := 2) (ret := none) (lv := [(0, .ref o), (1, .int 0)]) (by decide) rfl (Nat.le_of_ble_eq_true rfl) rfl ?_
  intro p e s m args below meth c ls A hnm C hP hD hE hA hS hl
  have C : kC p c cJ5_setLength_d00df s m args meth RJ5 g 2 none := C
  have hx := C.1.1
  have hb := C.1.2.1
  have hts := C.1.2.2.2.2
  refine lv_iload_n hx hb dJ5_setLength_d00df_0 rfl (lv_at hl 1 rfl) ?_
  refine lv_if_ge (tgt := 13) hx hb dJ5_setLength_d00df_1 (by decide) (fun z => ?_) (fun z => absurd (by decide) z)
  refine lv_aload_n hx hb dJ5_setLength_d00df_13 rfl (lv_at hl 0 rfl) ?_
  refine lv_iload_n hx hb dJ5_setLength_d00df_14 rfl (lv_at hl 1 rfl) ?_
  refine kV_V (As := [.int 0]) (rest := []) (wr := []) C (J5_ensureCapacityInternal_d00df_c l g o q n ml (nI k) f 0 hn (by omega) hf) (k_cwSB 1 hts kw1062 kw1064 kw1 kw74 kw1065 pnJ5_ensureCapacityInternal_d00df ⟨Nat.le_of_ble_eq_true rfl, Nat.le_of_ble_eq_true rfl⟩) hE hS hA hP hD [0, 1] [] rfl rfl ⟨rfl, rfl, by decide⟩ (k_recv C kFJ4 hP (i := 0) (q := 0) rfl rfl) rfl hl.1 rfl rfl dJ5_setLength_d00df_15 ⟨Nat.le_of_ble_eq_true rfl, Nat.le_of_ble_eq_true rfl⟩ (fun u H locs hp hP hD hS => ?_)
  obtain ⟨q1, n1, f1, rfl, hn1, hx1, hnn, hf1, hk1⟩ := hp
  have hP : kp g [JOW o q1 ml (nI k), JAW g q1 n1 f1] H := hP
  have hD : kd A [JOW o q1 ml (nI k), JAW g q1 n1 f1] := hD
  refine lv_aload_n hx hb dJ5_setLength_d00df_18 rfl (lv_at hl 0 rfl) ?_
  refine kg_get C kFJ4 (k := 3) kw290 hP (i := 0) (q := 0) rfl rfl (by decide) rfl dJ5_setLength_d00df_19 ?_
  refine lv_iload_n hx hb dJ5_setLength_d00df_22 rfl (lv_at hl 1 rfl) ?_
  refine lv_icmp_ge (tgt := 63) hx hb dJ5_setLength_d00df_23 (by decide) (fun z => ?_) (fun z => absurd (nI_pos' (by omega)) z)
  refine lv_aload_n hx hb dJ5_setLength_d00df_63 rfl (lv_at hl 0 rfl) ?_
  refine kg_get C kFJ4 (k := 3) kw290 hP (i := 0) (q := 0) rfl rfl (by decide) rfl dJ5_setLength_d00df_64 ?_
  refine lv_iload_n hx hb dJ5_setLength_d00df_67 rfl (lv_at hl 1 rfl) ?_
  by_cases hk0 : nI k ≤ 0
  · refine lv_icmp_le (tgt := 76) hx hb dJ5_setLength_d00df_68 (by decide) (fun z => ?_) (fun z => absurd hk0 z)
    refine lv_aload_n hx hb dJ5_setLength_d00df_76 rfl (lv_at hl 0 rfl) ?_
    refine lv_iload_n hx hb dJ5_setLength_d00df_77 rfl (lv_at hl 1 rfl) ?_
    refine kg_put C kFJ4 (k := 3) kw290 hP hD hS (i := 0) (q := 0) rfl rfl (by decide) rfl rfl rfl (Nat.le_of_ble_eq_true rfl) JOs_3 rfl dJ5_setLength_d00df_78 (fun H locs hP hD hS => ?_)
    have hP : kp g [JOW o q1 ml 0, JAW g q1 n1 f1] H := hP
    have hD : kd A [JOW o q1 ml 0, JAW g q1 n1 f1] := hD
    exact kV_retW C hP hD hS ⟨q1, n1, ml, f1, rfl, hn1, hf1⟩ ⟨Nat.le_refl _, Nat.le_refl _⟩ dJ5_setLength_d00df_81
  · refine lv_icmp_le (tgt := 76) hx hb dJ5_setLength_d00df_68 (by decide) (fun z => absurd z hk0) (fun z => ?_)
    refine lv_aload_n hx hb dJ5_setLength_d00df_71 rfl (lv_at hl 0 rfl) ?_
    refine lv_iconst (v := 1) hx hb dJ5_setLength_d00df_72 (by decide) ?_
    refine kg_put C kFJ4 (k := 2) kw288 hP hD hS (i := 0) (q := 0) rfl rfl (by decide) rfl rfl rfl (Nat.le_of_ble_eq_true rfl) JOs_2 rfl dJ5_setLength_d00df_73 (fun H locs hP hD hS => ?_)
    have hP : kp g [JOW o q1 1 (nI k), JAW g q1 n1 f1] H := hP
    have hD : kd A [JOW o q1 1 (nI k), JAW g q1 n1 f1] := hD
    refine lv_aload_n hx hb dJ5_setLength_d00df_76 rfl (lv_at hl 0 rfl) ?_
    refine lv_iload_n hx hb dJ5_setLength_d00df_77 rfl (lv_at hl 1 rfl) ?_
    refine kg_put C kFJ4 (k := 3) kw290 hP hD hS (i := 0) (q := 0) rfl rfl (by decide) rfl rfl rfl (Nat.le_of_ble_eq_true rfl) JOs_3 rfl dJ5_setLength_d00df_78 (fun H locs hP hD hS => ?_)
    have hP : kp g [JOW o q1 1 0, JAW g q1 n1 f1] H := hP
    have hD : kd A [JOW o q1 1 0, JAW g q1 n1 f1] := hD
    exact kV_retW C hP hD hS ⟨q1, n1, 1, f1, rfl, hn1, hf1⟩ ⟨Nat.le_refl _, Nat.le_refl _⟩ dJ5_setLength_d00df_81
theorem pnJ4_setLength_d00df : yJ4_setLength_d00df.cls ≠ "java/lang/invoke/MethodHandle" ∧ yJ4_setLength_d00df.cls ≠ "java/lang/invoke/VarHandle" ∧ (parseMethodDescriptor yJ4_setLength_d00df.desc).map (fun d => d.parameters.length) = some 1 := by decide +kernel
theorem ca_J4_setLength_d00df : kCal yJ4_setLength_d00df (Cond.code yJ4_setLength_d00df cJ4_setLength_d00df 2 none) := ⟨k_w 6 9 rfl rfl, k_w 6 10 rfl rfl, k_w 2 7 rfl rfl, k_w 6 11 rfl rfl⟩
abbrev wJ4_setLength_d00df : List Cond := Cond.code yJ4_setLength_d00df cJ4_setLength_d00df 2 none :: kW
theorem J4_setLength_d00df_c (l : Launch) (g : kG) (o q n : Nat) (ml : Int32) (f : Nat → Int32) (k : Nat) (hn : n = 16 ∨ n = 34) (hk : k ≤ n) (hf : sb_Fit f) : kV l yJ4_setLength_d00df wJ4_setLength_d00df 5 300 1 34 g [.ref o, .int 0] [JOW o q ml (nI k), JAW g q n f] (fun u => ∃ (q' n' : Nat) (ml' : Int32) (f' : Nat → Int32), u = [JOW o q' ml' 0, JAW g q' n' f'] ∧ (n' = 16 ∨ n' = 34) ∧ sb_Fit f') := by
  refine kV_of (cc := cJ4_setLength_d00df) (nL := 2) (ret := none) (lv := [(0, .ref o), (1, .int 0)]) (by decide) rfl (Nat.le_of_ble_eq_true rfl) rfl ?_
  intro p e s m args below meth c ls A hnm C hP hD hE hA hS hl
  have C : kC p c cJ4_setLength_d00df s m args meth RJ4 g 2 none := C
  have hx := C.1.1
  have hb := C.1.2.1
  have hts := C.1.2.2.2.2
  refine lv_aload_n hx hb dJ4_setLength_d00df_0 rfl (lv_at hl 0 rfl) ?_
  refine lv_iload_n hx hb dJ4_setLength_d00df_1 rfl (lv_at hl 1 rfl) ?_
  refine kV_SU (As := [.int 0]) (rest := []) (wr := []) C (J5_setLength_d00df_c l g o q n ml f k hn hk hf) (k_cwSU 1 hts kw1040 kw1472 kw299 kw1041 kw74 kw1042 ⟨by decide +kernel, pnJ5_setLength_d00df.2.2⟩ ⟨Nat.le_of_ble_eq_true rfl, Nat.le_of_ble_eq_true rfl⟩) hE hS hA hP hD [0, 1] [] rfl rfl ⟨rfl, rfl, by decide⟩ (k_recv C kFJ4 hP (i := 0) (q := 0) rfl rfl) rfl hl.1 rfl rfl dJ4_setLength_d00df_2 ⟨Nat.le_of_ble_eq_true rfl, Nat.le_of_ble_eq_true rfl⟩ (fun u H locs hp hP hD hS => ?_)
  exact kV_retW C hP hD hS hp ⟨Nat.le_refl _, Nat.le_refl _⟩ dJ4_setLength_d00df_5
theorem pnJ4_length_8abf5 : yJ4_length_8abf5.cls ≠ "java/lang/invoke/MethodHandle" ∧ yJ4_length_8abf5.cls ≠ "java/lang/invoke/VarHandle" ∧ (parseMethodDescriptor yJ4_length_8abf5.desc).map (fun d => d.parameters.length) = some 0 := by decide +kernel
theorem ca_J4_length_8abf5 : kCal yJ4_length_8abf5 (Cond.code yJ4_length_8abf5 cJ4_length_8abf5 1 (some .int)) := ⟨k_w 6 166 rfl rfl, k_w 7 213 rfl rfl, k_w 2 7 rfl rfl, k_w 6 167 rfl rfl⟩
abbrev wJ4_length_8abf5 : List Cond := Cond.code yJ4_length_8abf5 cJ4_length_8abf5 1 (some .int) :: kW
theorem J4_length_8abf5_c (l : Launch) (g : kG) (o q : Nat) (ml cnt : Int32) : kR l yJ4_length_8abf5 wJ4_length_8abf5 1 40 g [.ref o] [JOW o q ml cnt] cnt := by
  refine kR_of (cc := cJ4_length_8abf5) (nL := 1) (ret := (some .int)) (lv := [(0, .ref o)]) (by decide) rfl (Nat.le_of_ble_eq_true rfl) rfl ?_
  intro p e s m args below meth c ls C hP hE hl
  have hS : va_S (fun _ => False) s.heap s.heap [] := va_S.rf
  have C : kC p c cJ4_length_8abf5 s m args meth RJ4 g 1 (some .int) := C
  have hx := C.1.1
  have hb := C.1.2.1
  have hts := C.1.2.2.2.2
  refine lv_aload_n hx hb dJ4_length_8abf5_0 rfl (lv_at hl 0 rfl) ?_
  refine kR_SU (As := []) (rest := []) C (J5_length_8abf5_c l g o q ml cnt) (k_cwSU 0 hts kw1196 kw1192 kw299 kw1191 kw74 kw1197 ⟨by decide +kernel, pnJ5_length_8abf5.2.2⟩ ⟨Nat.le_of_ble_eq_true rfl, Nat.le_of_ble_eq_true rfl⟩) hE hS hP (k_recv C kFJ4 hP (i := 0) (q := 0) rfl rfl) rfl hl.1 rfl rfl dJ4_length_8abf5_1 ⟨Nat.le_of_ble_eq_true rfl, Nat.le_of_ble_eq_true rfl⟩ ?_
  exact kR_ret C rfl dJ4_length_8abf5_4
theorem pnJ5_charAt_5068e : yJ5_charAt_5068e.cls ≠ "java/lang/invoke/MethodHandle" ∧ yJ5_charAt_5068e.cls ≠ "java/lang/invoke/VarHandle" ∧ (parseMethodDescriptor yJ5_charAt_5068e.desc).map (fun d => d.parameters.length) = some 1 := by decide +kernel
abbrev wJ5_charAt_5068e : List Cond := Cond.code yJ5_charAt_5068e cJ5_charAt_5068e 5 (some .char) :: kW
theorem J5_charAt_5068e_c (l : Launch) (g : kG) (o q n : Nat) (ml : Int32) (f : Nat → Int32) (t : Nat → Nat) (k : Nat) (hn : n = 16 ∨ n = 34) (hk : k ≤ n) (hf : sb_Fit f) (hL : sb_Lat t k f) (i : Nat) (hi : i < k) : kR l yJ5_charAt_5068e wJ5_charAt_5068e 2 120 g [.ref o, .int (nI i)] [JOW o q ml (nI k), JAW g q n f] (nI (t i)) := by
  refine kR_of (cc := cJ5_charAt_5068e) (nL := 5) (ret := (some .char)) (lv := [(0, .ref o), (1, .int (nI i))]) (by decide) rfl (Nat.le_of_ble_eq_true rfl) rfl ?_
  intro p e s m args below meth c ls C hP hE hl
  have hS : va_S (fun _ => False) s.heap s.heap [] := va_S.rf
  have C : kC p c cJ5_charAt_5068e s m args meth RJ5 g 5 (some .char) := C
  have hx := C.1.1
  have hb := C.1.2.1
  have hts := C.1.2.2.2.2
  refine lv_aload_n hx hb dJ5_charAt_5068e_0 rfl (lv_at hl 0 rfl) ?_
  refine kg_get C kFJ4 (k := 1) kw287 hP (i := 0) (q := 0) rfl rfl (by decide) rfl dJ5_charAt_5068e_1 ?_
  refine lv_istore_n (lv' := [(2, .int 0), (0, .ref o), (1, .int (nI i))]) hx hb dJ5_charAt_5068e_4 rfl hl (by decide) rfl (fun ls hl => ?_)
  refine lv_aload_n hx hb dJ5_charAt_5068e_5 rfl (lv_at hl 1 rfl) ?_
  refine kg_get C kFJ4 (k := 0) kw286 hP (i := 0) (q := 0) rfl rfl (by decide) rfl dJ5_charAt_5068e_6 ?_
  refine lv_astore_n (lv' := [(3, .ref q), (2, .int 0), (0, .ref o), (1, .int (nI i))]) hx hb dJ5_charAt_5068e_9 rfl hl (by decide) rfl (fun ls hl => ?_)
  refine lv_aload_n hx hb dJ5_charAt_5068e_10 rfl (lv_at hl 2 rfl) ?_
  refine kg_get C kFJ4 (k := 3) kw290 hP (i := 0) (q := 0) rfl rfl (by decide) rfl dJ5_charAt_5068e_11 ?_
  refine lv_aload_n hx hb dJ5_charAt_5068e_14 rfl (lv_at hl 0 rfl) ?_
  refine kg_blen C hP (i := 1) (q := 0) rfl rfl dJ5_charAt_5068e_15 ?_
  refine lv_iload_n hx hb dJ5_charAt_5068e_16 rfl (lv_at hl 1 rfl) ?_
  refine lv_ishr hx hb dJ5_charAt_5068e_17 ?_
  rw [sb_shr0]
  refine va_mmin hx hb (by rw [C.1.2.2.1, hl.1]) C.1.2.2.2.1 (hts _ kw1298) (hts _ kw551) (hts _ kw84) (hts _ kw552) (Nat.le_of_ble_eq_true rfl) (Nat.le_of_ble_eq_true rfl) (Nat.le_of_ble_eq_true rfl) (Nat.le_of_ble_eq_true rfl) dJ5_charAt_5068e_18 ?_
  rw [if_neg (nI_nlt hk (by omega))]
  refine lv_istore (lv' := [(4, .int (nI k)), (3, .ref q), (2, .int 0), (0, .ref o), (1, .int (nI i))]) hx hb dJ5_charAt_5068e_21 hl (by decide) rfl (fun ls hl => ?_)
  refine lv_iload_n hx hb dJ5_charAt_5068e_23 rfl (lv_at hl 4 rfl) ?_
  refine lv_iload hx hb dJ5_charAt_5068e_24 (lv_at hl 0 rfl) ?_
  refine kO_S (As := [.int (nI i), .int (nI k)]) (rest := []) C (J0_checkIndex_df160_c l g (nI i) (nI k) (nI_pos (by omega)) (nI_lt hi (by omega))) (va_cwS 2 hts (k_gS kw1299 cs_J0_checkIndex_df160) rfl rfl rfl pnJ0_checkIndex_df160 ⟨Nat.le_of_ble_eq_true rfl, Nat.le_of_ble_eq_true rfl⟩) hE hS (hP.pick [] rfl) rfl hl.1 rfl rfl dJ5_charAt_5068e_26 ⟨Nat.le_of_ble_eq_true rfl, Nat.le_of_ble_eq_true rfl⟩ ?_
  refine lv_iload_n hx hb dJ5_charAt_5068e_29 rfl (lv_at hl 2 rfl) ?_
  refine lv_if_ne (tgt := 42) hx hb dJ5_charAt_5068e_30 (by decide) (fun z => absurd rfl z) (fun z => ?_)
  refine lv_aload_n hx hb dJ5_charAt_5068e_33 rfl (lv_at hl 1 rfl) ?_
  refine lv_iload_n hx hb dJ5_charAt_5068e_34 rfl (lv_at hl 4 rfl) ?_
  obtain ⟨h1, h2⟩ := hL i hi
  obtain ⟨b1, b2, -⟩ := sb_byte _ h1
  refine kg_bald C hP (i := 1) (q := 0) (k := i) rfl rfl (by omega) (by omega) h2 dJ5_charAt_5068e_35 ?_
  refine lv_sipush (v := 255) hx hb dJ5_charAt_5068e_36 (by decide) ?_
  refine lv_iand hx hb dJ5_charAt_5068e_39 ?_
  rw [b1]
  refine lv_i2c hx hb dJ5_charAt_5068e_40 b2 ?_
  exact kR_zret C (pk_charN (q := t i) (by omega)).1 rfl dJ5_charAt_5068e_41
theorem pnJ4_charAt_5068e : yJ4_charAt_5068e.cls ≠ "java/lang/invoke/MethodHandle" ∧ yJ4_charAt_5068e.cls ≠ "java/lang/invoke/VarHandle" ∧ (parseMethodDescriptor yJ4_charAt_5068e.desc).map (fun d => d.parameters.length) = some 1 := by decide +kernel
theorem ca_J4_charAt_5068e : kCal yJ4_charAt_5068e (Cond.code yJ4_charAt_5068e cJ4_charAt_5068e 2 (some .char)) := ⟨k_w 7 24 rfl rfl, k_w 7 25 rfl rfl, k_w 2 7 rfl rfl, k_w 7 26 rfl rfl⟩
abbrev wJ4_charAt_5068e : List Cond := Cond.code yJ4_charAt_5068e cJ4_charAt_5068e 2 (some .char) :: kW
theorem J4_charAt_5068e_c (l : Launch) (g : kG) (o q n : Nat) (ml : Int32) (f : Nat → Int32) (t : Nat → Nat) (k : Nat) (hn : n = 16 ∨ n = 34) (hk : k ≤ n) (hf : sb_Fit f) (hL : sb_Lat t k f) (i : Nat) (hi : i < k) : kR l yJ4_charAt_5068e wJ4_charAt_5068e 3 180 g [.ref o, .int (nI i)] [JOW o q ml (nI k), JAW g q n f] (nI (t i)) := by
  have h0 := (hL i hi).1
  refine kR_of (cc := cJ4_charAt_5068e) (nL := 2) (ret := (some .char)) (lv := [(0, .ref o), (1, .int (nI i))]) (by decide) rfl (Nat.le_of_ble_eq_true rfl) rfl ?_
  intro p e s m args below meth c ls C hP hE hl
  have hS : va_S (fun _ => False) s.heap s.heap [] := va_S.rf
  have C : kC p c cJ4_charAt_5068e s m args meth RJ4 g 2 (some .char) := C
  have hx := C.1.1
  have hb := C.1.2.1
  have hts := C.1.2.2.2.2
  refine lv_aload_n hx hb dJ4_charAt_5068e_0 rfl (lv_at hl 0 rfl) ?_
  refine lv_iload_n hx hb dJ4_charAt_5068e_1 rfl (lv_at hl 1 rfl) ?_
  refine kR_SU (As := [.int (nI i)]) (rest := []) C (J5_charAt_5068e_c l g o q n ml f t k hn hk hf hL i hi) (k_cwSU 1 hts kw1295 kw1483 kw299 kw1296 kw74 kw1297 ⟨by decide +kernel, pnJ5_charAt_5068e.2.2⟩ ⟨Nat.le_of_ble_eq_true rfl, Nat.le_of_ble_eq_true rfl⟩) hE hS hP (k_recv C kFJ4 hP (i := 0) (q := 0) rfl rfl) rfl hl.1 rfl rfl dJ4_charAt_5068e_2 ⟨Nat.le_of_ble_eq_true rfl, Nat.le_of_ble_eq_true rfl⟩ ?_
  exact kR_zret C (pk_charN (q := t i) (by omega)).1 rfl dJ4_charAt_5068e_5
theorem pnJ6_stringSize_0f7a4 : yJ6_stringSize_0f7a4.cls ≠ "java/lang/invoke/MethodHandle" ∧ yJ6_stringSize_0f7a4.cls ≠ "java/lang/invoke/VarHandle" ∧ (parseMethodDescriptor yJ6_stringSize_0f7a4.desc).map (fun d => d.parameters.length) = some 1 := by decide +kernel
theorem cs_J6_stringSize_0f7a4 : kCst yJ6_stringSize_0f7a4 (Cond.code yJ6_stringSize_0f7a4 cJ6_stringSize_0f7a4 4 (some .int)) := ⟨k_w 6 128 rfl rfl, k_w 2 27 rfl rfl, k_w 6 129 rfl rfl⟩
abbrev wJ6_stringSize_0f7a4 : List Cond := Cond.code yJ6_stringSize_0f7a4 cJ6_stringSize_0f7a4 4 (some .int) :: kW
theorem J6_stringSize_0f7a4_c (l : Launch) (g : kG) (v : Nat) (hv : v < 1000) : kR l yJ6_stringSize_0f7a4 wJ6_stringSize_0f7a4 0 0 g [.int (nI v)] [] (nI (sb_dg v)) := by
  refine kR_of (cc := cJ6_stringSize_0f7a4) (nL := 4) (ret := (some .int)) (lv := [(0, .int (nI v))]) (by decide) rfl (Nat.le_of_ble_eq_true rfl) rfl ?_
  intro p e s m args below meth c ls C hP hE hl
  have hS : va_S (fun _ => False) s.heap s.heap [] := va_S.rf
  have C : kC p c cJ6_stringSize_0f7a4 s m args meth RJ6 g 4 (some .int) := C
  have hx := C.1.1
  have hb := C.1.2.1
  have hts := C.1.2.2.2.2
  refine lv_iconst (v := 1) hx hb dJ6_stringSize_0f7a4_0 (by decide) ?_
  refine lv_istore_n (lv' := [(1, .int 1), (0, .int (nI v))]) hx hb dJ6_stringSize_0f7a4_1 rfl hl (by decide) rfl (fun ls hl => ?_)
  refine lv_iload_n hx hb dJ6_stringSize_0f7a4_2 rfl (lv_at hl 1 rfl) ?_
  refine lv_if_lt (tgt := 11) hx hb dJ6_stringSize_0f7a4_3 (by decide) (fun z => absurd z (nI_pos (by omega))) (fun z => ?_)
  refine lv_iconst (v := 0) hx hb dJ6_stringSize_0f7a4_6 (by decide) ?_
  refine lv_istore_n (lv' := [(1, .int 0), (0, .int (nI v))]) hx hb dJ6_stringSize_0f7a4_7 rfl hl (by decide) rfl (fun ls hl => ?_)
  refine lv_iload_n hx hb dJ6_stringSize_0f7a4_8 rfl (lv_at hl 1 rfl) ?_
  refine lv_ineg hx hb dJ6_stringSize_0f7a4_9 ?_
  refine lv_istore_n (lv' := [(0, .int (-nI v)), (1, .int 0)]) hx hb dJ6_stringSize_0f7a4_10 rfl hl (by decide) rfl (fun ls hl => ?_)
  refine lv_bipush (v := (-10)) hx hb dJ6_stringSize_0f7a4_11 (by decide) ?_
  refine lv_istore_n (lv' := [(2, .int (-10)), (0, .int (-nI v)), (1, .int 0)]) hx hb dJ6_stringSize_0f7a4_13 rfl hl (by decide) rfl (fun ls hl => ?_)
  refine lv_iconst (v := 1) hx hb dJ6_stringSize_0f7a4_14 (by decide) ?_
  refine lv_istore_n (lv' := [(3, .int 1), (2, .int (-10)), (0, .int (-nI v)), (1, .int 0)]) hx hb dJ6_stringSize_0f7a4_15 rfl hl (by decide) rfl (fun ls hl => ?_)
  by_cases h10 : v < 10
  · refine lv_iload_n hx hb dJ6_stringSize_0f7a4_16 rfl (lv_at hl 0 rfl) ?_
    refine lv_bipush (v := 10) hx hb dJ6_stringSize_0f7a4_17 (by decide) ?_
    refine lv_icmp_ge (tgt := 42) hx hb dJ6_stringSize_0f7a4_19 (by decide) (fun z => absurd z (by decide)) (fun z => ?_)
    refine lv_iload_n hx hb dJ6_stringSize_0f7a4_22 rfl (lv_at hl 2 rfl) ?_
    refine lv_iload_n hx hb dJ6_stringSize_0f7a4_23 rfl (lv_at hl 1 rfl) ?_
    refine lv_icmp_le (tgt := 31) hx hb dJ6_stringSize_0f7a4_24 (by decide) (fun z => absurd ((sb_nle (a := v) (b := 10) (by omega) (by omega)).mp z) (by omega)) (fun z => ?_)
    refine lv_iload_n hx hb dJ6_stringSize_0f7a4_27 rfl (lv_at hl 0 rfl) ?_
    refine lv_iload_n hx hb dJ6_stringSize_0f7a4_28 rfl (lv_at hl 3 rfl) ?_
    refine lv_iadd hx hb dJ6_stringSize_0f7a4_29 ?_
    refine k_top (y := 1) (by decide) ?_
    exact kR_ret C (by rw [(k_dig1 h10).1]; rfl) dJ6_stringSize_0f7a4_30
  by_cases h100 : v < 100
  · refine lv_iload_n hx hb dJ6_stringSize_0f7a4_16 rfl (lv_at hl 0 rfl) ?_
    refine lv_bipush (v := 10) hx hb dJ6_stringSize_0f7a4_17 (by decide) ?_
    refine lv_icmp_ge (tgt := 42) hx hb dJ6_stringSize_0f7a4_19 (by decide) (fun z => absurd z (by decide)) (fun z => ?_)
    refine lv_iload_n hx hb dJ6_stringSize_0f7a4_22 rfl (lv_at hl 2 rfl) ?_
    refine lv_iload_n hx hb dJ6_stringSize_0f7a4_23 rfl (lv_at hl 1 rfl) ?_
    refine lv_icmp_le (tgt := 31) hx hb dJ6_stringSize_0f7a4_24 (by decide) (fun z => ?_) (fun z => absurd ((sb_nle (a := v) (b := 10) (by omega) (by omega)).mpr (by omega)) z)
    refine lv_bipush (v := 10) hx hb dJ6_stringSize_0f7a4_31 (by decide) ?_
    refine lv_iload_n hx hb dJ6_stringSize_0f7a4_33 rfl (lv_at hl 1 rfl) ?_
    refine lv_imul hx hb dJ6_stringSize_0f7a4_34 ?_
    refine k_top (y := -100) (by decide) ?_
    refine lv_istore_n (lv' := [(2, .int (-100)), (3, .int 1), (0, .int (-nI v)), (1, .int 0)]) hx hb dJ6_stringSize_0f7a4_35 rfl hl (by decide) rfl (fun ls hl => ?_)
    refine lv_iinc (v := 2) (lv' := [(3, .int 2), (2, .int (-100)), (0, .int (-nI v)), (1, .int 0)]) hx hb dJ6_stringSize_0f7a4_36 hl (k := 1) rfl rfl (by decide) rfl (fun ls hl => ?_)
    refine lv_goto (tgt := 16) hx hb dJ6_stringSize_0f7a4_39 (by decide) ?_
    refine lv_iload_n hx hb dJ6_stringSize_0f7a4_16 rfl (lv_at hl 0 rfl) ?_
    refine lv_bipush (v := 10) hx hb dJ6_stringSize_0f7a4_17 (by decide) ?_
    refine lv_icmp_ge (tgt := 42) hx hb dJ6_stringSize_0f7a4_19 (by decide) (fun z => absurd z (by decide)) (fun z => ?_)
    refine lv_iload_n hx hb dJ6_stringSize_0f7a4_22 rfl (lv_at hl 2 rfl) ?_
    refine lv_iload_n hx hb dJ6_stringSize_0f7a4_23 rfl (lv_at hl 1 rfl) ?_
    refine lv_icmp_le (tgt := 31) hx hb dJ6_stringSize_0f7a4_24 (by decide) (fun z => absurd ((sb_nle (a := v) (b := 100) (by omega) (by omega)).mp z) (by omega)) (fun z => ?_)
    refine lv_iload_n hx hb dJ6_stringSize_0f7a4_27 rfl (lv_at hl 0 rfl) ?_
    refine lv_iload_n hx hb dJ6_stringSize_0f7a4_28 rfl (lv_at hl 3 rfl) ?_
    refine lv_iadd hx hb dJ6_stringSize_0f7a4_29 ?_
    refine k_top (y := 2) (by decide) ?_
    exact kR_ret C (by rw [(k_dig2 (by omega) h100).1]; rfl) dJ6_stringSize_0f7a4_30
  refine lv_iload_n hx hb dJ6_stringSize_0f7a4_16 rfl (lv_at hl 0 rfl) ?_
  refine lv_bipush (v := 10) hx hb dJ6_stringSize_0f7a4_17 (by decide) ?_
  refine lv_icmp_ge (tgt := 42) hx hb dJ6_stringSize_0f7a4_19 (by decide) (fun z => absurd z (by decide)) (fun z => ?_)
  refine lv_iload_n hx hb dJ6_stringSize_0f7a4_22 rfl (lv_at hl 2 rfl) ?_
  refine lv_iload_n hx hb dJ6_stringSize_0f7a4_23 rfl (lv_at hl 1 rfl) ?_
  refine lv_icmp_le (tgt := 31) hx hb dJ6_stringSize_0f7a4_24 (by decide) (fun z => ?_) (fun z => absurd ((sb_nle (a := v) (b := 10) (by omega) (by omega)).mpr (by omega)) z)
  refine lv_bipush (v := 10) hx hb dJ6_stringSize_0f7a4_31 (by decide) ?_
  refine lv_iload_n hx hb dJ6_stringSize_0f7a4_33 rfl (lv_at hl 1 rfl) ?_
  refine lv_imul hx hb dJ6_stringSize_0f7a4_34 ?_
  refine k_top (y := -100) (by decide) ?_
  refine lv_istore_n (lv' := [(2, .int (-100)), (3, .int 1), (0, .int (-nI v)), (1, .int 0)]) hx hb dJ6_stringSize_0f7a4_35 rfl hl (by decide) rfl (fun ls hl => ?_)
  refine lv_iinc (v := 2) (lv' := [(3, .int 2), (2, .int (-100)), (0, .int (-nI v)), (1, .int 0)]) hx hb dJ6_stringSize_0f7a4_36 hl (k := 1) rfl rfl (by decide) rfl (fun ls hl => ?_)
  refine lv_goto (tgt := 16) hx hb dJ6_stringSize_0f7a4_39 (by decide) ?_
  refine lv_iload_n hx hb dJ6_stringSize_0f7a4_16 rfl (lv_at hl 0 rfl) ?_
  refine lv_bipush (v := 10) hx hb dJ6_stringSize_0f7a4_17 (by decide) ?_
  refine lv_icmp_ge (tgt := 42) hx hb dJ6_stringSize_0f7a4_19 (by decide) (fun z => absurd z (by decide)) (fun z => ?_)
  refine lv_iload_n hx hb dJ6_stringSize_0f7a4_22 rfl (lv_at hl 2 rfl) ?_
  refine lv_iload_n hx hb dJ6_stringSize_0f7a4_23 rfl (lv_at hl 1 rfl) ?_
  refine lv_icmp_le (tgt := 31) hx hb dJ6_stringSize_0f7a4_24 (by decide) (fun z => ?_) (fun z => absurd ((sb_nle (a := v) (b := 100) (by omega) (by omega)).mpr (by omega)) z)
  refine lv_bipush (v := 10) hx hb dJ6_stringSize_0f7a4_31 (by decide) ?_
  refine lv_iload_n hx hb dJ6_stringSize_0f7a4_33 rfl (lv_at hl 1 rfl) ?_
  refine lv_imul hx hb dJ6_stringSize_0f7a4_34 ?_
  refine k_top (y := -1000) (by decide) ?_
  refine lv_istore_n (lv' := [(2, .int (-1000)), (3, .int 2), (0, .int (-nI v)), (1, .int 0)]) hx hb dJ6_stringSize_0f7a4_35 rfl hl (by decide) rfl (fun ls hl => ?_)
  refine lv_iinc (v := 3) (lv' := [(3, .int 3), (2, .int (-1000)), (0, .int (-nI v)), (1, .int 0)]) hx hb dJ6_stringSize_0f7a4_36 hl (k := 1) rfl rfl (by decide) rfl (fun ls hl => ?_)
  refine lv_goto (tgt := 16) hx hb dJ6_stringSize_0f7a4_39 (by decide) ?_
  refine lv_iload_n hx hb dJ6_stringSize_0f7a4_16 rfl (lv_at hl 0 rfl) ?_
  refine lv_bipush (v := 10) hx hb dJ6_stringSize_0f7a4_17 (by decide) ?_
  refine lv_icmp_ge (tgt := 42) hx hb dJ6_stringSize_0f7a4_19 (by decide) (fun z => absurd z (by decide)) (fun z => ?_)
  refine lv_iload_n hx hb dJ6_stringSize_0f7a4_22 rfl (lv_at hl 2 rfl) ?_
  refine lv_iload_n hx hb dJ6_stringSize_0f7a4_23 rfl (lv_at hl 1 rfl) ?_
  refine lv_icmp_le (tgt := 31) hx hb dJ6_stringSize_0f7a4_24 (by decide) (fun z => absurd ((sb_nle (a := v) (b := 1000) (by omega) (by omega)).mp z) (by omega)) (fun z => ?_)
  refine lv_iload_n hx hb dJ6_stringSize_0f7a4_27 rfl (lv_at hl 0 rfl) ?_
  refine lv_iload_n hx hb dJ6_stringSize_0f7a4_28 rfl (lv_at hl 3 rfl) ?_
  refine lv_iadd hx hb dJ6_stringSize_0f7a4_29 ?_
  refine k_top (y := 3) (by decide) ?_
  exact kR_ret C (by rw [(k_dig3 (by omega) hv).1]; rfl) dJ6_stringSize_0f7a4_30
theorem pnJ6_getChars_ba4f3 : yJ6_getChars_ba4f3.cls ≠ "java/lang/invoke/MethodHandle" ∧ yJ6_getChars_ba4f3.cls ≠ "java/lang/invoke/VarHandle" ∧ (parseMethodDescriptor yJ6_getChars_ba4f3.desc).map (fun d => d.parameters.length) = some 3 := by decide +kernel
theorem cs_J6_getChars_ba4f3 : kCst yJ6_getChars_ba4f3 (Cond.code yJ6_getChars_ba4f3 cJ6_getChars_ba4f3 7 (some .int)) := ⟨k_w 6 131 rfl rfl, k_w 2 27 rfl rfl, k_w 6 132 rfl rfl⟩
abbrev wJ6_getChars_ba4f3 : List Cond := Cond.code yJ6_getChars_ba4f3 cJ6_getChars_ba4f3 7 (some .int) :: kW
theorem J6_getChars_ba4f3_c (l : Launch) (g : kG) (q n : Nat) (f : Nat → Int32) (v ix : Nat) (hv : v < 1000) (h1 : sb_dg v ≤ ix) (h2 : ix ≤ n) (hn : n = 16 ∨ n = 34) : kM l yJ6_getChars_ba4f3 wJ6_getChars_ba4f3 0 0 0 0 g [.int (nI v), .int (nI ix), .ref q] [JAW g q n f] (fun r u => ∃ f' : Nat → Int32, r = nI (ix - sb_dg v) ∧ u = [JAW g q n f'] ∧ (∀ j, j < ix - sb_dg v → f' j = f j) ∧ (∀ i, i < sb_dg v → f' (ix - sb_dg v + i) = sb_b (sb_dec v i)) ∧ (sb_Fit f → sb_Fit f')) := by
  refine kM_of (cc := cJ6_getChars_ba4f3) (nL := 7) (ret := (some .int)) (lv := [(0, .int (nI v)), (1, .int (nI ix)), (2, .ref q)]) (by decide) rfl (Nat.le_of_ble_eq_true rfl) rfl ?_
  intro p e s m args below meth c ls A C hP hD hE hA hS hl
  have C : kC p c cJ6_getChars_ba4f3 s m args meth RJ6 g 7 (some .int) := C
  have hx := C.1.1
  have hb := C.1.2.1
  have hts := C.1.2.2.2.2
  refine lv_iload_n hx hb dJ6_getChars_ba4f3_0 rfl (lv_at hl 1 rfl) ?_
  refine lv_istore (lv' := [(5, .int (nI ix)), (0, .int (nI v)), (1, .int (nI ix)), (2, .ref q)]) hx hb dJ6_getChars_ba4f3_1 hl (by decide) rfl (fun ls hl => ?_)
  refine lv_iload_n hx hb dJ6_getChars_ba4f3_3 rfl (lv_at hl 1 rfl) ?_
  refine lv_if_ge (tgt := 11) hx hb dJ6_getChars_ba4f3_4 (by decide) (fun z => ?_) (fun z => absurd (nI_pos' (by omega)) z)
  refine lv_iconst (v := 0) hx hb dJ6_getChars_ba4f3_11 (by decide) ?_
  refine lv_istore (lv' := [(6, .int 0), (5, .int (nI ix)), (0, .int (nI v)), (1, .int (nI ix)), (2, .ref q)]) hx hb dJ6_getChars_ba4f3_12 hl (by decide) rfl (fun ls hl => ?_)
  refine lv_iload hx hb dJ6_getChars_ba4f3_14 (lv_at hl 0 rfl) ?_
  refine lv_if_ne (tgt := 22) hx hb dJ6_getChars_ba4f3_16 (by decide) (fun z => absurd rfl z) (fun z => ?_)
  refine lv_iload_n hx hb dJ6_getChars_ba4f3_19 rfl (lv_at hl 2 rfl) ?_
  refine lv_ineg hx hb dJ6_getChars_ba4f3_20 ?_
  refine lv_istore_n (lv' := [(0, .int (-nI v)), (6, .int 0), (5, .int (nI ix)), (1, .int (nI ix)), (2, .ref q)]) hx hb dJ6_getChars_ba4f3_21 rfl hl (by decide) rfl (fun ls hl => ?_)
  by_cases h10 : v < 10
  · obtain ⟨e1, e2⟩ := k_dig1 h10
    refine lv_iload_n hx hb dJ6_getChars_ba4f3_22 rfl (lv_at hl 0 rfl) ?_
    refine lv_bipush (v := (-100)) hx hb dJ6_getChars_ba4f3_23 (by decide) ?_
    refine lv_icmp_gt (tgt := 72) hx hb dJ6_getChars_ba4f3_25 (by decide) (fun z => ?_) (fun z => absurd ((sb_nlt (a := 100) (b := v) (by omega) (by omega)).mpr (by omega)) z)
    refine lv_aload_n hx hb dJ6_getChars_ba4f3_72 rfl (lv_at hl 4 rfl) ?_
    refine lv_iinc (v := (nI (ix - 1))) (lv' := [(5, .int (nI (ix - 1))), (0, .int (-nI v)), (6, .int 0), (1, .int (nI ix)), (2, .ref q)]) hx hb dJ6_getChars_ba4f3_73 hl (k := 2) rfl (k_dec (by omega)) (by decide) rfl (fun ls hl => ?_)
    refine lv_iload hx hb dJ6_getChars_ba4f3_76 (lv_at hl 0 rfl) ?_
    refine kg_ones C rfl hE hS kw1161 dJ6_getChars_ba4f3_78 ?_
    refine lv_iload_n hx hb dJ6_getChars_ba4f3_81 rfl (lv_at hl 1 rfl) ?_
    refine lv_ineg hx hb dJ6_getChars_ba4f3_82 ?_
    refine kg_onesA C (k := v) Int32.neg_neg (by omega) hE hS dJ6_getChars_ba4f3_83 ?_
    refine kg_bast C hP hD hS (i := 0) (q := 0) (k := ix - 1) (z := sb_b (48 + v % 10)) rfl rfl (by omega) (by omega) rfl (ch' := JAW g q n (upd f (ix - 1) (sb_b (48 + v % 10)))) rfl rfl dJ6_getChars_ba4f3_84 (fun H locs hP hD hS => ?_)
    refine lv_iload_n hx hb dJ6_getChars_ba4f3_85 rfl (lv_at hl 1 rfl) ?_
    refine lv_bipush (v := (-9)) hx hb dJ6_getChars_ba4f3_86 (by decide) ?_
    refine lv_icmp_ge (tgt := 104) hx hb dJ6_getChars_ba4f3_88 (by decide) (fun z => ?_) (fun z => absurd ((sb_nle (a := 9) (b := v) (by omega) (by omega)).mpr (by omega)) z)
    refine lv_iload hx hb dJ6_getChars_ba4f3_104 (lv_at hl 2 rfl) ?_
    refine lv_if_eq (tgt := 118) hx hb dJ6_getChars_ba4f3_106 (by decide) (fun z => ?_) (fun z => absurd rfl z)
    refine lv_iload hx hb dJ6_getChars_ba4f3_118 (lv_at hl 0 rfl) ?_
    refine kM_ret C hP hD hS ⟨_, by rw [e1], rfl, fun j hj => ?_, fun i hi => ?_, fun hf => sb_fitU hf (sb_fitB _)⟩ dJ6_getChars_ba4f3_120
    · rw [e1] at hj
      exact pk_un (by omega)
    · rw [e1] at hi ⊢
      obtain rfl : i = 0 := by omega
      rw [e2]
      exact pk_us
  by_cases h100 : v < 100
  · obtain ⟨e1, e2, e3⟩ := k_dig2 (by omega) h100
    refine lv_iload_n hx hb dJ6_getChars_ba4f3_22 rfl (lv_at hl 0 rfl) ?_
    refine lv_bipush (v := (-100)) hx hb dJ6_getChars_ba4f3_23 (by decide) ?_
    refine lv_icmp_gt (tgt := 72) hx hb dJ6_getChars_ba4f3_25 (by decide) (fun z => ?_) (fun z => absurd ((sb_nlt (a := 100) (b := v) (by omega) (by omega)).mpr (by omega)) z)
    refine lv_aload_n hx hb dJ6_getChars_ba4f3_72 rfl (lv_at hl 4 rfl) ?_
    refine lv_iinc (v := (nI (ix - 1))) (lv' := [(5, .int (nI (ix - 1))), (0, .int (-nI v)), (6, .int 0), (1, .int (nI ix)), (2, .ref q)]) hx hb dJ6_getChars_ba4f3_73 hl (k := 2) rfl (k_dec (by omega)) (by decide) rfl (fun ls hl => ?_)
    refine lv_iload hx hb dJ6_getChars_ba4f3_76 (lv_at hl 0 rfl) ?_
    refine kg_ones C rfl hE hS kw1161 dJ6_getChars_ba4f3_78 ?_
    refine lv_iload_n hx hb dJ6_getChars_ba4f3_81 rfl (lv_at hl 1 rfl) ?_
    refine lv_ineg hx hb dJ6_getChars_ba4f3_82 ?_
    refine kg_onesA C (k := v) Int32.neg_neg (by omega) hE hS dJ6_getChars_ba4f3_83 ?_
    refine kg_bast C hP hD hS (i := 0) (q := 0) (k := ix - 1) (z := sb_b (48 + v % 10)) rfl rfl (by omega) (by omega) rfl (ch' := JAW g q n (upd f (ix - 1) (sb_b (48 + v % 10)))) rfl rfl dJ6_getChars_ba4f3_84 (fun H locs hP hD hS => ?_)
    refine lv_iload_n hx hb dJ6_getChars_ba4f3_85 rfl (lv_at hl 1 rfl) ?_
    refine lv_bipush (v := (-9)) hx hb dJ6_getChars_ba4f3_86 (by decide) ?_
    refine lv_icmp_ge (tgt := 104) hx hb dJ6_getChars_ba4f3_88 (by decide) (fun z => absurd ((sb_nle (a := 9) (b := v) (by omega) (by omega)).mp z) (by omega)) (fun z => ?_)
    refine lv_aload_n hx hb dJ6_getChars_ba4f3_91 rfl (lv_at hl 4 rfl) ?_
    refine lv_iinc (v := (nI (ix - 1 - 1))) (lv' := [(5, .int (nI (ix - 1 - 1))), (0, .int (-nI v)), (6, .int 0), (1, .int (nI ix)), (2, .ref q)]) hx hb dJ6_getChars_ba4f3_92 hl (k := 0) rfl (k_dec (by omega)) (by decide) rfl (fun ls hl => ?_)
    refine lv_iload hx hb dJ6_getChars_ba4f3_95 (lv_at hl 0 rfl) ?_
    refine kg_tens C rfl hE hS kw1163 dJ6_getChars_ba4f3_97 ?_
    refine lv_iload_n hx hb dJ6_getChars_ba4f3_100 rfl (lv_at hl 1 rfl) ?_
    refine lv_ineg hx hb dJ6_getChars_ba4f3_101 ?_
    refine kg_tensA C (k := v) Int32.neg_neg (by omega) hE hS dJ6_getChars_ba4f3_102 ?_
    refine kg_bast C hP hD hS (i := 0) (q := 0) (k := ix - 1 - 1) (z := sb_b (48 + v / 10)) rfl rfl (by omega) (by omega) rfl (ch' := JAW g q n (upd (upd f (ix - 1) (sb_b (48 + v % 10))) (ix - 1 - 1) (sb_b (48 + v / 10)))) rfl rfl dJ6_getChars_ba4f3_103 (fun H locs hP hD hS => ?_)
    refine lv_iload hx hb dJ6_getChars_ba4f3_104 (lv_at hl 2 rfl) ?_
    refine lv_if_eq (tgt := 118) hx hb dJ6_getChars_ba4f3_106 (by decide) (fun z => ?_) (fun z => absurd rfl z)
    refine lv_iload hx hb dJ6_getChars_ba4f3_118 (lv_at hl 0 rfl) ?_
    refine kM_ret C hP hD hS ⟨_, by rw [e1, Nat.sub_sub], rfl, fun j hj => ?_, fun i hi => ?_, fun hf => sb_fitU (sb_fitU hf (sb_fitB _)) (sb_fitB _)⟩ dJ6_getChars_ba4f3_120
    · rw [e1] at hj
      rw [pk_un (by omega), pk_un (by omega)]
    · rw [e1] at hi ⊢
      obtain rfl | rfl : i = 0 ∨ i = 1 := by omega
      · rw [e2, show ix - 2 + 0 = ix - 1 - 1 by omega]
        exact pk_us
      · rw [e3, show ix - 2 + 1 = ix - 1 by omega, pk_un (by omega)]
        exact pk_us
  obtain ⟨e1, e2, e3, e4⟩ := k_dig3 (by omega) hv
  refine lv_iload_n hx hb dJ6_getChars_ba4f3_22 rfl (lv_at hl 0 rfl) ?_
  refine lv_bipush (v := (-100)) hx hb dJ6_getChars_ba4f3_23 (by decide) ?_
  refine lv_icmp_gt (tgt := 72) hx hb dJ6_getChars_ba4f3_25 (by decide) (fun z => absurd ((sb_nlt (a := 100) (b := v) (by omega) (by omega)).mp z) (by omega)) (fun z => ?_)
  refine lv_iload_n hx hb dJ6_getChars_ba4f3_28 rfl (lv_at hl 0 rfl) ?_
  refine lv_bipush (v := 100) hx hb dJ6_getChars_ba4f3_29 (by decide) ?_
  refine lv_idiv hx hb dJ6_getChars_ba4f3_31 (by decide) ?_
  refine k_top (y := -nI (v / 100)) (sb_ndiv (by omega)) ?_
  refine lv_istore_n (lv' := [(3, .int (-nI (v / 100))), (0, .int (-nI v)), (6, .int 0), (5, .int (nI ix)), (1, .int (nI ix)), (2, .ref q)]) hx hb dJ6_getChars_ba4f3_32 rfl hl (by decide) rfl (fun ls hl => ?_)
  refine lv_iload_n hx hb dJ6_getChars_ba4f3_33 rfl (lv_at hl 0 rfl) ?_
  refine lv_bipush (v := 100) hx hb dJ6_getChars_ba4f3_34 (by decide) ?_
  refine lv_imul hx hb dJ6_getChars_ba4f3_36 ?_
  refine lv_iload_n hx hb dJ6_getChars_ba4f3_37 rfl (lv_at hl 1 rfl) ?_
  refine lv_isub hx hb dJ6_getChars_ba4f3_38 ?_
  refine k_top (y := nI (v % 100)) (sb_nrem (by omega)) ?_
  refine lv_istore (lv' := [(4, .int (nI (v % 100))), (3, .int (-nI (v / 100))), (0, .int (-nI v)), (6, .int 0), (5, .int (nI ix)), (1, .int (nI ix)), (2, .ref q)]) hx hb dJ6_getChars_ba4f3_39 hl (by decide) rfl (fun ls hl => ?_)
  refine lv_iload_n hx hb dJ6_getChars_ba4f3_41 rfl (lv_at hl 1 rfl) ?_
  refine lv_istore_n (lv' := [(0, .int (-nI (v / 100))), (4, .int (nI (v % 100))), (3, .int (-nI (v / 100))), (6, .int 0), (5, .int (nI ix)), (1, .int (nI ix)), (2, .ref q)]) hx hb dJ6_getChars_ba4f3_42 rfl hl (by decide) rfl (fun ls hl => ?_)
  refine lv_aload_n hx hb dJ6_getChars_ba4f3_43 rfl (lv_at hl 6 rfl) ?_
  refine lv_iinc (v := (nI (ix - 1))) (lv' := [(5, .int (nI (ix - 1))), (0, .int (-nI (v / 100))), (4, .int (nI (v % 100))), (3, .int (-nI (v / 100))), (6, .int 0), (1, .int (nI ix)), (2, .ref q)]) hx hb dJ6_getChars_ba4f3_44 hl (k := 4) rfl (k_dec (by omega)) (by decide) rfl (fun ls hl => ?_)
  refine lv_iload hx hb dJ6_getChars_ba4f3_47 (lv_at hl 0 rfl) ?_
  refine kg_ones C rfl hE hS kw1161 dJ6_getChars_ba4f3_49 ?_
  refine lv_iload hx hb dJ6_getChars_ba4f3_52 (lv_at hl 2 rfl) ?_
  refine kg_onesA C (k := v % 100) rfl (by omega) hE hS dJ6_getChars_ba4f3_54 ?_
  refine kg_bast C hP hD hS (i := 0) (q := 0) (k := ix - 1) (z := sb_b (48 + v % 100 % 10)) rfl rfl (by omega) (by omega) rfl (ch' := JAW g q n (upd f (ix - 1) (sb_b (48 + v % 100 % 10)))) rfl rfl dJ6_getChars_ba4f3_55 (fun H locs hP hD hS => ?_)
  refine lv_aload_n hx hb dJ6_getChars_ba4f3_56 rfl (lv_at hl 6 rfl) ?_
  refine lv_iinc (v := (nI (ix - 1 - 1))) (lv' := [(5, .int (nI (ix - 1 - 1))), (0, .int (-nI (v / 100))), (4, .int (nI (v % 100))), (3, .int (-nI (v / 100))), (6, .int 0), (1, .int (nI ix)), (2, .ref q)]) hx hb dJ6_getChars_ba4f3_57 hl (k := 0) rfl (k_dec (by omega)) (by decide) rfl (fun ls hl => ?_)
  refine lv_iload hx hb dJ6_getChars_ba4f3_60 (lv_at hl 0 rfl) ?_
  refine kg_tens C rfl hE hS kw1163 dJ6_getChars_ba4f3_62 ?_
  refine lv_iload hx hb dJ6_getChars_ba4f3_65 (lv_at hl 2 rfl) ?_
  refine kg_tensA C (k := v % 100) rfl (by omega) hE hS dJ6_getChars_ba4f3_67 ?_
  refine kg_bast C hP hD hS (i := 0) (q := 0) (k := ix - 1 - 1) (z := sb_b (48 + v % 100 / 10)) rfl rfl (by omega) (by omega) rfl (ch' := JAW g q n (upd (upd f (ix - 1) (sb_b (48 + v % 100 % 10))) (ix - 1 - 1) (sb_b (48 + v % 100 / 10)))) rfl rfl dJ6_getChars_ba4f3_68 (fun H locs hP hD hS => ?_)
  refine lv_goto (tgt := 22) hx hb dJ6_getChars_ba4f3_69 (by decide) ?_
  refine lv_iload_n hx hb dJ6_getChars_ba4f3_22 rfl (lv_at hl 1 rfl) ?_
  refine lv_bipush (v := (-100)) hx hb dJ6_getChars_ba4f3_23 (by decide) ?_
  refine lv_icmp_gt (tgt := 72) hx hb dJ6_getChars_ba4f3_25 (by decide) (fun z => ?_) (fun z => absurd ((sb_nlt (a := 100) (b := v / 100) (by omega) (by omega)).mpr (by omega)) z)
  refine lv_aload_n hx hb dJ6_getChars_ba4f3_72 rfl (lv_at hl 6 rfl) ?_
  refine lv_iinc (v := (nI (ix - 1 - 1 - 1))) (lv' := [(5, .int (nI (ix - 1 - 1 - 1))), (0, .int (-nI (v / 100))), (4, .int (nI (v % 100))), (3, .int (-nI (v / 100))), (6, .int 0), (1, .int (nI ix)), (2, .ref q)]) hx hb dJ6_getChars_ba4f3_73 hl (k := 0) rfl (k_dec (by omega)) (by decide) rfl (fun ls hl => ?_)
  refine lv_iload hx hb dJ6_getChars_ba4f3_76 (lv_at hl 0 rfl) ?_
  refine kg_ones C rfl hE hS kw1161 dJ6_getChars_ba4f3_78 ?_
  refine lv_iload_n hx hb dJ6_getChars_ba4f3_81 rfl (lv_at hl 1 rfl) ?_
  refine lv_ineg hx hb dJ6_getChars_ba4f3_82 ?_
  refine kg_onesA C (k := v / 100) Int32.neg_neg (by omega) hE hS dJ6_getChars_ba4f3_83 ?_
  refine kg_bast C hP hD hS (i := 0) (q := 0) (k := ix - 1 - 1 - 1) (z := sb_b (48 + v / 100 % 10)) rfl rfl (by omega) (by omega) rfl (ch' := JAW g q n (upd (upd (upd f (ix - 1) (sb_b (48 + v % 100 % 10))) (ix - 1 - 1) (sb_b (48 + v % 100 / 10))) (ix - 1 - 1 - 1) (sb_b (48 + v / 100 % 10)))) rfl rfl dJ6_getChars_ba4f3_84 (fun H locs hP hD hS => ?_)
  refine lv_iload_n hx hb dJ6_getChars_ba4f3_85 rfl (lv_at hl 1 rfl) ?_
  refine lv_bipush (v := (-9)) hx hb dJ6_getChars_ba4f3_86 (by decide) ?_
  refine lv_icmp_ge (tgt := 104) hx hb dJ6_getChars_ba4f3_88 (by decide) (fun z => ?_) (fun z => absurd ((sb_nle (a := 9) (b := v / 100) (by omega) (by omega)).mpr (by omega)) z)
  refine lv_iload hx hb dJ6_getChars_ba4f3_104 (lv_at hl 4 rfl) ?_
  refine lv_if_eq (tgt := 118) hx hb dJ6_getChars_ba4f3_106 (by decide) (fun z => ?_) (fun z => absurd rfl z)
  refine lv_iload hx hb dJ6_getChars_ba4f3_118 (lv_at hl 0 rfl) ?_
  refine kM_ret C hP hD hS ⟨_, by rw [e1, Nat.sub_sub, Nat.sub_sub], rfl, fun j hj => ?_, fun i hi => ?_, fun hf => sb_fitU (sb_fitU (sb_fitU hf (sb_fitB _)) (sb_fitB _)) (sb_fitB _)⟩ dJ6_getChars_ba4f3_120
  · rw [e1] at hj
    rw [pk_un (by omega), pk_un (by omega), pk_un (by omega)]
  · rw [e1] at hi ⊢
    obtain rfl | rfl | rfl : i = 0 ∨ i = 1 ∨ i = 2 := by omega
    · rw [e2, show ix - 3 + 0 = ix - 1 - 1 - 1 by omega]
      exact pk_us
    · rw [e3, show ix - 3 + 1 = ix - 1 - 1 by omega, pk_un (by omega)]
      exact pk_us
    · rw [e4, show ix - 3 + 2 = ix - 1 by omega, pk_un (by omega), pk_un (by omega)]
      exact pk_us
theorem pnJ5_append_c97b9 : yJ5_append_c97b9.cls ≠ "java/lang/invoke/MethodHandle" ∧ yJ5_append_c97b9.cls ≠ "java/lang/invoke/VarHandle" ∧ (parseMethodDescriptor yJ5_append_c97b9.desc).map (fun d => d.parameters.length) = some 1 := by decide +kernel
abbrev wJ5_append_c97b9 : List Cond := Cond.code yJ5_append_c97b9 cJ5_append_c97b9 4 (some (.object "java/lang/AbstractStringBuilder")) :: kW
theorem J5_append_c97b9_c (l : Launch) (g : kG) (o q n : Nat) (ml : Int32) (f : Nat → Int32) (t : Nat → Nat) (k : Nat) (hn : n = 16 ∨ n = 34) (hk : k ≤ n) (hf : sb_Fit f) (hL : sb_Lat t k f) (v : Nat) (hv : v < 1000) (h34 : k + sb_dg v ≤ 34) : kA l yJ5_append_c97b9 wJ5_append_c97b9 4 240 1 34 g [.ref o, .int (nI v)] [JOW o q ml (nI k), JAW g q n f] (fun _ u => ∃ (q' n' : Nat) (ml' : Int32) (f' : Nat → Int32), u = [JOW o q' ml' (nI (k + sb_dg v)), JAW g q' n' f'] ∧ (n' = 16 ∨ n' = 34) ∧ k + sb_dg v ≤ n' ∧ sb_Fit f' ∧ sb_Lat (sb_cat t k (sb_dec v)) (k + sb_dg v) f') := by
  refine kA_of (cc := cJ5_append_c97b9) (nL := 4) (ret := (some (.object "java/lang/AbstractStringBuilder"))) (lv := [(0, .ref o), (1, .int (nI v))]) (by decide) rfl (Nat.le_of_ble_eq_true rfl) rfl ?_
  intro p e s m args below meth c ls A C hP hD hE hA hS hl
  have C : kC p c cJ5_append_c97b9 s m args meth RJ5 g 4 (some (.object "java/lang/AbstractStringBuilder")) := C
  have hx := C.1.1
  have hb := C.1.2.1
  have hts := C.1.2.2.2.2
  refine lv_aload_n hx hb dJ5_append_c97b9_0 rfl (lv_at hl 0 rfl) ?_
  refine kg_get C kFJ4 (k := 3) kw290 hP (i := 0) (q := 0) rfl rfl (by decide) rfl dJ5_append_c97b9_1 ?_
  refine lv_istore_n (lv' := [(2, .int (nI k)), (0, .ref o), (1, .int (nI v))]) hx hb dJ5_append_c97b9_4 rfl hl (by decide) rfl (fun ls hl => ?_)
  refine lv_iload_n hx hb dJ5_append_c97b9_5 rfl (lv_at hl 0 rfl) ?_
  refine lv_iload_n hx hb dJ5_append_c97b9_6 rfl (lv_at hl 2 rfl) ?_
  refine kR_S (As := [.int (nI v)]) (rest := [.int (nI k)]) C (J6_stringSize_0f7a4_c l g v hv) (va_cwS 1 hts (k_gS kw1155 cs_J6_stringSize_0f7a4) rfl rfl rfl pnJ6_stringSize_0f7a4 ⟨Nat.le_of_ble_eq_true rfl, Nat.le_of_ble_eq_true rfl⟩) hE hS (hP.pick [] rfl) rfl hl.1 rfl rfl dJ5_append_c97b9_7 ⟨Nat.le_of_ble_eq_true rfl, Nat.le_of_ble_eq_true rfl⟩ ?_
  refine lv_iadd hx hb dJ5_append_c97b9_10 ?_
  refine k_top (y := nI (k + sb_dg v)) (nI_add k (sb_dg v)) ?_
  refine lv_istore_n (lv' := [(3, .int (nI (k + sb_dg v))), (2, .int (nI k)), (0, .ref o), (1, .int (nI v))]) hx hb dJ5_append_c97b9_11 rfl hl (by decide) rfl (fun ls hl => ?_)
  refine lv_aload_n hx hb dJ5_append_c97b9_12 rfl (lv_at hl 2 rfl) ?_
  refine lv_iload_n hx hb dJ5_append_c97b9_13 rfl (lv_at hl 0 rfl) ?_
  refine kV_V (As := [.int (nI (k + sb_dg v))]) (rest := []) (wr := []) C (J5_ensureCapacityInternal_d00df_c l g o q n ml (nI k) f (k + sb_dg v) hn (by omega) hf) (k_cwSB 1 hts kw1062 kw1064 kw1 kw74 kw1065 pnJ5_ensureCapacityInternal_d00df ⟨Nat.le_of_ble_eq_true rfl, Nat.le_of_ble_eq_true rfl⟩) hE hS hA hP hD [0, 1] [] rfl rfl ⟨rfl, rfl, by decide⟩ (k_recv C kFJ4 hP (i := 0) (q := 0) rfl rfl) rfl hl.1 rfl rfl dJ5_append_c97b9_14 ⟨Nat.le_of_ble_eq_true rfl, Nat.le_of_ble_eq_true rfl⟩ (fun u H locs hp hP hD hS => ?_)
  obtain ⟨q1, n1, f1, rfl, hn1, hx1, hnn, hf1, hk1⟩ := hp
  have hP : kp g [JOW o q1 ml (nI k), JAW g q1 n1 f1] H := hP
  have hD : kd A [JOW o q1 ml (nI k), JAW g q1 n1 f1] := hD
  refine lv_aload_n hx hb dJ5_append_c97b9_17 rfl (lv_at hl 2 rfl) ?_
  refine kR_V (As := []) (rest := []) C (J5_isLatin1_aae02_c l g o q1 ml (nI k)) (k_cwSB 0 hts kw1093 kw1094 kw1096 kw74 kw1097 pnJ5_isLatin1_aae02 ⟨Nat.le_of_ble_eq_true rfl, Nat.le_of_ble_eq_true rfl⟩) hE hS (hP.pick [0] rfl) (k_recv C kFJ4 hP (i := 0) (q := 0) rfl rfl) rfl hl.1 rfl rfl dJ5_append_c97b9_18 ⟨Nat.le_of_ble_eq_true rfl, Nat.le_of_ble_eq_true rfl⟩ ?_
  refine lv_if_eq (tgt := 37) hx hb dJ5_append_c97b9_21 (by decide) (fun z => absurd z (by decide)) (fun z => ?_)
  refine lv_iload_n hx hb dJ5_append_c97b9_24 rfl (lv_at hl 3 rfl) ?_
  refine lv_iload_n hx hb dJ5_append_c97b9_25 rfl (lv_at hl 0 rfl) ?_
  refine lv_aload_n hx hb dJ5_append_c97b9_26 rfl (lv_at hl 2 rfl) ?_
  refine kg_get C kFJ4 (k := 0) kw286 hP (i := 0) (q := 0) rfl rfl (by decide) rfl dJ5_append_c97b9_27 ?_
  refine kM_S (As := [.int (nI v), .int (nI (k + sb_dg v)), .ref q1]) (rest := []) (wr := [JOW o q1 ml (nI k)]) C (J6_getChars_ba4f3_c l g q1 n1 f1 v (k + sb_dg v) hv (by omega) (by omega) hn1) (va_cwS 3 hts (k_gS kw1158 cs_J6_getChars_ba4f3) rfl rfl rfl pnJ6_getChars_ba4f3 ⟨Nat.le_of_ble_eq_true rfl, Nat.le_of_ble_eq_true rfl⟩) hE hS hA hP hD [1] [0] rfl rfl ⟨rfl, rfl, by decide⟩ rfl hl.1 rfl rfl dJ5_append_c97b9_30 ⟨Nat.le_of_ble_eq_true rfl, Nat.le_of_ble_eq_true rfl⟩ (fun r u H locs hp hP hD hS => ?_)
  obtain ⟨f2, rfl, rfl, hlo, hhi, hfit⟩ := hp
  rw [Nat.add_sub_cancel] at hlo hhi
  have hP : kp g [JOW o q1 ml (nI k), JAW g q1 n1 f2] H := hP
  have hD : kd A [JOW o q1 ml (nI k), JAW g q1 n1 f2] := hD
  refine lv_pop hx hb dJ5_append_c97b9_33 rfl ?_
  refine lv_goto (tgt := 48) hx hb dJ5_append_c97b9_34 (by decide) ?_
  refine lv_aload_n hx hb dJ5_append_c97b9_48 rfl (lv_at hl 2 rfl) ?_
  refine lv_iload_n hx hb dJ5_append_c97b9_49 rfl (lv_at hl 0 rfl) ?_
  refine kg_put C kFJ4 (k := 3) kw290 hP hD hS (i := 0) (q := 0) rfl rfl (by decide) rfl rfl rfl (Nat.le_of_ble_eq_true rfl) JOs_3 rfl dJ5_append_c97b9_50 (fun H locs hP hD hS => ?_)
  have hP : kp g [JOW o q1 ml (nI (k + sb_dg v)), JAW g q1 n1 f2] H := hP
  have hD : kd A [JOW o q1 ml (nI (k + sb_dg v)), JAW g q1 n1 f2] := hD
  refine lv_aload_n hx hb dJ5_append_c97b9_53 rfl (lv_at hl 2 rfl) ?_
  exact kA_ret C (Or.inl ⟨_, rfl⟩) hP hD hS ⟨q1, n1, ml, f2, rfl, hn1, hx1, hfit hf1, sb_latPut hL (fun j hj => (hlo j hj).trans (hk1 j (by omega))) (fun i hi => ⟨by unfold sb_dec; omega, hhi i hi⟩)⟩ ⟨Nat.le_refl _, Nat.le_refl _⟩ dJ5_append_c97b9_54
theorem pnJ4_append_bf812 : yJ4_append_bf812.cls ≠ "java/lang/invoke/MethodHandle" ∧ yJ4_append_bf812.cls ≠ "java/lang/invoke/VarHandle" ∧ (parseMethodDescriptor yJ4_append_bf812.desc).map (fun d => d.parameters.length) = some 1 := by decide +kernel
theorem ca_J4_append_bf812 : kCal yJ4_append_bf812 (Cond.code yJ4_append_bf812 cJ4_append_bf812 2 (some (.object "java/lang/StringBuilder"))) := ⟨k_w 6 121 rfl rfl, k_w 6 122 rfl rfl, k_w 2 7 rfl rfl, k_w 6 123 rfl rfl⟩
abbrev wJ4_append_bf812 : List Cond := Cond.code yJ4_append_bf812 cJ4_append_bf812 2 (some (.object "java/lang/StringBuilder")) :: kW
theorem J4_append_bf812_c (l : Launch) (g : kG) (o q n : Nat) (ml : Int32) (f : Nat → Int32) (t : Nat → Nat) (k : Nat) (hn : n = 16 ∨ n = 34) (hk : k ≤ n) (hf : sb_Fit f) (hL : sb_Lat t k f) (v : Nat) (hv : v < 1000) (h34 : k + sb_dg v ≤ 34) : kA l yJ4_append_bf812 wJ4_append_bf812 5 300 1 34 g [.ref o, .int (nI v)] [JOW o q ml (nI k), JAW g q n f] (fun _ u => ∃ (q' n' : Nat) (ml' : Int32) (f' : Nat → Int32), u = [JOW o q' ml' (nI (k + sb_dg v)), JAW g q' n' f'] ∧ (n' = 16 ∨ n' = 34) ∧ k + sb_dg v ≤ n' ∧ sb_Fit f' ∧ sb_Lat (sb_cat t k (sb_dec v)) (k + sb_dg v) f') := by
  refine kA_of (cc := cJ4_append_bf812) (nL := 2) (ret := (some (.object "java/lang/StringBuilder"))) (lv := [(0, .ref o), (1, .int (nI v))]) (by decide) rfl (Nat.le_of_ble_eq_true rfl) rfl ?_
  intro p e s m args below meth c ls A C hP hD hE hA hS hl
  have C : kC p c cJ4_append_bf812 s m args meth RJ4 g 2 (some (.object "java/lang/StringBuilder")) := C
  have hx := C.1.1
  have hb := C.1.2.1
  have hts := C.1.2.2.2.2
  refine lv_aload_n hx hb dJ4_append_bf812_0 rfl (lv_at hl 0 rfl) ?_
  refine lv_iload_n hx hb dJ4_append_bf812_1 rfl (lv_at hl 1 rfl) ?_
  refine kA_SU (As := [.int (nI v)]) (rest := []) (wr := []) C (J5_append_c97b9_c l g o q n ml f t k hn hk hf hL v hv h34) (k_cwSU 1 hts kw1152 kw1480 kw299 kw1153 kw74 kw1154 ⟨by decide +kernel, pnJ5_append_c97b9.2.2⟩ ⟨Nat.le_of_ble_eq_true rfl, Nat.le_of_ble_eq_true rfl⟩) hE hS hA hP hD [0, 1] [] rfl rfl ⟨rfl, rfl, by decide⟩ (k_recv C kFJ4 hP (i := 0) (q := 0) rfl rfl) rfl hl.1 rfl rfl dJ4_append_bf812_2 ⟨Nat.le_of_ble_eq_true rfl, Nat.le_of_ble_eq_true rfl⟩ (fun ra u H locs hp hP hD hS => ?_)
  refine lv_pop hx hb dJ4_append_bf812_5 rfl ?_
  refine lv_aload_n hx hb dJ4_append_bf812_6 rfl (lv_at hl 0 rfl) ?_
  exact kA_ret C (Or.inl ⟨_, rfl⟩) hP hD hS hp ⟨Nat.le_refl _, Nat.le_refl _⟩ dJ4_append_bf812_7
