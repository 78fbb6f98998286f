def k_ch (i : Nat) (x : Int32) : Int32 := ((((k_fb.getD i []).getD x.toNatClampNeg 0) &&& 255).toUInt32 % 65536).toInt32
theorem k_ch_nar (i : Nat) (x : Int32) : narrow .char (.int (k_ch i x)) = .int (k_ch i x) := by
  unfold k_ch
  rw [sc_c2]
  exact sc_nar _
theorem k_shr0 (i : Nat) (hi : i < 5) : nI (k_fl.getD i 0) >>> ((0 : Int32) &&& 31) = nI (k_fl.getD i 0) := (by decide : ∀ i, i < 5 → nI (k_fl.getD i 0) >>> ((0 : Int32) &&& 31) = nI (k_fl.getD i 0)) i hi
theorem k_fl5 (i : Nat) (hi : i < 5) : k_fl.getD i 0 ≤ 5 := (by decide : ∀ i, i < 5 → k_fl.getD i 0 ≤ 5) i hi
theorem k_inlt (i : Nat) (hi : i < 5) {x : Int32} (h : vp_in x (k_fl.getD i 0)) : x < nI (k_fl.getD i 0) := by
  have h5 := k_fl5 i hi
  obtain ⟨j, hj, rfl⟩ := vp_in_of h (by omega)
  exact (nI_ltI (by omega) (by omega)).mpr hj
theorem kw900 : Cond.methodLink RJ0 335 yJ0_coder_7d493 ∈ kW := k_w 5 112 rfl rfl
theorem kw904 : Cond.fieldLink RJ0 38 "java/lang/String" "COMPACT_STRINGS" "Z" ∈ kW := k_w 5 116 rfl rfl
theorem kw909 : Cond.methodLink RJ0 492 yJ0_isLatin1_aae02 ∈ kW := k_w 5 121 rfl rfl
theorem kw913 : Cond.methodLink RJ0 495 yJ1_charAt_3b067 ∈ kW := k_w 5 125 rfl rfl
theorem kw916 : Cond.methodLink RJ1 9 yJ0_checkIndex_df160 ∈ kW := k_w 5 128 rfl rfl
theorem kw919 : Cond.fieldLink RJ0 1053 "jdk/internal/util/Preconditions" "SIOOBE_FORMATTER" "Ljava/util/function/BiFunction;" ∈ kW := k_w 5 131 rfl rfl
theorem kw921 : Cond.methodLink RJ0 1059 yJ3_checkIndex_8e157 ∈ kW := k_w 5 133 rfl rfl
theorem kw1226 : Cond.fieldLink RJ0 9 "java/lang/String" "value" "[B" ∈ kW := k_w 6 198 rfl rfl
theorem kw1227 : Cond.fieldLink RJ0 15 "java/lang/String" "coder" "B" ∈ kW := k_w 6 199 rfl rfl
abbrev wJ0_coder_7d493 : List Cond := Cond.code yJ0_coder_7d493 cJ0_coder_7d493 1 (some .byte) :: kW
theorem J0_coder_7d493_c (l : Launch) (g : kG) (i : Nat) (hi : i < 5) : kR l yJ0_coder_7d493 wJ0_coder_7d493 0 0 g [.ref (g.2.2 (50 + i))] [] 0 := by
  refine kR_of (cc := cJ0_coder_7d493) (nL := 1) (ret := (some .byte)) (lv := [(0, .ref (g.2.2 (50 + i)))]) (by decide) rfl (Nat.le_of_ble_eq_true rfl) rfl ?_
  intro p e s m args below meth c ls C hP hE hl
  have hS : va_S (fun _ => False) s.heap s.heap [] := va_S.rf
  have C : kC p c cJ0_coder_7d493 s m args meth RJ0 g 1 (some .byte) := C
  have hx := C.1.1
  have hb := C.1.2.1
  have hts := C.1.2.2.2.2
  refine kg_compact C rfl hE hS kw904 dJ0_coder_7d493_0 ?_
  refine lv_if_eq (tgt := 13) hx hb dJ0_coder_7d493_3 (by decide) (fun z => absurd z (by decide)) (fun _ => ?_)
  refine lv_aload_n hx hb dJ0_coder_7d493_6 rfl (lv_at hl 0 rfl) ?_
  refine kg_scod C i hi hE hS kw1227 dJ0_coder_7d493_7 ?_
  refine lv_goto (tgt := 14) hx hb dJ0_coder_7d493_10 (by decide) ?_
  exact kR_zret C rfl rfl dJ0_coder_7d493_14

abbrev wJ0_isLatin1_aae02 : List Cond := Cond.code yJ0_isLatin1_aae02 cJ0_isLatin1_aae02 1 (some .boolean) :: kW
theorem J0_isLatin1_aae02_c (l : Launch) (g : kG) (i : Nat) (hi : i < 5) : kR l yJ0_isLatin1_aae02 wJ0_isLatin1_aae02 0 0 g [.ref (g.2.2 (50 + i))] [] 1 := by
  refine kR_of (cc := cJ0_isLatin1_aae02) (nL := 1) (ret := (some .boolean)) (lv := [(0, .ref (g.2.2 (50 + i)))]) (by decide) rfl (Nat.le_of_ble_eq_true rfl) rfl ?_
  intro p e s m args below meth c ls C hP hE hl
  have hS : va_S (fun _ => False) s.heap s.heap [] := va_S.rf
  have C : kC p c cJ0_isLatin1_aae02 s m args meth RJ0 g 1 (some .boolean) := C
  have hx := C.1.1
  have hb := C.1.2.1
  have hts := C.1.2.2.2.2
  refine kg_compact C rfl hE hS kw904 dJ0_isLatin1_aae02_0 ?_
  refine lv_if_eq (tgt := 17) hx hb dJ0_isLatin1_aae02_3 (by decide) (fun z => absurd z (by decide)) (fun _ => ?_)
  refine lv_aload_n hx hb dJ0_isLatin1_aae02_6 rfl (lv_at hl 0 rfl) ?_
  refine kg_scod C i hi hE hS kw1227 dJ0_isLatin1_aae02_7 ?_
  refine lv_if_ne (tgt := 17) hx hb dJ0_isLatin1_aae02_10 (by decide) (fun z => absurd rfl z) (fun _ => ?_)
  refine lv_iconst (v := 1) hx hb dJ0_isLatin1_aae02_13 (by decide) ?_
  refine lv_goto (tgt := 18) hx hb dJ0_isLatin1_aae02_14 (by decide) ?_
  exact kR_zret C rfl rfl dJ0_isLatin1_aae02_18

theorem pnJ0_coder_7d493 : yJ0_coder_7d493.cls ≠ "java/lang/invoke/MethodHandle" ∧ yJ0_coder_7d493.cls ≠ "java/lang/invoke/VarHandle" ∧ (parseMethodDescriptor yJ0_coder_7d493.desc).map (fun d => d.parameters.length) = some 0 := by decide +kernel
theorem ca_J0_coder_7d493 : kCal yJ0_coder_7d493 (Cond.code yJ0_coder_7d493 cJ0_coder_7d493 1 (some .byte)) := ⟨k_w 5 113 rfl rfl, k_w 5 114 rfl rfl, k_w 2 8 rfl rfl, k_w 5 115 rfl rfl⟩
abbrev wJ0_length_8abf5 : List Cond := Cond.code yJ0_length_8abf5 cJ0_length_8abf5 1 (some .int) :: kW
theorem J0_length_8abf5_c (l : Launch) (g : kG) (i : Nat) (hi : i < 5) : kR l yJ0_length_8abf5 wJ0_length_8abf5 1 20 g [.ref (g.2.2 (50 + i))] [] (nI (k_fl.getD i 0)) := by
  refine kR_of (cc := cJ0_length_8abf5) (nL := 1) (ret := (some .int)) (lv := [(0, .ref (g.2.2 (50 + i)))]) (by decide) rfl (Nat.le_of_ble_eq_true rfl) rfl ?_
  intro p e s m args below meth c ls C hP hE hl
  have hS : va_S (fun _ => False) s.heap s.heap [] := va_S.rf
  have C : kC p c cJ0_length_8abf5 s m args meth RJ0 g 1 (some .int) := C
  have hx := C.1.1
  have hb := C.1.2.1
  have hts := C.1.2.2.2.2
  refine lv_aload_n hx hb dJ0_length_8abf5_0 rfl (lv_at hl 0 rfl) ?_
  refine kg_sval C i hi hE hS kw1226 dJ0_length_8abf5_1 ?_
  refine kg_slen C i hi hE hS dJ0_length_8abf5_4 ?_
  refine lv_aload_n hx hb dJ0_length_8abf5_5 rfl (lv_at hl 0 rfl) ?_
  refine kR_V (As := []) (rest := [.int (nI (k_fl.getD i 0))]) C (J0_coder_7d493_c l g i hi) (cwV 0 hts (k_gV kw900 ca_J0_coder_7d493) rfl rfl rfl ⟨rfl, pnJ0_coder_7d493⟩ ⟨Nat.le_of_ble_eq_true rfl, Nat.le_of_ble_eq_true rfl⟩) hE hS (hP.pick [] rfl) (k_srecv hi hE hS) rfl hl.1 rfl rfl dJ0_length_8abf5_6 ⟨Nat.le_of_ble_eq_true rfl, Nat.le_of_ble_eq_true rfl⟩ ?_
  refine lv_ishr hx hb dJ0_length_8abf5_9 ?_
  exact kR_ret C (k_shr0 i hi) dJ0_length_8abf5_10

abbrev wJ3_checkIndex_8e157 : List Cond := Cond.code yJ3_checkIndex_8e157 cJ3_checkIndex_8e157 3 (some .int) :: kW
theorem J3_checkIndex_8e157_c (l : Launch) (g : kG) (x y : Int32) (z : Value) (hz : lv_args 0 [.int x, .int y, z] = [(0, .int x), (1, .int y), (2, z)]) (hs : (lg_sl [.int x, .int y, z]).length ≤ 3) (h1 : ¬ x < 0) (h2 : x < y) : kR l yJ3_checkIndex_8e157 wJ3_checkIndex_8e157 0 0 g [.int x, .int y, z] [] x := by
  refine kR_of (cc := cJ3_checkIndex_8e157) (nL := 3) (ret := (some .int)) (lv := [(0, .int x), (1, .int y), (2, z)]) (by decide) rfl hs hz ?_
  intro p e s m args below meth c ls C hP hE hl
  have hS : va_S (fun _ => False) s.heap s.heap [] := va_S.rf
  have C : kC p c cJ3_checkIndex_8e157 s m args meth RJ3 g 3 (some .int) := C
  have hx := C.1.1
  have hb := C.1.2.1
  have hts := C.1.2.2.2.2
  refine lv_iload_n hx hb dJ3_checkIndex_8e157_0 rfl (lv_at hl 0 rfl) ?_
  refine lv_if_lt (tgt := 9) hx hb dJ3_checkIndex_8e157_1 (by decide) (fun z => absurd z h1) (fun _ => ?_)
  refine lv_iload_n hx hb dJ3_checkIndex_8e157_4 rfl (lv_at hl 0 rfl) ?_
  refine lv_iload_n hx hb dJ3_checkIndex_8e157_5 rfl (lv_at hl 1 rfl) ?_
  refine lv_icmp_lt (tgt := 16) hx hb dJ3_checkIndex_8e157_6 (by decide) (fun _ => ?_) (fun z => absurd h2 z)
  refine lv_iload_n hx hb dJ3_checkIndex_8e157_16 rfl (lv_at hl 0 rfl) ?_
  exact kR_ret C rfl dJ3_checkIndex_8e157_17

theorem pnJ3_checkIndex_8e157 : yJ3_checkIndex_8e157.cls ≠ "java/lang/invoke/MethodHandle" ∧ yJ3_checkIndex_8e157.cls ≠ "java/lang/invoke/VarHandle" ∧ (parseMethodDescriptor yJ3_checkIndex_8e157.desc).map (fun d => d.parameters.length) = some 3 := by decide +kernel
theorem cs_J3_checkIndex_8e157 : kCst yJ3_checkIndex_8e157 (Cond.code yJ3_checkIndex_8e157 cJ3_checkIndex_8e157 3 (some .int)) := ⟨k_w 5 134 rfl rfl, k_w 2 19 rfl rfl, k_w 5 135 rfl rfl⟩
abbrev wJ0_checkIndex_df160 : List Cond := Cond.code yJ0_checkIndex_df160 cJ0_checkIndex_df160 2 none :: kW
theorem J0_checkIndex_df160_c (l : Launch) (g : kG) (x y : Int32) (h1 : ¬ x < 0) (h2 : x < y) : kO l yJ0_checkIndex_df160 wJ0_checkIndex_df160 1 22 g [.int x, .int y] [] none := by
  refine kO_of (cc := cJ0_checkIndex_df160) (nL := 2) (ret := none) (lv := [(0, .int x), (1, .int y)]) (by decide) rfl (Nat.le_of_ble_eq_true rfl) rfl ?_
  intro p e s m args below meth c ls C hP hE hl
  have hS : va_S (fun _ => False) s.heap s.heap [] := va_S.rf
  have C : kC p c cJ0_checkIndex_df160 s m args meth RJ0 g 2 none := C
  have hx := C.1.1
  have hb := C.1.2.1
  have hts := C.1.2.2.2.2
  refine lv_iload_n hx hb dJ0_checkIndex_df160_0 rfl (lv_at hl 0 rfl) ?_
  refine lv_iload_n hx hb dJ0_checkIndex_df160_1 rfl (lv_at hl 1 rfl) ?_
  refine kg_fmt C hE hS kw919 dJ0_checkIndex_df160_2 ?_
  refine kR_S (As := [.int x, .int y, kFm g]) (rest := []) C (J3_checkIndex_8e157_c l g x y (kFm g) (k_fmA g x y) (k_fmS g x y) h1 h2) (va_cwS 3 hts (k_gS kw921 cs_J3_checkIndex_8e157) rfl rfl rfl pnJ3_checkIndex_8e157 ⟨Nat.le_of_ble_eq_true rfl, Nat.le_of_ble_eq_true rfl⟩) hE hS (hP.pick [] rfl) rfl hl.1 rfl rfl dJ0_checkIndex_df160_5 ⟨Nat.le_of_ble_eq_true rfl, Nat.le_of_ble_eq_true rfl⟩ ?_
  refine lv_pop hx hb dJ0_checkIndex_df160_8 rfl ?_
  exact kO_vret C dJ0_checkIndex_df160_9

theorem pnJ0_checkIndex_df160 : yJ0_checkIndex_df160.cls ≠ "java/lang/invoke/MethodHandle" ∧ yJ0_checkIndex_df160.cls ≠ "java/lang/invoke/VarHandle" ∧ (parseMethodDescriptor yJ0_checkIndex_df160.desc).map (fun d => d.parameters.length) = some 2 := by decide +kernel
theorem cs_J0_checkIndex_df160 : kCst yJ0_checkIndex_df160 (Cond.code yJ0_checkIndex_df160 cJ0_checkIndex_df160 2 none) := ⟨k_w 5 129 rfl rfl, k_w 2 8 rfl rfl, k_w 5 130 rfl rfl⟩
abbrev wJ1_charAt_3b067 : List Cond := Cond.code yJ1_charAt_3b067 cJ1_charAt_3b067 2 (some .char) :: kW
theorem J1_charAt_3b067_c (l : Launch) (g : kG) (i : Nat) (hi : i < 5) (x : Int32) (hin : vp_in x (k_fl.getD i 0)) : kR l yJ1_charAt_3b067 wJ1_charAt_3b067 2 43 g [.ref (g.2.2 (60 + i)), .int x] [] (k_ch i x) := by
  refine kR_of (cc := cJ1_charAt_3b067) (nL := 2) (ret := (some .char)) (lv := [(0, .ref (g.2.2 (60 + i))), (1, .int x)]) (by decide) rfl (Nat.le_of_ble_eq_true rfl) rfl ?_
  intro p e s m args below meth c ls C hP hE hl
  have hS : va_S (fun _ => False) s.heap s.heap [] := va_S.rf
  have C : kC p c cJ1_charAt_3b067 s m args meth RJ1 g 2 (some .char) := C
  have hx := C.1.1
  have hb := C.1.2.1
  have hts := C.1.2.2.2.2
  refine lv_iload_n hx hb dJ1_charAt_3b067_0 rfl (lv_at hl 1 rfl) ?_
  refine lv_aload_n hx hb dJ1_charAt_3b067_1 rfl (lv_at hl 0 rfl) ?_
  refine kg_slen C i hi hE hS dJ1_charAt_3b067_2 ?_
  refine kO_S (As := [.int x, .int (nI (k_fl.getD i 0))]) (rest := []) C (J0_checkIndex_df160_c l g x (nI (k_fl.getD i 0)) (fun h => hin (Or.inl h)) (k_inlt i hi hin)) (va_cwS 2 hts (k_gS kw916 cs_J0_checkIndex_df160) rfl rfl rfl pnJ0_checkIndex_df160 ⟨Nat.le_of_ble_eq_true rfl, Nat.le_of_ble_eq_true rfl⟩) hE hS (hP.pick [] rfl) rfl hl.1 rfl rfl dJ1_charAt_3b067_3 ⟨Nat.le_of_ble_eq_true rfl, Nat.le_of_ble_eq_true rfl⟩ ?_
  refine lv_aload_n hx hb dJ1_charAt_3b067_6 rfl (lv_at hl 0 rfl) ?_
  refine lv_iload_n hx hb dJ1_charAt_3b067_7 rfl (lv_at hl 1 rfl) ?_
  refine kg_sald C i hi hE hS hin dJ1_charAt_3b067_8 ?_
  refine lv_sipush (v := 255) hx hb dJ1_charAt_3b067_9 (by decide) ?_
  refine lv_iand hx hb dJ1_charAt_3b067_12 ?_
  refine lv_i2c (v := k_ch i x) hx hb dJ1_charAt_3b067_13 rfl ?_
  exact kR_zret C (k_ch_nar i x) rfl dJ1_charAt_3b067_14

theorem pnJ0_isLatin1_aae02 : yJ0_isLatin1_aae02.cls ≠ "java/lang/invoke/MethodHandle" ∧ yJ0_isLatin1_aae02.cls ≠ "java/lang/invoke/VarHandle" ∧ (parseMethodDescriptor yJ0_isLatin1_aae02.desc).map (fun d => d.parameters.length) = some 0 := by decide +kernel
theorem ca_J0_isLatin1_aae02 : kCal yJ0_isLatin1_aae02 (Cond.code yJ0_isLatin1_aae02 cJ0_isLatin1_aae02 1 (some .boolean)) := ⟨k_w 5 122 rfl rfl, k_w 5 123 rfl rfl, k_w 2 8 rfl rfl, k_w 5 124 rfl rfl⟩
theorem pnJ1_charAt_3b067 : yJ1_charAt_3b067.cls ≠ "java/lang/invoke/MethodHandle" ∧ yJ1_charAt_3b067.cls ≠ "java/lang/invoke/VarHandle" ∧ (parseMethodDescriptor yJ1_charAt_3b067.desc).map (fun d => d.parameters.length) = some 2 := by decide +kernel
theorem cs_J1_charAt_3b067 : kCst yJ1_charAt_3b067 (Cond.code yJ1_charAt_3b067 cJ1_charAt_3b067 2 (some .char)) := ⟨k_w 5 126 rfl rfl, k_w 2 18 rfl rfl, k_w 5 127 rfl rfl⟩
abbrev wJ0_charAt_5068e : List Cond := Cond.code yJ0_charAt_5068e cJ0_charAt_5068e 2 (some .char) :: kW
theorem J0_charAt_5068e_c (l : Launch) (g : kG) (i : Nat) (hi : i < 5) (x : Int32) (hin : vp_in x (k_fl.getD i 0)) : kR l yJ0_charAt_5068e wJ0_charAt_5068e 3 64 g [.ref (g.2.2 (50 + i)), .int x] [] (k_ch i x) := by
  refine kR_of (cc := cJ0_charAt_5068e) (nL := 2) (ret := (some .char)) (lv := [(0, .ref (g.2.2 (50 + i))), (1, .int x)]) (by decide) rfl (Nat.le_of_ble_eq_true rfl) rfl ?_
  intro p e s m args below meth c ls C hP hE hl
  have hS : va_S (fun _ => False) s.heap s.heap [] := va_S.rf
  have C : kC p c cJ0_charAt_5068e s m args meth RJ0 g 2 (some .char) := C
  have hx := C.1.1
  have hb := C.1.2.1
  have hts := C.1.2.2.2.2
  refine lv_aload_n hx hb dJ0_charAt_5068e_0 rfl (lv_at hl 0 rfl) ?_
  refine kR_V (As := []) (rest := []) C (J0_isLatin1_aae02_c l g i hi) (cwV 0 hts (k_gV kw909 ca_J0_isLatin1_aae02) rfl rfl rfl ⟨rfl, pnJ0_isLatin1_aae02⟩ ⟨Nat.le_of_ble_eq_true rfl, Nat.le_of_ble_eq_true rfl⟩) hE hS (hP.pick [] rfl) (k_srecv hi hE hS) rfl hl.1 rfl rfl dJ0_charAt_5068e_1 ⟨Nat.le_of_ble_eq_true rfl, Nat.le_of_ble_eq_true rfl⟩ ?_
  refine lv_if_eq (tgt := 16) hx hb dJ0_charAt_5068e_4 (by decide) (fun z => absurd z (by decide)) (fun _ => ?_)
  refine lv_aload_n hx hb dJ0_charAt_5068e_7 rfl (lv_at hl 0 rfl) ?_
  refine kg_sval C i hi hE hS kw1226 dJ0_charAt_5068e_8 ?_
  refine lv_iload_n hx hb dJ0_charAt_5068e_11 rfl (lv_at hl 1 rfl) ?_
  refine kR_S (As := [.ref (g.2.2 (60 + i)), .int x]) (rest := []) C (J1_charAt_3b067_c l g i hi x hin) (va_cwS 2 hts (k_gS kw913 cs_J1_charAt_3b067) rfl rfl rfl pnJ1_charAt_3b067 ⟨Nat.le_of_ble_eq_true rfl, Nat.le_of_ble_eq_true rfl⟩) hE hS (hP.pick [] rfl) rfl hl.1 rfl rfl dJ0_charAt_5068e_12 ⟨Nat.le_of_ble_eq_true rfl, Nat.le_of_ble_eq_true rfl⟩ ?_
  exact kR_zret C (k_ch_nar i x) rfl dJ0_charAt_5068e_15

def X1_form (x : Int32) : Nat :=
  if x = 98 then 4 else if x = 101 then 1 else if x = 102 then 0 else if x = 103 then 4 else if x = 110 then 3 else if x = 111 then 2 else if x = 115 then 4 else if x = 116 then 3 else if x = 119 then 4 else if x = 120 then 4 else 5
def k_fv (g : kG) (n : Nat) : Value := if n < 5 then .ref (g.2.2 (50 + n)) else .null
abbrev wX1_formBehind : List Cond := Cond.code yX1_formBehind cX1_formBehind 1 (some (.object "java/lang/String")) :: kW
theorem X1_formBehind_c (l : Launch) (g : kG) (x : Int32) : kO l yX1_formBehind wX1_formBehind 0 0 g [.int x] [] (some (k_fv g (X1_form x))) := by
  refine kO_of (cc := cX1_formBehind) (nL := 1) (ret := (some (.object "java/lang/String"))) (lv := [(0, .int x)]) (by decide) rfl (Nat.le_of_ble_eq_true rfl) rfl ?_
  intro p e s m args below meth c ls C hP hE hl
  have hS : va_S (fun _ => False) s.heap s.heap [] := va_S.rf
  have C : kC p c cX1_formBehind s m args meth RX1 g 1 (some (.object "java/lang/String")) := C
  have hx := C.1.1
  have hb := C.1.2.1
  have hts := C.1.2.2.2.2
  refine lv_iload_n hx hb dX1_formBehind_0 rfl (lv_at hl 0 rfl) ?_
  by_cases c98 : x = 98
  · refine lv_tableIn (off := 122) (tgt := 123) hx hb dX1_formBehind_1 (by rw [c98]; decide) (by rw [c98]; decide) (by rw [c98]; rfl) (by decide) ?_
    have e : X1_form x = 4 := if_pos c98
    refine kg_ldcs C hE (List.mem_of_getElem? (i := 11) rfl) dX1_formBehind_123 ?_
    exact kO_aret C (Or.inl ⟨_, rfl⟩) (Or.inr ⟨_, rfl⟩) (by rw [e]; rfl) dX1_formBehind_125
  by_cases c101 : x = 101
  · refine lv_tableIn (off := 110) (tgt := 111) hx hb dX1_formBehind_1 (by rw [c101]; decide) (by rw [c101]; decide) (by rw [c101]; rfl) (by decide) ?_
    have e : X1_form x = 1 := (if_neg c98).trans (if_pos c101)
    refine kg_ldcs C hE (List.mem_of_getElem? (i := 8) rfl) dX1_formBehind_111 ?_
    exact kO_aret C (Or.inl ⟨_, rfl⟩) (Or.inr ⟨_, rfl⟩) (by rw [e]; rfl) dX1_formBehind_113
  by_cases c102 : x = 102
  · refine lv_tableIn (off := 107) (tgt := 108) hx hb dX1_formBehind_1 (by rw [c102]; decide) (by rw [c102]; decide) (by rw [c102]; rfl) (by decide) ?_
    have e : X1_form x = 0 := (if_neg c98).trans ((if_neg c101).trans (if_pos c102))
    refine kg_ldcs C hE (List.mem_of_getElem? (i := 7) rfl) dX1_formBehind_108 ?_
    exact kO_aret C (Or.inl ⟨_, rfl⟩) (Or.inr ⟨_, rfl⟩) (by rw [e]; rfl) dX1_formBehind_110
  by_cases c103 : x = 103
  · refine lv_tableIn (off := 131) (tgt := 132) hx hb dX1_formBehind_1 (by rw [c103]; decide) (by rw [c103]; decide) (by rw [c103]; rfl) (by decide) ?_
    have e : X1_form x = 4 := (if_neg c98).trans ((if_neg c101).trans ((if_neg c102).trans (if_pos c103)))
    refine kg_ldcs C hE (List.mem_of_getElem? (i := 11) rfl) dX1_formBehind_132 ?_
    exact kO_aret C (Or.inl ⟨_, rfl⟩) (Or.inr ⟨_, rfl⟩) (by rw [e]; rfl) dX1_formBehind_134
  by_cases c110 : x = 110
  · refine lv_tableIn (off := 119) (tgt := 120) hx hb dX1_formBehind_1 (by rw [c110]; decide) (by rw [c110]; decide) (by rw [c110]; rfl) (by decide) ?_
    have e : X1_form x = 3 := (if_neg c98).trans ((if_neg c101).trans ((if_neg c102).trans ((if_neg c103).trans (if_pos c110))))
    refine kg_ldcs C hE (List.mem_of_getElem? (i := 10) rfl) dX1_formBehind_120 ?_
    exact kO_aret C (Or.inl ⟨_, rfl⟩) (Or.inr ⟨_, rfl⟩) (by rw [e]; rfl) dX1_formBehind_122
  by_cases c111 : x = 111
  · refine lv_tableIn (off := 113) (tgt := 114) hx hb dX1_formBehind_1 (by rw [c111]; decide) (by rw [c111]; decide) (by rw [c111]; rfl) (by decide) ?_
    have e : X1_form x = 2 := (if_neg c98).trans ((if_neg c101).trans ((if_neg c102).trans ((if_neg c103).trans ((if_neg c110).trans (if_pos c111)))))
    refine kg_ldcs C hE (List.mem_of_getElem? (i := 9) rfl) dX1_formBehind_114 ?_
    exact kO_aret C (Or.inl ⟨_, rfl⟩) (Or.inr ⟨_, rfl⟩) (by rw [e]; rfl) dX1_formBehind_116
  by_cases c115 : x = 115
  · refine lv_tableIn (off := 128) (tgt := 129) hx hb dX1_formBehind_1 (by rw [c115]; decide) (by rw [c115]; decide) (by rw [c115]; rfl) (by decide) ?_
    have e : X1_form x = 4 := (if_neg c98).trans ((if_neg c101).trans ((if_neg c102).trans ((if_neg c103).trans ((if_neg c110).trans ((if_neg c111).trans (if_pos c115))))))
    refine kg_ldcs C hE (List.mem_of_getElem? (i := 11) rfl) dX1_formBehind_129 ?_
    exact kO_aret C (Or.inl ⟨_, rfl⟩) (Or.inr ⟨_, rfl⟩) (by rw [e]; rfl) dX1_formBehind_131
  by_cases c116 : x = 116
  · refine lv_tableIn (off := 116) (tgt := 117) hx hb dX1_formBehind_1 (by rw [c116]; decide) (by rw [c116]; decide) (by rw [c116]; rfl) (by decide) ?_
    have e : X1_form x = 3 := (if_neg c98).trans ((if_neg c101).trans ((if_neg c102).trans ((if_neg c103).trans ((if_neg c110).trans ((if_neg c111).trans ((if_neg c115).trans (if_pos c116)))))))
    refine kg_ldcs C hE (List.mem_of_getElem? (i := 10) rfl) dX1_formBehind_117 ?_
    exact kO_aret C (Or.inl ⟨_, rfl⟩) (Or.inr ⟨_, rfl⟩) (by rw [e]; rfl) dX1_formBehind_119
  by_cases c119 : x = 119
  · refine lv_tableIn (off := 125) (tgt := 126) hx hb dX1_formBehind_1 (by rw [c119]; decide) (by rw [c119]; decide) (by rw [c119]; rfl) (by decide) ?_
    have e : X1_form x = 4 := (if_neg c98).trans ((if_neg c101).trans ((if_neg c102).trans ((if_neg c103).trans ((if_neg c110).trans ((if_neg c111).trans ((if_neg c115).trans ((if_neg c116).trans (if_pos c119))))))))
    refine kg_ldcs C hE (List.mem_of_getElem? (i := 11) rfl) dX1_formBehind_126 ?_
    exact kO_aret C (Or.inl ⟨_, rfl⟩) (Or.inr ⟨_, rfl⟩) (by rw [e]; rfl) dX1_formBehind_128
  by_cases c120 : x = 120
  · refine lv_tableIn (off := 134) (tgt := 135) hx hb dX1_formBehind_1 (by rw [c120]; decide) (by rw [c120]; decide) (by rw [c120]; rfl) (by decide) ?_
    have e : X1_form x = 4 := (if_neg c98).trans ((if_neg c101).trans ((if_neg c102).trans ((if_neg c103).trans ((if_neg c110).trans ((if_neg c111).trans ((if_neg c115).trans ((if_neg c116).trans ((if_neg c119).trans (if_pos c120)))))))))
    refine kg_ldcs C hE (List.mem_of_getElem? (i := 11) rfl) dX1_formBehind_135 ?_
    exact kO_aret C (Or.inl ⟨_, rfl⟩) (Or.inr ⟨_, rfl⟩) (by rw [e]; rfl) dX1_formBehind_137
  have e : X1_form x = 5 := (if_neg c98).trans ((if_neg c101).trans ((if_neg c102).trans ((if_neg c103).trans ((if_neg c110).trans ((if_neg c111).trans ((if_neg c115).trans ((if_neg c116).trans ((if_neg c119).trans ((if_neg c120).trans (rfl))))))))))
  by_cases cin : x.toInt < 98 ∨ 120 < x.toInt
  · refine lv_tableOut (tgt := 138) hx hb dX1_formBehind_1 cin (by decide) ?_
    refine lv_null hx hb dX1_formBehind_138 ?_
    exact kO_aret C (Or.inl ⟨_, rfl⟩) (Or.inl rfl) (by rw [e]; rfl) dX1_formBehind_139
  refine lv_tableIn (off := 137) (tgt := 138) hx hb dX1_formBehind_1 (fun h => cin (Or.inl h)) (fun h => cin (Or.inr h)) (by have n0 := lv_neT (a := 98) c98 (by decide); have n1 := lv_neT (a := 101) c101 (by decide); have n2 := lv_neT (a := 102) c102 (by decide); have n3 := lv_neT (a := 103) c103 (by decide); have n4 := lv_neT (a := 110) c110 (by decide); have n5 := lv_neT (a := 111) c111 (by decide); have n6 := lv_neT (a := 115) c115 (by decide); have n7 := lv_neT (a := 116) c116 (by decide); have n8 := lv_neT (a := 119) c119 (by decide); have n9 := lv_neT (a := 120) c120 (by decide); have hh : x.toInt = 99 ∨ x.toInt = 100 ∨ x.toInt = 104 ∨ x.toInt = 105 ∨ x.toInt = 106 ∨ x.toInt = 107 ∨ x.toInt = 108 ∨ x.toInt = 109 ∨ x.toInt = 112 ∨ x.toInt = 113 ∨ x.toInt = 114 ∨ x.toInt = 117 ∨ x.toInt = 118 := (by omega); rcases hh with h | h | h | h | h | h | h | h | h | h | h | h | h <;> (rw [h]; rfl)) (by decide) ?_
  refine lv_null hx hb dX1_formBehind_138 ?_
  exact kO_aret C (Or.inl ⟨_, rfl⟩) (Or.inl rfl) (by rw [e]; rfl) dX1_formBehind_139
theorem pnX1_formBehind : yX1_formBehind.cls ≠ "java/lang/invoke/MethodHandle" ∧ yX1_formBehind.cls ≠ "java/lang/invoke/VarHandle" ∧ (parseMethodDescriptor yX1_formBehind.desc).map (fun d => d.parameters.length) = some 1 := by decide +kernel
theorem cs_X1_formBehind : kCst yX1_formBehind (Cond.code yX1_formBehind cX1_formBehind 1 (some (.object "java/lang/String"))) := ⟨k_w 5 97 rfl rfl, k_w 2 5 rfl rfl, k_w 5 98 rfl rfl⟩
theorem pnJ0_length_8abf5 : yJ0_length_8abf5.cls ≠ "java/lang/invoke/MethodHandle" ∧ yJ0_length_8abf5.cls ≠ "java/lang/invoke/VarHandle" ∧ (parseMethodDescriptor yJ0_length_8abf5.desc).map (fun d => d.parameters.length) = some 0 := by decide +kernel
theorem ca_J0_length_8abf5 : kCal yJ0_length_8abf5 (Cond.code yJ0_length_8abf5 cJ0_length_8abf5 1 (some .int)) := ⟨k_w 5 109 rfl rfl, k_w 5 110 rfl rfl, k_w 2 8 rfl rfl, k_w 5 111 rfl rfl⟩
theorem pnJ0_charAt_5068e : yJ0_charAt_5068e.cls ≠ "java/lang/invoke/MethodHandle" ∧ yJ0_charAt_5068e.cls ≠ "java/lang/invoke/VarHandle" ∧ (parseMethodDescriptor yJ0_charAt_5068e.desc).map (fun d => d.parameters.length) = some 1 := by decide +kernel
theorem ca_J0_charAt_5068e : kCal yJ0_charAt_5068e (Cond.code yJ0_charAt_5068e cJ0_charAt_5068e 2 (some .char)) := ⟨k_w 5 118 rfl rfl, k_w 5 119 rfl rfl, k_w 2 8 rfl rfl, k_w 5 120 rfl rfl⟩
