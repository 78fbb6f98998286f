theorem kw76 : Cond.initialized "java/lang/String" ∈ kW := k_w 2 8 rfl rfl
theorem kw727 : Cond.instantiable "java/lang/String" 4 ∈ kW := k_w 4 179 rfl rfl
theorem kw1177 : Cond.classLink RJ4 18 "java/lang/String" ∈ kW := k_w 6 149 rfl rfl
theorem kw1178 : Cond.methodLink RJ4 137 yJ0_init_81219 ∈ kW := k_w 6 150 rfl rfl
theorem kw1179 : Cond.instanceMethod yJ0_init_81219 ∈ kW := k_w 6 151 rfl rfl
theorem kw1180 : Cond.code yJ0_init_81219 cJ0_init_81219 2 none ∈ kW := k_w 6 152 rfl rfl
theorem kw1181 : Cond.methodLink RJ0 489 yJ0_init_db425 ∈ kW := k_w 6 153 rfl rfl
theorem kw1182 : Cond.instanceMethod yJ0_init_db425 ∈ kW := k_w 6 154 rfl rfl
theorem kw1183 : Cond.code yJ0_init_db425 cJ0_init_db425 5 none ∈ kW := k_w 6 155 rfl rfl
theorem kw1184 : Cond.methodLink RJ0 1 ⟨"java/lang/Object", "<init>", "()V"⟩ ∈ kW := k_w 6 156 rfl rfl
theorem kw1185 : Cond.methodLink RJ0 552 yJ5_getValue_6d5f1 ∈ kW := k_w 6 157 rfl rfl
theorem kw1186 : Cond.instanceMethod yJ5_getValue_6d5f1 ∈ kW := k_w 6 158 rfl rfl
theorem kw1188 : Cond.selects "java/lang/StringBuilder" yJ5_getValue_6d5f1 yJ5_getValue_6d5f1 ∈ kW := k_w 6 160 rfl rfl
theorem kw1189 : Cond.code yJ5_getValue_6d5f1 cJ5_getValue_6d5f1 1 (some (.array .byte)) ∈ kW := k_w 6 161 rfl rfl
theorem kw1190 : Cond.methodLink RJ0 549 yJ5_length_8abf5 ∈ kW := k_w 6 162 rfl rfl
theorem kw1193 : Cond.selects "java/lang/StringBuilder" yJ5_length_8abf5 yJ4_length_8abf5 ∈ kW := k_w 6 165 rfl rfl
theorem kw1194 : Cond.instanceMethod yJ4_length_8abf5 ∈ kW := k_w 6 166 rfl rfl
theorem kw1195 : Cond.code yJ4_length_8abf5 cJ4_length_8abf5 1 (some .int) ∈ kW := k_w 6 167 rfl rfl
theorem kw1198 : Cond.methodLink RJ0 1047 yJ5_isLatin1_aae02 ∈ kW := k_w 6 170 rfl rfl
theorem kw1199 : Cond.methodLink RJ0 54 yJ7_copyOfRange_39247 ∈ kW := k_w 6 171 rfl rfl
theorem kw1202 : Cond.methodLink RJ7 339 yJ7_copyOfRangeByte_39247 ∈ kW := k_w 6 174 rfl rfl
theorem kw1205 : Cond.methodLink RJ7 343 yJ7_checkLength_df160 ∈ kW := k_w 6 177 rfl rfl
theorem kFJ0 : kFl RJ0 TJ0 4 0 tyJ0 := ⟨rfl, tyJ0_ok, nmJ0, ku_J0⟩
def JSW (a : Nat) (v : Value) : va_W := [(a, .inr (0, [v, .int 0, .int 0, .int 0]))]
theorem pnJ7_checkLength_df160 : yJ7_checkLength_df160.cls ≠ "java/lang/invoke/MethodHandle" ∧ yJ7_checkLength_df160.cls ≠ "java/lang/invoke/VarHandle" ∧ (parseMethodDescriptor yJ7_checkLength_df160.desc).map (fun d => d.parameters.length) = some 2 := by decide +kernel
theorem cs_J7_checkLength_df160 : kCst yJ7_checkLength_df160 (Cond.code yJ7_checkLength_df160 cJ7_checkLength_df160 2 none) := ⟨k_w 6 178 rfl rfl, k_w 2 25 rfl rfl, k_w 6 179 rfl rfl⟩
abbrev wJ7_checkLength_df160 : List Cond := Cond.code yJ7_checkLength_df160 cJ7_checkLength_df160 2 none :: kW
theorem J7_checkLength_df160_c (l : Launch) (g : kG) (k : Nat) (hk : k < 2 ^ 30) : kO l yJ7_checkLength_df160 wJ7_checkLength_df160 0 0 g [.int 0, .int (nI k)] [] none := by
  refine kO_of (cc := cJ7_checkLength_df160) (nL := 2) (ret := none) (lv := [(0, .int 0), (1, .int (nI k))]) (by decide) rfl (Nat.le_of_ble_eq_true rfl) rfl ?_
  intro p e s m args below meth c ls C hP hE hl
  have hS : va_S (fun _ => False) s.heap s.heap [] := va_S.rf
  have C : kC p c cJ7_checkLength_df160 s m args meth RJ7 g 2 none := C
  have hx := C.1.1
  have hb := C.1.2.1
  have hts := C.1.2.2.2.2
  refine lv_iload_n hx hb dJ7_checkLength_df160_0 rfl (lv_at hl 1 rfl) ?_
  refine lv_iload_n hx hb dJ7_checkLength_df160_1 rfl (lv_at hl 0 rfl) ?_
  refine lv_icmp_ge (tgt := 37) hx hb dJ7_checkLength_df160_2 (by decide) (fun z => ?_) (fun z => absurd (nI_pos' (by omega)) z)
  exact kO_vret C dJ7_checkLength_df160_37
theorem pnJ7_copyOfRangeByte_39247 : yJ7_copyOfRangeByte_39247.cls ≠ "java/lang/invoke/MethodHandle" ∧ yJ7_copyOfRangeByte_39247.cls ≠ "java/lang/invoke/VarHandle" ∧ (parseMethodDescriptor yJ7_copyOfRangeByte_39247.desc).map (fun d => d.parameters.length) = some 3 := by decide +kernel
theorem cs_J7_copyOfRangeByte_39247 : kCst yJ7_copyOfRangeByte_39247 (Cond.code yJ7_copyOfRangeByte_39247 cJ7_copyOfRangeByte_39247 5 (some (.array .byte))) := ⟨k_w 6 175 rfl rfl, k_w 2 25 rfl rfl, k_w 6 176 rfl rfl⟩
abbrev wJ7_copyOfRangeByte_39247 : List Cond := Cond.code yJ7_copyOfRangeByte_39247 cJ7_copyOfRangeByte_39247 5 (some (.array .byte)) :: kW
theorem J7_copyOfRangeByte_39247_c (l : Launch) (g : kG) (q n : Nat) (f : Nat → Int32) (hf : sb_Fit f) (k : Nat) (hk : k < n) (hn : n ≤ 34)  : kA l yJ7_copyOfRangeByte_39247 wJ7_copyOfRangeByte_39247 1 60 1 34 g [.ref q, .int 0, .int (nI k)] [JAW g q n f] (fun b u => ∃ f' : Nat → Int32, u = [JAW g q n f, JAW g b k f'] ∧ ∀ j, j < k → f' j = f j) := by
  refine kA_of (cc := cJ7_copyOfRangeByte_39247) (nL := 5) (ret := (some (.array .byte))) (lv := [(0, .ref q), (1, .int 0), (2, .int (nI k))]) (by decide) rfl (Nat.le_of_ble_eq_true rfl) rfl ?_
  intro p e s m args below meth c ls A C hP hD hE hA hS hl
  have C : kC p c cJ7_copyOfRangeByte_39247 s m args meth RJ7 g 5 (some (.array .byte)) := C
  have hx := C.1.1
  have hb := C.1.2.1
  have hts := C.1.2.2.2.2
  refine lv_iload_n hx hb dJ7_copyOfRangeByte_39247_0 rfl (lv_at hl 1 rfl) ?_
  refine lv_iload_n hx hb dJ7_copyOfRangeByte_39247_1 rfl (lv_at hl 2 rfl) ?_
  refine kO_S (As := [.int 0, .int (nI k)]) (rest := []) C (J7_checkLength_df160_c l g k (by omega)) (va_cwS 2 hts (k_gS kw1205 cs_J7_checkLength_df160) rfl rfl rfl pnJ7_checkLength_df160 ⟨Nat.le_of_ble_eq_true rfl, Nat.le_of_ble_eq_true rfl⟩) hE hS (hP.pick [] rfl) rfl hl.1 rfl rfl dJ7_copyOfRangeByte_39247_2 ⟨Nat.le_of_ble_eq_true rfl, Nat.le_of_ble_eq_true rfl⟩ ?_
  refine lv_iload_n hx hb dJ7_copyOfRangeByte_39247_5 rfl (lv_at hl 2 rfl) ?_
  refine lv_iload_n hx hb dJ7_copyOfRangeByte_39247_6 rfl (lv_at hl 1 rfl) ?_
  refine lv_isub hx hb dJ7_copyOfRangeByte_39247_7 ?_
  refine k_top (y := nI k) (Int32.sub_zero _) ?_
  refine lv_istore_n (lv' := [(3, .int (nI k)), (0, .ref q), (1, .int 0), (2, .int (nI k))]) hx hb dJ7_copyOfRangeByte_39247_8 rfl hl (by decide) rfl (fun ls hl => ?_)
  refine lv_iload_n hx hb dJ7_copyOfRangeByte_39247_9 rfl (lv_at hl 0 rfl) ?_
  refine kg_newA C (at' := .byte) (ty := .byte) (t := 0) (a0 := (k, .inl (fun _ => 0))) (N' := k) kw300 rfl (by intro C; exact FieldType.noConfusion) rfl hP hD hS hA (fun _ => rfl) (nI_pos (by omega)) (nI_clamp (by omega)) (by show k * 1 ≤ 536870912; omega) (Nat.le_of_ble_eq_true rfl) (show 0 + k ≤ 34 from by omega) dJ7_copyOfRangeByte_39247_10 (fun b H hP hD hS => ?_)
  have hP : kp g [JAW g q n f, JAW g b k (fun _ => 0)] H := hP
  have hD : kd A [JAW g q n f, JAW g b k (fun _ => 0)] := hD
  refine lv_astore (lv' := [(4, .ref b), (3, .int (nI k)), (0, .ref q), (1, .int 0), (2, .int (nI k))]) hx hb dJ7_copyOfRangeByte_39247_12 hl (by decide) rfl (fun ls hl => ?_)
  refine lv_aload_n hx hb dJ7_copyOfRangeByte_39247_14 rfl (lv_at hl 2 rfl) ?_
  refine lv_iload_n hx hb dJ7_copyOfRangeByte_39247_15 rfl (lv_at hl 3 rfl) ?_
  refine lv_aload hx hb dJ7_copyOfRangeByte_39247_16 (lv_at hl 0 rfl) ?_
  refine lv_iconst (v := 0) hx hb dJ7_copyOfRangeByte_39247_18 (by decide) ?_
  refine lv_aload_n hx hb dJ7_copyOfRangeByte_39247_19 rfl (lv_at hl 2 rfl) ?_
  refine kg_blen C hP (i := 0) (q := 0) rfl rfl dJ7_copyOfRangeByte_39247_20 ?_
  refine lv_iload_n hx hb dJ7_copyOfRangeByte_39247_21 rfl (lv_at hl 3 rfl) ?_
  refine lv_isub hx hb dJ7_copyOfRangeByte_39247_22 ?_
  refine k_top (y := nI n) (Int32.sub_zero _) ?_
  refine lv_iload_n hx hb dJ7_copyOfRangeByte_39247_23 rfl (lv_at hl 1 rfl) ?_
  refine va_mmin hx hb (by rw [C.1.2.2.1, hl.1]) C.1.2.2.2.1 (hts _ kw1091) (hts _ kw551) (hts _ kw84) (hts _ kw552) (by first | exact Nat.le_of_ble_eq_true rfl | exact (show 0 + k ≤ 34 from by omega)) (by first | exact Nat.le_of_ble_eq_true rfl | exact (show 0 + k ≤ 34 from by omega)) (by first | exact Nat.le_of_ble_eq_true rfl | exact (show 0 + k ≤ 34 from by omega)) (by first | exact Nat.le_of_ble_eq_true rfl | exact (show 0 + k ≤ 34 from by omega)) dJ7_copyOfRangeByte_39247_24 ?_
  refine k_top (y := nI k) (if_pos (nI_lt hk (by omega))) ?_
  refine kg_copyb C hl.1 kw1092 kw340 kw339 kw82 hP hD hS (i0 := 0) (q0 := 0) (i1 := 1) (q1 := 0) (k := k) rfl rfl rfl rfl hf (by omega) (by omega) (by omega) (ch' := JAW g b k (va_cpy f (fun _ => 0) 0 0 k)) rfl rfl (Nat.le_of_ble_eq_true rfl) (Nat.le_of_ble_eq_true rfl) dJ7_copyOfRangeByte_39247_27 (fun H locs hP hD hS => ?_)
  refine lv_aload hx hb dJ7_copyOfRangeByte_39247_30 (lv_at hl 0 rfl) ?_
  exact kA_ret C (Or.inr ⟨_, rfl⟩) hP hD hS ⟨_, rfl, fun j hj => sb_cpy0 hj⟩ ⟨Nat.le_of_ble_eq_true rfl, (show 0 + k ≤ 34 from by omega)⟩ dJ7_copyOfRangeByte_39247_32
theorem pnJ7_copyOfRange_39247 : yJ7_copyOfRange_39247.cls ≠ "java/lang/invoke/MethodHandle" ∧ yJ7_copyOfRange_39247.cls ≠ "java/lang/invoke/VarHandle" ∧ (parseMethodDescriptor yJ7_copyOfRange_39247.desc).map (fun d => d.parameters.length) = some 3 := by decide +kernel
theorem cs_J7_copyOfRange_39247 : kCst yJ7_copyOfRange_39247 (Cond.code yJ7_copyOfRange_39247 cJ7_copyOfRange_39247 3 (some (.array .byte))) := ⟨k_w 6 172 rfl rfl, k_w 2 25 rfl rfl, k_w 6 173 rfl rfl⟩
abbrev wJ7_copyOfRange_39247 : List Cond := Cond.code yJ7_copyOfRange_39247 cJ7_copyOfRange_39247 3 (some (.array .byte)) :: kW
theorem J7_copyOfRange_39247_c (l : Launch) (g : kG) (q n : Nat) (f : Nat → Int32) (hf : sb_Fit f) (k : Nat) (hk : k < n) (hn : n ≤ 34)  : kA l yJ7_copyOfRange_39247 wJ7_copyOfRange_39247 2 120 1 34 g [.ref q, .int 0, .int (nI k)] [JAW g q n f] (fun b u => ∃ f' : Nat → Int32, u = [JAW g q n f, JAW g b k f'] ∧ ∀ j, j < k → f' j = f j) := by
  refine kA_of (cc := cJ7_copyOfRange_39247) (nL := 3) (ret := (some (.array .byte))) (lv := [(0, .ref q), (1, .int 0), (2, .int (nI k))]) (by decide) rfl (Nat.le_of_ble_eq_true rfl) rfl ?_
  intro p e s m args below meth c ls A C hP hD hE hA hS hl
  have C : kC p c cJ7_copyOfRange_39247 s m args meth RJ7 g 3 (some (.array .byte)) := C
  have hx := C.1.1
  have hb := C.1.2.1
  have hts := C.1.2.2.2.2
  refine lv_iload_n hx hb dJ7_copyOfRange_39247_0 rfl (lv_at hl 1 rfl) ?_
  refine lv_if_ne (tgt := 10) hx hb dJ7_copyOfRange_39247_1 (by decide) (fun z => absurd rfl z) (fun z => ?_)
  refine lv_iload_n hx hb dJ7_copyOfRange_39247_4 rfl (lv_at hl 2 rfl) ?_
  refine lv_aload_n hx hb dJ7_copyOfRange_39247_5 rfl (lv_at hl 0 rfl) ?_
  refine kg_blen C hP (i := 0) (q := 0) rfl rfl dJ7_copyOfRange_39247_6 ?_
  refine lv_icmp_eq (tgt := 17) hx hb dJ7_copyOfRange_39247_7 (by decide) (fun z => absurd ((nI_eq (by omega) (by omega)).mp z) (by omega)) (fun z => ?_)
  refine lv_aload_n hx hb dJ7_copyOfRange_39247_10 rfl (lv_at hl 0 rfl) ?_
  refine lv_iload_n hx hb dJ7_copyOfRange_39247_11 rfl (lv_at hl 1 rfl) ?_
  refine lv_iload_n hx hb dJ7_copyOfRange_39247_12 rfl (lv_at hl 2 rfl) ?_
  refine kA_S (As := [.ref q, .int 0, .int (nI k)]) (rest := []) (wr := []) C (J7_copyOfRangeByte_39247_c l g q n f hf k hk hn) (va_cwS 3 hts (k_gS kw1202 cs_J7_copyOfRangeByte_39247) rfl rfl rfl pnJ7_copyOfRangeByte_39247 ⟨Nat.le_of_ble_eq_true rfl, Nat.le_of_ble_eq_true rfl⟩) hE hS hA hP hD [0] [] rfl rfl ⟨rfl, rfl, by decide⟩ rfl hl.1 rfl rfl dJ7_copyOfRange_39247_13 ⟨Nat.le_of_ble_eq_true rfl, Nat.le_of_ble_eq_true rfl⟩ (fun ra u H locs hp hP hD hS => ?_)
  exact kA_ret C (Or.inr ⟨_, rfl⟩) hP hD hS hp ⟨Nat.le_of_ble_eq_true rfl, Nat.le_of_ble_eq_true rfl⟩ dJ7_copyOfRange_39247_16
theorem pnJ5_getValue_6d5f1 : yJ5_getValue_6d5f1.cls ≠ "java/lang/invoke/MethodHandle" ∧ yJ5_getValue_6d5f1.cls ≠ "java/lang/invoke/VarHandle" ∧ (parseMethodDescriptor yJ5_getValue_6d5f1.desc).map (fun d => d.parameters.length) = some 0 := by decide +kernel
abbrev wJ5_getValue_6d5f1 : List Cond := Cond.code yJ5_getValue_6d5f1 cJ5_getValue_6d5f1 1 (some (.array .byte)) :: kW
theorem J5_getValue_6d5f1_c (l : Launch) (g : kG) (o q : Nat) (ml cnt : Int32)  : kA l yJ5_getValue_6d5f1 wJ5_getValue_6d5f1 0 0 0 0 g [.ref o] [JOW o q ml cnt] (fun b u => b = q ∧ u = [JOW o q ml cnt]) := by
  refine kA_of (cc := cJ5_getValue_6d5f1) (nL := 1) (ret := (some (.array .byte))) (lv := [(0, .ref o)]) (by decide) rfl (Nat.le_of_ble_eq_true rfl) rfl ?_
  intro p e s m args below meth c ls A C hP hD hE hA hS hl
  have C : kC p c cJ5_getValue_6d5f1 s m args meth RJ5 g 1 (some (.array .byte)) := C
  have hx := C.1.1
  have hb := C.1.2.1
  have hts := C.1.2.2.2.2
  refine lv_aload_n hx hb dJ5_getValue_6d5f1_0 rfl (lv_at hl 0 rfl) ?_
  refine kg_get C kFJ4 (k := 0) kw286 hP (i := 0) (q := 0) rfl rfl (by decide) rfl dJ5_getValue_6d5f1_1 ?_
  exact kA_ret C (Or.inr ⟨_, rfl⟩) hP hD hS ⟨rfl, rfl⟩ ⟨Nat.le_of_ble_eq_true rfl, Nat.le_of_ble_eq_true rfl⟩ dJ5_getValue_6d5f1_4
theorem pnJ0_init_db425 : yJ0_init_db425.cls ≠ "java/lang/invoke/MethodHandle" ∧ yJ0_init_db425.cls ≠ "java/lang/invoke/VarHandle" ∧ (parseMethodDescriptor yJ0_init_db425.desc).map (fun d => d.parameters.length) = some 2 := by decide +kernel
abbrev wJ0_init_db425 : List Cond := Cond.code yJ0_init_db425 cJ0_init_db425 5 none :: kW
theorem J0_init_db425_c (l : Launch) (g : kG) (a o q n : Nat) (ml : Int32) (f : Nat → Int32) (hf : sb_Fit f) (k : Nat) (hk : k < n) (hn : n ≤ 34)  : kV l yJ0_init_db425 wJ0_init_db425 4 200 1 34 g [.ref a, .ref o, .null] [JSW a .null, JOW o q ml (nI k), JAW g q n f] (fun u => ∃ (b : Nat) (f' : Nat → Int32), u = [JSW a (.ref b), JOW o q ml (nI k), JAW g q n f, JAW g b k f'] ∧ ∀ j, j < k → f' j = f j) := by
  refine kV_of (cc := cJ0_init_db425) (nL := 5) (ret := none) (lv := [(0, .ref a), (1, .ref o), (2, .null)]) (by decide) rfl (Nat.le_of_ble_eq_true rfl) rfl ?_
  intro p e s m args below meth c ls A hnm C hP hD hE hA hS hl
  have hnm : meth.name = "<init>" := hnm
  have C : kC p c cJ0_init_db425 s m args meth RJ0 g 5 none := C
  have hx := C.1.1
  have hb := C.1.2.1
  have hts := C.1.2.2.2.2
  refine lv_aload_n hx hb dJ0_init_db425_0 rfl (lv_at hl 0 rfl) ?_
  refine kg_obj C hl.1 kw1184 kw105 kw106 (Nat.le_of_ble_eq_true rfl) (Nat.le_of_ble_eq_true rfl) dJ0_init_db425_1 ?_
  refine lv_aload_n hx hb dJ0_init_db425_4 rfl (lv_at hl 1 rfl) ?_
  refine kA_V (As := []) (rest := []) (wr := [JSW a .null, JAW g q n f]) C (J5_getValue_6d5f1_c l g o q ml (nI k)) (k_cwSB 0 hts kw1185 kw1186 kw1188 kw74 kw1189 pnJ5_getValue_6d5f1 ⟨Nat.le_of_ble_eq_true rfl, Nat.le_of_ble_eq_true rfl⟩) hE hS hA hP hD [1] [0, 2] rfl rfl ⟨rfl, rfl, by decide⟩ (k_recv C kFJ4 hP (i := 1) (q := 0) rfl rfl) rfl hl.1 rfl rfl dJ0_init_db425_5 ⟨Nat.le_of_ble_eq_true rfl, Nat.le_of_ble_eq_true rfl⟩ (fun ra u H locs hp hP hD hS => ?_)
  obtain ⟨rfl, rfl⟩ := hp
  have hP : kp g [JSW a .null, JOW o ra ml (nI k), JAW g ra n f] H := hP.pick [0, 2, 1] rfl
  have hD : kd A [JSW a .null, JOW o ra ml (nI k), JAW g ra n f] := hD.pick [0, 2, 1] rfl rfl
  refine lv_astore_n (lv' := [(3, .ref ra), (0, .ref a), (1, .ref o), (2, .null)]) hx hb dJ0_init_db425_8 rfl hl (by decide) rfl (fun ls hl => ?_)
  refine lv_aload_n hx hb dJ0_init_db425_9 rfl (lv_at hl 2 rfl) ?_
  refine kR_VO (As := []) (rest := []) C (J4_length_8abf5_c l g o ra ml (nI k)) (va_cwO (x := yJ5_length_8abf5) (owner := "java/lang/AbstractStringBuilder") (b0 := cJ5_length_8abf5) (m0 := 1) (r0 := some .int) 0 hts (k_gO kw1190 kw1192 kw1191 kw1193 kw1194 kw75 kw1195) rfl rfl rfl kw1197 ⟨by decide, by decide, by decide +kernel⟩ ⟨Nat.le_of_ble_eq_true rfl, Nat.le_of_ble_eq_true rfl⟩) hE hS (hP.pick [1] rfl) (k_recv C kFJ4 hP (i := 1) (q := 0) rfl rfl) rfl hl.1 rfl rfl dJ0_init_db425_10 ⟨Nat.le_of_ble_eq_true rfl, Nat.le_of_ble_eq_true rfl⟩ ?_
  refine lv_istore (lv' := [(4, .int (nI k)), (3, .ref ra), (0, .ref a), (1, .ref o), (2, .null)]) hx hb dJ0_init_db425_13 hl (by decide) rfl (fun ls hl => ?_)
  refine lv_aload_n hx hb dJ0_init_db425_15 rfl (lv_at hl 3 rfl) ?_
  refine kR_V (As := []) (rest := []) C (J5_isLatin1_aae02_c l g o ra ml (nI k)) (k_cwSB 0 hts kw1198 kw1094 kw1096 kw74 kw1097 pnJ5_isLatin1_aae02 ⟨Nat.le_of_ble_eq_true rfl, Nat.le_of_ble_eq_true rfl⟩) hE hS (hP.pick [1] rfl) (k_recv C kFJ4 hP (i := 1) (q := 0) rfl rfl) rfl hl.1 rfl rfl dJ0_init_db425_16 ⟨Nat.le_of_ble_eq_true rfl, Nat.le_of_ble_eq_true rfl⟩ ?_
  refine lv_if_eq (tgt := 41) hx hb dJ0_init_db425_19 (by decide) (fun z => absurd z (by decide)) (fun z => ?_)
  refine lv_aload_n hx hb dJ0_init_db425_22 rfl (lv_at hl 2 rfl) ?_
  refine lv_iconst (v := 0) hx hb dJ0_init_db425_23 (by decide) ?_
  refine kg_putF C kFJ0 (k := 1) kw1227 hP hD hS (i := 0) (q := 0) rfl rfl (by decide) rfl hnm rfl rfl rfl (Nat.le_of_ble_eq_true rfl) (ch' := JSW a .null) rfl rfl dJ0_init_db425_24 (fun H locs hP hD hS => ?_)
  have hP : kp g [JSW a .null, JOW o ra ml (nI k), JAW g ra n f] H := hP
  have hD : kd A [JSW a .null, JOW o ra ml (nI k), JAW g ra n f] := hD
  refine lv_aload_n hx hb dJ0_init_db425_27 rfl (lv_at hl 2 rfl) ?_
  refine lv_aload_n hx hb dJ0_init_db425_28 rfl (lv_at hl 1 rfl) ?_
  refine lv_iconst (v := 0) hx hb dJ0_init_db425_29 (by decide) ?_
  refine lv_iload hx hb dJ0_init_db425_30 (lv_at hl 0 rfl) ?_
  refine kA_S (As := [.ref ra, .int 0, .int (nI k)]) (rest := [.ref a]) (wr := [JSW a .null, JOW o ra ml (nI k)]) C (J7_copyOfRange_39247_c l g ra n f hf k hk hn) (va_cwS 3 hts (k_gS kw1199 cs_J7_copyOfRange_39247) rfl rfl rfl pnJ7_copyOfRange_39247 ⟨Nat.le_of_ble_eq_true rfl, Nat.le_of_ble_eq_true rfl⟩) hE hS hA hP hD [2] [0, 1] rfl rfl ⟨rfl, rfl, by decide⟩ rfl hl.1 rfl rfl dJ0_init_db425_32 ⟨Nat.le_of_ble_eq_true rfl, Nat.le_of_ble_eq_true rfl⟩ (fun b u H locs hp hP hD hS => ?_)
  obtain ⟨f', rfl, hcp⟩ := hp
  have hP : kp g [JSW a .null, JOW o ra ml (nI k), JAW g ra n f, JAW g b k f'] H := hP
  have hD : kd A [JSW a .null, JOW o ra ml (nI k), JAW g ra n f, JAW g b k f'] := hD
  refine kg_putF C kFJ0 (k := 0) kw1226 hP hD hS (i := 0) (q := 0) rfl rfl (by decide) rfl hnm rfl rfl rfl (Nat.le_of_ble_eq_true rfl) (ch' := JSW a (.ref b)) rfl rfl dJ0_init_db425_35 (fun H locs hP hD hS => ?_)
  have hP : kp g [JSW a (.ref b), JOW o ra ml (nI k), JAW g ra n f, JAW g b k f'] H := hP
  have hD : kd A [JSW a (.ref b), JOW o ra ml (nI k), JAW g ra n f, JAW g b k f'] := hD
  refine lv_goto (tgt := 97) hx hb dJ0_init_db425_38 (by decide) ?_
  exact kV_retW C hP hD hS ⟨b, f', rfl, hcp⟩ ⟨Nat.le_of_ble_eq_true rfl, Nat.le_of_ble_eq_true rfl⟩ dJ0_init_db425_97
theorem pnJ0_init_81219 : yJ0_init_81219.cls ≠ "java/lang/invoke/MethodHandle" ∧ yJ0_init_81219.cls ≠ "java/lang/invoke/VarHandle" ∧ (parseMethodDescriptor yJ0_init_81219.desc).map (fun d => d.parameters.length) = some 1 := by decide +kernel
abbrev wJ0_init_81219 : List Cond := Cond.code yJ0_init_81219 cJ0_init_81219 2 none :: kW
theorem J0_init_81219_c (l : Launch) (g : kG) (a o q n : Nat) (ml : Int32) (f : Nat → Int32) (hf : sb_Fit f) (k : Nat) (hk : k < n) (hn : n ≤ 34)  : kV l yJ0_init_81219 wJ0_init_81219 5 260 1 34 g [.ref a, .ref o] [JSW a .null, JOW o q ml (nI k), JAW g q n f] (fun u => ∃ (b : Nat) (f' : Nat → Int32), u = [JSW a (.ref b), JOW o q ml (nI k), JAW g q n f, JAW g b k f'] ∧ ∀ j, j < k → f' j = f j) := by
  refine kV_of (cc := cJ0_init_81219) (nL := 2) (ret := none) (lv := [(0, .ref a), (1, .ref o)]) (by decide) rfl (Nat.le_of_ble_eq_true rfl) rfl ?_
  intro p e s m args below meth c ls A hnm C hP hD hE hA hS hl
  have C : kC p c cJ0_init_81219 s m args meth RJ0 g 2 none := C
  have hx := C.1.1
  have hb := C.1.2.1
  have hts := C.1.2.2.2.2
  refine lv_aload_n hx hb dJ0_init_81219_0 rfl (lv_at hl 0 rfl) ?_
  refine lv_aload_n hx hb dJ0_init_81219_1 rfl (lv_at hl 1 rfl) ?_
  refine lv_null hx hb dJ0_init_81219_2 ?_
  refine kV_I (As := [.ref o, .null]) (rest := []) (wr := []) C (J0_init_db425_c l g a o q n ml f hf k hk hn) ⟨callB_of 2 hts (k_gI kw1183) rfl rfl rfl (hts _ kw76) (hts _ kw1181) pnJ0_init_db425 ⟨Nat.le_of_ble_eq_true rfl, Nat.le_of_ble_eq_true rfl⟩, rfl, hts _ kw1182⟩ hE hS hA hP hD [0, 1, 2] [] rfl rfl ⟨rfl, rfl, by decide⟩ rfl hl.1 rfl rfl dJ0_init_81219_3 ⟨Nat.le_of_ble_eq_true rfl, Nat.le_of_ble_eq_true rfl⟩ (fun u H locs hp hP hD hS => ?_)
  exact kV_retW C hP hD hS hp ⟨Nat.le_of_ble_eq_true rfl, Nat.le_of_ble_eq_true rfl⟩ dJ0_init_81219_6
theorem pnJ4_toString_0e30d : yJ4_toString_0e30d.cls ≠ "java/lang/invoke/MethodHandle" ∧ yJ4_toString_0e30d.cls ≠ "java/lang/invoke/VarHandle" ∧ (parseMethodDescriptor yJ4_toString_0e30d.desc).map (fun d => d.parameters.length) = some 0 := by decide +kernel
theorem ca_J4_toString_0e30d : kCal yJ4_toString_0e30d (Cond.code yJ4_toString_0e30d cJ4_toString_0e30d 1 (some (.object "java/lang/String"))) := ⟨k_w 6 146 rfl rfl, k_w 6 147 rfl rfl, k_w 2 7 rfl rfl, k_w 6 148 rfl rfl⟩
abbrev wJ4_toString_0e30d : List Cond := Cond.code yJ4_toString_0e30d cJ4_toString_0e30d 1 (some (.object "java/lang/String")) :: kW
theorem J4_toString_0e30d_c (l : Launch) (g : kG) (o q n : Nat) (ml : Int32) (f : Nat → Int32) (hf : sb_Fit f) (k : Nat) (hk : k < n) (hn : n ≤ 34)  : kA l yJ4_toString_0e30d wJ4_toString_0e30d 6 320 2 38 g [.ref o] [JOW o q ml (nI k), JAW g q n f] (fun a u => ∃ (b : Nat) (f' : Nat → Int32), u = [JOW o q ml (nI k), JAW g q n f, JSW a (.ref b), JAW g b k f'] ∧ ∀ j, j < k → f' j = f j) := by
  refine kA_of (cc := cJ4_toString_0e30d) (nL := 1) (ret := (some (.object "java/lang/String"))) (lv := [(0, .ref o)]) (by decide) rfl (Nat.le_of_ble_eq_true rfl) rfl ?_
  intro p e s m args below meth c ls A C hP hD hE hA hS hl
  have C : kC p c cJ4_toString_0e30d s m args meth RJ4 g 1 (some (.object "java/lang/String")) := C
  have hx := C.1.1
  have hb := C.1.2.1
  have hts := C.1.2.2.2.2
  refine kg_new C kFJ0 (fs := [.null, .int 0, .int 0, .int 0]) kw1177 kw727 kw76 hP hD hS hA (fun j hj => by match j, hj with | 0, _ => rfl | 1, _ => rfl | 2, _ => rfl | 3, _ => rfl | n + 4, h => exact absurd h (by omega)) (Nat.le_of_ble_eq_true rfl) (Nat.le_of_ble_eq_true rfl) dJ4_toString_0e30d_0 (fun a H hP hD hS => ?_)
  have hP : kp g [JSW a .null, JOW o q ml (nI k), JAW g q n f] H := hP.pick [2, 0, 1] rfl
  have hD : kd A [JSW a .null, JOW o q ml (nI k), JAW g q n f] := hD.pick [2, 0, 1] rfl rfl
  refine lv_dup hx hb dJ4_toString_0e30d_3 rfl ?_
  refine lv_aload_n hx hb dJ4_toString_0e30d_4 rfl (lv_at hl 0 rfl) ?_
  refine kV_I (As := [.ref o]) (rest := [.ref a]) (wr := []) C (J0_init_81219_c l g a o q n ml f hf k hk hn) ⟨callB_of 1 hts (k_gI kw1180) rfl rfl rfl (hts _ kw76) (hts _ kw1178) pnJ0_init_81219 ⟨Nat.le_of_ble_eq_true rfl, Nat.le_of_ble_eq_true rfl⟩, rfl, hts _ kw1179⟩ hE hS hA hP hD [0, 1, 2] [] rfl rfl ⟨rfl, rfl, by decide⟩ rfl hl.1 rfl rfl dJ4_toString_0e30d_5 ⟨Nat.le_of_ble_eq_true rfl, Nat.le_of_ble_eq_true rfl⟩ (fun u H locs hp hP hD hS => ?_)
  obtain ⟨b, f', rfl, hcp⟩ := hp
  exact kA_ret C (Or.inl ⟨_, rfl⟩) (u := [JOW o q ml (nI k), JAW g q n f, JSW a (.ref b), JAW g b k f']) (hP.pick [1, 2, 0, 3] rfl) (hD.pick [1, 2, 0, 3] rfl rfl) hS ⟨b, f', rfl, hcp⟩ ⟨Nat.le_of_ble_eq_true rfl, Nat.le_of_ble_eq_true rfl⟩ dJ4_toString_0e30d_8
