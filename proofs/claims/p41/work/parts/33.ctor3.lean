theorem kw71 : Cond.initialized "SpiceScale$History" ∈ kW := k_w 2 3 rfl rfl
theorem kw72 : Cond.initialized "SpiceScale$Refusal" ∈ kW := k_w 2 4 rfl rfl
theorem kw73 : Cond.initialized "SpiceScale$CommandText" ∈ kW := k_w 2 5 rfl rfl
theorem kw75 : Cond.initialized "java/lang/StringBuilder" ∈ kW := k_w 2 7 rfl rfl
theorem kw104 : Cond.methodLink RX4 1 ⟨"java/lang/Object", "<init>", "()V"⟩ ∈ kW := k_w 2 36 rfl rfl
theorem kw107 : Cond.classLink RX4 7 "SpiceScale$Caravan" ∈ kW := k_w 2 39 rfl rfl
theorem kw201 : Cond.classLink RX4 23 "SpiceScale$History" ∈ kW := k_w 2 133 rfl rfl
theorem kw202 : Cond.instantiable "SpiceScale$History" 3 ∈ kW := k_w 2 134 rfl rfl
theorem kw204 : Cond.instanceMethod yX2_init ∈ kW := k_w 2 136 rfl rfl
theorem kw205 : Cond.code yX2_init cX2_init 2 none ∈ kW := k_w 2 137 rfl rfl
theorem kw221 : Cond.classLink RX4 30 "SpiceScale$Refusal" ∈ kW := k_w 2 153 rfl rfl
theorem kw222 : Cond.instantiable "SpiceScale$Refusal" 3 ∈ kW := k_w 2 154 rfl rfl
theorem kw224 : Cond.instanceMethod yX3_init ∈ kW := k_w 2 156 rfl rfl
theorem kw225 : Cond.code yX3_init cX3_init 1 none ∈ kW := k_w 2 157 rfl rfl
theorem kw240 : Cond.classLink RX4 37 "SpiceScale$CommandText" ∈ kW := k_w 2 172 rfl rfl
theorem kw241 : Cond.instantiable "SpiceScale$CommandText" 5 ∈ kW := k_w 2 173 rfl rfl
theorem kw243 : Cond.instanceMethod yX1_init ∈ kW := k_w 2 175 rfl rfl
theorem kw244 : Cond.code yX1_init cX1_init 1 none ∈ kW := k_w 2 176 rfl rfl
theorem kw268 : Cond.classLink RX4 48 "java/lang/StringBuilder" ∈ kW := k_w 2 200 rfl rfl
theorem kw269 : Cond.instantiable "java/lang/StringBuilder" 4 ∈ kW := k_w 2 201 rfl rfl
theorem kw270 : Cond.methodLink RX4 50 yJ4_init_da8c8 ∈ kW := k_w 2 202 rfl rfl
theorem kw271 : Cond.instanceMethod yJ4_init_da8c8 ∈ kW := k_w 2 203 rfl rfl
theorem kw272 : Cond.code yJ4_init_da8c8 cJ4_init_da8c8 1 none ∈ kW := k_w 2 204 rfl rfl
theorem kw273 : Cond.methodLink RJ4 1 yJ5_init_d00df ∈ kW := k_w 2 205 rfl rfl
theorem kw274 : Cond.instanceMethod yJ5_init_d00df ∈ kW := k_w 2 206 rfl rfl
theorem kw275 : Cond.code yJ5_init_d00df cJ5_init_d00df 2 none ∈ kW := k_w 2 207 rfl rfl
theorem kw276 : Cond.methodLink RJ5 3 ⟨"java/lang/Object", "<init>", "()V"⟩ ∈ kW := k_w 2 208 rfl rfl
theorem pnJ5_init_d00df : yJ5_init_d00df.cls ≠ "java/lang/invoke/MethodHandle" ∧ yJ5_init_d00df.cls ≠ "java/lang/invoke/VarHandle" ∧ (parseMethodDescriptor yJ5_init_d00df.desc).map (fun d => d.parameters.length) = some 1 := by decide +kernel
abbrev wJ5_init_d00df : List Cond := Cond.code yJ5_init_d00df cJ5_init_d00df 2 none :: kW
theorem J5_init_d00df_c (l : Launch) (g : kG) (o : Nat) : kV l yJ5_init_d00df wJ5_init_d00df 1 40 1 16 g [.ref o, .int 16] [[(o, .inr (1, [.null, .int 0, .int 0, .int 0]))]] (fun u => ∃ q, u = [JOW o q 0 0, JAW g q 16 (fun _ => 0)]) := by
  refine kV_of (cc := cJ5_init_d00df) (nL := 2) (ret := none) (lv := [(0, .ref o), (1, .int 16)]) (by decide) rfl (Nat.le_of_ble_eq_true rfl) rfl ?_
  intro p e s m args below meth c ls A hnm C hP hD hE hA hS hl
  have C : kC p c cJ5_init_d00df s m args meth RJ5 g 2 none := C
  have hx := C.1.1
  have hb := C.1.2.1
  have hts := C.1.2.2.2.2
  refine lv_aload_n hx hb dJ5_init_d00df_0 rfl (lv_at hl 0 rfl) ?_
  refine kg_obj C hl.1 kw276 kw105 kw106 (Nat.le_of_ble_eq_true rfl) (Nat.le_of_ble_eq_true rfl) dJ5_init_d00df_1 ?_
  refine kg_compact C rfl hE hS kw277 dJ5_init_d00df_4 ?_
  refine lv_if_eq (tgt := 25) hx hb dJ5_init_d00df_7 (by decide) (fun z => absurd z (by decide)) (fun z => ?_)
  refine lv_aload_n hx hb dJ5_init_d00df_10 rfl (lv_at hl 0 rfl) ?_
  refine lv_iload_n hx hb dJ5_init_d00df_11 rfl (lv_at hl 1 rfl) ?_
  refine kg_newA C (at' := .byte) (ty := .byte) (t := 0) (a0 := (16, .inl (fun _ => 0))) kw300 rfl (by intro C; exact FieldType.noConfusion) rfl hP hD hS hA (fun _ => rfl) (by decide) (by decide) (by decide) (Nat.le_of_ble_eq_true rfl) (Nat.le_of_ble_eq_true rfl) dJ5_init_d00df_12 (fun q H hP hD hS => ?_)
  have hP : kp g [[(o, .inr (1, [.null, .int 0, .int 0, .int 0]))], [(q, .inl (g.2.1 0, 16, .inl (fun _ => 0)))]] H := hP
  have hD : kd A [[(o, .inr (1, [.null, .int 0, .int 0, .int 0]))], [(q, .inl (g.2.1 0, 16, .inl (fun _ => 0)))]] := hD
  refine kg_put C kFJ4 (k := 0) kw286 hP hD hS (i := 0) (q := 0) rfl rfl (by decide) rfl rfl rfl (Nat.le_of_ble_eq_true rfl) (ch' := [(o, .inr (1, [.ref q, .int 0, .int 0, .int 0]))]) rfl rfl dJ5_init_d00df_14 (fun H locs hP hD hS => ?_)
  have hP : kp g [[(o, .inr (1, [.ref q, .int 0, .int 0, .int 0]))], [(q, .inl (g.2.1 0, 16, .inl (fun _ => 0)))]] H := hP
  have hD : kd A [[(o, .inr (1, [.ref q, .int 0, .int 0, .int 0]))], [(q, .inl (g.2.1 0, 16, .inl (fun _ => 0)))]] := hD
  refine lv_aload_n hx hb dJ5_init_d00df_17 rfl (lv_at hl 0 rfl) ?_
  refine lv_iconst (v := 0) hx hb dJ5_init_d00df_18 (by decide) ?_
  refine kg_put C kFJ4 (k := 1) kw287 hP hD hS (i := 0) (q := 0) rfl rfl (by decide) rfl rfl rfl (Nat.le_of_ble_eq_true rfl) (ch' := [(o, .inr (1, [.ref q, .int 0, .int 0, .int 0]))]) rfl rfl dJ5_init_d00df_19 (fun H locs hP hD hS => ?_)
  have hP : kp g [[(o, .inr (1, [.ref q, .int 0, .int 0, .int 0]))], [(q, .inl (g.2.1 0, 16, .inl (fun _ => 0)))]] H := hP
  have hD : kd A [[(o, .inr (1, [.ref q, .int 0, .int 0, .int 0]))], [(q, .inl (g.2.1 0, 16, .inl (fun _ => 0)))]] := hD
  refine lv_goto (tgt := 38) hx hb dJ5_init_d00df_22 (by decide) ?_
  have hP : kp g [JOW o q 0 0, JAW g q 16 (fun _ => 0)] H := hP
  have hD : kd A [JOW o q 0 0, JAW g q 16 (fun _ => 0)] := hD
  exact kV_retW C hP hD hS ⟨q, rfl⟩ ⟨Nat.le_of_ble_eq_true rfl, Nat.le_of_ble_eq_true rfl⟩ dJ5_init_d00df_38
theorem pnJ4_init_da8c8 : yJ4_init_da8c8.cls ≠ "java/lang/invoke/MethodHandle" ∧ yJ4_init_da8c8.cls ≠ "java/lang/invoke/VarHandle" ∧ (parseMethodDescriptor yJ4_init_da8c8.desc).map (fun d => d.parameters.length) = some 0 := by decide +kernel
abbrev wJ4_init_da8c8 : List Cond := Cond.code yJ4_init_da8c8 cJ4_init_da8c8 1 none :: kW
theorem J4_init_da8c8_c (l : Launch) (g : kG) (o : Nat) : kV l yJ4_init_da8c8 wJ4_init_da8c8 2 80 1 16 g [.ref o] [[(o, .inr (1, [.null, .int 0, .int 0, .int 0]))]] (fun u => ∃ q, u = [JOW o q 0 0, JAW g q 16 (fun _ => 0)]) := by
  refine kV_of (cc := cJ4_init_da8c8) (nL := 1) (ret := none) (lv := [(0, .ref o)]) (by decide) rfl (Nat.le_of_ble_eq_true rfl) rfl ?_
  intro p e s m args below meth c ls A hnm C hP hD hE hA hS hl
  have C : kC p c cJ4_init_da8c8 s m args meth RJ4 g 1 none := C
  have hx := C.1.1
  have hb := C.1.2.1
  have hts := C.1.2.2.2.2
  refine lv_aload_n hx hb dJ4_init_da8c8_0 rfl (lv_at hl 0 rfl) ?_
  refine lv_bipush (v := 16) hx hb dJ4_init_da8c8_1 (by decide) ?_
  refine kV_I (As := [.int 16]) (rest := []) (wr := []) C (J5_init_d00df_c l g o) ⟨callB_of 1 hts (k_gI kw275) rfl rfl rfl (hts _ kw74) (hts _ kw273) pnJ5_init_d00df ⟨Nat.le_of_ble_eq_true rfl, Nat.le_of_ble_eq_true rfl⟩, rfl, hts _ kw274⟩ hE hS hA hP hD [0] [] rfl rfl ⟨rfl, rfl, by decide⟩ rfl hl.1 rfl rfl dJ4_init_da8c8_3 ⟨Nat.le_of_ble_eq_true rfl, Nat.le_of_ble_eq_true rfl⟩ (fun u H locs hp hP hD hS => ?_)
  exact kV_retW C hP hD hS hp ⟨Nat.le_of_ble_eq_true rfl, Nat.le_of_ble_eq_true rfl⟩ dJ4_init_da8c8_6
theorem pnX2_init : yX2_init.cls ≠ "java/lang/invoke/MethodHandle" ∧ yX2_init.cls ≠ "java/lang/invoke/VarHandle" ∧ (parseMethodDescriptor yX2_init.desc).map (fun d => d.parameters.length) = some 0 := by decide +kernel
theorem pnX3_init : yX3_init.cls ≠ "java/lang/invoke/MethodHandle" ∧ yX3_init.cls ≠ "java/lang/invoke/VarHandle" ∧ (parseMethodDescriptor yX3_init.desc).map (fun d => d.parameters.length) = some 0 := by decide +kernel
theorem pnX1_init : yX1_init.cls ≠ "java/lang/invoke/MethodHandle" ∧ yX1_init.cls ≠ "java/lang/invoke/VarHandle" ∧ (parseMethodDescriptor yX1_init.desc).map (fun d => d.parameters.length) = some 0 := by decide +kernel
def X4i_v : Nat → Int32 := upd (fun _ => 0) 6 (-1)
/-- the face, just made -/
def kX4i (g : kG) (oF : Nat) (u : List va_W) : Prop := ∃ (oC oS oH oR oT oB : Nat) (rC rS rH : Nat → Nat) (oQ : Nat → Nat) (rQ : Nat → Nat → Nat) (rT : Nat → Nat) (qB : Nat), u = [X4W g oF (kFr oC oS oH oR oT oB) X4i_v, X0W g oC rC X0i_v X0i_a, X0W g oS rS X0i_v X0i_a, X2W g oH rH (fun _ => 0) oQ rQ (fun _ => (X0i_v, X0i_a)), X3W g oR (fun _ => 0) (fun _ => 0) (fun _ _ => 0), X1W g oT rT (fun _ => 0) (fun _ _ => 0), JOW oB qB 0 0, JAW g qB 16 (fun _ => 0)]
set_option maxHeartbeats 8000000 in
set_option maxRecDepth 100000 in
abbrev wX4_init : List Cond := Cond.code yX4_init cX4_init 1 none :: kW
theorem X4_init_c (l : Launch) (g : kG) (oF : Nat) : kVO l yX4_init wX4_init 4 200 118 906 g [.ref oF] [[(oF, .inr (8, [.null, .null, .int 0, .null, .null, .null, .int 0, .null]))]] (fun u => kX4i g oF u) := by
  refine kVO_of (cc := cX4_init) (nL := 1) (ret := none) (lv := [(0, .ref oF)]) (by decide) rfl (Nat.le_of_ble_eq_true rfl) rfl ?_
  intro p e s m args below meth c ls A hO hnm C hP hD hE hA hS hl
  have hnm : meth.name = "<init>" := hnm
  have C : kC p c cX4_init s m args meth RX4 g 1 none := C
  have hx := C.1.1
  have hb := C.1.2.1
  have hts := C.1.2.2.2.2
  refine lv_aload_n hx hb dX4_init_0 rfl (lv_at hl 0 rfl) ?_
  refine kg_obj C hl.1 kw104 kw105 kw106 (Nat.le_of_ble_eq_true rfl) (Nat.le_of_ble_eq_true rfl) dX4_init_1 ?_
  refine lv_aload_n hx hb dX4_init_4 rfl (lv_at hl 0 rfl) ?_
  refine kg_new C kFX0 (fs := [.int 0, .int 0, .int 0, .int 0, .int 0, .null, .null, .int 0, .null, .null, .null, .null, .null, .null, .null, .int 0, .int 0, .int 0, .int 0]) kw107 kw108 kw70 hP hD hS hA (fun j hj => by match j, hj with | 0, _ => rfl | 1, _ => rfl | 2, _ => rfl | 3, _ => rfl | 4, _ => rfl | 5, _ => rfl | 6, _ => rfl | 7, _ => rfl | 8, _ => rfl | 9, _ => rfl | 10, _ => rfl | 11, _ => rfl | 12, _ => rfl | 13, _ => rfl | 14, _ => rfl | 15, _ => rfl | 16, _ => rfl | 17, _ => rfl | 18, _ => rfl | n + 19, h => exact absurd h (by omega)) (by first | exact Nat.le_of_ble_eq_true rfl | omega) (by first | exact Nat.le_of_ble_eq_true rfl | omega) dX4_init_5 (fun oC H hP hD hS => ?_)
  have hP : kp g [[(oF, .inr (8, [.null, .null, .int 0, .null, .null, .null, .int 0, .null]))], [(oC, .inr (4, [.int 0, .int 0, .int 0, .int 0, .int 0, .null, .null, .int 0, .null, .null, .null, .null, .null, .null, .null, .int 0, .int 0, .int 0, .int 0]))]] H := hP
  have hD : kd A [[(oF, .inr (8, [.null, .null, .int 0, .null, .null, .null, .int 0, .null]))], [(oC, .inr (4, [.int 0, .int 0, .int 0, .int 0, .int 0, .null, .null, .int 0, .null, .null, .null, .null, .null, .null, .null, .int 0, .int 0, .int 0, .int 0]))]] := hD
  refine lv_dup hx hb dX4_init_8 rfl ?_
  refine kV_IN (As := []) (rest := [.ref oC, .ref oF]) (wr := [[(oF, .inr (8, [.null, .null, .int 0, .null, .null, .null, .int 0, .null]))]]) C (X0_init_c l g oC) ⟨va_cnB (host := "SpiceScale") 0 hts (k_gI kw111) rfl rfl rfl (C.2.1.2 _ (List.mem_of_getElem? (i := 0) rfl)) (hts _ kw70) pnX0_init ⟨Nat.le_of_ble_eq_true rfl, Nat.le_of_ble_eq_true rfl⟩, rfl, hts _ kw110⟩ hE hS hA hP hD [1] [0] rfl rfl ⟨rfl, rfl, by decide⟩ rfl hl.1 rfl rfl dX4_init_9 ⟨Nat.le_of_ble_eq_true rfl, Nat.le_of_ble_eq_true rfl⟩ (fun u H locs hp hP hD hS => ?_)
  obtain ⟨rC, rfl⟩ := hp
  have hP : kp g [[(oF, .inr (8, [.null, .null, .int 0, .null, .null, .null, .int 0, .null]))], X0W g oC rC X0i_v X0i_a] H := hP
  have hD : kd A [[(oF, .inr (8, [.null, .null, .int 0, .null, .null, .null, .int 0, .null]))], X0W g oC rC X0i_v X0i_a] := hD
  refine kg_putF C kFX4 (k := 0) kw301 hP hD hS (i := 0) (q := 0) rfl rfl (by decide) rfl hnm rfl rfl rfl (Nat.le_of_ble_eq_true rfl) (ch' := [(oF, .inr (8, [.ref oC, .null, .int 0, .null, .null, .null, .int 0, .null]))]) rfl rfl dX4_init_12 (fun H locs hP hD hS => ?_)
  have hP : kp g [[(oF, .inr (8, [.ref oC, .null, .int 0, .null, .null, .null, .int 0, .null]))], X0W g oC rC X0i_v X0i_a] H := hP
  have hD : kd A [[(oF, .inr (8, [.ref oC, .null, .int 0, .null, .null, .null, .int 0, .null]))], X0W g oC rC X0i_v X0i_a] := hD
  refine lv_aload_n hx hb dX4_init_15 rfl (lv_at hl 0 rfl) ?_
  refine kg_new C kFX0 (fs := [.int 0, .int 0, .int 0, .int 0, .int 0, .null, .null, .int 0, .null, .null, .null, .null, .null, .null, .null, .int 0, .int 0, .int 0, .int 0]) kw107 kw108 kw70 hP hD hS hA (fun j hj => by match j, hj with | 0, _ => rfl | 1, _ => rfl | 2, _ => rfl | 3, _ => rfl | 4, _ => rfl | 5, _ => rfl | 6, _ => rfl | 7, _ => rfl | 8, _ => rfl | 9, _ => rfl | 10, _ => rfl | 11, _ => rfl | 12, _ => rfl | 13, _ => rfl | 14, _ => rfl | 15, _ => rfl | 16, _ => rfl | 17, _ => rfl | 18, _ => rfl | n + 19, h => exact absurd h (by omega)) (by first | exact Nat.le_of_ble_eq_true rfl | omega) (by first | exact Nat.le_of_ble_eq_true rfl | omega) dX4_init_16 (fun oS H hP hD hS => ?_)
  have hP : kp g [[(oF, .inr (8, [.ref oC, .null, .int 0, .null, .null, .null, .int 0, .null]))], X0W g oC rC X0i_v X0i_a, [(oS, .inr (4, [.int 0, .int 0, .int 0, .int 0, .int 0, .null, .null, .int 0, .null, .null, .null, .null, .null, .null, .null, .int 0, .int 0, .int 0, .int 0]))]] H := hP
  have hD : kd A [[(oF, .inr (8, [.ref oC, .null, .int 0, .null, .null, .null, .int 0, .null]))], X0W g oC rC X0i_v X0i_a, [(oS, .inr (4, [.int 0, .int 0, .int 0, .int 0, .int 0, .null, .null, .int 0, .null, .null, .null, .null, .null, .null, .null, .int 0, .int 0, .int 0, .int 0]))]] := hD
  refine lv_dup hx hb dX4_init_19 rfl ?_
  refine kV_IN (As := []) (rest := [.ref oS, .ref oF]) (wr := [[(oF, .inr (8, [.ref oC, .null, .int 0, .null, .null, .null, .int 0, .null]))], X0W g oC rC X0i_v X0i_a]) C (X0_init_c l g oS) ⟨va_cnB (host := "SpiceScale") 0 hts (k_gI kw111) rfl rfl rfl (C.2.1.2 _ (List.mem_of_getElem? (i := 0) rfl)) (hts _ kw70) pnX0_init ⟨Nat.le_of_ble_eq_true rfl, Nat.le_of_ble_eq_true rfl⟩, rfl, hts _ kw110⟩ hE hS hA hP hD [2] [0, 1] rfl rfl ⟨rfl, rfl, by decide⟩ rfl hl.1 rfl rfl dX4_init_20 ⟨Nat.le_of_ble_eq_true rfl, Nat.le_of_ble_eq_true rfl⟩ (fun u H locs hp hP hD hS => ?_)
  obtain ⟨rS, rfl⟩ := hp
  have hP : kp g [[(oF, .inr (8, [.ref oC, .null, .int 0, .null, .null, .null, .int 0, .null]))], X0W g oC rC X0i_v X0i_a, X0W g oS rS X0i_v X0i_a] H := hP
  have hD : kd A [[(oF, .inr (8, [.ref oC, .null, .int 0, .null, .null, .null, .int 0, .null]))], X0W g oC rC X0i_v X0i_a, X0W g oS rS X0i_v X0i_a] := hD
  refine kg_putF C kFX4 (k := 1) kw302 hP hD hS (i := 0) (q := 0) rfl rfl (by decide) rfl hnm rfl rfl rfl (Nat.le_of_ble_eq_true rfl) (ch' := [(oF, .inr (8, [.ref oC, .ref oS, .int 0, .null, .null, .null, .int 0, .null]))]) rfl rfl dX4_init_23 (fun H locs hP hD hS => ?_)
  have hP : kp g [[(oF, .inr (8, [.ref oC, .ref oS, .int 0, .null, .null, .null, .int 0, .null]))], X0W g oC rC X0i_v X0i_a, X0W g oS rS X0i_v X0i_a] H := hP
  have hD : kd A [[(oF, .inr (8, [.ref oC, .ref oS, .int 0, .null, .null, .null, .int 0, .null]))], X0W g oC rC X0i_v X0i_a, X0W g oS rS X0i_v X0i_a] := hD
  refine lv_aload_n hx hb dX4_init_26 rfl (lv_at hl 0 rfl) ?_
  refine lv_iconst (v := 0) hx hb dX4_init_27 (by decide) ?_
  refine kg_put C kFX4 (k := 2) kw303 hP hD hS (i := 0) (q := 0) rfl rfl (by decide) rfl rfl rfl (Nat.le_of_ble_eq_true rfl) (ch' := [(oF, .inr (8, [.ref oC, .ref oS, .int 0, .null, .null, .null, .int 0, .null]))]) rfl rfl dX4_init_28 (fun H locs hP hD hS => ?_)
  have hP : kp g [[(oF, .inr (8, [.ref oC, .ref oS, .int 0, .null, .null, .null, .int 0, .null]))], X0W g oC rC X0i_v X0i_a, X0W g oS rS X0i_v X0i_a] H := hP
  have hD : kd A [[(oF, .inr (8, [.ref oC, .ref oS, .int 0, .null, .null, .null, .int 0, .null]))], X0W g oC rC X0i_v X0i_a, X0W g oS rS X0i_v X0i_a] := hD
  refine lv_aload_n hx hb dX4_init_31 rfl (lv_at hl 0 rfl) ?_
  refine kg_new C kFX2 (fs := [.null, .int 0, .int 0]) kw201 kw202 kw71 hP hD hS hA (fun j hj => by match j, hj with | 0, _ => rfl | 1, _ => rfl | 2, _ => rfl | n + 3, h => exact absurd h (by omega)) (by first | exact Nat.le_of_ble_eq_true rfl | omega) (by first | exact Nat.le_of_ble_eq_true rfl | omega) dX4_init_32 (fun oH H hP hD hS => ?_)
  have hP : kp g [[(oF, .inr (8, [.ref oC, .ref oS, .int 0, .null, .null, .null, .int 0, .null]))], X0W g oC rC X0i_v X0i_a, X0W g oS rS X0i_v X0i_a, [(oH, .inr (6, [.null, .int 0, .int 0]))]] H := hP
  have hD : kd A [[(oF, .inr (8, [.ref oC, .ref oS, .int 0, .null, .null, .null, .int 0, .null]))], X0W g oC rC X0i_v X0i_a, X0W g oS rS X0i_v X0i_a, [(oH, .inr (6, [.null, .int 0, .int 0]))]] := hD
  refine lv_dup hx hb dX4_init_35 rfl ?_
  refine kVO_IN (As := []) (rest := [.ref oH, .ref oF]) (wr := [[(oF, .inr (8, [.ref oC, .ref oS, .int 0, .null, .null, .null, .int 0, .null]))], X0W g oC rC X0i_v X0i_a, X0W g oS rS X0i_v X0i_a]) C (X2_init_c l g oH) hO ⟨va_cnB (host := "SpiceScale") 0 hts (k_gI kw205) rfl rfl rfl (C.2.1.2 _ (List.mem_of_getElem? (i := 30) rfl)) (hts _ kw71) pnX2_init ⟨Nat.le_of_ble_eq_true rfl, Nat.le_of_ble_eq_true rfl⟩, rfl, hts _ kw204⟩ hE hS hA hP hD [3] [0, 1, 2] rfl rfl ⟨rfl, rfl, by decide⟩ rfl hl.1 rfl rfl dX4_init_36 ⟨Nat.le_of_ble_eq_true rfl, Nat.le_of_ble_eq_true rfl⟩ (fun u H locs hp hP hD hS => ?_)
  obtain ⟨qA, oQ, rQ, rfl⟩ := hp
  have hP : kp g [[(oF, .inr (8, [.ref oC, .ref oS, .int 0, .null, .null, .null, .int 0, .null]))], X0W g oC rC X0i_v X0i_a, X0W g oS rS X0i_v X0i_a, X2W g oH (fun _ => qA) (fun _ => 0) oQ rQ (fun _ => (X0i_v, X0i_a))] H := hP
  have hD : kd A [[(oF, .inr (8, [.ref oC, .ref oS, .int 0, .null, .null, .null, .int 0, .null]))], X0W g oC rC X0i_v X0i_a, X0W g oS rS X0i_v X0i_a, X2W g oH (fun _ => qA) (fun _ => 0) oQ rQ (fun _ => (X0i_v, X0i_a))] := hD
  refine kg_putF C kFX4 (k := 3) kw304 hP hD hS (i := 0) (q := 0) rfl rfl (by decide) rfl hnm rfl rfl rfl (Nat.le_of_ble_eq_true rfl) (ch' := [(oF, .inr (8, [.ref oC, .ref oS, .int 0, .ref oH, .null, .null, .int 0, .null]))]) rfl rfl dX4_init_39 (fun H locs hP hD hS => ?_)
  have hP : kp g [[(oF, .inr (8, [.ref oC, .ref oS, .int 0, .ref oH, .null, .null, .int 0, .null]))], X0W g oC rC X0i_v X0i_a, X0W g oS rS X0i_v X0i_a, X2W g oH (fun _ => qA) (fun _ => 0) oQ rQ (fun _ => (X0i_v, X0i_a))] H := hP
  have hD : kd A [[(oF, .inr (8, [.ref oC, .ref oS, .int 0, .ref oH, .null, .null, .int 0, .null]))], X0W g oC rC X0i_v X0i_a, X0W g oS rS X0i_v X0i_a, X2W g oH (fun _ => qA) (fun _ => 0) oQ rQ (fun _ => (X0i_v, X0i_a))] := hD
  refine lv_aload_n hx hb dX4_init_42 rfl (lv_at hl 0 rfl) ?_
  refine kg_new C kFX3 (fs := [.int 0, .int 0, .int 0]) kw221 kw222 kw72 hP hD hS hA (fun j hj => by match j, hj with | 0, _ => rfl | 1, _ => rfl | 2, _ => rfl | n + 3, h => exact absurd h (by omega)) (by first | exact Nat.le_of_ble_eq_true rfl | omega) (by first | exact Nat.le_of_ble_eq_true rfl | omega) dX4_init_43 (fun oR H hP hD hS => ?_)
  have hP : kp g [[(oF, .inr (8, [.ref oC, .ref oS, .int 0, .ref oH, .null, .null, .int 0, .null]))], X0W g oC rC X0i_v X0i_a, X0W g oS rS X0i_v X0i_a, X2W g oH (fun _ => qA) (fun _ => 0) oQ rQ (fun _ => (X0i_v, X0i_a)), [(oR, .inr (7, [.int 0, .int 0, .int 0]))]] H := hP
  have hD : kd A [[(oF, .inr (8, [.ref oC, .ref oS, .int 0, .ref oH, .null, .null, .int 0, .null]))], X0W g oC rC X0i_v X0i_a, X0W g oS rS X0i_v X0i_a, X2W g oH (fun _ => qA) (fun _ => 0) oQ rQ (fun _ => (X0i_v, X0i_a)), [(oR, .inr (7, [.int 0, .int 0, .int 0]))]] := hD
  refine lv_dup hx hb dX4_init_46 rfl ?_
  refine kV_IN (As := []) (rest := [.ref oR, .ref oF]) (wr := [[(oF, .inr (8, [.ref oC, .ref oS, .int 0, .ref oH, .null, .null, .int 0, .null]))], X0W g oC rC X0i_v X0i_a, X0W g oS rS X0i_v X0i_a, X2W g oH (fun _ => qA) (fun _ => 0) oQ rQ (fun _ => (X0i_v, X0i_a))]) C (X3_init_c l g oR) ⟨va_cnB (host := "SpiceScale") 0 hts (k_gI kw225) rfl rfl rfl (C.2.1.2 _ (List.mem_of_getElem? (i := 33) rfl)) (hts _ kw72) pnX3_init ⟨Nat.le_of_ble_eq_true rfl, Nat.le_of_ble_eq_true rfl⟩, rfl, hts _ kw224⟩ hE hS hA hP hD [4] [0, 1, 2, 3] rfl rfl ⟨rfl, rfl, by decide⟩ rfl hl.1 rfl rfl dX4_init_47 ⟨Nat.le_of_ble_eq_true rfl, Nat.le_of_ble_eq_true rfl⟩ (fun u H locs hp hP hD hS => ?_)
  subst hp
  have hP : kp g [[(oF, .inr (8, [.ref oC, .ref oS, .int 0, .ref oH, .null, .null, .int 0, .null]))], X0W g oC rC X0i_v X0i_a, X0W g oS rS X0i_v X0i_a, X2W g oH (fun _ => qA) (fun _ => 0) oQ rQ (fun _ => (X0i_v, X0i_a)), X3W g oR (fun _ => 0) (fun _ => 0) (fun _ _ => 0)] H := hP
  have hD : kd A [[(oF, .inr (8, [.ref oC, .ref oS, .int 0, .ref oH, .null, .null, .int 0, .null]))], X0W g oC rC X0i_v X0i_a, X0W g oS rS X0i_v X0i_a, X2W g oH (fun _ => qA) (fun _ => 0) oQ rQ (fun _ => (X0i_v, X0i_a)), X3W g oR (fun _ => 0) (fun _ => 0) (fun _ _ => 0)] := hD
  refine kg_putF C kFX4 (k := 4) kw305 hP hD hS (i := 0) (q := 0) rfl rfl (by decide) rfl hnm rfl rfl rfl (Nat.le_of_ble_eq_true rfl) (ch' := [(oF, .inr (8, [.ref oC, .ref oS, .int 0, .ref oH, .ref oR, .null, .int 0, .null]))]) rfl rfl dX4_init_50 (fun H locs hP hD hS => ?_)
  have hP : kp g [[(oF, .inr (8, [.ref oC, .ref oS, .int 0, .ref oH, .ref oR, .null, .int 0, .null]))], X0W g oC rC X0i_v X0i_a, X0W g oS rS X0i_v X0i_a, X2W g oH (fun _ => qA) (fun _ => 0) oQ rQ (fun _ => (X0i_v, X0i_a)), X3W g oR (fun _ => 0) (fun _ => 0) (fun _ _ => 0)] H := hP
  have hD : kd A [[(oF, .inr (8, [.ref oC, .ref oS, .int 0, .ref oH, .ref oR, .null, .int 0, .null]))], X0W g oC rC X0i_v X0i_a, X0W g oS rS X0i_v X0i_a, X2W g oH (fun _ => qA) (fun _ => 0) oQ rQ (fun _ => (X0i_v, X0i_a)), X3W g oR (fun _ => 0) (fun _ => 0) (fun _ _ => 0)] := hD
  refine lv_aload_n hx hb dX4_init_53 rfl (lv_at hl 0 rfl) ?_
  refine kg_new C kFX1 (fs := [.null, .int 0, .int 0, .int 0, .null]) kw240 kw241 kw73 hP hD hS hA (fun j hj => by match j, hj with | 0, _ => rfl | 1, _ => rfl | 2, _ => rfl | 3, _ => rfl | 4, _ => rfl | n + 5, h => exact absurd h (by omega)) (by first | exact Nat.le_of_ble_eq_true rfl | omega) (by first | exact Nat.le_of_ble_eq_true rfl | omega) dX4_init_54 (fun oT H hP hD hS => ?_)
  have hP : kp g [[(oF, .inr (8, [.ref oC, .ref oS, .int 0, .ref oH, .ref oR, .null, .int 0, .null]))], X0W g oC rC X0i_v X0i_a, X0W g oS rS X0i_v X0i_a, X2W g oH (fun _ => qA) (fun _ => 0) oQ rQ (fun _ => (X0i_v, X0i_a)), X3W g oR (fun _ => 0) (fun _ => 0) (fun _ _ => 0), [(oT, .inr (5, [.null, .int 0, .int 0, .int 0, .null]))]] H := hP
  have hD : kd A [[(oF, .inr (8, [.ref oC, .ref oS, .int 0, .ref oH, .ref oR, .null, .int 0, .null]))], X0W g oC rC X0i_v X0i_a, X0W g oS rS X0i_v X0i_a, X2W g oH (fun _ => qA) (fun _ => 0) oQ rQ (fun _ => (X0i_v, X0i_a)), X3W g oR (fun _ => 0) (fun _ => 0) (fun _ _ => 0), [(oT, .inr (5, [.null, .int 0, .int 0, .int 0, .null]))]] := hD
  refine lv_dup hx hb dX4_init_57 rfl ?_
  refine kV_IN (As := []) (rest := [.ref oT, .ref oF]) (wr := [[(oF, .inr (8, [.ref oC, .ref oS, .int 0, .ref oH, .ref oR, .null, .int 0, .null]))], X0W g oC rC X0i_v X0i_a, X0W g oS rS X0i_v X0i_a, X2W g oH (fun _ => qA) (fun _ => 0) oQ rQ (fun _ => (X0i_v, X0i_a)), X3W g oR (fun _ => 0) (fun _ => 0) (fun _ _ => 0)]) C (X1_init_c l g oT) ⟨va_cnB (host := "SpiceScale") 0 hts (k_gI kw244) rfl rfl rfl (C.2.1.2 _ (List.mem_of_getElem? (i := 37) rfl)) (hts _ kw73) pnX1_init ⟨Nat.le_of_ble_eq_true rfl, Nat.le_of_ble_eq_true rfl⟩, rfl, hts _ kw243⟩ hE hS hA hP hD [5] [0, 1, 2, 3, 4] rfl rfl ⟨rfl, rfl, by decide⟩ rfl hl.1 rfl rfl dX4_init_58 ⟨Nat.le_of_ble_eq_true rfl, Nat.le_of_ble_eq_true rfl⟩ (fun u H locs hp hP hD hS => ?_)
  obtain ⟨rT, rfl⟩ := hp
  have hP : kp g [[(oF, .inr (8, [.ref oC, .ref oS, .int 0, .ref oH, .ref oR, .null, .int 0, .null]))], X0W g oC rC X0i_v X0i_a, X0W g oS rS X0i_v X0i_a, X2W g oH (fun _ => qA) (fun _ => 0) oQ rQ (fun _ => (X0i_v, X0i_a)), X3W g oR (fun _ => 0) (fun _ => 0) (fun _ _ => 0), X1W g oT rT (fun _ => 0) (fun _ _ => 0)] H := hP
  have hD : kd A [[(oF, .inr (8, [.ref oC, .ref oS, .int 0, .ref oH, .ref oR, .null, .int 0, .null]))], X0W g oC rC X0i_v X0i_a, X0W g oS rS X0i_v X0i_a, X2W g oH (fun _ => qA) (fun _ => 0) oQ rQ (fun _ => (X0i_v, X0i_a)), X3W g oR (fun _ => 0) (fun _ => 0) (fun _ _ => 0), X1W g oT rT (fun _ => 0) (fun _ _ => 0)] := hD
  refine kg_putF C kFX4 (k := 5) kw306 hP hD hS (i := 0) (q := 0) rfl rfl (by decide) rfl hnm rfl rfl rfl (Nat.le_of_ble_eq_true rfl) (ch' := [(oF, .inr (8, [.ref oC, .ref oS, .int 0, .ref oH, .ref oR, .ref oT, .int 0, .null]))]) rfl rfl dX4_init_61 (fun H locs hP hD hS => ?_)
  have hP : kp g [[(oF, .inr (8, [.ref oC, .ref oS, .int 0, .ref oH, .ref oR, .ref oT, .int 0, .null]))], X0W g oC rC X0i_v X0i_a, X0W g oS rS X0i_v X0i_a, X2W g oH (fun _ => qA) (fun _ => 0) oQ rQ (fun _ => (X0i_v, X0i_a)), X3W g oR (fun _ => 0) (fun _ => 0) (fun _ _ => 0), X1W g oT rT (fun _ => 0) (fun _ _ => 0)] H := hP
  have hD : kd A [[(oF, .inr (8, [.ref oC, .ref oS, .int 0, .ref oH, .ref oR, .ref oT, .int 0, .null]))], X0W g oC rC X0i_v X0i_a, X0W g oS rS X0i_v X0i_a, X2W g oH (fun _ => qA) (fun _ => 0) oQ rQ (fun _ => (X0i_v, X0i_a)), X3W g oR (fun _ => 0) (fun _ => 0) (fun _ _ => 0), X1W g oT rT (fun _ => 0) (fun _ _ => 0)] := hD
  refine lv_aload_n hx hb dX4_init_64 rfl (lv_at hl 0 rfl) ?_
  refine lv_iconst (v := (-1)) hx hb dX4_init_65 (by decide) ?_
  refine kg_put C kFX4 (k := 6) kw307 hP hD hS (i := 0) (q := 0) rfl rfl (by decide) rfl rfl rfl (Nat.le_of_ble_eq_true rfl) (ch' := [(oF, .inr (8, [.ref oC, .ref oS, .int 0, .ref oH, .ref oR, .ref oT, .int (-1), .null]))]) rfl rfl dX4_init_66 (fun H locs hP hD hS => ?_)
  have hP : kp g [[(oF, .inr (8, [.ref oC, .ref oS, .int 0, .ref oH, .ref oR, .ref oT, .int (-1), .null]))], X0W g oC rC X0i_v X0i_a, X0W g oS rS X0i_v X0i_a, X2W g oH (fun _ => qA) (fun _ => 0) oQ rQ (fun _ => (X0i_v, X0i_a)), X3W g oR (fun _ => 0) (fun _ => 0) (fun _ _ => 0), X1W g oT rT (fun _ => 0) (fun _ _ => 0)] H := hP
  have hD : kd A [[(oF, .inr (8, [.ref oC, .ref oS, .int 0, .ref oH, .ref oR, .ref oT, .int (-1), .null]))], X0W g oC rC X0i_v X0i_a, X0W g oS rS X0i_v X0i_a, X2W g oH (fun _ => qA) (fun _ => 0) oQ rQ (fun _ => (X0i_v, X0i_a)), X3W g oR (fun _ => 0) (fun _ => 0) (fun _ _ => 0), X1W g oT rT (fun _ => 0) (fun _ _ => 0)] := hD
  refine lv_aload_n hx hb dX4_init_69 rfl (lv_at hl 0 rfl) ?_
  refine kg_new C kFJ4 (fs := [.null, .int 0, .int 0, .int 0]) kw268 kw269 kw75 hP hD hS hA (fun j hj => by match j, hj with | 0, _ => rfl | 1, _ => rfl | 2, _ => rfl | 3, _ => rfl | n + 4, h => exact absurd h (by omega)) (by first | exact Nat.le_of_ble_eq_true rfl | omega) (by first | exact Nat.le_of_ble_eq_true rfl | omega) dX4_init_70 (fun oB H hP hD hS => ?_)
  have hP : kp g [[(oF, .inr (8, [.ref oC, .ref oS, .int 0, .ref oH, .ref oR, .ref oT, .int (-1), .null]))], X0W g oC rC X0i_v X0i_a, X0W g oS rS X0i_v X0i_a, X2W g oH (fun _ => qA) (fun _ => 0) oQ rQ (fun _ => (X0i_v, X0i_a)), X3W g oR (fun _ => 0) (fun _ => 0) (fun _ _ => 0), X1W g oT rT (fun _ => 0) (fun _ _ => 0), [(oB, .inr (1, [.null, .int 0, .int 0, .int 0]))]] H := hP
  have hD : kd A [[(oF, .inr (8, [.ref oC, .ref oS, .int 0, .ref oH, .ref oR, .ref oT, .int (-1), .null]))], X0W g oC rC X0i_v X0i_a, X0W g oS rS X0i_v X0i_a, X2W g oH (fun _ => qA) (fun _ => 0) oQ rQ (fun _ => (X0i_v, X0i_a)), X3W g oR (fun _ => 0) (fun _ => 0) (fun _ _ => 0), X1W g oT rT (fun _ => 0) (fun _ _ => 0), [(oB, .inr (1, [.null, .int 0, .int 0, .int 0]))]] := hD
  refine lv_dup hx hb dX4_init_73 rfl ?_
  refine kV_I (As := []) (rest := [.ref oB, .ref oF]) (wr := [[(oF, .inr (8, [.ref oC, .ref oS, .int 0, .ref oH, .ref oR, .ref oT, .int (-1), .null]))], X0W g oC rC X0i_v X0i_a, X0W g oS rS X0i_v X0i_a, X2W g oH (fun _ => qA) (fun _ => 0) oQ rQ (fun _ => (X0i_v, X0i_a)), X3W g oR (fun _ => 0) (fun _ => 0) (fun _ _ => 0), X1W g oT rT (fun _ => 0) (fun _ _ => 0)]) C (J4_init_da8c8_c l g oB) ⟨callB_of 0 hts (k_gI kw272) rfl rfl rfl (hts _ kw75) (hts _ kw270) pnJ4_init_da8c8 ⟨Nat.le_of_ble_eq_true rfl, Nat.le_of_ble_eq_true rfl⟩, rfl, hts _ kw271⟩ hE hS hA hP hD [6] [0, 1, 2, 3, 4, 5] rfl rfl ⟨rfl, rfl, by decide⟩ rfl hl.1 rfl rfl dX4_init_74 ⟨Nat.le_of_ble_eq_true rfl, Nat.le_of_ble_eq_true rfl⟩ (fun u H locs hp hP hD hS => ?_)
  obtain ⟨qB, rfl⟩ := hp
  have hP : kp g [[(oF, .inr (8, [.ref oC, .ref oS, .int 0, .ref oH, .ref oR, .ref oT, .int (-1), .null]))], X0W g oC rC X0i_v X0i_a, X0W g oS rS X0i_v X0i_a, X2W g oH (fun _ => qA) (fun _ => 0) oQ rQ (fun _ => (X0i_v, X0i_a)), X3W g oR (fun _ => 0) (fun _ => 0) (fun _ _ => 0), X1W g oT rT (fun _ => 0) (fun _ _ => 0), JOW oB qB 0 0, JAW g qB 16 (fun _ => 0)] H := hP
  have hD : kd A [[(oF, .inr (8, [.ref oC, .ref oS, .int 0, .ref oH, .ref oR, .ref oT, .int (-1), .null]))], X0W g oC rC X0i_v X0i_a, X0W g oS rS X0i_v X0i_a, X2W g oH (fun _ => qA) (fun _ => 0) oQ rQ (fun _ => (X0i_v, X0i_a)), X3W g oR (fun _ => 0) (fun _ => 0) (fun _ _ => 0), X1W g oT rT (fun _ => 0) (fun _ _ => 0), JOW oB qB 0 0, JAW g qB 16 (fun _ => 0)] := hD
  refine kg_putF C kFX4 (k := 7) kw308 hP hD hS (i := 0) (q := 0) rfl rfl (by decide) rfl hnm rfl rfl rfl (Nat.le_of_ble_eq_true rfl) (ch' := [(oF, .inr (8, [.ref oC, .ref oS, .int 0, .ref oH, .ref oR, .ref oT, .int (-1), .ref oB]))]) rfl rfl dX4_init_77 (fun H locs hP hD hS => ?_)
  have hP : kp g [[(oF, .inr (8, [.ref oC, .ref oS, .int 0, .ref oH, .ref oR, .ref oT, .int (-1), .ref oB]))], X0W g oC rC X0i_v X0i_a, X0W g oS rS X0i_v X0i_a, X2W g oH (fun _ => qA) (fun _ => 0) oQ rQ (fun _ => (X0i_v, X0i_a)), X3W g oR (fun _ => 0) (fun _ => 0) (fun _ _ => 0), X1W g oT rT (fun _ => 0) (fun _ _ => 0), JOW oB qB 0 0, JAW g qB 16 (fun _ => 0)] H := hP
  have hD : kd A [[(oF, .inr (8, [.ref oC, .ref oS, .int 0, .ref oH, .ref oR, .ref oT, .int (-1), .ref oB]))], X0W g oC rC X0i_v X0i_a, X0W g oS rS X0i_v X0i_a, X2W g oH (fun _ => qA) (fun _ => 0) oQ rQ (fun _ => (X0i_v, X0i_a)), X3W g oR (fun _ => 0) (fun _ => 0) (fun _ _ => 0), X1W g oT rT (fun _ => 0) (fun _ _ => 0), JOW oB qB 0 0, JAW g qB 16 (fun _ => 0)] := hD
  have hP : kp g [X4W g oF (kFr oC oS oH oR oT oB) X4i_v, X0W g oC rC X0i_v X0i_a, X0W g oS rS X0i_v X0i_a, X2W g oH (fun _ => qA) (fun _ => 0) oQ rQ (fun _ => (X0i_v, X0i_a)), X3W g oR (fun _ => 0) (fun _ => 0) (fun _ _ => 0), X1W g oT rT (fun _ => 0) (fun _ _ => 0), JOW oB qB 0 0, JAW g qB 16 (fun _ => 0)] H := hP
  have hD : kd A [X4W g oF (kFr oC oS oH oR oT oB) X4i_v, X0W g oC rC X0i_v X0i_a, X0W g oS rS X0i_v X0i_a, X2W g oH (fun _ => qA) (fun _ => 0) oQ rQ (fun _ => (X0i_v, X0i_a)), X3W g oR (fun _ => 0) (fun _ => 0) (fun _ _ => 0), X1W g oT rT (fun _ => 0) (fun _ _ => 0), JOW oB qB 0 0, JAW g qB 16 (fun _ => 0)] := hD
  exact kV_retW C hP hD hS ⟨oC, oS, oH, oR, oT, oB, rC, rS, _, oQ, rQ, rT, qB, rfl⟩ ⟨Nat.le_of_ble_eq_true rfl, Nat.le_of_ble_eq_true rfl⟩ dX4_init_80
theorem pnX4_init : yX4_init.cls ≠ "java/lang/invoke/MethodHandle" ∧ yX4_init.cls ≠ "java/lang/invoke/VarHandle" ∧ (parseMethodDescriptor yX4_init.desc).map (fun d => d.parameters.length) = some 0 := by decide +kernel
