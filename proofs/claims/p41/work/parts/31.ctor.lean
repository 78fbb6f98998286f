theorem kw105 : Cond.instanceMethod ⟨"java/lang/Object", "<init>", "()V"⟩ ∈ kW := k_w 2 37 rfl rfl
theorem kw106 : Cond.code ⟨"java/lang/Object", "<init>", "()V"⟩ ⟨#[0xb1]⟩ 1 none ∈ kW := k_w 2 38 rfl rfl
theorem kw112 : Cond.methodLink RX0 3 ⟨"java/lang/Object", "<init>", "()V"⟩ ∈ kW := k_w 2 44 rfl rfl
theorem kw200 : Cond.arrayClass .int ∈ kW := k_w 2 132 rfl rfl
theorem kw226 : Cond.methodLink RX3 3 ⟨"java/lang/Object", "<init>", "()V"⟩ ∈ kW := k_w 2 158 rfl rfl
theorem kw245 : Cond.methodLink RX1 3 ⟨"java/lang/Object", "<init>", "()V"⟩ ∈ kW := k_w 2 177 rfl rfl
theorem kw267 : Cond.arrayClass .char ∈ kW := k_w 2 199 rfl rfl
def k0r (a5 a6 a8 a9 a10 a11 a12 a13 a14 : Nat) : Nat → Nat := fun i => match i with
  | 5 => a5
  | 6 => a6
  | 8 => a8
  | 9 => a9
  | 10 => a10
  | 11 => a11
  | 12 => a12
  | 13 => a13
  | _ => a14
def X0i_v : Nat → Int32 := upd (fun _ => 0) 2 20
def X0i_a : Nat → Nat → Int32 := va_up (fun _ _ => 0) 14 (upd (upd (upd (upd (fun _ => 0) 0 (-1)) 1 (-1)) 2 (-1)) 3 (-1))
abbrev wX0_init : List Cond := Cond.code yX0_init cX0_init 2 none :: kW
theorem X0_init_c (l : Launch) (g : kG) (oC : Nat) : kV l yX0_init wX0_init 1 30 9 54 g [.ref oC] [[(oC, .inr (4, [.int 0, .int 0, .int 0, .int 0, .int 0, .null, .null, .int 0, .null, .null, .null, .null, .null, .null, .null, .int 0, .int 0, .int 0, .int 0]))]] (fun u => ∃ r : Nat → Nat, u = [X0W g oC r X0i_v X0i_a]) := by
  refine kV_of (cc := cX0_init) (nL := 2) (ret := none) (lv := [(0, .ref oC)]) (by decide) rfl (Nat.le_of_ble_eq_true rfl) rfl ?_
  intro p e s m args below meth c ls A hnm C hP hD hE hA hS hl
  have hnm : meth.name = "<init>" := hnm
  have C : kC p c cX0_init s m args meth RX0 g 2 none := C
  have hx := C.1.1
  have hb := C.1.2.1
  have hts := C.1.2.2.2.2
  refine lv_aload_n hx hb dX0_init_0 rfl (lv_at hl 0 rfl) ?_
  refine kg_obj C hl.1 kw112 kw105 kw106 (Nat.le_of_ble_eq_true rfl) (Nat.le_of_ble_eq_true rfl) dX0_init_1 ?_
  refine lv_aload_n hx hb dX0_init_4 rfl (lv_at hl 0 rfl) ?_
  refine lv_bipush (v := 20) hx hb dX0_init_5 (by decide) ?_
  refine kg_put C kFX0 (k := 2) kw118 hP hD hS (i := 0) (q := 0) rfl rfl (by decide) rfl rfl rfl (Nat.le_of_ble_eq_true rfl) (ch' := [(oC, .inr (4, [.int 0, .int 0, .int 20, .int 0, .int 0, .null, .null, .int 0, .null, .null, .null, .null, .null, .null, .null, .int 0, .int 0, .int 0, .int 0]))]) rfl rfl dX0_init_7 (fun H locs hP hD hS => ?_)
  have hP : kp g [[(oC, .inr (4, [.int 0, .int 0, .int 20, .int 0, .int 0, .null, .null, .int 0, .null, .null, .null, .null, .null, .null, .null, .int 0, .int 0, .int 0, .int 0]))]] H := hP
  have hD : kd A [[(oC, .inr (4, [.int 0, .int 0, .int 20, .int 0, .int 0, .null, .null, .int 0, .null, .null, .null, .null, .null, .null, .null, .int 0, .int 0, .int 0, .int 0]))]] := hD
  refine lv_aload_n hx hb dX0_init_10 rfl (lv_at hl 0 rfl) ?_
  refine lv_bipush (v := 6) hx hb dX0_init_11 (by decide) ?_
  refine kg_newA C (at' := .int) (ty := .int) (t := 2) (a0 := (6, .inl (fun _ => 0))) kw200 rfl (by intro C; exact FieldType.noConfusion) rfl hP hD hS hA (fun _ => rfl) (by decide) (by decide) (by decide) (Nat.le_of_ble_eq_true rfl) (Nat.le_of_ble_eq_true rfl) dX0_init_13 (fun a5 H hP hD hS => ?_)
  have hP : kp g [[(oC, .inr (4, [.int 0, .int 0, .int 20, .int 0, .int 0, .null, .null, .int 0, .null, .null, .null, .null, .null, .null, .null, .int 0, .int 0, .int 0, .int 0]))], [(a5, .inl (g.2.1 2, 6, .inl (fun _ => 0)))]] H := hP
  have hD : kd A [[(oC, .inr (4, [.int 0, .int 0, .int 20, .int 0, .int 0, .null, .null, .int 0, .null, .null, .null, .null, .null, .null, .null, .int 0, .int 0, .int 0, .int 0]))], [(a5, .inl (g.2.1 2, 6, .inl (fun _ => 0)))]] := hD
  refine kg_putF C kFX0 (k := 5) kw127 hP hD hS (i := 0) (q := 0) rfl rfl (by decide) rfl hnm rfl rfl rfl (Nat.le_of_ble_eq_true rfl) (ch' := [(oC, .inr (4, [.int 0, .int 0, .int 20, .int 0, .int 0, .ref a5, .null, .int 0, .null, .null, .null, .null, .null, .null, .null, .int 0, .int 0, .int 0, .int 0]))]) rfl rfl dX0_init_15 (fun H locs hP hD hS => ?_)
  have hP : kp g [[(oC, .inr (4, [.int 0, .int 0, .int 20, .int 0, .int 0, .ref a5, .null, .int 0, .null, .null, .null, .null, .null, .null, .null, .int 0, .int 0, .int 0, .int 0]))], [(a5, .inl (g.2.1 2, 6, .inl (fun _ => 0)))]] H := hP
  have hD : kd A [[(oC, .inr (4, [.int 0, .int 0, .int 20, .int 0, .int 0, .ref a5, .null, .int 0, .null, .null, .null, .null, .null, .null, .null, .int 0, .int 0, .int 0, .int 0]))], [(a5, .inl (g.2.1 2, 6, .inl (fun _ => 0)))]] := hD
  refine lv_aload_n hx hb dX0_init_18 rfl (lv_at hl 0 rfl) ?_
  refine lv_bipush (v := 6) hx hb dX0_init_19 (by decide) ?_
  refine kg_newA C (at' := .int) (ty := .int) (t := 2) (a0 := (6, .inl (fun _ => 0))) kw200 rfl (by intro C; exact FieldType.noConfusion) rfl hP hD hS hA (fun _ => rfl) (by decide) (by decide) (by decide) (Nat.le_of_ble_eq_true rfl) (Nat.le_of_ble_eq_true rfl) dX0_init_21 (fun a6 H hP hD hS => ?_)
  have hP : kp g [[(oC, .inr (4, [.int 0, .int 0, .int 20, .int 0, .int 0, .ref a5, .null, .int 0, .null, .null, .null, .null, .null, .null, .null, .int 0, .int 0, .int 0, .int 0]))], [(a5, .inl (g.2.1 2, 6, .inl (fun _ => 0)))], [(a6, .inl (g.2.1 2, 6, .inl (fun _ => 0)))]] H := hP
  have hD : kd A [[(oC, .inr (4, [.int 0, .int 0, .int 20, .int 0, .int 0, .ref a5, .null, .int 0, .null, .null, .null, .null, .null, .null, .null, .int 0, .int 0, .int 0, .int 0]))], [(a5, .inl (g.2.1 2, 6, .inl (fun _ => 0)))], [(a6, .inl (g.2.1 2, 6, .inl (fun _ => 0)))]] := hD
  refine kg_putF C kFX0 (k := 6) kw130 hP hD hS (i := 0) (q := 0) rfl rfl (by decide) rfl hnm rfl rfl rfl (Nat.le_of_ble_eq_true rfl) (ch' := [(oC, .inr (4, [.int 0, .int 0, .int 20, .int 0, .int 0, .ref a5, .ref a6, .int 0, .null, .null, .null, .null, .null, .null, .null, .int 0, .int 0, .int 0, .int 0]))]) rfl rfl dX0_init_23 (fun H locs hP hD hS => ?_)
  have hP : kp g [[(oC, .inr (4, [.int 0, .int 0, .int 20, .int 0, .int 0, .ref a5, .ref a6, .int 0, .null, .null, .null, .null, .null, .null, .null, .int 0, .int 0, .int 0, .int 0]))], [(a5, .inl (g.2.1 2, 6, .inl (fun _ => 0)))], [(a6, .inl (g.2.1 2, 6, .inl (fun _ => 0)))]] H := hP
  have hD : kd A [[(oC, .inr (4, [.int 0, .int 0, .int 20, .int 0, .int 0, .ref a5, .ref a6, .int 0, .null, .null, .null, .null, .null, .null, .null, .int 0, .int 0, .int 0, .int 0]))], [(a5, .inl (g.2.1 2, 6, .inl (fun _ => 0)))], [(a6, .inl (g.2.1 2, 6, .inl (fun _ => 0)))]] := hD
  refine lv_aload_n hx hb dX0_init_26 rfl (lv_at hl 0 rfl) ?_
  refine lv_bipush (v := 6) hx hb dX0_init_27 (by decide) ?_
  refine kg_newA C (at' := .int) (ty := .int) (t := 2) (a0 := (6, .inl (fun _ => 0))) kw200 rfl (by intro C; exact FieldType.noConfusion) rfl hP hD hS hA (fun _ => rfl) (by decide) (by decide) (by decide) (Nat.le_of_ble_eq_true rfl) (Nat.le_of_ble_eq_true rfl) dX0_init_29 (fun a8 H hP hD hS => ?_)
  have hP : kp g [[(oC, .inr (4, [.int 0, .int 0, .int 20, .int 0, .int 0, .ref a5, .ref a6, .int 0, .null, .null, .null, .null, .null, .null, .null, .int 0, .int 0, .int 0, .int 0]))], [(a5, .inl (g.2.1 2, 6, .inl (fun _ => 0)))], [(a6, .inl (g.2.1 2, 6, .inl (fun _ => 0)))], [(a8, .inl (g.2.1 2, 6, .inl (fun _ => 0)))]] H := hP
  have hD : kd A [[(oC, .inr (4, [.int 0, .int 0, .int 20, .int 0, .int 0, .ref a5, .ref a6, .int 0, .null, .null, .null, .null, .null, .null, .null, .int 0, .int 0, .int 0, .int 0]))], [(a5, .inl (g.2.1 2, 6, .inl (fun _ => 0)))], [(a6, .inl (g.2.1 2, 6, .inl (fun _ => 0)))], [(a8, .inl (g.2.1 2, 6, .inl (fun _ => 0)))]] := hD
  refine kg_putF C kFX0 (k := 8) kw136 hP hD hS (i := 0) (q := 0) rfl rfl (by decide) rfl hnm rfl rfl rfl (Nat.le_of_ble_eq_true rfl) (ch' := [(oC, .inr (4, [.int 0, .int 0, .int 20, .int 0, .int 0, .ref a5, .ref a6, .int 0, .ref a8, .null, .null, .null, .null, .null, .null, .int 0, .int 0, .int 0, .int 0]))]) rfl rfl dX0_init_31 (fun H locs hP hD hS => ?_)
  have hP : kp g [[(oC, .inr (4, [.int 0, .int 0, .int 20, .int 0, .int 0, .ref a5, .ref a6, .int 0, .ref a8, .null, .null, .null, .null, .null, .null, .int 0, .int 0, .int 0, .int 0]))], [(a5, .inl (g.2.1 2, 6, .inl (fun _ => 0)))], [(a6, .inl (g.2.1 2, 6, .inl (fun _ => 0)))], [(a8, .inl (g.2.1 2, 6, .inl (fun _ => 0)))]] H := hP
  have hD : kd A [[(oC, .inr (4, [.int 0, .int 0, .int 20, .int 0, .int 0, .ref a5, .ref a6, .int 0, .ref a8, .null, .null, .null, .null, .null, .null, .int 0, .int 0, .int 0, .int 0]))], [(a5, .inl (g.2.1 2, 6, .inl (fun _ => 0)))], [(a6, .inl (g.2.1 2, 6, .inl (fun _ => 0)))], [(a8, .inl (g.2.1 2, 6, .inl (fun _ => 0)))]] := hD
  refine lv_aload_n hx hb dX0_init_34 rfl (lv_at hl 0 rfl) ?_
  refine lv_bipush (v := 6) hx hb dX0_init_35 (by decide) ?_
  refine kg_newA C (at' := .int) (ty := .int) (t := 2) (a0 := (6, .inl (fun _ => 0))) kw200 rfl (by intro C; exact FieldType.noConfusion) rfl hP hD hS hA (fun _ => rfl) (by decide) (by decide) (by decide) (Nat.le_of_ble_eq_true rfl) (Nat.le_of_ble_eq_true rfl) dX0_init_37 (fun a9 H hP hD hS => ?_)
  have hP : kp g [[(oC, .inr (4, [.int 0, .int 0, .int 20, .int 0, .int 0, .ref a5, .ref a6, .int 0, .ref a8, .null, .null, .null, .null, .null, .null, .int 0, .int 0, .int 0, .int 0]))], [(a5, .inl (g.2.1 2, 6, .inl (fun _ => 0)))], [(a6, .inl (g.2.1 2, 6, .inl (fun _ => 0)))], [(a8, .inl (g.2.1 2, 6, .inl (fun _ => 0)))], [(a9, .inl (g.2.1 2, 6, .inl (fun _ => 0)))]] H := hP
  have hD : kd A [[(oC, .inr (4, [.int 0, .int 0, .int 20, .int 0, .int 0, .ref a5, .ref a6, .int 0, .ref a8, .null, .null, .null, .null, .null, .null, .int 0, .int 0, .int 0, .int 0]))], [(a5, .inl (g.2.1 2, 6, .inl (fun _ => 0)))], [(a6, .inl (g.2.1 2, 6, .inl (fun _ => 0)))], [(a8, .inl (g.2.1 2, 6, .inl (fun _ => 0)))], [(a9, .inl (g.2.1 2, 6, .inl (fun _ => 0)))]] := hD
  refine kg_putF C kFX0 (k := 9) kw139 hP hD hS (i := 0) (q := 0) rfl rfl (by decide) rfl hnm rfl rfl rfl (Nat.le_of_ble_eq_true rfl) (ch' := [(oC, .inr (4, [.int 0, .int 0, .int 20, .int 0, .int 0, .ref a5, .ref a6, .int 0, .ref a8, .ref a9, .null, .null, .null, .null, .null, .int 0, .int 0, .int 0, .int 0]))]) rfl rfl dX0_init_39 (fun H locs hP hD hS => ?_)
  have hP : kp g [[(oC, .inr (4, [.int 0, .int 0, .int 20, .int 0, .int 0, .ref a5, .ref a6, .int 0, .ref a8, .ref a9, .null, .null, .null, .null, .null, .int 0, .int 0, .int 0, .int 0]))], [(a5, .inl (g.2.1 2, 6, .inl (fun _ => 0)))], [(a6, .inl (g.2.1 2, 6, .inl (fun _ => 0)))], [(a8, .inl (g.2.1 2, 6, .inl (fun _ => 0)))], [(a9, .inl (g.2.1 2, 6, .inl (fun _ => 0)))]] H := hP
  have hD : kd A [[(oC, .inr (4, [.int 0, .int 0, .int 20, .int 0, .int 0, .ref a5, .ref a6, .int 0, .ref a8, .ref a9, .null, .null, .null, .null, .null, .int 0, .int 0, .int 0, .int 0]))], [(a5, .inl (g.2.1 2, 6, .inl (fun _ => 0)))], [(a6, .inl (g.2.1 2, 6, .inl (fun _ => 0)))], [(a8, .inl (g.2.1 2, 6, .inl (fun _ => 0)))], [(a9, .inl (g.2.1 2, 6, .inl (fun _ => 0)))]] := hD
  refine lv_aload_n hx hb dX0_init_42 rfl (lv_at hl 0 rfl) ?_
  refine lv_bipush (v := 6) hx hb dX0_init_43 (by decide) ?_
  refine kg_newA C (at' := .int) (ty := .int) (t := 2) (a0 := (6, .inl (fun _ => 0))) kw200 rfl (by intro C; exact FieldType.noConfusion) rfl hP hD hS hA (fun _ => rfl) (by decide) (by decide) (by decide) (Nat.le_of_ble_eq_true rfl) (Nat.le_of_ble_eq_true rfl) dX0_init_45 (fun a10 H hP hD hS => ?_)
  have hP : kp g [[(oC, .inr (4, [.int 0, .int 0, .int 20, .int 0, .int 0, .ref a5, .ref a6, .int 0, .ref a8, .ref a9, .null, .null, .null, .null, .null, .int 0, .int 0, .int 0, .int 0]))], [(a5, .inl (g.2.1 2, 6, .inl (fun _ => 0)))], [(a6, .inl (g.2.1 2, 6, .inl (fun _ => 0)))], [(a8, .inl (g.2.1 2, 6, .inl (fun _ => 0)))], [(a9, .inl (g.2.1 2, 6, .inl (fun _ => 0)))], [(a10, .inl (g.2.1 2, 6, .inl (fun _ => 0)))]] H := hP
  have hD : kd A [[(oC, .inr (4, [.int 0, .int 0, .int 20, .int 0, .int 0, .ref a5, .ref a6, .int 0, .ref a8, .ref a9, .null, .null, .null, .null, .null, .int 0, .int 0, .int 0, .int 0]))], [(a5, .inl (g.2.1 2, 6, .inl (fun _ => 0)))], [(a6, .inl (g.2.1 2, 6, .inl (fun _ => 0)))], [(a8, .inl (g.2.1 2, 6, .inl (fun _ => 0)))], [(a9, .inl (g.2.1 2, 6, .inl (fun _ => 0)))], [(a10, .inl (g.2.1 2, 6, .inl (fun _ => 0)))]] := hD
  refine kg_putF C kFX0 (k := 10) kw141 hP hD hS (i := 0) (q := 0) rfl rfl (by decide) rfl hnm rfl rfl rfl (Nat.le_of_ble_eq_true rfl) (ch' := [(oC, .inr (4, [.int 0, .int 0, .int 20, .int 0, .int 0, .ref a5, .ref a6, .int 0, .ref a8, .ref a9, .ref a10, .null, .null, .null, .null, .int 0, .int 0, .int 0, .int 0]))]) rfl rfl dX0_init_47 (fun H locs hP hD hS => ?_)
  have hP : kp g [[(oC, .inr (4, [.int 0, .int 0, .int 20, .int 0, .int 0, .ref a5, .ref a6, .int 0, .ref a8, .ref a9, .ref a10, .null, .null, .null, .null, .int 0, .int 0, .int 0, .int 0]))], [(a5, .inl (g.2.1 2, 6, .inl (fun _ => 0)))], [(a6, .inl (g.2.1 2, 6, .inl (fun _ => 0)))], [(a8, .inl (g.2.1 2, 6, .inl (fun _ => 0)))], [(a9, .inl (g.2.1 2, 6, .inl (fun _ => 0)))], [(a10, .inl (g.2.1 2, 6, .inl (fun _ => 0)))]] H := hP
  have hD : kd A [[(oC, .inr (4, [.int 0, .int 0, .int 20, .int 0, .int 0, .ref a5, .ref a6, .int 0, .ref a8, .ref a9, .ref a10, .null, .null, .null, .null, .int 0, .int 0, .int 0, .int 0]))], [(a5, .inl (g.2.1 2, 6, .inl (fun _ => 0)))], [(a6, .inl (g.2.1 2, 6, .inl (fun _ => 0)))], [(a8, .inl (g.2.1 2, 6, .inl (fun _ => 0)))], [(a9, .inl (g.2.1 2, 6, .inl (fun _ => 0)))], [(a10, .inl (g.2.1 2, 6, .inl (fun _ => 0)))]] := hD
  refine lv_aload_n hx hb dX0_init_50 rfl (lv_at hl 0 rfl) ?_
  refine lv_bipush (v := 6) hx hb dX0_init_51 (by decide) ?_
  refine kg_newA C (at' := .int) (ty := .int) (t := 2) (a0 := (6, .inl (fun _ => 0))) kw200 rfl (by intro C; exact FieldType.noConfusion) rfl hP hD hS hA (fun _ => rfl) (by decide) (by decide) (by decide) (Nat.le_of_ble_eq_true rfl) (Nat.le_of_ble_eq_true rfl) dX0_init_53 (fun a11 H hP hD hS => ?_)
  have hP : kp g [[(oC, .inr (4, [.int 0, .int 0, .int 20, .int 0, .int 0, .ref a5, .ref a6, .int 0, .ref a8, .ref a9, .ref a10, .null, .null, .null, .null, .int 0, .int 0, .int 0, .int 0]))], [(a5, .inl (g.2.1 2, 6, .inl (fun _ => 0)))], [(a6, .inl (g.2.1 2, 6, .inl (fun _ => 0)))], [(a8, .inl (g.2.1 2, 6, .inl (fun _ => 0)))], [(a9, .inl (g.2.1 2, 6, .inl (fun _ => 0)))], [(a10, .inl (g.2.1 2, 6, .inl (fun _ => 0)))], [(a11, .inl (g.2.1 2, 6, .inl (fun _ => 0)))]] H := hP
  have hD : kd A [[(oC, .inr (4, [.int 0, .int 0, .int 20, .int 0, .int 0, .ref a5, .ref a6, .int 0, .ref a8, .ref a9, .ref a10, .null, .null, .null, .null, .int 0, .int 0, .int 0, .int 0]))], [(a5, .inl (g.2.1 2, 6, .inl (fun _ => 0)))], [(a6, .inl (g.2.1 2, 6, .inl (fun _ => 0)))], [(a8, .inl (g.2.1 2, 6, .inl (fun _ => 0)))], [(a9, .inl (g.2.1 2, 6, .inl (fun _ => 0)))], [(a10, .inl (g.2.1 2, 6, .inl (fun _ => 0)))], [(a11, .inl (g.2.1 2, 6, .inl (fun _ => 0)))]] := hD
  refine kg_putF C kFX0 (k := 11) kw144 hP hD hS (i := 0) (q := 0) rfl rfl (by decide) rfl hnm rfl rfl rfl (Nat.le_of_ble_eq_true rfl) (ch' := [(oC, .inr (4, [.int 0, .int 0, .int 20, .int 0, .int 0, .ref a5, .ref a6, .int 0, .ref a8, .ref a9, .ref a10, .ref a11, .null, .null, .null, .int 0, .int 0, .int 0, .int 0]))]) rfl rfl dX0_init_55 (fun H locs hP hD hS => ?_)
  have hP : kp g [[(oC, .inr (4, [.int 0, .int 0, .int 20, .int 0, .int 0, .ref a5, .ref a6, .int 0, .ref a8, .ref a9, .ref a10, .ref a11, .null, .null, .null, .int 0, .int 0, .int 0, .int 0]))], [(a5, .inl (g.2.1 2, 6, .inl (fun _ => 0)))], [(a6, .inl (g.2.1 2, 6, .inl (fun _ => 0)))], [(a8, .inl (g.2.1 2, 6, .inl (fun _ => 0)))], [(a9, .inl (g.2.1 2, 6, .inl (fun _ => 0)))], [(a10, .inl (g.2.1 2, 6, .inl (fun _ => 0)))], [(a11, .inl (g.2.1 2, 6, .inl (fun _ => 0)))]] H := hP
  have hD : kd A [[(oC, .inr (4, [.int 0, .int 0, .int 20, .int 0, .int 0, .ref a5, .ref a6, .int 0, .ref a8, .ref a9, .ref a10, .ref a11, .null, .null, .null, .int 0, .int 0, .int 0, .int 0]))], [(a5, .inl (g.2.1 2, 6, .inl (fun _ => 0)))], [(a6, .inl (g.2.1 2, 6, .inl (fun _ => 0)))], [(a8, .inl (g.2.1 2, 6, .inl (fun _ => 0)))], [(a9, .inl (g.2.1 2, 6, .inl (fun _ => 0)))], [(a10, .inl (g.2.1 2, 6, .inl (fun _ => 0)))], [(a11, .inl (g.2.1 2, 6, .inl (fun _ => 0)))]] := hD
  refine lv_aload_n hx hb dX0_init_58 rfl (lv_at hl 0 rfl) ?_
  refine lv_bipush (v := 6) hx hb dX0_init_59 (by decide) ?_
  refine kg_newA C (at' := .int) (ty := .int) (t := 2) (a0 := (6, .inl (fun _ => 0))) kw200 rfl (by intro C; exact FieldType.noConfusion) rfl hP hD hS hA (fun _ => rfl) (by decide) (by decide) (by decide) (Nat.le_of_ble_eq_true rfl) (Nat.le_of_ble_eq_true rfl) dX0_init_61 (fun a12 H hP hD hS => ?_)
  have hP : kp g [[(oC, .inr (4, [.int 0, .int 0, .int 20, .int 0, .int 0, .ref a5, .ref a6, .int 0, .ref a8, .ref a9, .ref a10, .ref a11, .null, .null, .null, .int 0, .int 0, .int 0, .int 0]))], [(a5, .inl (g.2.1 2, 6, .inl (fun _ => 0)))], [(a6, .inl (g.2.1 2, 6, .inl (fun _ => 0)))], [(a8, .inl (g.2.1 2, 6, .inl (fun _ => 0)))], [(a9, .inl (g.2.1 2, 6, .inl (fun _ => 0)))], [(a10, .inl (g.2.1 2, 6, .inl (fun _ => 0)))], [(a11, .inl (g.2.1 2, 6, .inl (fun _ => 0)))], [(a12, .inl (g.2.1 2, 6, .inl (fun _ => 0)))]] H := hP
  have hD : kd A [[(oC, .inr (4, [.int 0, .int 0, .int 20, .int 0, .int 0, .ref a5, .ref a6, .int 0, .ref a8, .ref a9, .ref a10, .ref a11, .null, .null, .null, .int 0, .int 0, .int 0, .int 0]))], [(a5, .inl (g.2.1 2, 6, .inl (fun _ => 0)))], [(a6, .inl (g.2.1 2, 6, .inl (fun _ => 0)))], [(a8, .inl (g.2.1 2, 6, .inl (fun _ => 0)))], [(a9, .inl (g.2.1 2, 6, .inl (fun _ => 0)))], [(a10, .inl (g.2.1 2, 6, .inl (fun _ => 0)))], [(a11, .inl (g.2.1 2, 6, .inl (fun _ => 0)))], [(a12, .inl (g.2.1 2, 6, .inl (fun _ => 0)))]] := hD
  refine kg_putF C kFX0 (k := 12) kw147 hP hD hS (i := 0) (q := 0) rfl rfl (by decide) rfl hnm rfl rfl rfl (Nat.le_of_ble_eq_true rfl) (ch' := [(oC, .inr (4, [.int 0, .int 0, .int 20, .int 0, .int 0, .ref a5, .ref a6, .int 0, .ref a8, .ref a9, .ref a10, .ref a11, .ref a12, .null, .null, .int 0, .int 0, .int 0, .int 0]))]) rfl rfl dX0_init_63 (fun H locs hP hD hS => ?_)
  have hP : kp g [[(oC, .inr (4, [.int 0, .int 0, .int 20, .int 0, .int 0, .ref a5, .ref a6, .int 0, .ref a8, .ref a9, .ref a10, .ref a11, .ref a12, .null, .null, .int 0, .int 0, .int 0, .int 0]))], [(a5, .inl (g.2.1 2, 6, .inl (fun _ => 0)))], [(a6, .inl (g.2.1 2, 6, .inl (fun _ => 0)))], [(a8, .inl (g.2.1 2, 6, .inl (fun _ => 0)))], [(a9, .inl (g.2.1 2, 6, .inl (fun _ => 0)))], [(a10, .inl (g.2.1 2, 6, .inl (fun _ => 0)))], [(a11, .inl (g.2.1 2, 6, .inl (fun _ => 0)))], [(a12, .inl (g.2.1 2, 6, .inl (fun _ => 0)))]] H := hP
  have hD : kd A [[(oC, .inr (4, [.int 0, .int 0, .int 20, .int 0, .int 0, .ref a5, .ref a6, .int 0, .ref a8, .ref a9, .ref a10, .ref a11, .ref a12, .null, .null, .int 0, .int 0, .int 0, .int 0]))], [(a5, .inl (g.2.1 2, 6, .inl (fun _ => 0)))], [(a6, .inl (g.2.1 2, 6, .inl (fun _ => 0)))], [(a8, .inl (g.2.1 2, 6, .inl (fun _ => 0)))], [(a9, .inl (g.2.1 2, 6, .inl (fun _ => 0)))], [(a10, .inl (g.2.1 2, 6, .inl (fun _ => 0)))], [(a11, .inl (g.2.1 2, 6, .inl (fun _ => 0)))], [(a12, .inl (g.2.1 2, 6, .inl (fun _ => 0)))]] := hD
  refine lv_aload_n hx hb dX0_init_66 rfl (lv_at hl 0 rfl) ?_
  refine lv_bipush (v := 8) hx hb dX0_init_67 (by decide) ?_
  refine kg_newA C (at' := .int) (ty := .int) (t := 2) (a0 := (8, .inl (fun _ => 0))) kw200 rfl (by intro C; exact FieldType.noConfusion) rfl hP hD hS hA (fun _ => rfl) (by decide) (by decide) (by decide) (Nat.le_of_ble_eq_true rfl) (Nat.le_of_ble_eq_true rfl) dX0_init_69 (fun a13 H hP hD hS => ?_)
  have hP : kp g [[(oC, .inr (4, [.int 0, .int 0, .int 20, .int 0, .int 0, .ref a5, .ref a6, .int 0, .ref a8, .ref a9, .ref a10, .ref a11, .ref a12, .null, .null, .int 0, .int 0, .int 0, .int 0]))], [(a5, .inl (g.2.1 2, 6, .inl (fun _ => 0)))], [(a6, .inl (g.2.1 2, 6, .inl (fun _ => 0)))], [(a8, .inl (g.2.1 2, 6, .inl (fun _ => 0)))], [(a9, .inl (g.2.1 2, 6, .inl (fun _ => 0)))], [(a10, .inl (g.2.1 2, 6, .inl (fun _ => 0)))], [(a11, .inl (g.2.1 2, 6, .inl (fun _ => 0)))], [(a12, .inl (g.2.1 2, 6, .inl (fun _ => 0)))], [(a13, .inl (g.2.1 2, 8, .inl (fun _ => 0)))]] H := hP
  have hD : kd A [[(oC, .inr (4, [.int 0, .int 0, .int 20, .int 0, .int 0, .ref a5, .ref a6, .int 0, .ref a8, .ref a9, .ref a10, .ref a11, .ref a12, .null, .null, .int 0, .int 0, .int 0, .int 0]))], [(a5, .inl (g.2.1 2, 6, .inl (fun _ => 0)))], [(a6, .inl (g.2.1 2, 6, .inl (fun _ => 0)))], [(a8, .inl (g.2.1 2, 6, .inl (fun _ => 0)))], [(a9, .inl (g.2.1 2, 6, .inl (fun _ => 0)))], [(a10, .inl (g.2.1 2, 6, .inl (fun _ => 0)))], [(a11, .inl (g.2.1 2, 6, .inl (fun _ => 0)))], [(a12, .inl (g.2.1 2, 6, .inl (fun _ => 0)))], [(a13, .inl (g.2.1 2, 8, .inl (fun _ => 0)))]] := hD
  refine kg_putF C kFX0 (k := 13) kw149 hP hD hS (i := 0) (q := 0) rfl rfl (by decide) rfl hnm rfl rfl rfl (Nat.le_of_ble_eq_true rfl) (ch' := [(oC, .inr (4, [.int 0, .int 0, .int 20, .int 0, .int 0, .ref a5, .ref a6, .int 0, .ref a8, .ref a9, .ref a10, .ref a11, .ref a12, .ref a13, .null, .int 0, .int 0, .int 0, .int 0]))]) rfl rfl dX0_init_71 (fun H locs hP hD hS => ?_)
  have hP : kp g [[(oC, .inr (4, [.int 0, .int 0, .int 20, .int 0, .int 0, .ref a5, .ref a6, .int 0, .ref a8, .ref a9, .ref a10, .ref a11, .ref a12, .ref a13, .null, .int 0, .int 0, .int 0, .int 0]))], [(a5, .inl (g.2.1 2, 6, .inl (fun _ => 0)))], [(a6, .inl (g.2.1 2, 6, .inl (fun _ => 0)))], [(a8, .inl (g.2.1 2, 6, .inl (fun _ => 0)))], [(a9, .inl (g.2.1 2, 6, .inl (fun _ => 0)))], [(a10, .inl (g.2.1 2, 6, .inl (fun _ => 0)))], [(a11, .inl (g.2.1 2, 6, .inl (fun _ => 0)))], [(a12, .inl (g.2.1 2, 6, .inl (fun _ => 0)))], [(a13, .inl (g.2.1 2, 8, .inl (fun _ => 0)))]] H := hP
  have hD : kd A [[(oC, .inr (4, [.int 0, .int 0, .int 20, .int 0, .int 0, .ref a5, .ref a6, .int 0, .ref a8, .ref a9, .ref a10, .ref a11, .ref a12, .ref a13, .null, .int 0, .int 0, .int 0, .int 0]))], [(a5, .inl (g.2.1 2, 6, .inl (fun _ => 0)))], [(a6, .inl (g.2.1 2, 6, .inl (fun _ => 0)))], [(a8, .inl (g.2.1 2, 6, .inl (fun _ => 0)))], [(a9, .inl (g.2.1 2, 6, .inl (fun _ => 0)))], [(a10, .inl (g.2.1 2, 6, .inl (fun _ => 0)))], [(a11, .inl (g.2.1 2, 6, .inl (fun _ => 0)))], [(a12, .inl (g.2.1 2, 6, .inl (fun _ => 0)))], [(a13, .inl (g.2.1 2, 8, .inl (fun _ => 0)))]] := hD
  refine lv_aload_n hx hb dX0_init_74 rfl (lv_at hl 0 rfl) ?_
  refine lv_iconst (v := 4) hx hb dX0_init_75 (by decide) ?_
  refine kg_newA C (at' := .int) (ty := .int) (t := 2) (a0 := (4, .inl (fun _ => 0))) kw200 rfl (by intro C; exact FieldType.noConfusion) rfl hP hD hS hA (fun _ => rfl) (by decide) (by decide) (by decide) (Nat.le_of_ble_eq_true rfl) (Nat.le_of_ble_eq_true rfl) dX0_init_76 (fun a14 H hP hD hS => ?_)
  have hP : kp g [[(oC, .inr (4, [.int 0, .int 0, .int 20, .int 0, .int 0, .ref a5, .ref a6, .int 0, .ref a8, .ref a9, .ref a10, .ref a11, .ref a12, .ref a13, .null, .int 0, .int 0, .int 0, .int 0]))], [(a5, .inl (g.2.1 2, 6, .inl (fun _ => 0)))], [(a6, .inl (g.2.1 2, 6, .inl (fun _ => 0)))], [(a8, .inl (g.2.1 2, 6, .inl (fun _ => 0)))], [(a9, .inl (g.2.1 2, 6, .inl (fun _ => 0)))], [(a10, .inl (g.2.1 2, 6, .inl (fun _ => 0)))], [(a11, .inl (g.2.1 2, 6, .inl (fun _ => 0)))], [(a12, .inl (g.2.1 2, 6, .inl (fun _ => 0)))], [(a13, .inl (g.2.1 2, 8, .inl (fun _ => 0)))], [(a14, .inl (g.2.1 2, 4, .inl (fun _ => 0)))]] H := hP
  have hD : kd A [[(oC, .inr (4, [.int 0, .int 0, .int 20, .int 0, .int 0, .ref a5, .ref a6, .int 0, .ref a8, .ref a9, .ref a10, .ref a11, .ref a12, .ref a13, .null, .int 0, .int 0, .int 0, .int 0]))], [(a5, .inl (g.2.1 2, 6, .inl (fun _ => 0)))], [(a6, .inl (g.2.1 2, 6, .inl (fun _ => 0)))], [(a8, .inl (g.2.1 2, 6, .inl (fun _ => 0)))], [(a9, .inl (g.2.1 2, 6, .inl (fun _ => 0)))], [(a10, .inl (g.2.1 2, 6, .inl (fun _ => 0)))], [(a11, .inl (g.2.1 2, 6, .inl (fun _ => 0)))], [(a12, .inl (g.2.1 2, 6, .inl (fun _ => 0)))], [(a13, .inl (g.2.1 2, 8, .inl (fun _ => 0)))], [(a14, .inl (g.2.1 2, 4, .inl (fun _ => 0)))]] := hD
  refine kg_putF C kFX0 (k := 14) kw151 hP hD hS (i := 0) (q := 0) rfl rfl (by decide) rfl hnm rfl rfl rfl (Nat.le_of_ble_eq_true rfl) (ch' := [(oC, .inr (4, [.int 0, .int 0, .int 20, .int 0, .int 0, .ref a5, .ref a6, .int 0, .ref a8, .ref a9, .ref a10, .ref a11, .ref a12, .ref a13, .ref a14, .int 0, .int 0, .int 0, .int 0]))]) rfl rfl dX0_init_78 (fun H locs hP hD hS => ?_)
  have hP : kp g [[(oC, .inr (4, [.int 0, .int 0, .int 20, .int 0, .int 0, .ref a5, .ref a6, .int 0, .ref a8, .ref a9, .ref a10, .ref a11, .ref a12, .ref a13, .ref a14, .int 0, .int 0, .int 0, .int 0]))], [(a5, .inl (g.2.1 2, 6, .inl (fun _ => 0)))], [(a6, .inl (g.2.1 2, 6, .inl (fun _ => 0)))], [(a8, .inl (g.2.1 2, 6, .inl (fun _ => 0)))], [(a9, .inl (g.2.1 2, 6, .inl (fun _ => 0)))], [(a10, .inl (g.2.1 2, 6, .inl (fun _ => 0)))], [(a11, .inl (g.2.1 2, 6, .inl (fun _ => 0)))], [(a12, .inl (g.2.1 2, 6, .inl (fun _ => 0)))], [(a13, .inl (g.2.1 2, 8, .inl (fun _ => 0)))], [(a14, .inl (g.2.1 2, 4, .inl (fun _ => 0)))]] H := hP
  have hD : kd A [[(oC, .inr (4, [.int 0, .int 0, .int 20, .int 0, .int 0, .ref a5, .ref a6, .int 0, .ref a8, .ref a9, .ref a10, .ref a11, .ref a12, .ref a13, .ref a14, .int 0, .int 0, .int 0, .int 0]))], [(a5, .inl (g.2.1 2, 6, .inl (fun _ => 0)))], [(a6, .inl (g.2.1 2, 6, .inl (fun _ => 0)))], [(a8, .inl (g.2.1 2, 6, .inl (fun _ => 0)))], [(a9, .inl (g.2.1 2, 6, .inl (fun _ => 0)))], [(a10, .inl (g.2.1 2, 6, .inl (fun _ => 0)))], [(a11, .inl (g.2.1 2, 6, .inl (fun _ => 0)))], [(a12, .inl (g.2.1 2, 6, .inl (fun _ => 0)))], [(a13, .inl (g.2.1 2, 8, .inl (fun _ => 0)))], [(a14, .inl (g.2.1 2, 4, .inl (fun _ => 0)))]] := hD
  refine lv_iconst (v := 0) hx hb dX0_init_81 (by decide) ?_
  refine lv_istore_n (lv' := [(1, .int 0), (0, .ref oC)]) hx hb dX0_init_82 rfl hl (by decide) rfl (fun ls hl => ?_)
  refine lv_iload_n hx hb dX0_init_83 rfl (lv_at hl 0 rfl) ?_
  refine lv_iconst (v := 4) hx hb dX0_init_84 (by decide) ?_
  refine lv_icmp_ge (tgt := 101) hx hb dX0_init_85 (by decide) (fun z => absurd z (by decide)) (fun z => ?_)
  refine lv_aload_n hx hb dX0_init_88 rfl (lv_at hl 1 rfl) ?_
  refine kg_get C kFX0 (k := 14) kw151 hP (i := 0) (q := 0) rfl rfl (by decide) rfl dX0_init_89 ?_
  refine lv_iload_n hx hb dX0_init_92 rfl (lv_at hl 0 rfl) ?_
  refine lv_iconst (v := (-1)) hx hb dX0_init_93 (by decide) ?_
  refine kg_iast C hP hD hS (i := 9) (q := 0) rfl rfl (by unfold vp_in; decide) (ch' := [(a14, .inl (g.2.1 2, 4, .inl (upd (fun _ => 0) 0 (-1))))]) rfl rfl dX0_init_94 (fun H locs hP hD hS => ?_)
  have hP : kp g [[(oC, .inr (4, [.int 0, .int 0, .int 20, .int 0, .int 0, .ref a5, .ref a6, .int 0, .ref a8, .ref a9, .ref a10, .ref a11, .ref a12, .ref a13, .ref a14, .int 0, .int 0, .int 0, .int 0]))], [(a5, .inl (g.2.1 2, 6, .inl (fun _ => 0)))], [(a6, .inl (g.2.1 2, 6, .inl (fun _ => 0)))], [(a8, .inl (g.2.1 2, 6, .inl (fun _ => 0)))], [(a9, .inl (g.2.1 2, 6, .inl (fun _ => 0)))], [(a10, .inl (g.2.1 2, 6, .inl (fun _ => 0)))], [(a11, .inl (g.2.1 2, 6, .inl (fun _ => 0)))], [(a12, .inl (g.2.1 2, 6, .inl (fun _ => 0)))], [(a13, .inl (g.2.1 2, 8, .inl (fun _ => 0)))], [(a14, .inl (g.2.1 2, 4, .inl (upd (fun _ => 0) 0 (-1))))]] H := hP
  have hD : kd A [[(oC, .inr (4, [.int 0, .int 0, .int 20, .int 0, .int 0, .ref a5, .ref a6, .int 0, .ref a8, .ref a9, .ref a10, .ref a11, .ref a12, .ref a13, .ref a14, .int 0, .int 0, .int 0, .int 0]))], [(a5, .inl (g.2.1 2, 6, .inl (fun _ => 0)))], [(a6, .inl (g.2.1 2, 6, .inl (fun _ => 0)))], [(a8, .inl (g.2.1 2, 6, .inl (fun _ => 0)))], [(a9, .inl (g.2.1 2, 6, .inl (fun _ => 0)))], [(a10, .inl (g.2.1 2, 6, .inl (fun _ => 0)))], [(a11, .inl (g.2.1 2, 6, .inl (fun _ => 0)))], [(a12, .inl (g.2.1 2, 6, .inl (fun _ => 0)))], [(a13, .inl (g.2.1 2, 8, .inl (fun _ => 0)))], [(a14, .inl (g.2.1 2, 4, .inl (upd (fun _ => 0) 0 (-1))))]] := hD
  refine lv_iinc (v := 1) (lv' := [(1, .int 1), (0, .ref oC)]) hx hb dX0_init_95 hl (k := 0) rfl (by decide) (by decide) rfl (fun ls hl => ?_)
  refine lv_goto (tgt := 83) hx hb dX0_init_98 (by decide) ?_
  refine lv_iload_n hx hb dX0_init_83 rfl (lv_at hl 0 rfl) ?_
  refine lv_iconst (v := 4) hx hb dX0_init_84 (by decide) ?_
  refine lv_icmp_ge (tgt := 101) hx hb dX0_init_85 (by decide) (fun z => absurd z (by decide)) (fun z => ?_)
  refine lv_aload_n hx hb dX0_init_88 rfl (lv_at hl 1 rfl) ?_
  refine kg_get C kFX0 (k := 14) kw151 hP (i := 0) (q := 0) rfl rfl (by decide) rfl dX0_init_89 ?_
  refine lv_iload_n hx hb dX0_init_92 rfl (lv_at hl 0 rfl) ?_
  refine lv_iconst (v := (-1)) hx hb dX0_init_93 (by decide) ?_
  refine kg_iast C hP hD hS (i := 9) (q := 0) rfl rfl (by unfold vp_in; decide) (ch' := [(a14, .inl (g.2.1 2, 4, .inl (upd (upd (fun _ => 0) 0 (-1)) 1 (-1))))]) rfl rfl dX0_init_94 (fun H locs hP hD hS => ?_)
  have hP : kp g [[(oC, .inr (4, [.int 0, .int 0, .int 20, .int 0, .int 0, .ref a5, .ref a6, .int 0, .ref a8, .ref a9, .ref a10, .ref a11, .ref a12, .ref a13, .ref a14, .int 0, .int 0, .int 0, .int 0]))], [(a5, .inl (g.2.1 2, 6, .inl (fun _ => 0)))], [(a6, .inl (g.2.1 2, 6, .inl (fun _ => 0)))], [(a8, .inl (g.2.1 2, 6, .inl (fun _ => 0)))], [(a9, .inl (g.2.1 2, 6, .inl (fun _ => 0)))], [(a10, .inl (g.2.1 2, 6, .inl (fun _ => 0)))], [(a11, .inl (g.2.1 2, 6, .inl (fun _ => 0)))], [(a12, .inl (g.2.1 2, 6, .inl (fun _ => 0)))], [(a13, .inl (g.2.1 2, 8, .inl (fun _ => 0)))], [(a14, .inl (g.2.1 2, 4, .inl (upd (upd (fun _ => 0) 0 (-1)) 1 (-1))))]] H := hP
  have hD : kd A [[(oC, .inr (4, [.int 0, .int 0, .int 20, .int 0, .int 0, .ref a5, .ref a6, .int 0, .ref a8, .ref a9, .ref a10, .ref a11, .ref a12, .ref a13, .ref a14, .int 0, .int 0, .int 0, .int 0]))], [(a5, .inl (g.2.1 2, 6, .inl (fun _ => 0)))], [(a6, .inl (g.2.1 2, 6, .inl (fun _ => 0)))], [(a8, .inl (g.2.1 2, 6, .inl (fun _ => 0)))], [(a9, .inl (g.2.1 2, 6, .inl (fun _ => 0)))], [(a10, .inl (g.2.1 2, 6, .inl (fun _ => 0)))], [(a11, .inl (g.2.1 2, 6, .inl (fun _ => 0)))], [(a12, .inl (g.2.1 2, 6, .inl (fun _ => 0)))], [(a13, .inl (g.2.1 2, 8, .inl (fun _ => 0)))], [(a14, .inl (g.2.1 2, 4, .inl (upd (upd (fun _ => 0) 0 (-1)) 1 (-1))))]] := hD
  refine lv_iinc (v := 2) (lv' := [(1, .int 2), (0, .ref oC)]) hx hb dX0_init_95 hl (k := 0) rfl (by decide) (by decide) rfl (fun ls hl => ?_)
  refine lv_goto (tgt := 83) hx hb dX0_init_98 (by decide) ?_
  refine lv_iload_n hx hb dX0_init_83 rfl (lv_at hl 0 rfl) ?_
  refine lv_iconst (v := 4) hx hb dX0_init_84 (by decide) ?_
  refine lv_icmp_ge (tgt := 101) hx hb dX0_init_85 (by decide) (fun z => absurd z (by decide)) (fun z => ?_)
  refine lv_aload_n hx hb dX0_init_88 rfl (lv_at hl 1 rfl) ?_
  refine kg_get C kFX0 (k := 14) kw151 hP (i := 0) (q := 0) rfl rfl (by decide) rfl dX0_init_89 ?_
  refine lv_iload_n hx hb dX0_init_92 rfl (lv_at hl 0 rfl) ?_
  refine lv_iconst (v := (-1)) hx hb dX0_init_93 (by decide) ?_
  refine kg_iast C hP hD hS (i := 9) (q := 0) rfl rfl (by unfold vp_in; decide) (ch' := [(a14, .inl (g.2.1 2, 4, .inl (upd (upd (upd (fun _ => 0) 0 (-1)) 1 (-1)) 2 (-1))))]) rfl rfl dX0_init_94 (fun H locs hP hD hS => ?_)
  have hP : kp g [[(oC, .inr (4, [.int 0, .int 0, .int 20, .int 0, .int 0, .ref a5, .ref a6, .int 0, .ref a8, .ref a9, .ref a10, .ref a11, .ref a12, .ref a13, .ref a14, .int 0, .int 0, .int 0, .int 0]))], [(a5, .inl (g.2.1 2, 6, .inl (fun _ => 0)))], [(a6, .inl (g.2.1 2, 6, .inl (fun _ => 0)))], [(a8, .inl (g.2.1 2, 6, .inl (fun _ => 0)))], [(a9, .inl (g.2.1 2, 6, .inl (fun _ => 0)))], [(a10, .inl (g.2.1 2, 6, .inl (fun _ => 0)))], [(a11, .inl (g.2.1 2, 6, .inl (fun _ => 0)))], [(a12, .inl (g.2.1 2, 6, .inl (fun _ => 0)))], [(a13, .inl (g.2.1 2, 8, .inl (fun _ => 0)))], [(a14, .inl (g.2.1 2, 4, .inl (upd (upd (upd (fun _ => 0) 0 (-1)) 1 (-1)) 2 (-1))))]] H := hP
  have hD : kd A [[(oC, .inr (4, [.int 0, .int 0, .int 20, .int 0, .int 0, .ref a5, .ref a6, .int 0, .ref a8, .ref a9, .ref a10, .ref a11, .ref a12, .ref a13, .ref a14, .int 0, .int 0, .int 0, .int 0]))], [(a5, .inl (g.2.1 2, 6, .inl (fun _ => 0)))], [(a6, .inl (g.2.1 2, 6, .inl (fun _ => 0)))], [(a8, .inl (g.2.1 2, 6, .inl (fun _ => 0)))], [(a9, .inl (g.2.1 2, 6, .inl (fun _ => 0)))], [(a10, .inl (g.2.1 2, 6, .inl (fun _ => 0)))], [(a11, .inl (g.2.1 2, 6, .inl (fun _ => 0)))], [(a12, .inl (g.2.1 2, 6, .inl (fun _ => 0)))], [(a13, .inl (g.2.1 2, 8, .inl (fun _ => 0)))], [(a14, .inl (g.2.1 2, 4, .inl (upd (upd (upd (fun _ => 0) 0 (-1)) 1 (-1)) 2 (-1))))]] := hD
  refine lv_iinc (v := 3) (lv' := [(1, .int 3), (0, .ref oC)]) hx hb dX0_init_95 hl (k := 0) rfl (by decide) (by decide) rfl (fun ls hl => ?_)
  refine lv_goto (tgt := 83) hx hb dX0_init_98 (by decide) ?_
  refine lv_iload_n hx hb dX0_init_83 rfl (lv_at hl 0 rfl) ?_
  refine lv_iconst (v := 4) hx hb dX0_init_84 (by decide) ?_
  refine lv_icmp_ge (tgt := 101) hx hb dX0_init_85 (by decide) (fun z => absurd z (by decide)) (fun z => ?_)
  refine lv_aload_n hx hb dX0_init_88 rfl (lv_at hl 1 rfl) ?_
  refine kg_get C kFX0 (k := 14) kw151 hP (i := 0) (q := 0) rfl rfl (by decide) rfl dX0_init_89 ?_
  refine lv_iload_n hx hb dX0_init_92 rfl (lv_at hl 0 rfl) ?_
  refine lv_iconst (v := (-1)) hx hb dX0_init_93 (by decide) ?_
  refine kg_iast C hP hD hS (i := 9) (q := 0) rfl rfl (by unfold vp_in; decide) (ch' := [(a14, .inl (g.2.1 2, 4, .inl (upd (upd (upd (upd (fun _ => 0) 0 (-1)) 1 (-1)) 2 (-1)) 3 (-1))))]) rfl rfl dX0_init_94 (fun H locs hP hD hS => ?_)
  have hP : kp g [[(oC, .inr (4, [.int 0, .int 0, .int 20, .int 0, .int 0, .ref a5, .ref a6, .int 0, .ref a8, .ref a9, .ref a10, .ref a11, .ref a12, .ref a13, .ref a14, .int 0, .int 0, .int 0, .int 0]))], [(a5, .inl (g.2.1 2, 6, .inl (fun _ => 0)))], [(a6, .inl (g.2.1 2, 6, .inl (fun _ => 0)))], [(a8, .inl (g.2.1 2, 6, .inl (fun _ => 0)))], [(a9, .inl (g.2.1 2, 6, .inl (fun _ => 0)))], [(a10, .inl (g.2.1 2, 6, .inl (fun _ => 0)))], [(a11, .inl (g.2.1 2, 6, .inl (fun _ => 0)))], [(a12, .inl (g.2.1 2, 6, .inl (fun _ => 0)))], [(a13, .inl (g.2.1 2, 8, .inl (fun _ => 0)))], [(a14, .inl (g.2.1 2, 4, .inl (upd (upd (upd (upd (fun _ => 0) 0 (-1)) 1 (-1)) 2 (-1)) 3 (-1))))]] H := hP
  have hD : kd A [[(oC, .inr (4, [.int 0, .int 0, .int 20, .int 0, .int 0, .ref a5, .ref a6, .int 0, .ref a8, .ref a9, .ref a10, .ref a11, .ref a12, .ref a13, .ref a14, .int 0, .int 0, .int 0, .int 0]))], [(a5, .inl (g.2.1 2, 6, .inl (fun _ => 0)))], [(a6, .inl (g.2.1 2, 6, .inl (fun _ => 0)))], [(a8, .inl (g.2.1 2, 6, .inl (fun _ => 0)))], [(a9, .inl (g.2.1 2, 6, .inl (fun _ => 0)))], [(a10, .inl (g.2.1 2, 6, .inl (fun _ => 0)))], [(a11, .inl (g.2.1 2, 6, .inl (fun _ => 0)))], [(a12, .inl (g.2.1 2, 6, .inl (fun _ => 0)))], [(a13, .inl (g.2.1 2, 8, .inl (fun _ => 0)))], [(a14, .inl (g.2.1 2, 4, .inl (upd (upd (upd (upd (fun _ => 0) 0 (-1)) 1 (-1)) 2 (-1)) 3 (-1))))]] := hD
  refine lv_iinc (v := 4) (lv' := [(1, .int 4), (0, .ref oC)]) hx hb dX0_init_95 hl (k := 0) rfl (by decide) (by decide) rfl (fun ls hl => ?_)
  refine lv_goto (tgt := 83) hx hb dX0_init_98 (by decide) ?_
  refine lv_iload_n hx hb dX0_init_83 rfl (lv_at hl 0 rfl) ?_
  refine lv_iconst (v := 4) hx hb dX0_init_84 (by decide) ?_
  refine lv_icmp_ge (tgt := 101) hx hb dX0_init_85 (by decide) (fun z => ?_) (fun z => absurd (by decide) z)
  have hP : kp g [X0W g oC (k0r a5 a6 a8 a9 a10 a11 a12 a13 a14) X0i_v X0i_a] H := hP
  have hD : kd A [X0W g oC (k0r a5 a6 a8 a9 a10 a11 a12 a13 a14) X0i_v X0i_a] := hD
  exact kV_ret C hP hD hS ⟨_, rfl⟩ dX0_init_101
abbrev wX1_init : List Cond := Cond.code yX1_init cX1_init 1 none :: kW
theorem X1_init_c (l : Launch) (g : kG) (oT : Nat) : kV l yX1_init wX1_init 1 30 2 63 g [.ref oT] [[(oT, .inr (5, [.null, .int 0, .int 0, .int 0, .null]))]] (fun u => ∃ r : Nat → Nat, u = [X1W g oT r (fun _ => 0) (fun _ _ => 0)]) := by
  refine kV_of (cc := cX1_init) (nL := 1) (ret := none) (lv := [(0, .ref oT)]) (by decide) rfl (Nat.le_of_ble_eq_true rfl) rfl ?_
  intro p e s m args below meth c ls A hnm C hP hD hE hA hS hl
  have hnm : meth.name = "<init>" := hnm
  have C : kC p c cX1_init s m args meth RX1 g 1 none := C
  have hx := C.1.1
  have hb := C.1.2.1
  have hts := C.1.2.2.2.2
  refine lv_aload_n hx hb dX1_init_0 rfl (lv_at hl 0 rfl) ?_
  refine kg_obj C hl.1 kw245 kw105 kw106 (Nat.le_of_ble_eq_true rfl) (Nat.le_of_ble_eq_true rfl) dX1_init_1 ?_
  refine lv_aload_n hx hb dX1_init_4 rfl (lv_at hl 0 rfl) ?_
  refine lv_bipush (v := 60) hx hb dX1_init_5 (by decide) ?_
  refine kg_newA C (at' := .char) (ty := .char) (t := 1) (a0 := (60, .inl (fun _ => 0))) kw267 rfl (by intro C; exact FieldType.noConfusion) rfl hP hD hS hA (fun _ => rfl) (by decide) (by decide) (by decide) (Nat.le_of_ble_eq_true rfl) (Nat.le_of_ble_eq_true rfl) dX1_init_7 (fun a0 H hP hD hS => ?_)
  have hP : kp g [[(oT, .inr (5, [.null, .int 0, .int 0, .int 0, .null]))], [(a0, .inl (g.2.1 1, 60, .inl (fun _ => 0)))]] H := hP
  have hD : kd A [[(oT, .inr (5, [.null, .int 0, .int 0, .int 0, .null]))], [(a0, .inl (g.2.1 1, 60, .inl (fun _ => 0)))]] := hD
  refine kg_putF C kFX1 (k := 0) kw246 hP hD hS (i := 0) (q := 0) rfl rfl (by decide) rfl hnm rfl rfl rfl (Nat.le_of_ble_eq_true rfl) (ch' := [(oT, .inr (5, [.ref a0, .int 0, .int 0, .int 0, .null]))]) rfl rfl dX1_init_9 (fun H locs hP hD hS => ?_)
  have hP : kp g [[(oT, .inr (5, [.ref a0, .int 0, .int 0, .int 0, .null]))], [(a0, .inl (g.2.1 1, 60, .inl (fun _ => 0)))]] H := hP
  have hD : kd A [[(oT, .inr (5, [.ref a0, .int 0, .int 0, .int 0, .null]))], [(a0, .inl (g.2.1 1, 60, .inl (fun _ => 0)))]] := hD
  refine lv_aload_n hx hb dX1_init_12 rfl (lv_at hl 0 rfl) ?_
  refine lv_iconst (v := 3) hx hb dX1_init_13 (by decide) ?_
  refine kg_newA C (at' := .int) (ty := .int) (t := 2) (a0 := (3, .inl (fun _ => 0))) kw200 rfl (by intro C; exact FieldType.noConfusion) rfl hP hD hS hA (fun _ => rfl) (by decide) (by decide) (by decide) (Nat.le_of_ble_eq_true rfl) (Nat.le_of_ble_eq_true rfl) dX1_init_14 (fun a4 H hP hD hS => ?_)
  have hP : kp g [[(oT, .inr (5, [.ref a0, .int 0, .int 0, .int 0, .null]))], [(a0, .inl (g.2.1 1, 60, .inl (fun _ => 0)))], [(a4, .inl (g.2.1 2, 3, .inl (fun _ => 0)))]] H := hP
  have hD : kd A [[(oT, .inr (5, [.ref a0, .int 0, .int 0, .int 0, .null]))], [(a0, .inl (g.2.1 1, 60, .inl (fun _ => 0)))], [(a4, .inl (g.2.1 2, 3, .inl (fun _ => 0)))]] := hD
  refine kg_putF C kFX1 (k := 4) kw254 hP hD hS (i := 0) (q := 0) rfl rfl (by decide) rfl hnm rfl rfl rfl (Nat.le_of_ble_eq_true rfl) (ch' := [(oT, .inr (5, [.ref a0, .int 0, .int 0, .int 0, .ref a4]))]) rfl rfl dX1_init_16 (fun H locs hP hD hS => ?_)
  have hP : kp g [[(oT, .inr (5, [.ref a0, .int 0, .int 0, .int 0, .ref a4]))], [(a0, .inl (g.2.1 1, 60, .inl (fun _ => 0)))], [(a4, .inl (g.2.1 2, 3, .inl (fun _ => 0)))]] H := hP
  have hD : kd A [[(oT, .inr (5, [.ref a0, .int 0, .int 0, .int 0, .ref a4]))], [(a0, .inl (g.2.1 1, 60, .inl (fun _ => 0)))], [(a4, .inl (g.2.1 2, 3, .inl (fun _ => 0)))]] := hD
  have hP : kp g [X1W g oT (fun i => match i with | 0 => a0 | _ => a4) (fun _ => 0) (fun _ _ => 0)] H := hP
  have hD : kd A [X1W g oT (fun i => match i with | 0 => a0 | _ => a4) (fun _ => 0) (fun _ _ => 0)] := hD
  exact kV_ret C hP hD hS ⟨_, rfl⟩ dX1_init_19
abbrev wX3_init : List Cond := Cond.code yX3_init cX3_init 1 none :: kW
theorem X3_init_c (l : Launch) (g : kG) (oR : Nat) : kV l yX3_init wX3_init 1 30 0 0 g [.ref oR] [[(oR, .inr (7, [.int 0, .int 0, .int 0]))]] (fun u => u = [X3W g oR (fun _ => 0) (fun _ => 0) (fun _ _ => 0)]) := by
  refine kV_of (cc := cX3_init) (nL := 1) (ret := none) (lv := [(0, .ref oR)]) (by decide) rfl (Nat.le_of_ble_eq_true rfl) rfl ?_
  intro p e s m args below meth c ls A hnm C hP hD hE hA hS hl
  have hnm : meth.name = "<init>" := hnm
  have C : kC p c cX3_init s m args meth RX3 g 1 none := C
  have hx := C.1.1
  have hb := C.1.2.1
  have hts := C.1.2.2.2.2
  refine lv_aload_n hx hb dX3_init_0 rfl (lv_at hl 0 rfl) ?_
  refine kg_obj C hl.1 kw226 kw105 kw106 (Nat.le_of_ble_eq_true rfl) (Nat.le_of_ble_eq_true rfl) dX3_init_1 ?_
  have hP : kp g [X3W g oR (fun _ => 0) (fun _ => 0) (fun _ _ => 0)] s.heap := hP
  have hD : kd A [X3W g oR (fun _ => 0) (fun _ => 0) (fun _ _ => 0)] := hD
  exact kV_ret C hP hD hS rfl dX3_init_4
