
theorem kw1671 : Cond.methodLink RX5 176 yX5_goes ∈ kW := k_w 8 125 rfl rfl
theorem kw1675 : Cond.methodLink RX5 164 yX5_isMarket ∈ kW := k_w 8 129 rfl rfl
theorem kw1678 : Cond.methodLink RX5 167 yX5_where ∈ kW := k_w 8 132 rfl rfl
theorem kw1681 : Cond.methodLink RX5 170 Lib.Math.abs.name ∈ kW := k_w 8 135 rfl rfl
theorem kw1682 : Cond.methodLink RX5 173 yX5_passes ∈ kW := k_w 8 136 rfl rfl
theorem kw1690 : Cond.methodLink RX5 182 yX5_seals ∈ kW := k_w 8 144 rfl rfl
theorem kw1694 : Cond.methodLink RX5 179 yX5_isWeight ∈ kW := k_w 8 148 rfl rfl
theorem kw1701 : Cond.methodLink RX5 189 yX5_rests ∈ kW := k_w 8 155 rfl rfl
theorem kw1705 : Cond.methodLink RX5 185 yX5_dust ∈ kW := k_w 8 159 rfl rfl
theorem kw1729 : Cond.methodLink RX5 192 yX5_told ∈ kW := k_w 8 183 rfl rfl
theorem kw1750 : Cond.methodLink RX5 195 yX5_gets ∈ kW := k_w 8 204 rfl rfl
theorem pnX5_isMarket : yX5_isMarket.cls ≠ "java/lang/invoke/MethodHandle" ∧ yX5_isMarket.cls ≠ "java/lang/invoke/VarHandle" ∧ (parseMethodDescriptor yX5_isMarket.desc).map (fun d => d.parameters.length) = some 1 := by decide +kernel
theorem cs_X5_isMarket : kCst yX5_isMarket (Cond.code yX5_isMarket cX5_isMarket 1 (some .boolean)) := ⟨k_w 8 130 rfl rfl, k_w 2 10 rfl rfl, k_w 8 131 rfl rfl⟩

theorem pnX5_passes : yX5_passes.cls ≠ "java/lang/invoke/MethodHandle" ∧ yX5_passes.cls ≠ "java/lang/invoke/VarHandle" ∧ (parseMethodDescriptor yX5_passes.desc).map (fun d => d.parameters.length) = some 1 := by decide +kernel
theorem ca_X5_passes : kCal yX5_passes (Cond.code yX5_passes cX5_passes 3 none) := ⟨k_w 8 138 rfl rfl, k_w 1 89 rfl rfl, k_w 2 10 rfl rfl, k_w 8 139 rfl rfl⟩

theorem pnX5_where : yX5_where.cls ≠ "java/lang/invoke/MethodHandle" ∧ yX5_where.cls ≠ "java/lang/invoke/VarHandle" ∧ (parseMethodDescriptor yX5_where.desc).map (fun d => d.parameters.length) = some 1 := by decide +kernel
theorem cs_X5_where : kCst yX5_where (Cond.code yX5_where cX5_where 1 (some .int)) := ⟨k_w 8 133 rfl rfl, k_w 2 10 rfl rfl, k_w 8 134 rfl rfl⟩

abbrev wX5_goes : List Cond := Cond.code yX5_goes cX5_goes 2 (some .boolean) :: kW
def X5_goes_f (vM : Nat → Int32) (aM : Nat → Nat → Int32) (p0 : Int32) : Bool × (Nat → Int32) × (Nat → Nat → Int32) :=
  if (X5_isMarket_f p0) = true then (if p0 = ((aM 0) 1) then (false, upd (upd (upd vM 14 13) 15 p0) 17 (vM 16), aM)
    else if (X5_isSworn_f vM (va_up (X5_passes_f vM aM (if 0 ≤ ((X5_where_f p0) - (X5_where_f ((aM 0) 1))) then ((X5_where_f p0) - (X5_where_f ((aM 0) 1))) else 0 - ((X5_where_f p0) - (X5_where_f ((aM 0) 1))))) 0 (upd ((X5_passes_f vM aM (if 0 ≤ ((X5_where_f p0) - (X5_where_f ((aM 0) 1))) then ((X5_where_f p0) - (X5_where_f ((aM 0) 1))) else 0 - ((X5_where_f p0) - (X5_where_f ((aM 0) 1))))) 0) 1 p0)) p0) = true then (true, upd vM 18 ((upd (upd ((X5_passes_f vM aM (if 0 ≤ ((X5_where_f p0) - (X5_where_f ((aM 0) 1))) then ((X5_where_f p0) - (X5_where_f ((aM 0) 1))) else 0 - ((X5_where_f p0) - (X5_where_f ((aM 0) 1))))) 0) 1 p0) 3 0) 0), va_up (va_up (X5_passes_f vM aM (if 0 ≤ ((X5_where_f p0) - (X5_where_f ((aM 0) 1))) then ((X5_where_f p0) - (X5_where_f ((aM 0) 1))) else 0 - ((X5_where_f p0) - (X5_where_f ((aM 0) 1))))) 0 (upd ((X5_passes_f vM aM (if 0 ≤ ((X5_where_f p0) - (X5_where_f ((aM 0) 1))) then ((X5_where_f p0) - (X5_where_f ((aM 0) 1))) else 0 - ((X5_where_f p0) - (X5_where_f ((aM 0) 1))))) 0) 1 p0)) 0 (upd (upd ((X5_passes_f vM aM (if 0 ≤ ((X5_where_f p0) - (X5_where_f ((aM 0) 1))) then ((X5_where_f p0) - (X5_where_f ((aM 0) 1))) else 0 - ((X5_where_f p0) - (X5_where_f ((aM 0) 1))))) 0) 1 p0) 3 0))
    else (true, upd vM 18 ((upd ((X5_passes_f vM aM (if 0 ≤ ((X5_where_f p0) - (X5_where_f ((aM 0) 1))) then ((X5_where_f p0) - (X5_where_f ((aM 0) 1))) else 0 - ((X5_where_f p0) - (X5_where_f ((aM 0) 1))))) 0) 1 p0) 0), va_up (X5_passes_f vM aM (if 0 ≤ ((X5_where_f p0) - (X5_where_f ((aM 0) 1))) then ((X5_where_f p0) - (X5_where_f ((aM 0) 1))) else 0 - ((X5_where_f p0) - (X5_where_f ((aM 0) 1))))) 0 (upd ((X5_passes_f vM aM (if 0 ≤ ((X5_where_f p0) - (X5_where_f ((aM 0) 1))) then ((X5_where_f p0) - (X5_where_f ((aM 0) 1))) else 0 - ((X5_where_f p0) - (X5_where_f ((aM 0) 1))))) 0) 1 p0)))
  else (false, upd (upd (upd vM 14 3) 15 p0) 17 (vM 16), aM)
set_option maxHeartbeats 4000000 in
set_option maxRecDepth 100000 in
theorem X5_goes_c (l : Launch) (g : kG) (oM : Nat) (rM : Nat → Nat) (vM : Nat → Int32) (aM : Nat → Nat → Int32) (p0 : Int32) (hB5 : (∃ n : Nat, n ≤ 6 ∧ aM 0 5 = nI n)) (hM5 : vp_in (aM 0 1) 4) : kM l yX5_goes wX5_goes 2 45 0 0 g [.ref oM, .int p0] [X5W g oM rM vM aM] (fun x u => x = b2i (X5_goes_f vM aM p0).1 ∧ u = [X5W g oM rM ((X5_goes_f vM aM p0).2.1) ((X5_goes_f vM aM p0).2.2)]) := by
  refine kM_of (cc := cX5_goes) (nL := 2) (ret := (some .boolean)) (lv := [(0, .ref oM), (1, .int p0)]) (by decide) rfl (Nat.le_of_ble_eq_true rfl) rfl ?_
  intro p e s m args below meth c ls A C hP hD hE hA hS hl
  have C : kC p c cX5_goes s m args meth RX5 g 2 (some .boolean) := C
  have hx := C.1.1
  have hb := C.1.2.1
  have hts := C.1.2.2.2.2
  refine lv_iload_n hx hb dX5_goes_0 rfl (lv_at hl 1 rfl) ?_
  refine kR_S (As := [.int p0]) (rest := []) C (X5_isMarket_c l g p0) (va_cwS 1 hts (k_gS kw1675 cs_X5_isMarket) rfl rfl rfl pnX5_isMarket ⟨Nat.le_of_ble_eq_true rfl, Nat.le_of_ble_eq_true rfl⟩) hE hS (hP.pick [] rfl) rfl hl.1 rfl rfl dX5_goes_1 ⟨Nat.le_of_ble_eq_true rfl, Nat.le_of_ble_eq_true rfl⟩ ?_
  refine lv_if_ne (tgt := 14) hx hb dX5_goes_4 (by decide) (fun c1 => ?_) (fun c1 => ?_)
  · have c1 := b2i_ne0 c1
    have z3 := k_isMarket5 c1
    refine lv_iload_n hx hb dX5_goes_14 rfl (lv_at hl 1 rfl) ?_
    refine lv_aload_n hx hb dX5_goes_15 rfl (lv_at hl 0 rfl) ?_
    refine kg_get C kFX5 (k := 0) kw1446 hP (i := 0) (q := 0) rfl rfl (by decide) rfl dX5_goes_16 ?_
    refine lv_iconst (v := 1) hx hb dX5_goes_19 (by decide) ?_
    refine kg_ialdK C hP (i := 0) (q := 1) rfl rfl (j := 1) rfl (k_vin (j := 1) rfl (by decide) (by decide)) dX5_goes_20 ?_
    refine lv_icmp_ne (tgt := 32) hx hb dX5_goes_21 (by decide) (fun c2 => ?_) (fun c2 => ?_)
    · refine lv_aload_n hx hb dX5_goes_32 rfl (lv_at hl 0 rfl) ?_
      refine lv_iload_n hx hb dX5_goes_33 rfl (lv_at hl 1 rfl) ?_
      refine kR_S (As := [.int p0]) (rest := [.ref oM]) C (X5_where_c l g p0) (va_cwS 1 hts (k_gS kw1678 cs_X5_where) rfl rfl rfl pnX5_where ⟨Nat.le_of_ble_eq_true rfl, Nat.le_of_ble_eq_true rfl⟩) hE hS (hP.pick [] rfl) rfl hl.1 rfl rfl dX5_goes_34 ⟨Nat.le_of_ble_eq_true rfl, Nat.le_of_ble_eq_true rfl⟩ ?_
      refine lv_aload_n hx hb dX5_goes_37 rfl (lv_at hl 0 rfl) ?_
      refine kg_get C kFX5 (k := 0) kw1446 hP (i := 0) (q := 0) rfl rfl (by decide) rfl dX5_goes_38 ?_
      refine lv_iconst (v := 1) hx hb dX5_goes_41 (by decide) ?_
      refine kg_ialdK C hP (i := 0) (q := 1) rfl rfl (j := 1) rfl (k_vin (j := 1) rfl (by decide) (by decide)) dX5_goes_42 ?_
      refine kR_S (As := [.int ((aM 0) 1)]) (rest := [.int (X5_where_f p0), .ref oM]) C (X5_where_c l g ((aM 0) 1)) (va_cwS 1 hts (k_gS kw1678 cs_X5_where) rfl rfl rfl pnX5_where ⟨Nat.le_of_ble_eq_true rfl, Nat.le_of_ble_eq_true rfl⟩) hE hS (hP.pick [] rfl) rfl hl.1 rfl rfl dX5_goes_43 ⟨Nat.le_of_ble_eq_true rfl, Nat.le_of_ble_eq_true rfl⟩ ?_
      refine lv_isub hx hb dX5_goes_46 ?_
      refine va_mabs hx hb (by rw [C.1.2.2.1, hl.1]) C.1.2.2.2.1 (hts _ (kw1681)) (hts _ kw648) (hts _ kw122) (hts _ kw649) (Nat.le_of_ble_eq_true rfl) (Nat.le_of_ble_eq_true rfl) (Nat.le_of_ble_eq_true rfl) (Nat.le_of_ble_eq_true rfl) dX5_goes_47 ?_
      refine kV_V (As := [.int (if 0 ≤ ((X5_where_f p0) - (X5_where_f ((aM 0) 1))) then ((X5_where_f p0) - (X5_where_f ((aM 0) 1))) else 0 - ((X5_where_f p0) - (X5_where_f ((aM 0) 1))))]) (rest := []) (wr := []) C (X5_passes_c l g oM rM vM aM (if 0 ≤ ((X5_where_f p0) - (X5_where_f ((aM 0) 1))) then ((X5_where_f p0) - (X5_where_f ((aM 0) 1))) else 0 - ((X5_where_f p0) - (X5_where_f ((aM 0) 1)))) (by first | assumption | exact hB5 | exact hM5 | exact ⟨0, by omega, rfl⟩ | exact ⟨1, by omega, rfl⟩ | exact ⟨2, by omega, rfl⟩ | exact ⟨3, by omega, rfl⟩ | exact ⟨4, by omega, rfl⟩)) (cwV 1 hts (k_gV kw1682 ca_X5_passes) rfl rfl rfl ⟨rfl, pnX5_passes⟩ ⟨Nat.le_of_ble_eq_true rfl, Nat.le_of_ble_eq_true rfl⟩) hE hS hA hP hD [0] [] rfl rfl ⟨rfl, rfl, by decide⟩ (k_recv C kFX5 hP (i := 0) (q := 0) rfl rfl) rfl hl.1 rfl rfl dX5_goes_50 ⟨Nat.le_of_ble_eq_true rfl, Nat.le_of_ble_eq_true rfl⟩ (fun u3 H locs hp3 hP hD hS => ?_)
      subst hp3
      have hP : kp g [X5W g oM rM vM (X5_passes_f vM aM (if 0 ≤ ((X5_where_f p0) - (X5_where_f ((aM 0) 1))) then ((X5_where_f p0) - (X5_where_f ((aM 0) 1))) else 0 - ((X5_where_f p0) - (X5_where_f ((aM 0) 1)))))] H := hP
      have hD : kd A [X5W g oM rM vM (X5_passes_f vM aM (if 0 ≤ ((X5_where_f p0) - (X5_where_f ((aM 0) 1))) then ((X5_where_f p0) - (X5_where_f ((aM 0) 1))) else 0 - ((X5_where_f p0) - (X5_where_f ((aM 0) 1)))))] := hD
      refine lv_aload_n hx hb dX5_goes_53 rfl (lv_at hl 0 rfl) ?_
      refine kg_get C kFX5 (k := 0) kw1446 hP (i := 0) (q := 0) rfl rfl (by decide) rfl dX5_goes_54 ?_
      refine lv_iconst (v := 1) hx hb dX5_goes_57 (by decide) ?_
      refine lv_iload_n hx hb dX5_goes_58 rfl (lv_at hl 1 rfl) ?_
      refine kg_iastK C hP hD hS (i := 0) (q := 1) rfl rfl (j := 1) rfl (k_vin (j := 1) rfl (by decide) (by decide)) X5t_0 rfl dX5_goes_59 (fun H locs hP hD hS => ?_)
      have hP : kp g [X5W g oM rM vM (va_up (X5_passes_f vM aM (if 0 ≤ ((X5_where_f p0) - (X5_where_f ((aM 0) 1))) then ((X5_where_f p0) - (X5_where_f ((aM 0) 1))) else 0 - ((X5_where_f p0) - (X5_where_f ((aM 0) 1))))) 0 (upd ((X5_passes_f vM aM (if 0 ≤ ((X5_where_f p0) - (X5_where_f ((aM 0) 1))) then ((X5_where_f p0) - (X5_where_f ((aM 0) 1))) else 0 - ((X5_where_f p0) - (X5_where_f ((aM 0) 1))))) 0) 1 p0))] H := hP
      have hD : kd A [X5W g oM rM vM (va_up (X5_passes_f vM aM (if 0 ≤ ((X5_where_f p0) - (X5_where_f ((aM 0) 1))) then ((X5_where_f p0) - (X5_where_f ((aM 0) 1))) else 0 - ((X5_where_f p0) - (X5_where_f ((aM 0) 1))))) 0 (upd ((X5_passes_f vM aM (if 0 ≤ ((X5_where_f p0) - (X5_where_f ((aM 0) 1))) then ((X5_where_f p0) - (X5_where_f ((aM 0) 1))) else 0 - ((X5_where_f p0) - (X5_where_f ((aM 0) 1))))) 0) 1 p0))] := hD
      refine lv_aload_n hx hb dX5_goes_60 rfl (lv_at hl 0 rfl) ?_
      refine lv_iload_n hx hb dX5_goes_61 rfl (lv_at hl 1 rfl) ?_
      refine kR_V (As := [.int p0]) (rest := []) C (X5_isSworn_c l g oM rM vM (va_up (X5_passes_f vM aM (if 0 ≤ ((X5_where_f p0) - (X5_where_f ((aM 0) 1))) then ((X5_where_f p0) - (X5_where_f ((aM 0) 1))) else 0 - ((X5_where_f p0) - (X5_where_f ((aM 0) 1))))) 0 (upd ((X5_passes_f vM aM (if 0 ≤ ((X5_where_f p0) - (X5_where_f ((aM 0) 1))) then ((X5_where_f p0) - (X5_where_f ((aM 0) 1))) else 0 - ((X5_where_f p0) - (X5_where_f ((aM 0) 1))))) 0) 1 p0)) p0 (by first | assumption | exact hB5 | exact hM5 | exact ⟨0, by omega, rfl⟩ | exact ⟨1, by omega, rfl⟩ | exact ⟨2, by omega, rfl⟩ | exact ⟨3, by omega, rfl⟩ | exact ⟨4, by omega, rfl⟩)) (cwV 1 hts (k_gV kw1604 ca_X5_isSworn) rfl rfl rfl ⟨rfl, pnX5_isSworn⟩ ⟨Nat.le_of_ble_eq_true rfl, Nat.le_of_ble_eq_true rfl⟩) hE hS (hP.pick [0] rfl) (k_recv C kFX5 hP (i := 0) (q := 0) rfl rfl) rfl hl.1 rfl rfl dX5_goes_62 ⟨Nat.le_of_ble_eq_true rfl, Nat.le_of_ble_eq_true rfl⟩ ?_
      refine lv_if_eq (tgt := 75) hx hb dX5_goes_65 (by decide) (fun c4 => ?_) (fun c4 => ?_)
      · have c4 := b2i_eq0 c4
        refine lv_aload_n hx hb dX5_goes_75 rfl (lv_at hl 0 rfl) ?_
        refine lv_aload_n hx hb dX5_goes_76 rfl (lv_at hl 0 rfl) ?_
        refine kg_get C kFX5 (k := 0) kw1446 hP (i := 0) (q := 0) rfl rfl (by decide) rfl dX5_goes_77 ?_
        refine lv_iconst (v := 0) hx hb dX5_goes_80 (by decide) ?_
        refine kg_ialdK C hP (i := 0) (q := 1) rfl rfl (j := 0) rfl (k_vin (j := 0) rfl (by decide) (by decide)) dX5_goes_81 ?_
        refine kM_V (As := [.int ((upd ((X5_passes_f vM aM (if 0 ≤ ((X5_where_f p0) - (X5_where_f ((aM 0) 1))) then ((X5_where_f p0) - (X5_where_f ((aM 0) 1))) else 0 - ((X5_where_f p0) - (X5_where_f ((aM 0) 1))))) 0) 1 p0) 0)]) (rest := []) (wr := []) C (X5_does_c l g oM rM vM (va_up (X5_passes_f vM aM (if 0 ≤ ((X5_where_f p0) - (X5_where_f ((aM 0) 1))) then ((X5_where_f p0) - (X5_where_f ((aM 0) 1))) else 0 - ((X5_where_f p0) - (X5_where_f ((aM 0) 1))))) 0 (upd ((X5_passes_f vM aM (if 0 ≤ ((X5_where_f p0) - (X5_where_f ((aM 0) 1))) then ((X5_where_f p0) - (X5_where_f ((aM 0) 1))) else 0 - ((X5_where_f p0) - (X5_where_f ((aM 0) 1))))) 0) 1 p0)) ((upd ((X5_passes_f vM aM (if 0 ≤ ((X5_where_f p0) - (X5_where_f ((aM 0) 1))) then ((X5_where_f p0) - (X5_where_f ((aM 0) 1))) else 0 - ((X5_where_f p0) - (X5_where_f ((aM 0) 1))))) 0) 1 p0) 0)) (cwV 1 hts (k_gV kw1572 ca_X5_does) rfl rfl rfl ⟨rfl, pnX5_does⟩ ⟨Nat.le_of_ble_eq_true rfl, Nat.le_of_ble_eq_true rfl⟩) hE hS hA hP hD [0] [] rfl rfl ⟨rfl, rfl, by decide⟩ (k_recv C kFX5 hP (i := 0) (q := 0) rfl rfl) rfl hl.1 rfl rfl dX5_goes_82 ⟨Nat.le_of_ble_eq_true rfl, Nat.le_of_ble_eq_true rfl⟩ (fun r5 u5 H locs hp5 hP hD hS => ?_)
        obtain ⟨er5, eu5⟩ := hp5
        have er5 : r5 = 1 := er5
        have eu5 : u5 = [X5W g oM rM (upd vM 18 ((upd ((X5_passes_f vM aM (if 0 ≤ ((X5_where_f p0) - (X5_where_f ((aM 0) 1))) then ((X5_where_f p0) - (X5_where_f ((aM 0) 1))) else 0 - ((X5_where_f p0) - (X5_where_f ((aM 0) 1))))) 0) 1 p0) 0)) (va_up (X5_passes_f vM aM (if 0 ≤ ((X5_where_f p0) - (X5_where_f ((aM 0) 1))) then ((X5_where_f p0) - (X5_where_f ((aM 0) 1))) else 0 - ((X5_where_f p0) - (X5_where_f ((aM 0) 1))))) 0 (upd ((X5_passes_f vM aM (if 0 ≤ ((X5_where_f p0) - (X5_where_f ((aM 0) 1))) then ((X5_where_f p0) - (X5_where_f ((aM 0) 1))) else 0 - ((X5_where_f p0) - (X5_where_f ((aM 0) 1))))) 0) 1 p0))] := eu5
        subst er5 eu5
        have hP : kp g [X5W g oM rM (upd vM 18 ((upd ((X5_passes_f vM aM (if 0 ≤ ((X5_where_f p0) - (X5_where_f ((aM 0) 1))) then ((X5_where_f p0) - (X5_where_f ((aM 0) 1))) else 0 - ((X5_where_f p0) - (X5_where_f ((aM 0) 1))))) 0) 1 p0) 0)) (va_up (X5_passes_f vM aM (if 0 ≤ ((X5_where_f p0) - (X5_where_f ((aM 0) 1))) then ((X5_where_f p0) - (X5_where_f ((aM 0) 1))) else 0 - ((X5_where_f p0) - (X5_where_f ((aM 0) 1))))) 0 (upd ((X5_passes_f vM aM (if 0 ≤ ((X5_where_f p0) - (X5_where_f ((aM 0) 1))) then ((X5_where_f p0) - (X5_where_f ((aM 0) 1))) else 0 - ((X5_where_f p0) - (X5_where_f ((aM 0) 1))))) 0) 1 p0))] H := hP
        have hD : kd A [X5W g oM rM (upd vM 18 ((upd ((X5_passes_f vM aM (if 0 ≤ ((X5_where_f p0) - (X5_where_f ((aM 0) 1))) then ((X5_where_f p0) - (X5_where_f ((aM 0) 1))) else 0 - ((X5_where_f p0) - (X5_where_f ((aM 0) 1))))) 0) 1 p0) 0)) (va_up (X5_passes_f vM aM (if 0 ≤ ((X5_where_f p0) - (X5_where_f ((aM 0) 1))) then ((X5_where_f p0) - (X5_where_f ((aM 0) 1))) else 0 - ((X5_where_f p0) - (X5_where_f ((aM 0) 1))))) 0 (upd ((X5_passes_f vM aM (if 0 ≤ ((X5_where_f p0) - (X5_where_f ((aM 0) 1))) then ((X5_where_f p0) - (X5_where_f ((aM 0) 1))) else 0 - ((X5_where_f p0) - (X5_where_f ((aM 0) 1))))) 0) 1 p0))] := hD
        have hF := (show X5_goes_f vM aM p0 = (true, upd vM 18 ((upd ((X5_passes_f vM aM (if 0 ≤ ((X5_where_f p0) - (X5_where_f ((aM 0) 1))) then ((X5_where_f p0) - (X5_where_f ((aM 0) 1))) else 0 - ((X5_where_f p0) - (X5_where_f ((aM 0) 1))))) 0) 1 p0) 0), va_up (X5_passes_f vM aM (if 0 ≤ ((X5_where_f p0) - (X5_where_f ((aM 0) 1))) then ((X5_where_f p0) - (X5_where_f ((aM 0) 1))) else 0 - ((X5_where_f p0) - (X5_where_f ((aM 0) 1))))) 0 (upd ((X5_passes_f vM aM (if 0 ≤ ((X5_where_f p0) - (X5_where_f ((aM 0) 1))) then ((X5_where_f p0) - (X5_where_f ((aM 0) 1))) else 0 - ((X5_where_f p0) - (X5_where_f ((aM 0) 1))))) 0) 1 p0)) from (if_pos c1).trans ((if_neg c2).trans ((if_neg c4).trans (rfl))))
        exact kM_zret (x := b2i true) C (b2i_nar _) hP hD hS ⟨by rw [hF], by rw [hF]⟩ dX5_goes_85
      have c4 := b2i_ne0 c4
      refine lv_aload_n hx hb dX5_goes_68 rfl (lv_at hl 0 rfl) ?_
      refine kg_get C kFX5 (k := 0) kw1446 hP (i := 0) (q := 0) rfl rfl (by decide) rfl dX5_goes_69 ?_
      refine lv_iconst (v := 3) hx hb dX5_goes_72 (by decide) ?_
      refine lv_iconst (v := 0) hx hb dX5_goes_73 (by decide) ?_
      refine kg_iastK C hP hD hS (i := 0) (q := 1) rfl rfl (j := 3) rfl (k_vin (j := 3) rfl (by decide) (by decide)) X5t_0 rfl dX5_goes_74 (fun H locs hP hD hS => ?_)
      have hP : kp g [X5W g oM rM vM (va_up (va_up (X5_passes_f vM aM (if 0 ≤ ((X5_where_f p0) - (X5_where_f ((aM 0) 1))) then ((X5_where_f p0) - (X5_where_f ((aM 0) 1))) else 0 - ((X5_where_f p0) - (X5_where_f ((aM 0) 1))))) 0 (upd ((X5_passes_f vM aM (if 0 ≤ ((X5_where_f p0) - (X5_where_f ((aM 0) 1))) then ((X5_where_f p0) - (X5_where_f ((aM 0) 1))) else 0 - ((X5_where_f p0) - (X5_where_f ((aM 0) 1))))) 0) 1 p0)) 0 (upd (upd ((X5_passes_f vM aM (if 0 ≤ ((X5_where_f p0) - (X5_where_f ((aM 0) 1))) then ((X5_where_f p0) - (X5_where_f ((aM 0) 1))) else 0 - ((X5_where_f p0) - (X5_where_f ((aM 0) 1))))) 0) 1 p0) 3 0))] H := hP
      have hD : kd A [X5W g oM rM vM (va_up (va_up (X5_passes_f vM aM (if 0 ≤ ((X5_where_f p0) - (X5_where_f ((aM 0) 1))) then ((X5_where_f p0) - (X5_where_f ((aM 0) 1))) else 0 - ((X5_where_f p0) - (X5_where_f ((aM 0) 1))))) 0 (upd ((X5_passes_f vM aM (if 0 ≤ ((X5_where_f p0) - (X5_where_f ((aM 0) 1))) then ((X5_where_f p0) - (X5_where_f ((aM 0) 1))) else 0 - ((X5_where_f p0) - (X5_where_f ((aM 0) 1))))) 0) 1 p0)) 0 (upd (upd ((X5_passes_f vM aM (if 0 ≤ ((X5_where_f p0) - (X5_where_f ((aM 0) 1))) then ((X5_where_f p0) - (X5_where_f ((aM 0) 1))) else 0 - ((X5_where_f p0) - (X5_where_f ((aM 0) 1))))) 0) 1 p0) 3 0))] := hD
      refine lv_aload_n hx hb dX5_goes_75 rfl (lv_at hl 0 rfl) ?_
      refine lv_aload_n hx hb dX5_goes_76 rfl (lv_at hl 0 rfl) ?_
      refine kg_get C kFX5 (k := 0) kw1446 hP (i := 0) (q := 0) rfl rfl (by decide) rfl dX5_goes_77 ?_
      refine lv_iconst (v := 0) hx hb dX5_goes_80 (by decide) ?_
      refine kg_ialdK C hP (i := 0) (q := 1) rfl rfl (j := 0) rfl (k_vin (j := 0) rfl (by decide) (by decide)) dX5_goes_81 ?_
      refine kM_V (As := [.int ((upd (upd ((X5_passes_f vM aM (if 0 ≤ ((X5_where_f p0) - (X5_where_f ((aM 0) 1))) then ((X5_where_f p0) - (X5_where_f ((aM 0) 1))) else 0 - ((X5_where_f p0) - (X5_where_f ((aM 0) 1))))) 0) 1 p0) 3 0) 0)]) (rest := []) (wr := []) C (X5_does_c l g oM rM vM (va_up (va_up (X5_passes_f vM aM (if 0 ≤ ((X5_where_f p0) - (X5_where_f ((aM 0) 1))) then ((X5_where_f p0) - (X5_where_f ((aM 0) 1))) else 0 - ((X5_where_f p0) - (X5_where_f ((aM 0) 1))))) 0 (upd ((X5_passes_f vM aM (if 0 ≤ ((X5_where_f p0) - (X5_where_f ((aM 0) 1))) then ((X5_where_f p0) - (X5_where_f ((aM 0) 1))) else 0 - ((X5_where_f p0) - (X5_where_f ((aM 0) 1))))) 0) 1 p0)) 0 (upd (upd ((X5_passes_f vM aM (if 0 ≤ ((X5_where_f p0) - (X5_where_f ((aM 0) 1))) then ((X5_where_f p0) - (X5_where_f ((aM 0) 1))) else 0 - ((X5_where_f p0) - (X5_where_f ((aM 0) 1))))) 0) 1 p0) 3 0)) ((upd (upd ((X5_passes_f vM aM (if 0 ≤ ((X5_where_f p0) - (X5_where_f ((aM 0) 1))) then ((X5_where_f p0) - (X5_where_f ((aM 0) 1))) else 0 - ((X5_where_f p0) - (X5_where_f ((aM 0) 1))))) 0) 1 p0) 3 0) 0)) (cwV 1 hts (k_gV kw1572 ca_X5_does) rfl rfl rfl ⟨rfl, pnX5_does⟩ ⟨Nat.le_of_ble_eq_true rfl, Nat.le_of_ble_eq_true rfl⟩) hE hS hA hP hD [0] [] rfl rfl ⟨rfl, rfl, by decide⟩ (k_recv C kFX5 hP (i := 0) (q := 0) rfl rfl) rfl hl.1 rfl rfl dX5_goes_82 ⟨Nat.le_of_ble_eq_true rfl, Nat.le_of_ble_eq_true rfl⟩ (fun r6 u6 H locs hp6 hP hD hS => ?_)
      obtain ⟨er6, eu6⟩ := hp6
      have er6 : r6 = 1 := er6
      have eu6 : u6 = [X5W g oM rM (upd vM 18 ((upd (upd ((X5_passes_f vM aM (if 0 ≤ ((X5_where_f p0) - (X5_where_f ((aM 0) 1))) then ((X5_where_f p0) - (X5_where_f ((aM 0) 1))) else 0 - ((X5_where_f p0) - (X5_where_f ((aM 0) 1))))) 0) 1 p0) 3 0) 0)) (va_up (va_up (X5_passes_f vM aM (if 0 ≤ ((X5_where_f p0) - (X5_where_f ((aM 0) 1))) then ((X5_where_f p0) - (X5_where_f ((aM 0) 1))) else 0 - ((X5_where_f p0) - (X5_where_f ((aM 0) 1))))) 0 (upd ((X5_passes_f vM aM (if 0 ≤ ((X5_where_f p0) - (X5_where_f ((aM 0) 1))) then ((X5_where_f p0) - (X5_where_f ((aM 0) 1))) else 0 - ((X5_where_f p0) - (X5_where_f ((aM 0) 1))))) 0) 1 p0)) 0 (upd (upd ((X5_passes_f vM aM (if 0 ≤ ((X5_where_f p0) - (X5_where_f ((aM 0) 1))) then ((X5_where_f p0) - (X5_where_f ((aM 0) 1))) else 0 - ((X5_where_f p0) - (X5_where_f ((aM 0) 1))))) 0) 1 p0) 3 0))] := eu6
      subst er6 eu6
      have hP : kp g [X5W g oM rM (upd vM 18 ((upd (upd ((X5_passes_f vM aM (if 0 ≤ ((X5_where_f p0) - (X5_where_f ((aM 0) 1))) then ((X5_where_f p0) - (X5_where_f ((aM 0) 1))) else 0 - ((X5_where_f p0) - (X5_where_f ((aM 0) 1))))) 0) 1 p0) 3 0) 0)) (va_up (va_up (X5_passes_f vM aM (if 0 ≤ ((X5_where_f p0) - (X5_where_f ((aM 0) 1))) then ((X5_where_f p0) - (X5_where_f ((aM 0) 1))) else 0 - ((X5_where_f p0) - (X5_where_f ((aM 0) 1))))) 0 (upd ((X5_passes_f vM aM (if 0 ≤ ((X5_where_f p0) - (X5_where_f ((aM 0) 1))) then ((X5_where_f p0) - (X5_where_f ((aM 0) 1))) else 0 - ((X5_where_f p0) - (X5_where_f ((aM 0) 1))))) 0) 1 p0)) 0 (upd (upd ((X5_passes_f vM aM (if 0 ≤ ((X5_where_f p0) - (X5_where_f ((aM 0) 1))) then ((X5_where_f p0) - (X5_where_f ((aM 0) 1))) else 0 - ((X5_where_f p0) - (X5_where_f ((aM 0) 1))))) 0) 1 p0) 3 0))] H := hP
      have hD : kd A [X5W g oM rM (upd vM 18 ((upd (upd ((X5_passes_f vM aM (if 0 ≤ ((X5_where_f p0) - (X5_where_f ((aM 0) 1))) then ((X5_where_f p0) - (X5_where_f ((aM 0) 1))) else 0 - ((X5_where_f p0) - (X5_where_f ((aM 0) 1))))) 0) 1 p0) 3 0) 0)) (va_up (va_up (X5_passes_f vM aM (if 0 ≤ ((X5_where_f p0) - (X5_where_f ((aM 0) 1))) then ((X5_where_f p0) - (X5_where_f ((aM 0) 1))) else 0 - ((X5_where_f p0) - (X5_where_f ((aM 0) 1))))) 0 (upd ((X5_passes_f vM aM (if 0 ≤ ((X5_where_f p0) - (X5_where_f ((aM 0) 1))) then ((X5_where_f p0) - (X5_where_f ((aM 0) 1))) else 0 - ((X5_where_f p0) - (X5_where_f ((aM 0) 1))))) 0) 1 p0)) 0 (upd (upd ((X5_passes_f vM aM (if 0 ≤ ((X5_where_f p0) - (X5_where_f ((aM 0) 1))) then ((X5_where_f p0) - (X5_where_f ((aM 0) 1))) else 0 - ((X5_where_f p0) - (X5_where_f ((aM 0) 1))))) 0) 1 p0) 3 0))] := hD
      have hF := (show X5_goes_f vM aM p0 = (true, upd vM 18 ((upd (upd ((X5_passes_f vM aM (if 0 ≤ ((X5_where_f p0) - (X5_where_f ((aM 0) 1))) then ((X5_where_f p0) - (X5_where_f ((aM 0) 1))) else 0 - ((X5_where_f p0) - (X5_where_f ((aM 0) 1))))) 0) 1 p0) 3 0) 0), va_up (va_up (X5_passes_f vM aM (if 0 ≤ ((X5_where_f p0) - (X5_where_f ((aM 0) 1))) then ((X5_where_f p0) - (X5_where_f ((aM 0) 1))) else 0 - ((X5_where_f p0) - (X5_where_f ((aM 0) 1))))) 0 (upd ((X5_passes_f vM aM (if 0 ≤ ((X5_where_f p0) - (X5_where_f ((aM 0) 1))) then ((X5_where_f p0) - (X5_where_f ((aM 0) 1))) else 0 - ((X5_where_f p0) - (X5_where_f ((aM 0) 1))))) 0) 1 p0)) 0 (upd (upd ((X5_passes_f vM aM (if 0 ≤ ((X5_where_f p0) - (X5_where_f ((aM 0) 1))) then ((X5_where_f p0) - (X5_where_f ((aM 0) 1))) else 0 - ((X5_where_f p0) - (X5_where_f ((aM 0) 1))))) 0) 1 p0) 3 0)) from (if_pos c1).trans ((if_neg c2).trans ((if_pos c4).trans (rfl))))
      exact kM_zret (x := b2i true) C (b2i_nar _) hP hD hS ⟨by rw [hF], by rw [hF]⟩ dX5_goes_85
    refine lv_aload_n hx hb dX5_goes_24 rfl (lv_at hl 0 rfl) ?_
    refine lv_bipush (v := 13) hx hb dX5_goes_25 (by decide) ?_
    refine lv_iload_n hx hb dX5_goes_27 rfl (lv_at hl 1 rfl) ?_
    refine kM_V (As := [.int 13, .int p0]) (rest := []) (wr := []) C (X5_refuses_c l g oM rM vM aM 13 p0) (cwV 2 hts (k_gV kw1528 ca_X5_refuses) rfl rfl rfl ⟨rfl, pnX5_refuses⟩ ⟨Nat.le_of_ble_eq_true rfl, Nat.le_of_ble_eq_true rfl⟩) hE hS hA hP hD [0] [] rfl rfl ⟨rfl, rfl, by decide⟩ (k_recv C kFX5 hP (i := 0) (q := 0) rfl rfl) rfl hl.1 rfl rfl dX5_goes_28 ⟨Nat.le_of_ble_eq_true rfl, Nat.le_of_ble_eq_true rfl⟩ (fun r7 u7 H locs hp7 hP hD hS => ?_)
    obtain ⟨er7, eu7⟩ := hp7
    have er7 : r7 = 0 := er7
    have eu7 : u7 = [X5W g oM rM (upd (upd (upd vM 14 13) 15 p0) 17 (vM 16)) aM] := eu7
    subst er7 eu7
    have hP : kp g [X5W g oM rM (upd (upd (upd vM 14 13) 15 p0) 17 (vM 16)) aM] H := hP
    have hD : kd A [X5W g oM rM (upd (upd (upd vM 14 13) 15 p0) 17 (vM 16)) aM] := hD
    have hF := (show X5_goes_f vM aM p0 = (false, upd (upd (upd vM 14 13) 15 p0) 17 (vM 16), aM) from (if_pos c1).trans ((if_pos c2).trans (rfl)))
    exact kM_zret (x := b2i false) C (b2i_nar _) hP hD hS ⟨by rw [hF], by rw [hF]⟩ dX5_goes_31
  have c1 := b2i_eq0 c1
  refine lv_aload_n hx hb dX5_goes_7 rfl (lv_at hl 0 rfl) ?_
  refine lv_iconst (v := 3) hx hb dX5_goes_8 (by decide) ?_
  refine lv_iload_n hx hb dX5_goes_9 rfl (lv_at hl 1 rfl) ?_
  refine kM_V (As := [.int 3, .int p0]) (rest := []) (wr := []) C (X5_refuses_c l g oM rM vM aM 3 p0) (cwV 2 hts (k_gV kw1528 ca_X5_refuses) rfl rfl rfl ⟨rfl, pnX5_refuses⟩ ⟨Nat.le_of_ble_eq_true rfl, Nat.le_of_ble_eq_true rfl⟩) hE hS hA hP hD [0] [] rfl rfl ⟨rfl, rfl, by decide⟩ (k_recv C kFX5 hP (i := 0) (q := 0) rfl rfl) rfl hl.1 rfl rfl dX5_goes_10 ⟨Nat.le_of_ble_eq_true rfl, Nat.le_of_ble_eq_true rfl⟩ (fun r8 u8 H locs hp8 hP hD hS => ?_)
  obtain ⟨er8, eu8⟩ := hp8
  have er8 : r8 = 0 := er8
  have eu8 : u8 = [X5W g oM rM (upd (upd (upd vM 14 3) 15 p0) 17 (vM 16)) aM] := eu8
  subst er8 eu8
  have hP : kp g [X5W g oM rM (upd (upd (upd vM 14 3) 15 p0) 17 (vM 16)) aM] H := hP
  have hD : kd A [X5W g oM rM (upd (upd (upd vM 14 3) 15 p0) 17 (vM 16)) aM] := hD
  have hF := (show X5_goes_f vM aM p0 = (false, upd (upd (upd vM 14 3) 15 p0) 17 (vM 16), aM) from (if_neg c1).trans (rfl))
  exact kM_zret (x := b2i false) C (b2i_nar _) hP hD hS ⟨by rw [hF], by rw [hF]⟩ dX5_goes_13
theorem X5_goes_u {vM : Nat → Int32} {aM : Nat → Nat → Int32} {p0 : Int32} : (X5_goes_f vM aM p0).2.1 3 = vM 3 := by
  unfold X5_goes_f
  (repeat' split) <;> first | rfl | exact X5_weighs_u | exact X5_scales_u

theorem pnX5_goes : yX5_goes.cls ≠ "java/lang/invoke/MethodHandle" ∧ yX5_goes.cls ≠ "java/lang/invoke/VarHandle" ∧ (parseMethodDescriptor yX5_goes.desc).map (fun d => d.parameters.length) = some 1 := by decide +kernel
theorem ca_X5_goes : kCal yX5_goes (Cond.code yX5_goes cX5_goes 2 (some .boolean)) := ⟨k_w 8 127 rfl rfl, k_w 1 88 rfl rfl, k_w 2 10 rfl rfl, k_w 8 128 rfl rfl⟩

abbrev wX5_go : List Cond := Cond.code yX5_go cX5_go 2 (some .int) :: kW
def X5_go_f (vM : Nat → Int32) (aM : Nat → Nat → Int32) (p0 : Int32) : Int32 × (Nat → Int32) × (Nat → Nat → Int32) :=
  ((X5_ends_f ((X5_goes_f (upd (upd vM 21 0) 16 0) (va_up aM 1 (k_cpy 0 64 (aM 0) (aM 1))) p0).2.1) ((X5_goes_f (upd (upd vM 21 0) 16 0) (va_up aM 1 (k_cpy 0 64 (aM 0) (aM 1))) p0).2.2) ((X5_goes_f (upd (upd vM 21 0) 16 0) (va_up aM 1 (k_cpy 0 64 (aM 0) (aM 1))) p0).1)).1, (X5_ends_f ((X5_goes_f (upd (upd vM 21 0) 16 0) (va_up aM 1 (k_cpy 0 64 (aM 0) (aM 1))) p0).2.1) ((X5_goes_f (upd (upd vM 21 0) 16 0) (va_up aM 1 (k_cpy 0 64 (aM 0) (aM 1))) p0).2.2) ((X5_goes_f (upd (upd vM 21 0) 16 0) (va_up aM 1 (k_cpy 0 64 (aM 0) (aM 1))) p0).1)).2.1, (X5_ends_f ((X5_goes_f (upd (upd vM 21 0) 16 0) (va_up aM 1 (k_cpy 0 64 (aM 0) (aM 1))) p0).2.1) ((X5_goes_f (upd (upd vM 21 0) 16 0) (va_up aM 1 (k_cpy 0 64 (aM 0) (aM 1))) p0).2.2) ((X5_goes_f (upd (upd vM 21 0) 16 0) (va_up aM 1 (k_cpy 0 64 (aM 0) (aM 1))) p0).1)).2.2)
set_option maxHeartbeats 4000000 in
set_option maxRecDepth 100000 in
theorem X5_go_c (l : Launch) (g : kG) (oM : Nat) (rM : Nat → Nat) (vM : Nat → Int32) (aM : Nat → Nat → Int32) (p0 : Int32) (hu : (∃ u : Nat, u ≤ 8 ∧ vM 3 = nI u)) (hB5 : (∃ n : Nat, n ≤ 6 ∧ aM 0 5 = nI n)) (hM5 : vp_in (aM 0 1) 4) : kM l yX5_go wX5_go 3 66 0 0 g [.ref oM, .int p0] [X5W g oM rM vM aM] (fun x u => x = (X5_go_f vM aM p0).1 ∧ u = [X5W g oM rM ((X5_go_f vM aM p0).2.1) ((X5_go_f vM aM p0).2.2)]) := by
  refine kM_of (cc := cX5_go) (nL := 2) (ret := (some .int)) (lv := [(0, .ref oM), (1, .int p0)]) (by decide) rfl (Nat.le_of_ble_eq_true rfl) rfl ?_
  intro p e s m args below meth c ls A C hP hD hE hA hS hl
  have C : kC p c cX5_go s m args meth RX5 g 2 (some .int) := C
  have hx := C.1.1
  have hb := C.1.2.1
  have hts := C.1.2.2.2.2
  refine lv_aload_n hx hb dX5_go_0 rfl (lv_at hl 0 rfl) ?_
  refine kV_V (As := []) (rest := []) (wr := []) C (X5_tries_c l g oM rM vM aM) (cwV 0 hts (k_gV kw1521 ca_X5_tries) rfl rfl rfl ⟨rfl, pnX5_tries⟩ ⟨Nat.le_of_ble_eq_true rfl, Nat.le_of_ble_eq_true rfl⟩) hE hS hA hP hD [0] [] rfl rfl ⟨rfl, rfl, by decide⟩ (k_recv C kFX5 hP (i := 0) (q := 0) rfl rfl) rfl hl.1 rfl rfl dX5_go_1 ⟨Nat.le_of_ble_eq_true rfl, Nat.le_of_ble_eq_true rfl⟩ (fun u1 H locs eu1 hP hD hS => ?_)
  have eu1 : u1 = [X5W g oM rM (upd (upd vM 21 0) 16 0) (va_up aM 1 (k_cpy 0 64 (aM 0) (aM 1)))] := eu1.trans (by rw [X5_tries_eq])
  subst eu1
  have hP : kp g [X5W g oM rM (upd (upd vM 21 0) 16 0) (va_up aM 1 (k_cpy 0 64 (aM 0) (aM 1)))] H := hP
  have hD : kd A [X5W g oM rM (upd (upd vM 21 0) 16 0) (va_up aM 1 (k_cpy 0 64 (aM 0) (aM 1)))] := hD
  refine lv_aload_n hx hb dX5_go_4 rfl (lv_at hl 0 rfl) ?_
  refine lv_aload_n hx hb dX5_go_5 rfl (lv_at hl 0 rfl) ?_
  refine lv_iload_n hx hb dX5_go_6 rfl (lv_at hl 1 rfl) ?_
  refine kM_V (As := [.int p0]) (rest := [.ref oM]) (wr := []) C (X5_goes_c l g oM rM (upd (upd vM 21 0) 16 0) (va_up aM 1 (k_cpy 0 64 (aM 0) (aM 1))) p0 (by first | assumption | exact hu | exact hB5 | exact hM5 | exact ⟨0, by omega, rfl⟩ | exact ⟨1, by omega, rfl⟩ | exact ⟨2, by omega, rfl⟩ | exact ⟨3, by omega, rfl⟩ | exact ⟨4, by omega, rfl⟩) (by first | assumption | exact hu | exact hB5 | exact hM5 | exact ⟨0, by omega, rfl⟩ | exact ⟨1, by omega, rfl⟩ | exact ⟨2, by omega, rfl⟩ | exact ⟨3, by omega, rfl⟩ | exact ⟨4, by omega, rfl⟩)) (cwV 1 hts (k_gV kw1671 ca_X5_goes) rfl rfl rfl ⟨rfl, pnX5_goes⟩ ⟨Nat.le_of_ble_eq_true rfl, Nat.le_of_ble_eq_true rfl⟩) hE hS hA hP hD [0] [] rfl rfl ⟨rfl, rfl, by decide⟩ (k_recv C kFX5 hP (i := 0) (q := 0) rfl rfl) rfl hl.1 rfl rfl dX5_go_7 ⟨Nat.le_of_ble_eq_true rfl, Nat.le_of_ble_eq_true rfl⟩ (fun r2 u2 H locs hp2 hP hD hS => ?_)
  obtain ⟨rfl, rfl⟩ := hp2
  have hP : kp g [X5W g oM rM ((X5_goes_f (upd (upd vM 21 0) 16 0) (va_up aM 1 (k_cpy 0 64 (aM 0) (aM 1))) p0).2.1) ((X5_goes_f (upd (upd vM 21 0) 16 0) (va_up aM 1 (k_cpy 0 64 (aM 0) (aM 1))) p0).2.2)] H := hP
  have hD : kd A [X5W g oM rM ((X5_goes_f (upd (upd vM 21 0) 16 0) (va_up aM 1 (k_cpy 0 64 (aM 0) (aM 1))) p0).2.1) ((X5_goes_f (upd (upd vM 21 0) 16 0) (va_up aM 1 (k_cpy 0 64 (aM 0) (aM 1))) p0).2.2)] := hD
  refine kM_V (As := [.int (b2i ((X5_goes_f (upd (upd vM 21 0) 16 0) (va_up aM 1 (k_cpy 0 64 (aM 0) (aM 1))) p0).1))]) (rest := []) (wr := []) C (X5_ends_c l g oM rM ((X5_goes_f (upd (upd vM 21 0) 16 0) (va_up aM 1 (k_cpy 0 64 (aM 0) (aM 1))) p0).2.1) ((X5_goes_f (upd (upd vM 21 0) 16 0) (va_up aM 1 (k_cpy 0 64 (aM 0) (aM 1))) p0).2.2) ((X5_goes_f (upd (upd vM 21 0) 16 0) (va_up aM 1 (k_cpy 0 64 (aM 0) (aM 1))) p0).1) (k_u X5_goes_u hu)) (cwV 1 hts (k_gV kw1532 ca_X5_ends) rfl rfl rfl ⟨rfl, pnX5_ends⟩ ⟨Nat.le_of_ble_eq_true rfl, Nat.le_of_ble_eq_true rfl⟩) hE hS hA hP hD [0] [] rfl rfl ⟨rfl, rfl, by decide⟩ (k_recv C kFX5 hP (i := 0) (q := 0) rfl rfl) rfl hl.1 rfl rfl dX5_go_10 ⟨Nat.le_of_ble_eq_true rfl, Nat.le_of_ble_eq_true rfl⟩ (fun r3 u3 H locs hp3 hP hD hS => ?_)
  obtain ⟨rfl, rfl⟩ := hp3
  have hP : kp g [X5W g oM rM ((X5_ends_f ((X5_goes_f (upd (upd vM 21 0) 16 0) (va_up aM 1 (k_cpy 0 64 (aM 0) (aM 1))) p0).2.1) ((X5_goes_f (upd (upd vM 21 0) 16 0) (va_up aM 1 (k_cpy 0 64 (aM 0) (aM 1))) p0).2.2) ((X5_goes_f (upd (upd vM 21 0) 16 0) (va_up aM 1 (k_cpy 0 64 (aM 0) (aM 1))) p0).1)).2.1) ((X5_ends_f ((X5_goes_f (upd (upd vM 21 0) 16 0) (va_up aM 1 (k_cpy 0 64 (aM 0) (aM 1))) p0).2.1) ((X5_goes_f (upd (upd vM 21 0) 16 0) (va_up aM 1 (k_cpy 0 64 (aM 0) (aM 1))) p0).2.2) ((X5_goes_f (upd (upd vM 21 0) 16 0) (va_up aM 1 (k_cpy 0 64 (aM 0) (aM 1))) p0).1)).2.2)] H := hP
  have hD : kd A [X5W g oM rM ((X5_ends_f ((X5_goes_f (upd (upd vM 21 0) 16 0) (va_up aM 1 (k_cpy 0 64 (aM 0) (aM 1))) p0).2.1) ((X5_goes_f (upd (upd vM 21 0) 16 0) (va_up aM 1 (k_cpy 0 64 (aM 0) (aM 1))) p0).2.2) ((X5_goes_f (upd (upd vM 21 0) 16 0) (va_up aM 1 (k_cpy 0 64 (aM 0) (aM 1))) p0).1)).2.1) ((X5_ends_f ((X5_goes_f (upd (upd vM 21 0) 16 0) (va_up aM 1 (k_cpy 0 64 (aM 0) (aM 1))) p0).2.1) ((X5_goes_f (upd (upd vM 21 0) 16 0) (va_up aM 1 (k_cpy 0 64 (aM 0) (aM 1))) p0).2.2) ((X5_goes_f (upd (upd vM 21 0) 16 0) (va_up aM 1 (k_cpy 0 64 (aM 0) (aM 1))) p0).1)).2.2)] := hD
  have hF := (show X5_go_f vM aM p0 = ((X5_ends_f ((X5_goes_f (upd (upd vM 21 0) 16 0) (va_up aM 1 (k_cpy 0 64 (aM 0) (aM 1))) p0).2.1) ((X5_goes_f (upd (upd vM 21 0) 16 0) (va_up aM 1 (k_cpy 0 64 (aM 0) (aM 1))) p0).2.2) ((X5_goes_f (upd (upd vM 21 0) 16 0) (va_up aM 1 (k_cpy 0 64 (aM 0) (aM 1))) p0).1)).1, (X5_ends_f ((X5_goes_f (upd (upd vM 21 0) 16 0) (va_up aM 1 (k_cpy 0 64 (aM 0) (aM 1))) p0).2.1) ((X5_goes_f (upd (upd vM 21 0) 16 0) (va_up aM 1 (k_cpy 0 64 (aM 0) (aM 1))) p0).2.2) ((X5_goes_f (upd (upd vM 21 0) 16 0) (va_up aM 1 (k_cpy 0 64 (aM 0) (aM 1))) p0).1)).2.1, (X5_ends_f ((X5_goes_f (upd (upd vM 21 0) 16 0) (va_up aM 1 (k_cpy 0 64 (aM 0) (aM 1))) p0).2.1) ((X5_goes_f (upd (upd vM 21 0) 16 0) (va_up aM 1 (k_cpy 0 64 (aM 0) (aM 1))) p0).2.2) ((X5_goes_f (upd (upd vM 21 0) 16 0) (va_up aM 1 (k_cpy 0 64 (aM 0) (aM 1))) p0).1)).2.2) from rfl)
  exact kM_ret (x := (X5_ends_f ((X5_goes_f (upd (upd vM 21 0) 16 0) (va_up aM 1 (k_cpy 0 64 (aM 0) (aM 1))) p0).2.1) ((X5_goes_f (upd (upd vM 21 0) 16 0) (va_up aM 1 (k_cpy 0 64 (aM 0) (aM 1))) p0).2.2) ((X5_goes_f (upd (upd vM 21 0) 16 0) (va_up aM 1 (k_cpy 0 64 (aM 0) (aM 1))) p0).1)).1) C hP hD hS ⟨by rw [hF], by rw [hF]⟩ dX5_go_13

theorem pnX5_isWeight : yX5_isWeight.cls ≠ "java/lang/invoke/MethodHandle" ∧ yX5_isWeight.cls ≠ "java/lang/invoke/VarHandle" ∧ (parseMethodDescriptor yX5_isWeight.desc).map (fun d => d.parameters.length) = some 1 := by decide +kernel
theorem cs_X5_isWeight : kCst yX5_isWeight (Cond.code yX5_isWeight cX5_isWeight 1 (some .boolean)) := ⟨k_w 8 149 rfl rfl, k_w 2 10 rfl rfl, k_w 8 150 rfl rfl⟩

abbrev wX5_seals : List Cond := Cond.code yX5_seals cX5_seals 3 (some .boolean) :: kW
def X5_seals_f (vM : Nat → Int32) (aM : Nat → Nat → Int32) (p0 : Int32) : Bool × (Nat → Int32) × (Nat → Nat → Int32) :=
  if (X5_isWeight_f p0) = true then (if 2 ≤ ((aM 0) 2) then (true, upd vM 18 (X5_shortBy_f vM aM p0), va_up (va_up aM 0 (upd (aM 0) 2 (((aM 0) 2) - 2))) 0 (upd (upd (aM 0) 2 (((aM 0) 2) - 2)) ((14 + p0).toNatClampNeg) 0))
    else (false, upd (upd (upd vM 14 12) 15 (2 - ((aM 0) 2))) 17 (vM 16), aM))
  else (false, upd (upd (upd vM 14 3) 15 p0) 17 (vM 16), aM)
set_option maxHeartbeats 4000000 in
set_option maxRecDepth 100000 in
theorem X5_seals_c (l : Launch) (g : kG) (oM : Nat) (rM : Nat → Nat) (vM : Nat → Int32) (aM : Nat → Nat → Int32) (p0 : Int32) : kM l yX5_seals wX5_seals 2 42 0 0 g [.ref oM, .int p0] [X5W g oM rM vM aM] (fun x u => x = b2i (X5_seals_f vM aM p0).1 ∧ u = [X5W g oM rM ((X5_seals_f vM aM p0).2.1) ((X5_seals_f vM aM p0).2.2)]) := by
  refine kM_of (cc := cX5_seals) (nL := 3) (ret := (some .boolean)) (lv := [(0, .ref oM), (1, .int p0)]) (by decide) rfl (Nat.le_of_ble_eq_true rfl) rfl ?_
  intro p e s m args below meth c ls A C hP hD hE hA hS hl
  have C : kC p c cX5_seals s m args meth RX5 g 3 (some .boolean) := C
  have hx := C.1.1
  have hb := C.1.2.1
  have hts := C.1.2.2.2.2
  refine lv_iload_n hx hb dX5_seals_0 rfl (lv_at hl 1 rfl) ?_
  refine kR_S (As := [.int p0]) (rest := []) C (X5_isWeight_c l g p0) (va_cwS 1 hts (k_gS kw1694 cs_X5_isWeight) rfl rfl rfl pnX5_isWeight ⟨Nat.le_of_ble_eq_true rfl, Nat.le_of_ble_eq_true rfl⟩) hE hS (hP.pick [] rfl) rfl hl.1 rfl rfl dX5_seals_1 ⟨Nat.le_of_ble_eq_true rfl, Nat.le_of_ble_eq_true rfl⟩ ?_
  refine lv_if_ne (tgt := 14) hx hb dX5_seals_4 (by decide) (fun c1 => ?_) (fun c1 => ?_)
  · have c1 := b2i_ne0 c1
    have z1 := k_isWeight5 c1
    refine lv_aload_n hx hb dX5_seals_14 rfl (lv_at hl 0 rfl) ?_
    refine kg_get C kFX5 (k := 0) kw1446 hP (i := 0) (q := 0) rfl rfl (by decide) rfl dX5_seals_15 ?_
    refine lv_iconst (v := 2) hx hb dX5_seals_18 (by decide) ?_
    refine kg_ialdK C hP (i := 0) (q := 1) rfl rfl (j := 2) rfl (k_vin (j := 2) rfl (by decide) (by decide)) dX5_seals_19 ?_
    refine lv_iconst (v := 2) hx hb dX5_seals_20 (by decide) ?_
    refine lv_icmp_ge (tgt := 39) hx hb dX5_seals_21 (by decide) (fun c2 => ?_) (fun c2 => ?_)
    · refine lv_aload_n hx hb dX5_seals_39 rfl (lv_at hl 0 rfl) ?_
      refine lv_iload_n hx hb dX5_seals_40 rfl (lv_at hl 1 rfl) ?_
      refine kR_V (As := [.int p0]) (rest := []) C (X5_shortBy_c l g oM rM vM aM p0 (by first | assumption | exact ⟨0, by omega, rfl⟩ | exact ⟨1, by omega, rfl⟩ | exact ⟨2, by omega, rfl⟩ | exact ⟨3, by omega, rfl⟩ | exact ⟨4, by omega, rfl⟩)) (cwV 1 hts (k_gV kw1635 ca_X5_shortBy) rfl rfl rfl ⟨rfl, pnX5_shortBy⟩ ⟨Nat.le_of_ble_eq_true rfl, Nat.le_of_ble_eq_true rfl⟩) hE hS (hP.pick [0] rfl) (k_recv C kFX5 hP (i := 0) (q := 0) rfl rfl) rfl hl.1 rfl rfl dX5_seals_41 ⟨Nat.le_of_ble_eq_true rfl, Nat.le_of_ble_eq_true rfl⟩ ?_
      refine lv_istore_n (lv' := [(2, .int (X5_shortBy_f vM aM p0)), (0, .ref oM), (1, .int p0)]) hx hb dX5_seals_44 rfl hl (by decide) rfl (fun ls hl => ?_)
      refine lv_aload_n hx hb dX5_seals_45 rfl (lv_at hl 1 rfl) ?_
      refine kg_get C kFX5 (k := 0) kw1446 hP (i := 0) (q := 0) rfl rfl (by decide) rfl dX5_seals_46 ?_
      refine lv_iconst (v := 2) hx hb dX5_seals_49 (by decide) ?_
      refine lv_dup2_11 hx hb dX5_seals_50 rfl rfl ?_
      refine kg_ialdK C hP (i := 0) (q := 1) rfl rfl (j := 2) rfl (k_vin (j := 2) rfl (by decide) (by decide)) dX5_seals_51 ?_
      refine lv_iconst (v := 2) hx hb dX5_seals_52 (by decide) ?_
      refine lv_isub hx hb dX5_seals_53 ?_
      refine kg_iastK C hP hD hS (i := 0) (q := 1) rfl rfl (j := 2) rfl (k_vin (j := 2) rfl (by decide) (by decide)) X5t_0 rfl dX5_seals_54 (fun H locs hP hD hS => ?_)
      have hP : kp g [X5W g oM rM vM (va_up aM 0 (upd (aM 0) 2 (((aM 0) 2) - 2)))] H := hP
      have hD : kd A [X5W g oM rM vM (va_up aM 0 (upd (aM 0) 2 (((aM 0) 2) - 2)))] := hD
      refine lv_aload_n hx hb dX5_seals_55 rfl (lv_at hl 1 rfl) ?_
      refine kg_get C kFX5 (k := 0) kw1446 hP (i := 0) (q := 0) rfl rfl (by decide) rfl dX5_seals_56 ?_
      refine lv_bipush (v := 14) hx hb dX5_seals_59 (by decide) ?_
      refine lv_iload_n hx hb dX5_seals_61 rfl (lv_at hl 2 rfl) ?_
      refine lv_iadd hx hb dX5_seals_62 ?_
      refine lv_iconst (v := 0) hx hb dX5_seals_63 (by decide) ?_
      refine kg_iast C hP hD hS (i := 0) (q := 1) rfl rfl (k_off (c := 14) rfl z1 (by omega) (by omega)) X5t_0 rfl dX5_seals_64 (fun H locs hP hD hS => ?_)
      have hP : kp g [X5W g oM rM vM (va_up (va_up aM 0 (upd (aM 0) 2 (((aM 0) 2) - 2))) 0 (upd (upd (aM 0) 2 (((aM 0) 2) - 2)) ((14 + p0).toNatClampNeg) 0))] H := hP
      have hD : kd A [X5W g oM rM vM (va_up (va_up aM 0 (upd (aM 0) 2 (((aM 0) 2) - 2))) 0 (upd (upd (aM 0) 2 (((aM 0) 2) - 2)) ((14 + p0).toNatClampNeg) 0))] := hD
      refine lv_aload_n hx hb dX5_seals_65 rfl (lv_at hl 1 rfl) ?_
      refine lv_iload_n hx hb dX5_seals_66 rfl (lv_at hl 0 rfl) ?_
      refine kM_V (As := [.int (X5_shortBy_f vM aM p0)]) (rest := []) (wr := []) C (X5_does_c l g oM rM vM (va_up (va_up aM 0 (upd (aM 0) 2 (((aM 0) 2) - 2))) 0 (upd (upd (aM 0) 2 (((aM 0) 2) - 2)) ((14 + p0).toNatClampNeg) 0)) (X5_shortBy_f vM aM p0)) (cwV 1 hts (k_gV kw1572 ca_X5_does) rfl rfl rfl ⟨rfl, pnX5_does⟩ ⟨Nat.le_of_ble_eq_true rfl, Nat.le_of_ble_eq_true rfl⟩) hE hS hA hP hD [0] [] rfl rfl ⟨rfl, rfl, by decide⟩ (k_recv C kFX5 hP (i := 0) (q := 0) rfl rfl) rfl hl.1 rfl rfl dX5_seals_67 ⟨Nat.le_of_ble_eq_true rfl, Nat.le_of_ble_eq_true rfl⟩ (fun r3 u3 H locs hp3 hP hD hS => ?_)
      obtain ⟨er3, eu3⟩ := hp3
      have er3 : r3 = 1 := er3
      have eu3 : u3 = [X5W g oM rM (upd vM 18 (X5_shortBy_f vM aM p0)) (va_up (va_up aM 0 (upd (aM 0) 2 (((aM 0) 2) - 2))) 0 (upd (upd (aM 0) 2 (((aM 0) 2) - 2)) ((14 + p0).toNatClampNeg) 0))] := eu3
      subst er3 eu3
      have hP : kp g [X5W g oM rM (upd vM 18 (X5_shortBy_f vM aM p0)) (va_up (va_up aM 0 (upd (aM 0) 2 (((aM 0) 2) - 2))) 0 (upd (upd (aM 0) 2 (((aM 0) 2) - 2)) ((14 + p0).toNatClampNeg) 0))] H := hP
      have hD : kd A [X5W g oM rM (upd vM 18 (X5_shortBy_f vM aM p0)) (va_up (va_up aM 0 (upd (aM 0) 2 (((aM 0) 2) - 2))) 0 (upd (upd (aM 0) 2 (((aM 0) 2) - 2)) ((14 + p0).toNatClampNeg) 0))] := hD
      have hF := (show X5_seals_f vM aM p0 = (true, upd vM 18 (X5_shortBy_f vM aM p0), va_up (va_up aM 0 (upd (aM 0) 2 (((aM 0) 2) - 2))) 0 (upd (upd (aM 0) 2 (((aM 0) 2) - 2)) ((14 + p0).toNatClampNeg) 0)) from (if_pos c1).trans ((if_pos c2).trans (rfl)))
      exact kM_zret (x := b2i true) C (b2i_nar _) hP hD hS ⟨by rw [hF], by rw [hF]⟩ dX5_seals_70
    refine lv_aload_n hx hb dX5_seals_24 rfl (lv_at hl 0 rfl) ?_
    refine lv_bipush (v := 12) hx hb dX5_seals_25 (by decide) ?_
    refine lv_iconst (v := 2) hx hb dX5_seals_27 (by decide) ?_
    refine lv_aload_n hx hb dX5_seals_28 rfl (lv_at hl 0 rfl) ?_
    refine kg_get C kFX5 (k := 0) kw1446 hP (i := 0) (q := 0) rfl rfl (by decide) rfl dX5_seals_29 ?_
    refine lv_iconst (v := 2) hx hb dX5_seals_32 (by decide) ?_
    refine kg_ialdK C hP (i := 0) (q := 1) rfl rfl (j := 2) rfl (k_vin (j := 2) rfl (by decide) (by decide)) dX5_seals_33 ?_
    refine lv_isub hx hb dX5_seals_34 ?_
    refine kM_V (As := [.int 12, .int (2 - ((aM 0) 2))]) (rest := []) (wr := []) C (X5_refuses_c l g oM rM vM aM 12 (2 - ((aM 0) 2))) (cwV 2 hts (k_gV kw1528 ca_X5_refuses) rfl rfl rfl ⟨rfl, pnX5_refuses⟩ ⟨Nat.le_of_ble_eq_true rfl, Nat.le_of_ble_eq_true rfl⟩) hE hS hA hP hD [0] [] rfl rfl ⟨rfl, rfl, by decide⟩ (k_recv C kFX5 hP (i := 0) (q := 0) rfl rfl) rfl hl.1 rfl rfl dX5_seals_35 ⟨Nat.le_of_ble_eq_true rfl, Nat.le_of_ble_eq_true rfl⟩ (fun r4 u4 H locs hp4 hP hD hS => ?_)
    obtain ⟨er4, eu4⟩ := hp4
    have er4 : r4 = 0 := er4
    have eu4 : u4 = [X5W g oM rM (upd (upd (upd vM 14 12) 15 (2 - ((aM 0) 2))) 17 (vM 16)) aM] := eu4
    subst er4 eu4
    have hP : kp g [X5W g oM rM (upd (upd (upd vM 14 12) 15 (2 - ((aM 0) 2))) 17 (vM 16)) aM] H := hP
    have hD : kd A [X5W g oM rM (upd (upd (upd vM 14 12) 15 (2 - ((aM 0) 2))) 17 (vM 16)) aM] := hD
    have hF := (show X5_seals_f vM aM p0 = (false, upd (upd (upd vM 14 12) 15 (2 - ((aM 0) 2))) 17 (vM 16), aM) from (if_pos c1).trans ((if_neg c2).trans (rfl)))
    exact kM_zret (x := b2i false) C (b2i_nar _) hP hD hS ⟨by rw [hF], by rw [hF]⟩ dX5_seals_38
  have c1 := b2i_eq0 c1
  refine lv_aload_n hx hb dX5_seals_7 rfl (lv_at hl 0 rfl) ?_
  refine lv_iconst (v := 3) hx hb dX5_seals_8 (by decide) ?_
  refine lv_iload_n hx hb dX5_seals_9 rfl (lv_at hl 1 rfl) ?_
  refine kM_V (As := [.int 3, .int p0]) (rest := []) (wr := []) C (X5_refuses_c l g oM rM vM aM 3 p0) (cwV 2 hts (k_gV kw1528 ca_X5_refuses) rfl rfl rfl ⟨rfl, pnX5_refuses⟩ ⟨Nat.le_of_ble_eq_true rfl, Nat.le_of_ble_eq_true rfl⟩) hE hS hA hP hD [0] [] rfl rfl ⟨rfl, rfl, by decide⟩ (k_recv C kFX5 hP (i := 0) (q := 0) rfl rfl) rfl hl.1 rfl rfl dX5_seals_10 ⟨Nat.le_of_ble_eq_true rfl, Nat.le_of_ble_eq_true rfl⟩ (fun r5 u5 H locs hp5 hP hD hS => ?_)
  obtain ⟨er5, eu5⟩ := hp5
  have er5 : r5 = 0 := er5
  have eu5 : u5 = [X5W g oM rM (upd (upd (upd vM 14 3) 15 p0) 17 (vM 16)) aM] := eu5
  subst er5 eu5
  have hP : kp g [X5W g oM rM (upd (upd (upd vM 14 3) 15 p0) 17 (vM 16)) aM] H := hP
  have hD : kd A [X5W g oM rM (upd (upd (upd vM 14 3) 15 p0) 17 (vM 16)) aM] := hD
  have hF := (show X5_seals_f vM aM p0 = (false, upd (upd (upd vM 14 3) 15 p0) 17 (vM 16), aM) from (if_neg c1).trans (rfl))
  exact kM_zret (x := b2i false) C (b2i_nar _) hP hD hS ⟨by rw [hF], by rw [hF]⟩ dX5_seals_13
theorem X5_seals_u {vM : Nat → Int32} {aM : Nat → Nat → Int32} {p0 : Int32} : (X5_seals_f vM aM p0).2.1 3 = vM 3 := by
  unfold X5_seals_f
  (repeat' split) <;> first | rfl | exact X5_weighs_u | exact X5_scales_u

theorem pnX5_seals : yX5_seals.cls ≠ "java/lang/invoke/MethodHandle" ∧ yX5_seals.cls ≠ "java/lang/invoke/VarHandle" ∧ (parseMethodDescriptor yX5_seals.desc).map (fun d => d.parameters.length) = some 1 := by decide +kernel
theorem ca_X5_seals : kCal yX5_seals (Cond.code yX5_seals cX5_seals 3 (some .boolean)) := ⟨k_w 8 146 rfl rfl, k_w 1 90 rfl rfl, k_w 2 10 rfl rfl, k_w 8 147 rfl rfl⟩

abbrev wX5_seal : List Cond := Cond.code yX5_seal cX5_seal 2 (some .int) :: kW
def X5_seal_f (vM : Nat → Int32) (aM : Nat → Nat → Int32) (p0 : Int32) : Int32 × (Nat → Int32) × (Nat → Nat → Int32) :=
  ((X5_ends_f ((X5_seals_f (upd (upd vM 21 0) 16 0) (va_up aM 1 (k_cpy 0 64 (aM 0) (aM 1))) p0).2.1) ((X5_seals_f (upd (upd vM 21 0) 16 0) (va_up aM 1 (k_cpy 0 64 (aM 0) (aM 1))) p0).2.2) ((X5_seals_f (upd (upd vM 21 0) 16 0) (va_up aM 1 (k_cpy 0 64 (aM 0) (aM 1))) p0).1)).1, (X5_ends_f ((X5_seals_f (upd (upd vM 21 0) 16 0) (va_up aM 1 (k_cpy 0 64 (aM 0) (aM 1))) p0).2.1) ((X5_seals_f (upd (upd vM 21 0) 16 0) (va_up aM 1 (k_cpy 0 64 (aM 0) (aM 1))) p0).2.2) ((X5_seals_f (upd (upd vM 21 0) 16 0) (va_up aM 1 (k_cpy 0 64 (aM 0) (aM 1))) p0).1)).2.1, (X5_ends_f ((X5_seals_f (upd (upd vM 21 0) 16 0) (va_up aM 1 (k_cpy 0 64 (aM 0) (aM 1))) p0).2.1) ((X5_seals_f (upd (upd vM 21 0) 16 0) (va_up aM 1 (k_cpy 0 64 (aM 0) (aM 1))) p0).2.2) ((X5_seals_f (upd (upd vM 21 0) 16 0) (va_up aM 1 (k_cpy 0 64 (aM 0) (aM 1))) p0).1)).2.2)
set_option maxHeartbeats 4000000 in
set_option maxRecDepth 100000 in
theorem X5_seal_c (l : Launch) (g : kG) (oM : Nat) (rM : Nat → Nat) (vM : Nat → Int32) (aM : Nat → Nat → Int32) (p0 : Int32) (hu : (∃ u : Nat, u ≤ 8 ∧ vM 3 = nI u)) : kM l yX5_seal wX5_seal 3 64 0 0 g [.ref oM, .int p0] [X5W g oM rM vM aM] (fun x u => x = (X5_seal_f vM aM p0).1 ∧ u = [X5W g oM rM ((X5_seal_f vM aM p0).2.1) ((X5_seal_f vM aM p0).2.2)]) := by
  refine kM_of (cc := cX5_seal) (nL := 2) (ret := (some .int)) (lv := [(0, .ref oM), (1, .int p0)]) (by decide) rfl (Nat.le_of_ble_eq_true rfl) rfl ?_
  intro p e s m args below meth c ls A C hP hD hE hA hS hl
  have C : kC p c cX5_seal s m args meth RX5 g 2 (some .int) := C
  have hx := C.1.1
  have hb := C.1.2.1
  have hts := C.1.2.2.2.2
  refine lv_aload_n hx hb dX5_seal_0 rfl (lv_at hl 0 rfl) ?_
  refine kV_V (As := []) (rest := []) (wr := []) C (X5_tries_c l g oM rM vM aM) (cwV 0 hts (k_gV kw1521 ca_X5_tries) rfl rfl rfl ⟨rfl, pnX5_tries⟩ ⟨Nat.le_of_ble_eq_true rfl, Nat.le_of_ble_eq_true rfl⟩) hE hS hA hP hD [0] [] rfl rfl ⟨rfl, rfl, by decide⟩ (k_recv C kFX5 hP (i := 0) (q := 0) rfl rfl) rfl hl.1 rfl rfl dX5_seal_1 ⟨Nat.le_of_ble_eq_true rfl, Nat.le_of_ble_eq_true rfl⟩ (fun u1 H locs eu1 hP hD hS => ?_)
  have eu1 : u1 = [X5W g oM rM (upd (upd vM 21 0) 16 0) (va_up aM 1 (k_cpy 0 64 (aM 0) (aM 1)))] := eu1.trans (by rw [X5_tries_eq])
  subst eu1
  have hP : kp g [X5W g oM rM (upd (upd vM 21 0) 16 0) (va_up aM 1 (k_cpy 0 64 (aM 0) (aM 1)))] H := hP
  have hD : kd A [X5W g oM rM (upd (upd vM 21 0) 16 0) (va_up aM 1 (k_cpy 0 64 (aM 0) (aM 1)))] := hD
  refine lv_aload_n hx hb dX5_seal_4 rfl (lv_at hl 0 rfl) ?_
  refine lv_aload_n hx hb dX5_seal_5 rfl (lv_at hl 0 rfl) ?_
  refine lv_iload_n hx hb dX5_seal_6 rfl (lv_at hl 1 rfl) ?_
  refine kM_V (As := [.int p0]) (rest := [.ref oM]) (wr := []) C (X5_seals_c l g oM rM (upd (upd vM 21 0) 16 0) (va_up aM 1 (k_cpy 0 64 (aM 0) (aM 1))) p0) (cwV 1 hts (k_gV kw1690 ca_X5_seals) rfl rfl rfl ⟨rfl, pnX5_seals⟩ ⟨Nat.le_of_ble_eq_true rfl, Nat.le_of_ble_eq_true rfl⟩) hE hS hA hP hD [0] [] rfl rfl ⟨rfl, rfl, by decide⟩ (k_recv C kFX5 hP (i := 0) (q := 0) rfl rfl) rfl hl.1 rfl rfl dX5_seal_7 ⟨Nat.le_of_ble_eq_true rfl, Nat.le_of_ble_eq_true rfl⟩ (fun r2 u2 H locs hp2 hP hD hS => ?_)
  obtain ⟨rfl, rfl⟩ := hp2
  have hP : kp g [X5W g oM rM ((X5_seals_f (upd (upd vM 21 0) 16 0) (va_up aM 1 (k_cpy 0 64 (aM 0) (aM 1))) p0).2.1) ((X5_seals_f (upd (upd vM 21 0) 16 0) (va_up aM 1 (k_cpy 0 64 (aM 0) (aM 1))) p0).2.2)] H := hP
  have hD : kd A [X5W g oM rM ((X5_seals_f (upd (upd vM 21 0) 16 0) (va_up aM 1 (k_cpy 0 64 (aM 0) (aM 1))) p0).2.1) ((X5_seals_f (upd (upd vM 21 0) 16 0) (va_up aM 1 (k_cpy 0 64 (aM 0) (aM 1))) p0).2.2)] := hD
  refine kM_V (As := [.int (b2i ((X5_seals_f (upd (upd vM 21 0) 16 0) (va_up aM 1 (k_cpy 0 64 (aM 0) (aM 1))) p0).1))]) (rest := []) (wr := []) C (X5_ends_c l g oM rM ((X5_seals_f (upd (upd vM 21 0) 16 0) (va_up aM 1 (k_cpy 0 64 (aM 0) (aM 1))) p0).2.1) ((X5_seals_f (upd (upd vM 21 0) 16 0) (va_up aM 1 (k_cpy 0 64 (aM 0) (aM 1))) p0).2.2) ((X5_seals_f (upd (upd vM 21 0) 16 0) (va_up aM 1 (k_cpy 0 64 (aM 0) (aM 1))) p0).1) (k_u X5_seals_u hu)) (cwV 1 hts (k_gV kw1532 ca_X5_ends) rfl rfl rfl ⟨rfl, pnX5_ends⟩ ⟨Nat.le_of_ble_eq_true rfl, Nat.le_of_ble_eq_true rfl⟩) hE hS hA hP hD [0] [] rfl rfl ⟨rfl, rfl, by decide⟩ (k_recv C kFX5 hP (i := 0) (q := 0) rfl rfl) rfl hl.1 rfl rfl dX5_seal_10 ⟨Nat.le_of_ble_eq_true rfl, Nat.le_of_ble_eq_true rfl⟩ (fun r3 u3 H locs hp3 hP hD hS => ?_)
  obtain ⟨rfl, rfl⟩ := hp3
  have hP : kp g [X5W g oM rM ((X5_ends_f ((X5_seals_f (upd (upd vM 21 0) 16 0) (va_up aM 1 (k_cpy 0 64 (aM 0) (aM 1))) p0).2.1) ((X5_seals_f (upd (upd vM 21 0) 16 0) (va_up aM 1 (k_cpy 0 64 (aM 0) (aM 1))) p0).2.2) ((X5_seals_f (upd (upd vM 21 0) 16 0) (va_up aM 1 (k_cpy 0 64 (aM 0) (aM 1))) p0).1)).2.1) ((X5_ends_f ((X5_seals_f (upd (upd vM 21 0) 16 0) (va_up aM 1 (k_cpy 0 64 (aM 0) (aM 1))) p0).2.1) ((X5_seals_f (upd (upd vM 21 0) 16 0) (va_up aM 1 (k_cpy 0 64 (aM 0) (aM 1))) p0).2.2) ((X5_seals_f (upd (upd vM 21 0) 16 0) (va_up aM 1 (k_cpy 0 64 (aM 0) (aM 1))) p0).1)).2.2)] H := hP
  have hD : kd A [X5W g oM rM ((X5_ends_f ((X5_seals_f (upd (upd vM 21 0) 16 0) (va_up aM 1 (k_cpy 0 64 (aM 0) (aM 1))) p0).2.1) ((X5_seals_f (upd (upd vM 21 0) 16 0) (va_up aM 1 (k_cpy 0 64 (aM 0) (aM 1))) p0).2.2) ((X5_seals_f (upd (upd vM 21 0) 16 0) (va_up aM 1 (k_cpy 0 64 (aM 0) (aM 1))) p0).1)).2.1) ((X5_ends_f ((X5_seals_f (upd (upd vM 21 0) 16 0) (va_up aM 1 (k_cpy 0 64 (aM 0) (aM 1))) p0).2.1) ((X5_seals_f (upd (upd vM 21 0) 16 0) (va_up aM 1 (k_cpy 0 64 (aM 0) (aM 1))) p0).2.2) ((X5_seals_f (upd (upd vM 21 0) 16 0) (va_up aM 1 (k_cpy 0 64 (aM 0) (aM 1))) p0).1)).2.2)] := hD
  have hF := (show X5_seal_f vM aM p0 = ((X5_ends_f ((X5_seals_f (upd (upd vM 21 0) 16 0) (va_up aM 1 (k_cpy 0 64 (aM 0) (aM 1))) p0).2.1) ((X5_seals_f (upd (upd vM 21 0) 16 0) (va_up aM 1 (k_cpy 0 64 (aM 0) (aM 1))) p0).2.2) ((X5_seals_f (upd (upd vM 21 0) 16 0) (va_up aM 1 (k_cpy 0 64 (aM 0) (aM 1))) p0).1)).1, (X5_ends_f ((X5_seals_f (upd (upd vM 21 0) 16 0) (va_up aM 1 (k_cpy 0 64 (aM 0) (aM 1))) p0).2.1) ((X5_seals_f (upd (upd vM 21 0) 16 0) (va_up aM 1 (k_cpy 0 64 (aM 0) (aM 1))) p0).2.2) ((X5_seals_f (upd (upd vM 21 0) 16 0) (va_up aM 1 (k_cpy 0 64 (aM 0) (aM 1))) p0).1)).2.1, (X5_ends_f ((X5_seals_f (upd (upd vM 21 0) 16 0) (va_up aM 1 (k_cpy 0 64 (aM 0) (aM 1))) p0).2.1) ((X5_seals_f (upd (upd vM 21 0) 16 0) (va_up aM 1 (k_cpy 0 64 (aM 0) (aM 1))) p0).2.2) ((X5_seals_f (upd (upd vM 21 0) 16 0) (va_up aM 1 (k_cpy 0 64 (aM 0) (aM 1))) p0).1)).2.2) from rfl)
  exact kM_ret (x := (X5_ends_f ((X5_seals_f (upd (upd vM 21 0) 16 0) (va_up aM 1 (k_cpy 0 64 (aM 0) (aM 1))) p0).2.1) ((X5_seals_f (upd (upd vM 21 0) 16 0) (va_up aM 1 (k_cpy 0 64 (aM 0) (aM 1))) p0).2.2) ((X5_seals_f (upd (upd vM 21 0) 16 0) (va_up aM 1 (k_cpy 0 64 (aM 0) (aM 1))) p0).1)).1) C hP hD hS ⟨by rw [hF], by rw [hF]⟩ dX5_seal_13

abbrev wX5_dust : List Cond := Cond.code yX5_dust cX5_dust 3 (some .int) :: kW
def X5_dust_lp4b (vM : Nat → Int32) (aM : Nat → Nat → Int32) (rec : Int32 → Int32 → Int32) (x1_4 x2_4 : Int32) : Int32 :=
  if ((aM 0) 5) ≤ x2_4 then x1_4
  else rec (x1_4 + (X5_of_f vM aM x2_4 1)) (x2_4 + 1)
def X5_dust_lp4 (vM : Nat → Int32) (aM : Nat → Nat → Int32) : Nat → Int32 → Int32 → Int32
  | 0 => fun x1_4 x2_4 => 0
  | n + 1 => X5_dust_lp4b vM aM (X5_dust_lp4 vM aM n)
theorem X5_dust_lp4_s (vM : Nat → Int32) (aM : Nat → Nat → Int32) (n : Nat) (x1_4 x2_4 : Int32) : X5_dust_lp4 vM aM (n + 1) x1_4 x2_4 = X5_dust_lp4b vM aM (X5_dust_lp4 vM aM n) x1_4 x2_4 := rfl
def X5_dust_f (vM : Nat → Int32) (aM : Nat → Nat → Int32) : Int32 :=
  X5_dust_lp4 vM aM 7 0 0
set_option maxHeartbeats 4000000 in
set_option maxRecDepth 100000 in
theorem X5_dust_c (l : Launch) (g : kG) (oM : Nat) (rM : Nat → Nat) (vM : Nat → Int32) (aM : Nat → Nat → Int32) (hB5 : (∃ n : Nat, n ≤ 6 ∧ aM 0 5 = nI n)) : kR l yX5_dust wX5_dust 1 22 g [.ref oM] [X5W g oM rM vM aM] ((X5_dust_f vM aM)) := by
  refine kR_of (cc := cX5_dust) (nL := 3) (ret := (some .int)) (lv := [(0, .ref oM)]) (by decide) rfl (Nat.le_of_ble_eq_true rfl) rfl ?_
  intro p e s m args below meth c ls C hP hE hl
  have hS : va_S (fun _ => False) s.heap s.heap [] := va_S.rf
  have C : kC p c cX5_dust s m args meth RX5 g 3 (some .int) := C
  have hx := C.1.1
  have hb := C.1.2.1
  have hts := C.1.2.2.2.2
  obtain ⟨nb, hnb, hn5⟩ := hB5
  have loop4 : ∀ (n : Nat) (j4 : Nat) (x1_4 x2_4 : Int32) (ls : Array Slot), j4 ≤ nb → nb < j4 + n → x2_4 = nI j4 → X5_dust_f vM aM = X5_dust_lp4 vM aM n x1_4 x2_4 → lv_has ls 3 [(2, .int x2_4), (1, .int x1_4), (0, .ref oM)] → W p l e (kRm 1 0 0 22) s m args below meth c s.heap [] 0 0 (MQ below (vp_Si (fun r => r = (X5_dust_f vM aM))) args s 0 0 (fun _ => False)) (F0 m 4 ls []) := by
    intro n
    induction n with
    | zero =>
      intro j4 x1_4 x2_4 ls hi4 hn4 hx4 hF4 hl
      exact absurd hn4 (by omega)
    | succ n ih4 =>
      intro j4 x1_4 x2_4 ls hi4 hn4 hx4 hF4 hl
      refine lv_iload_n hx hb dX5_dust_4 rfl (lv_at hl 0 rfl) ?_
      refine lv_aload_n hx hb dX5_dust_5 rfl (lv_at hl 2 rfl) ?_
      refine kg_get C kFX5 (k := 0) kw1446 hP (i := 0) (q := 0) rfl rfl (by decide) rfl dX5_dust_6 ?_
      refine lv_iconst (v := 5) hx hb dX5_dust_9 (by decide) ?_
      refine kg_ialdK C hP (i := 0) (q := 1) rfl rfl (j := 5) rfl (k_vin (j := 5) rfl (by decide) (by decide)) dX5_dust_10 ?_
      refine lv_icmp_ge (tgt := 29) hx hb dX5_dust_11 (by decide) (fun c1 => ?_) (fun c1 => ?_)
      · refine lv_iload_n hx hb dX5_dust_29 rfl (lv_at hl 1 rfl) ?_
        exact kR_ret C ((show X5_dust_f vM aM = x1_4 from hF4.trans ((X5_dust_lp4_s vM aM n x1_4 x2_4).trans ((if_pos c1).trans (rfl))))).symm dX5_dust_30
      have hj4 := k_asc hx4 (y := ((aM 0) 5)) (N := nb) hn5 hi4 (by omega) c1
      refine lv_iload_n hx hb dX5_dust_14 rfl (lv_at hl 1 rfl) ?_
      refine lv_aload_n hx hb dX5_dust_15 rfl (lv_at hl 2 rfl) ?_
      refine lv_iload_n hx hb dX5_dust_16 rfl (lv_at hl 0 rfl) ?_
      refine lv_iconst (v := 1) hx hb dX5_dust_17 (by decide) ?_
      refine kR_V (As := [.int x2_4, .int 1]) (rest := [.int x1_4]) C (X5_of_c l g oM rM vM aM x2_4 1 (by first | assumption | exact k_vin hx4 (by omega) (by decide) | exact hB5 | exact ⟨0, by omega, rfl⟩ | exact ⟨1, by omega, rfl⟩ | exact ⟨2, by omega, rfl⟩ | exact ⟨3, by omega, rfl⟩ | exact ⟨4, by omega, rfl⟩ | exact ⟨j4, by omega, hx4⟩) (by first | assumption | exact k_vin hx4 (by omega) (by decide) | exact hB5 | exact ⟨0, by omega, rfl⟩ | exact ⟨1, by omega, rfl⟩ | exact ⟨2, by omega, rfl⟩ | exact ⟨3, by omega, rfl⟩ | exact ⟨4, by omega, rfl⟩ | exact ⟨j4, by omega, hx4⟩)) (cwV 2 hts (k_gV kw1568 ca_X5_of) rfl rfl rfl ⟨rfl, pnX5_of⟩ ⟨Nat.le_of_ble_eq_true rfl, Nat.le_of_ble_eq_true rfl⟩) hE hS (hP.pick [0] rfl) (k_recv C kFX5 hP (i := 0) (q := 0) rfl rfl) rfl hl.1 rfl rfl dX5_dust_18 ⟨Nat.le_of_ble_eq_true rfl, Nat.le_of_ble_eq_true rfl⟩ ?_
      refine lv_iadd hx hb dX5_dust_21 ?_
      refine lv_istore_n (lv' := [(1, .int (x1_4 + (X5_of_f vM aM x2_4 1))), (2, .int x2_4), (0, .ref oM)]) hx hb dX5_dust_22 rfl hl (by decide) rfl (fun ls hl => ?_)
      refine lv_iinc (v := (x2_4 + 1)) (lv' := [(2, .int (x2_4 + 1)), (1, .int (x1_4 + (X5_of_f vM aM x2_4 1))), (0, .ref oM)]) hx hb dX5_dust_23 hl (k := 1) rfl rfl (by decide) rfl (fun ls hl => ?_)
      refine lv_goto (tgt := 4) hx hb dX5_dust_26 (by decide) ?_
      exact ih4 (j4 + 1) (x1_4 + (X5_of_f vM aM x2_4 1)) (x2_4 + 1) ls hj4 (by omega) (k_up hx4) (show X5_dust_f vM aM = X5_dust_lp4 vM aM n (x1_4 + (X5_of_f vM aM x2_4 1)) (x2_4 + 1) from hF4.trans ((X5_dust_lp4_s vM aM n x1_4 x2_4).trans ((if_neg c1).trans (rfl)))) (lv_sub hl [0, 1, 2] rfl)
  refine lv_iconst (v := 0) hx hb dX5_dust_0 (by decide) ?_
  refine lv_istore_n (lv' := [(1, .int 0), (0, .ref oM)]) hx hb dX5_dust_1 rfl hl (by decide) rfl (fun ls hl => ?_)
  refine lv_iconst (v := 0) hx hb dX5_dust_2 (by decide) ?_
  refine lv_istore_n (lv' := [(2, .int 0), (1, .int 0), (0, .ref oM)]) hx hb dX5_dust_3 rfl hl (by decide) rfl (fun ls hl => ?_)
  exact loop4 7 0 0 0 ls (by omega) (by omega) rfl (show X5_dust_f vM aM = X5_dust_lp4 vM aM 7 0 0 from rfl) (lv_sub hl [0, 1, 2] rfl)

theorem pnX5_dust : yX5_dust.cls ≠ "java/lang/invoke/MethodHandle" ∧ yX5_dust.cls ≠ "java/lang/invoke/VarHandle" ∧ (parseMethodDescriptor yX5_dust.desc).map (fun d => d.parameters.length) = some 0 := by decide +kernel
theorem ca_X5_dust : kCal yX5_dust (Cond.code yX5_dust cX5_dust 3 (some .int)) := ⟨k_w 8 161 rfl rfl, k_w 1 92 rfl rfl, k_w 2 10 rfl rfl, k_w 8 162 rfl rfl⟩

abbrev wX5_rests : List Cond := Cond.code yX5_rests cX5_rests 2 (some .boolean) :: kW
def X5_rests_f (vM : Nat → Int32) (aM : Nat → Nat → Int32) (p0 : Int32) : Bool × (Nat → Int32) × (Nat → Nat → Int32) :=
  if (X5_in_f p0 1 60) = true then (true, upd vM 18 (X5_dust_f vM (X5_passes_f vM aM p0)), (X5_passes_f vM aM p0))
  else (false, upd (upd (upd vM 14 1) 15 0) 17 (vM 16), aM)
set_option maxHeartbeats 4000000 in
set_option maxRecDepth 100000 in
theorem X5_rests_c (l : Launch) (g : kG) (oM : Nat) (rM : Nat → Nat) (vM : Nat → Int32) (aM : Nat → Nat → Int32) (p0 : Int32) (hB5 : (∃ n : Nat, n ≤ 6 ∧ aM 0 5 = nI n)) : kM l yX5_rests wX5_rests 2 45 0 0 g [.ref oM, .int p0] [X5W g oM rM vM aM] (fun x u => x = b2i (X5_rests_f vM aM p0).1 ∧ u = [X5W g oM rM ((X5_rests_f vM aM p0).2.1) ((X5_rests_f vM aM p0).2.2)]) := by
  refine kM_of (cc := cX5_rests) (nL := 2) (ret := (some .boolean)) (lv := [(0, .ref oM), (1, .int p0)]) (by decide) rfl (Nat.le_of_ble_eq_true rfl) rfl ?_
  intro p e s m args below meth c ls A C hP hD hE hA hS hl
  have C : kC p c cX5_rests s m args meth RX5 g 2 (some .boolean) := C
  have hx := C.1.1
  have hb := C.1.2.1
  have hts := C.1.2.2.2.2
  refine lv_iload_n hx hb dX5_rests_0 rfl (lv_at hl 1 rfl) ?_
  refine lv_iconst (v := 1) hx hb dX5_rests_1 (by decide) ?_
  refine lv_bipush (v := 60) hx hb dX5_rests_2 (by decide) ?_
  refine kR_S (As := [.int p0, .int 1, .int 60]) (rest := []) C (X5_in_c l g p0 1 60) (va_cwS 3 hts (k_gS kw1525 cs_X5_in) rfl rfl rfl pnX5_in ⟨Nat.le_of_ble_eq_true rfl, Nat.le_of_ble_eq_true rfl⟩) hE hS (hP.pick [] rfl) rfl hl.1 rfl rfl dX5_rests_4 ⟨Nat.le_of_ble_eq_true rfl, Nat.le_of_ble_eq_true rfl⟩ ?_
  refine lv_if_ne (tgt := 17) hx hb dX5_rests_7 (by decide) (fun c1 => ?_) (fun c1 => ?_)
  · have c1 := b2i_ne0 c1
    refine lv_aload_n hx hb dX5_rests_17 rfl (lv_at hl 0 rfl) ?_
    refine lv_iload_n hx hb dX5_rests_18 rfl (lv_at hl 1 rfl) ?_
    refine kV_V (As := [.int p0]) (rest := []) (wr := []) C (X5_passes_c l g oM rM vM aM p0 (by first | assumption | exact hB5 | exact ⟨0, by omega, rfl⟩ | exact ⟨1, by omega, rfl⟩ | exact ⟨2, by omega, rfl⟩ | exact ⟨3, by omega, rfl⟩ | exact ⟨4, by omega, rfl⟩ | exact k_n (X5_passes_lo hB5 (by omega) (by omega)) hB5)) (cwV 1 hts (k_gV kw1682 ca_X5_passes) rfl rfl rfl ⟨rfl, pnX5_passes⟩ ⟨Nat.le_of_ble_eq_true rfl, Nat.le_of_ble_eq_true rfl⟩) hE hS hA hP hD [0] [] rfl rfl ⟨rfl, rfl, by decide⟩ (k_recv C kFX5 hP (i := 0) (q := 0) rfl rfl) rfl hl.1 rfl rfl dX5_rests_19 ⟨Nat.le_of_ble_eq_true rfl, Nat.le_of_ble_eq_true rfl⟩ (fun u2 H locs hp2 hP hD hS => ?_)
    subst hp2
    have hP : kp g [X5W g oM rM vM (X5_passes_f vM aM p0)] H := hP
    have hD : kd A [X5W g oM rM vM (X5_passes_f vM aM p0)] := hD
    refine lv_aload_n hx hb dX5_rests_22 rfl (lv_at hl 0 rfl) ?_
    refine lv_aload_n hx hb dX5_rests_23 rfl (lv_at hl 0 rfl) ?_
    refine kR_V (As := []) (rest := [.ref oM]) C (X5_dust_c l g oM rM vM (X5_passes_f vM aM p0) (by first | assumption | exact hB5 | exact ⟨0, by omega, rfl⟩ | exact ⟨1, by omega, rfl⟩ | exact ⟨2, by omega, rfl⟩ | exact ⟨3, by omega, rfl⟩ | exact ⟨4, by omega, rfl⟩ | exact k_n (X5_passes_lo hB5 (by omega) (by omega)) hB5)) (cwV 0 hts (k_gV kw1705 ca_X5_dust) rfl rfl rfl ⟨rfl, pnX5_dust⟩ ⟨Nat.le_of_ble_eq_true rfl, Nat.le_of_ble_eq_true rfl⟩) hE hS (hP.pick [0] rfl) (k_recv C kFX5 hP (i := 0) (q := 0) rfl rfl) rfl hl.1 rfl rfl dX5_rests_24 ⟨Nat.le_of_ble_eq_true rfl, Nat.le_of_ble_eq_true rfl⟩ ?_
    refine kM_V (As := [.int (X5_dust_f vM (X5_passes_f vM aM p0))]) (rest := []) (wr := []) C (X5_does_c l g oM rM vM (X5_passes_f vM aM p0) (X5_dust_f vM (X5_passes_f vM aM p0))) (cwV 1 hts (k_gV kw1572 ca_X5_does) rfl rfl rfl ⟨rfl, pnX5_does⟩ ⟨Nat.le_of_ble_eq_true rfl, Nat.le_of_ble_eq_true rfl⟩) hE hS hA hP hD [0] [] rfl rfl ⟨rfl, rfl, by decide⟩ (k_recv C kFX5 hP (i := 0) (q := 0) rfl rfl) rfl hl.1 rfl rfl dX5_rests_27 ⟨Nat.le_of_ble_eq_true rfl, Nat.le_of_ble_eq_true rfl⟩ (fun r3 u3 H locs hp3 hP hD hS => ?_)
    obtain ⟨er3, eu3⟩ := hp3
    have er3 : r3 = 1 := er3
    have eu3 : u3 = [X5W g oM rM (upd vM 18 (X5_dust_f vM (X5_passes_f vM aM p0))) (X5_passes_f vM aM p0)] := eu3
    subst er3 eu3
    have hP : kp g [X5W g oM rM (upd vM 18 (X5_dust_f vM (X5_passes_f vM aM p0))) (X5_passes_f vM aM p0)] H := hP
    have hD : kd A [X5W g oM rM (upd vM 18 (X5_dust_f vM (X5_passes_f vM aM p0))) (X5_passes_f vM aM p0)] := hD
    have hF := (show X5_rests_f vM aM p0 = (true, upd vM 18 (X5_dust_f vM (X5_passes_f vM aM p0)), (X5_passes_f vM aM p0)) from (if_pos c1).trans (rfl))
    exact kM_zret (x := b2i true) C (b2i_nar _) hP hD hS ⟨by rw [hF], by rw [hF]⟩ dX5_rests_30
  have c1 := b2i_eq0 c1
  refine lv_aload_n hx hb dX5_rests_10 rfl (lv_at hl 0 rfl) ?_
  refine lv_iconst (v := 1) hx hb dX5_rests_11 (by decide) ?_
  refine lv_iconst (v := 0) hx hb dX5_rests_12 (by decide) ?_
  refine kM_V (As := [.int 1, .int 0]) (rest := []) (wr := []) C (X5_refuses_c l g oM rM vM aM 1 0) (cwV 2 hts (k_gV kw1528 ca_X5_refuses) rfl rfl rfl ⟨rfl, pnX5_refuses⟩ ⟨Nat.le_of_ble_eq_true rfl, Nat.le_of_ble_eq_true rfl⟩) hE hS hA hP hD [0] [] rfl rfl ⟨rfl, rfl, by decide⟩ (k_recv C kFX5 hP (i := 0) (q := 0) rfl rfl) rfl hl.1 rfl rfl dX5_rests_13 ⟨Nat.le_of_ble_eq_true rfl, Nat.le_of_ble_eq_true rfl⟩ (fun r4 u4 H locs hp4 hP hD hS => ?_)
  obtain ⟨er4, eu4⟩ := hp4
  have er4 : r4 = 0 := er4
  have eu4 : u4 = [X5W g oM rM (upd (upd (upd vM 14 1) 15 0) 17 (vM 16)) aM] := eu4
  subst er4 eu4
  have hP : kp g [X5W g oM rM (upd (upd (upd vM 14 1) 15 0) 17 (vM 16)) aM] H := hP
  have hD : kd A [X5W g oM rM (upd (upd (upd vM 14 1) 15 0) 17 (vM 16)) aM] := hD
  have hF := (show X5_rests_f vM aM p0 = (false, upd (upd (upd vM 14 1) 15 0) 17 (vM 16), aM) from (if_neg c1).trans (rfl))
  exact kM_zret (x := b2i false) C (b2i_nar _) hP hD hS ⟨by rw [hF], by rw [hF]⟩ dX5_rests_16
theorem X5_rests_u {vM : Nat → Int32} {aM : Nat → Nat → Int32} {p0 : Int32} : (X5_rests_f vM aM p0).2.1 3 = vM 3 := by
  unfold X5_rests_f
  (repeat' split) <;> first | rfl | exact X5_weighs_u | exact X5_scales_u

theorem pnX5_rests : yX5_rests.cls ≠ "java/lang/invoke/MethodHandle" ∧ yX5_rests.cls ≠ "java/lang/invoke/VarHandle" ∧ (parseMethodDescriptor yX5_rests.desc).map (fun d => d.parameters.length) = some 1 := by decide +kernel
theorem ca_X5_rests : kCal yX5_rests (Cond.code yX5_rests cX5_rests 2 (some .boolean)) := ⟨k_w 8 157 rfl rfl, k_w 1 91 rfl rfl, k_w 2 10 rfl rfl, k_w 8 158 rfl rfl⟩

abbrev wX5_days : List Cond := Cond.code yX5_days cX5_days 2 (some .int) :: kW
def X5_days_f (vM : Nat → Int32) (aM : Nat → Nat → Int32) (p0 : Int32) : Int32 × (Nat → Int32) × (Nat → Nat → Int32) :=
  ((X5_ends_f ((X5_rests_f (upd (upd vM 21 0) 16 0) (va_up aM 1 (k_cpy 0 64 (aM 0) (aM 1))) p0).2.1) ((X5_rests_f (upd (upd vM 21 0) 16 0) (va_up aM 1 (k_cpy 0 64 (aM 0) (aM 1))) p0).2.2) ((X5_rests_f (upd (upd vM 21 0) 16 0) (va_up aM 1 (k_cpy 0 64 (aM 0) (aM 1))) p0).1)).1, (X5_ends_f ((X5_rests_f (upd (upd vM 21 0) 16 0) (va_up aM 1 (k_cpy 0 64 (aM 0) (aM 1))) p0).2.1) ((X5_rests_f (upd (upd vM 21 0) 16 0) (va_up aM 1 (k_cpy 0 64 (aM 0) (aM 1))) p0).2.2) ((X5_rests_f (upd (upd vM 21 0) 16 0) (va_up aM 1 (k_cpy 0 64 (aM 0) (aM 1))) p0).1)).2.1, (X5_ends_f ((X5_rests_f (upd (upd vM 21 0) 16 0) (va_up aM 1 (k_cpy 0 64 (aM 0) (aM 1))) p0).2.1) ((X5_rests_f (upd (upd vM 21 0) 16 0) (va_up aM 1 (k_cpy 0 64 (aM 0) (aM 1))) p0).2.2) ((X5_rests_f (upd (upd vM 21 0) 16 0) (va_up aM 1 (k_cpy 0 64 (aM 0) (aM 1))) p0).1)).2.2)
set_option maxHeartbeats 4000000 in
set_option maxRecDepth 100000 in
theorem X5_days_c (l : Launch) (g : kG) (oM : Nat) (rM : Nat → Nat) (vM : Nat → Int32) (aM : Nat → Nat → Int32) (p0 : Int32) (hu : (∃ u : Nat, u ≤ 8 ∧ vM 3 = nI u)) (hB5 : (∃ n : Nat, n ≤ 6 ∧ aM 0 5 = nI n)) : kM l yX5_days wX5_days 3 66 0 0 g [.ref oM, .int p0] [X5W g oM rM vM aM] (fun x u => x = (X5_days_f vM aM p0).1 ∧ u = [X5W g oM rM ((X5_days_f vM aM p0).2.1) ((X5_days_f vM aM p0).2.2)]) := by
  refine kM_of (cc := cX5_days) (nL := 2) (ret := (some .int)) (lv := [(0, .ref oM), (1, .int p0)]) (by decide) rfl (Nat.le_of_ble_eq_true rfl) rfl ?_
  intro p e s m args below meth c ls A C hP hD hE hA hS hl
  have C : kC p c cX5_days s m args meth RX5 g 2 (some .int) := C
  have hx := C.1.1
  have hb := C.1.2.1
  have hts := C.1.2.2.2.2
  refine lv_aload_n hx hb dX5_days_0 rfl (lv_at hl 0 rfl) ?_
  refine kV_V (As := []) (rest := []) (wr := []) C (X5_tries_c l g oM rM vM aM) (cwV 0 hts (k_gV kw1521 ca_X5_tries) rfl rfl rfl ⟨rfl, pnX5_tries⟩ ⟨Nat.le_of_ble_eq_true rfl, Nat.le_of_ble_eq_true rfl⟩) hE hS hA hP hD [0] [] rfl rfl ⟨rfl, rfl, by decide⟩ (k_recv C kFX5 hP (i := 0) (q := 0) rfl rfl) rfl hl.1 rfl rfl dX5_days_1 ⟨Nat.le_of_ble_eq_true rfl, Nat.le_of_ble_eq_true rfl⟩ (fun u1 H locs eu1 hP hD hS => ?_)
  have eu1 : u1 = [X5W g oM rM (upd (upd vM 21 0) 16 0) (va_up aM 1 (k_cpy 0 64 (aM 0) (aM 1)))] := eu1.trans (by rw [X5_tries_eq])
  subst eu1
  have hP : kp g [X5W g oM rM (upd (upd vM 21 0) 16 0) (va_up aM 1 (k_cpy 0 64 (aM 0) (aM 1)))] H := hP
  have hD : kd A [X5W g oM rM (upd (upd vM 21 0) 16 0) (va_up aM 1 (k_cpy 0 64 (aM 0) (aM 1)))] := hD
  refine lv_aload_n hx hb dX5_days_4 rfl (lv_at hl 0 rfl) ?_
  refine lv_aload_n hx hb dX5_days_5 rfl (lv_at hl 0 rfl) ?_
  refine lv_iload_n hx hb dX5_days_6 rfl (lv_at hl 1 rfl) ?_
  refine kM_V (As := [.int p0]) (rest := [.ref oM]) (wr := []) C (X5_rests_c l g oM rM (upd (upd vM 21 0) 16 0) (va_up aM 1 (k_cpy 0 64 (aM 0) (aM 1))) p0 (by first | assumption | exact hu | exact hB5 | exact ⟨0, by omega, rfl⟩ | exact ⟨1, by omega, rfl⟩ | exact ⟨2, by omega, rfl⟩ | exact ⟨3, by omega, rfl⟩ | exact ⟨4, by omega, rfl⟩)) (cwV 1 hts (k_gV kw1701 ca_X5_rests) rfl rfl rfl ⟨rfl, pnX5_rests⟩ ⟨Nat.le_of_ble_eq_true rfl, Nat.le_of_ble_eq_true rfl⟩) hE hS hA hP hD [0] [] rfl rfl ⟨rfl, rfl, by decide⟩ (k_recv C kFX5 hP (i := 0) (q := 0) rfl rfl) rfl hl.1 rfl rfl dX5_days_7 ⟨Nat.le_of_ble_eq_true rfl, Nat.le_of_ble_eq_true rfl⟩ (fun r2 u2 H locs hp2 hP hD hS => ?_)
  obtain ⟨rfl, rfl⟩ := hp2
  have hP : kp g [X5W g oM rM ((X5_rests_f (upd (upd vM 21 0) 16 0) (va_up aM 1 (k_cpy 0 64 (aM 0) (aM 1))) p0).2.1) ((X5_rests_f (upd (upd vM 21 0) 16 0) (va_up aM 1 (k_cpy 0 64 (aM 0) (aM 1))) p0).2.2)] H := hP
  have hD : kd A [X5W g oM rM ((X5_rests_f (upd (upd vM 21 0) 16 0) (va_up aM 1 (k_cpy 0 64 (aM 0) (aM 1))) p0).2.1) ((X5_rests_f (upd (upd vM 21 0) 16 0) (va_up aM 1 (k_cpy 0 64 (aM 0) (aM 1))) p0).2.2)] := hD
  refine kM_V (As := [.int (b2i ((X5_rests_f (upd (upd vM 21 0) 16 0) (va_up aM 1 (k_cpy 0 64 (aM 0) (aM 1))) p0).1))]) (rest := []) (wr := []) C (X5_ends_c l g oM rM ((X5_rests_f (upd (upd vM 21 0) 16 0) (va_up aM 1 (k_cpy 0 64 (aM 0) (aM 1))) p0).2.1) ((X5_rests_f (upd (upd vM 21 0) 16 0) (va_up aM 1 (k_cpy 0 64 (aM 0) (aM 1))) p0).2.2) ((X5_rests_f (upd (upd vM 21 0) 16 0) (va_up aM 1 (k_cpy 0 64 (aM 0) (aM 1))) p0).1) (k_u X5_rests_u hu)) (cwV 1 hts (k_gV kw1532 ca_X5_ends) rfl rfl rfl ⟨rfl, pnX5_ends⟩ ⟨Nat.le_of_ble_eq_true rfl, Nat.le_of_ble_eq_true rfl⟩) hE hS hA hP hD [0] [] rfl rfl ⟨rfl, rfl, by decide⟩ (k_recv C kFX5 hP (i := 0) (q := 0) rfl rfl) rfl hl.1 rfl rfl dX5_days_10 ⟨Nat.le_of_ble_eq_true rfl, Nat.le_of_ble_eq_true rfl⟩ (fun r3 u3 H locs hp3 hP hD hS => ?_)
  obtain ⟨rfl, rfl⟩ := hp3
  have hP : kp g [X5W g oM rM ((X5_ends_f ((X5_rests_f (upd (upd vM 21 0) 16 0) (va_up aM 1 (k_cpy 0 64 (aM 0) (aM 1))) p0).2.1) ((X5_rests_f (upd (upd vM 21 0) 16 0) (va_up aM 1 (k_cpy 0 64 (aM 0) (aM 1))) p0).2.2) ((X5_rests_f (upd (upd vM 21 0) 16 0) (va_up aM 1 (k_cpy 0 64 (aM 0) (aM 1))) p0).1)).2.1) ((X5_ends_f ((X5_rests_f (upd (upd vM 21 0) 16 0) (va_up aM 1 (k_cpy 0 64 (aM 0) (aM 1))) p0).2.1) ((X5_rests_f (upd (upd vM 21 0) 16 0) (va_up aM 1 (k_cpy 0 64 (aM 0) (aM 1))) p0).2.2) ((X5_rests_f (upd (upd vM 21 0) 16 0) (va_up aM 1 (k_cpy 0 64 (aM 0) (aM 1))) p0).1)).2.2)] H := hP
  have hD : kd A [X5W g oM rM ((X5_ends_f ((X5_rests_f (upd (upd vM 21 0) 16 0) (va_up aM 1 (k_cpy 0 64 (aM 0) (aM 1))) p0).2.1) ((X5_rests_f (upd (upd vM 21 0) 16 0) (va_up aM 1 (k_cpy 0 64 (aM 0) (aM 1))) p0).2.2) ((X5_rests_f (upd (upd vM 21 0) 16 0) (va_up aM 1 (k_cpy 0 64 (aM 0) (aM 1))) p0).1)).2.1) ((X5_ends_f ((X5_rests_f (upd (upd vM 21 0) 16 0) (va_up aM 1 (k_cpy 0 64 (aM 0) (aM 1))) p0).2.1) ((X5_rests_f (upd (upd vM 21 0) 16 0) (va_up aM 1 (k_cpy 0 64 (aM 0) (aM 1))) p0).2.2) ((X5_rests_f (upd (upd vM 21 0) 16 0) (va_up aM 1 (k_cpy 0 64 (aM 0) (aM 1))) p0).1)).2.2)] := hD
  have hF := (show X5_days_f vM aM p0 = ((X5_ends_f ((X5_rests_f (upd (upd vM 21 0) 16 0) (va_up aM 1 (k_cpy 0 64 (aM 0) (aM 1))) p0).2.1) ((X5_rests_f (upd (upd vM 21 0) 16 0) (va_up aM 1 (k_cpy 0 64 (aM 0) (aM 1))) p0).2.2) ((X5_rests_f (upd (upd vM 21 0) 16 0) (va_up aM 1 (k_cpy 0 64 (aM 0) (aM 1))) p0).1)).1, (X5_ends_f ((X5_rests_f (upd (upd vM 21 0) 16 0) (va_up aM 1 (k_cpy 0 64 (aM 0) (aM 1))) p0).2.1) ((X5_rests_f (upd (upd vM 21 0) 16 0) (va_up aM 1 (k_cpy 0 64 (aM 0) (aM 1))) p0).2.2) ((X5_rests_f (upd (upd vM 21 0) 16 0) (va_up aM 1 (k_cpy 0 64 (aM 0) (aM 1))) p0).1)).2.1, (X5_ends_f ((X5_rests_f (upd (upd vM 21 0) 16 0) (va_up aM 1 (k_cpy 0 64 (aM 0) (aM 1))) p0).2.1) ((X5_rests_f (upd (upd vM 21 0) 16 0) (va_up aM 1 (k_cpy 0 64 (aM 0) (aM 1))) p0).2.2) ((X5_rests_f (upd (upd vM 21 0) 16 0) (va_up aM 1 (k_cpy 0 64 (aM 0) (aM 1))) p0).1)).2.2) from rfl)
  exact kM_ret (x := (X5_ends_f ((X5_rests_f (upd (upd vM 21 0) 16 0) (va_up aM 1 (k_cpy 0 64 (aM 0) (aM 1))) p0).2.1) ((X5_rests_f (upd (upd vM 21 0) 16 0) (va_up aM 1 (k_cpy 0 64 (aM 0) (aM 1))) p0).2.2) ((X5_rests_f (upd (upd vM 21 0) 16 0) (va_up aM 1 (k_cpy 0 64 (aM 0) (aM 1))) p0).1)).1) C hP hD hS ⟨by rw [hF], by rw [hF]⟩ dX5_days_13

abbrev wX5_jarOf : List Cond := Cond.code yX5_jarOf cX5_jarOf 3 (some .int) :: kW
def X5_jarOf_f (vM : Nat → Int32) (aM : Nat → Nat → Int32) (p0 : Int32) (p1 : Bool) : Int32 × (Nat → Int32) :=
  if (X5_isJar_f (upd vM 21 0) aM p0) = true then (if p1 = true then (((aM 0) ((22 + (2 * p0)) + 0).toNatClampNeg), upd vM 21 0)
    else (((aM 0) ((22 + (2 * p0)) + 1).toNatClampNeg), upd vM 21 0))
  else (0, upd (upd vM 21 0) 21 1)
set_option maxHeartbeats 4000000 in
set_option maxRecDepth 100000 in
theorem X5_jarOf_c (l : Launch) (g : kG) (oM : Nat) (rM : Nat → Nat) (vM : Nat → Int32) (aM : Nat → Nat → Int32) (p0 : Int32) (p1 : Bool) (hJ5 : (∃ n : Nat, n ≤ 6 ∧ aM 0 4 = nI n)) : kM l yX5_jarOf wX5_jarOf 2 43 0 0 g [.ref oM, .int p0, .int (b2i p1)] [X5W g oM rM vM aM] (fun x u => x = (X5_jarOf_f vM aM p0 p1).1 ∧ u = [X5W g oM rM ((X5_jarOf_f vM aM p0 p1).2) aM]) := by
  refine kM_of (cc := cX5_jarOf) (nL := 3) (ret := (some .int)) (lv := [(0, .ref oM), (1, .int p0), (2, .int (b2i p1))]) (by decide) rfl (Nat.le_of_ble_eq_true rfl) rfl ?_
  intro p e s m args below meth c ls A C hP hD hE hA hS hl
  have C : kC p c cX5_jarOf s m args meth RX5 g 3 (some .int) := C
  have hx := C.1.1
  have hb := C.1.2.1
  have hts := C.1.2.2.2.2
  refine lv_aload_n hx hb dX5_jarOf_0 rfl (lv_at hl 0 rfl) ?_
  refine lv_iconst (v := 0) hx hb dX5_jarOf_1 (by decide) ?_
  refine kg_put C kFX5 (k := 21) kw1467 hP hD hS (i := 0) (q := 0) rfl rfl (by decide) rfl rfl rfl (Nat.le_of_ble_eq_true rfl) X5s_21 rfl dX5_jarOf_2 (fun H locs hP hD hS => ?_)
  have hP : kp g [X5W g oM rM (upd vM 21 0) aM] H := hP
  have hD : kd A [X5W g oM rM (upd vM 21 0) aM] := hD
  refine lv_aload_n hx hb dX5_jarOf_5 rfl (lv_at hl 0 rfl) ?_
  refine lv_iload_n hx hb dX5_jarOf_6 rfl (lv_at hl 1 rfl) ?_
  refine kR_V (As := [.int p0]) (rest := []) C (X5_isJar_c l g oM rM (upd vM 21 0) aM p0) (cwV 1 hts (k_gV kw1564 ca_X5_isJar) rfl rfl rfl ⟨rfl, pnX5_isJar⟩ ⟨Nat.le_of_ble_eq_true rfl, Nat.le_of_ble_eq_true rfl⟩) hE hS (hP.pick [0] rfl) (k_recv C kFX5 hP (i := 0) (q := 0) rfl rfl) rfl hl.1 rfl rfl dX5_jarOf_7 ⟨Nat.le_of_ble_eq_true rfl, Nat.le_of_ble_eq_true rfl⟩ ?_
  refine lv_if_eq (tgt := 37) hx hb dX5_jarOf_10 (by decide) (fun c1 => ?_) (fun c1 => ?_)
  · have c1 := b2i_eq0 c1
    refine lv_aload_n hx hb dX5_jarOf_37 rfl (lv_at hl 0 rfl) ?_
    refine lv_iconst (v := 1) hx hb dX5_jarOf_38 (by decide) ?_
    refine kM_V (As := [.int 1]) (rest := []) (wr := []) C (X5_raises_c l g oM rM (upd vM 21 0) aM 1) (cwV 1 hts (k_gV kw1540 ca_X5_raises) rfl rfl rfl ⟨rfl, pnX5_raises⟩ ⟨Nat.le_of_ble_eq_true rfl, Nat.le_of_ble_eq_true rfl⟩) hE hS hA hP hD [0] [] rfl rfl ⟨rfl, rfl, by decide⟩ (k_recv C kFX5 hP (i := 0) (q := 0) rfl rfl) rfl hl.1 rfl rfl dX5_jarOf_39 ⟨Nat.le_of_ble_eq_true rfl, Nat.le_of_ble_eq_true rfl⟩ (fun r2 u2 H locs hp2 hP hD hS => ?_)
    obtain ⟨er2, eu2⟩ := hp2
    have er2 : r2 = 0 := er2
    have eu2 : u2 = [X5W g oM rM (upd (upd vM 21 0) 21 1) aM] := eu2
    subst er2 eu2
    have hP : kp g [X5W g oM rM (upd (upd vM 21 0) 21 1) aM] H := hP
    have hD : kd A [X5W g oM rM (upd (upd vM 21 0) 21 1) aM] := hD
    have hF := (show X5_jarOf_f vM aM p0 p1 = (0, upd (upd vM 21 0) 21 1) from (if_neg c1).trans (rfl))
    exact kM_ret (x := 0) C hP hD hS ⟨by rw [hF], by rw [hF]⟩ dX5_jarOf_42
  have c1 := b2i_ne0 c1
  have z2 := k_isJar c1 hJ5
  refine lv_aload_n hx hb dX5_jarOf_13 rfl (lv_at hl 0 rfl) ?_
  refine kg_get C kFX5 (k := 0) kw1446 hP (i := 0) (q := 0) rfl rfl (by decide) rfl dX5_jarOf_14 ?_
  refine lv_bipush (v := 22) hx hb dX5_jarOf_17 (by decide) ?_
  refine lv_iconst (v := 2) hx hb dX5_jarOf_19 (by decide) ?_
  refine lv_iload_n hx hb dX5_jarOf_20 rfl (lv_at hl 1 rfl) ?_
  refine lv_imul hx hb dX5_jarOf_21 ?_
  refine lv_iadd hx hb dX5_jarOf_22 ?_
  refine lv_iload_n hx hb dX5_jarOf_23 rfl (lv_at hl 2 rfl) ?_
  refine lv_if_eq (tgt := 31) hx hb dX5_jarOf_24 (by decide) (fun c3 => ?_) (fun c3 => ?_)
  · have c3 := b2i_eq0 c3
    have zz := k_jix1 z2
    refine lv_iconst (v := 1) hx hb dX5_jarOf_31 (by decide) ?_
    refine lv_iadd hx hb dX5_jarOf_32 ?_
    refine kg_iald C hP (i := 0) (q := 1) rfl rfl zz dX5_jarOf_33 ?_
    refine lv_goto (tgt := 42) hx hb dX5_jarOf_34 (by decide) ?_
    have hF := (show X5_jarOf_f vM aM p0 p1 = (((aM 0) ((22 + (2 * p0)) + 1).toNatClampNeg), upd vM 21 0) from (if_pos c1).trans ((if_neg c3).trans (rfl)))
    exact kM_ret (x := ((aM 0) ((22 + (2 * p0)) + 1).toNatClampNeg)) C hP hD hS ⟨by rw [hF], by rw [hF]⟩ dX5_jarOf_42
  have c3 := b2i_ne0 c3
  have zz := k_jix0 z2
  refine lv_iconst (v := 0) hx hb dX5_jarOf_27 (by decide) ?_
  refine lv_goto (tgt := 32) hx hb dX5_jarOf_28 (by decide) ?_
  refine lv_iadd hx hb dX5_jarOf_32 ?_
  refine kg_iald C hP (i := 0) (q := 1) rfl rfl zz dX5_jarOf_33 ?_
  refine lv_goto (tgt := 42) hx hb dX5_jarOf_34 (by decide) ?_
  have hF := (show X5_jarOf_f vM aM p0 p1 = (((aM 0) ((22 + (2 * p0)) + 0).toNatClampNeg), upd vM 21 0) from (if_pos c1).trans ((if_pos c3).trans (rfl)))
  exact kM_ret (x := ((aM 0) ((22 + (2 * p0)) + 0).toNatClampNeg)) C hP hD hS ⟨by rw [hF], by rw [hF]⟩ dX5_jarOf_42

abbrev wX5_bagOf : List Cond := Cond.code yX5_bagOf cX5_bagOf 3 (some .int) :: kW
def X5_bagOf_f (vM : Nat → Int32) (aM : Nat → Nat → Int32) (p0 : Int32) (p1 : Int32) : Int32 × (Nat → Int32) :=
  if (X5_isBag_f (upd vM 21 0) aM p0) = true then (if p1 = 0 then ((X5_of_f (upd vM 21 0) aM p0 p1), upd vM 21 0)
    else if p1 = 1 then ((X5_of_f (upd vM 21 0) aM p0 p1), upd vM 21 0)
    else if p1 = 2 then (((X5_of_f (upd vM 21 0) aM p0 2) - 1), upd vM 21 0)
    else if p1 = 3 then ((X5_of_f (upd vM 21 0) aM p0 p1), upd vM 21 0)
    else if p1 = 4 then ((X5_load_f (upd vM 21 0) aM p0), upd vM 21 0)
    else if p1 = 5 then ((X5_of_f (upd vM 21 0) aM p0 4), upd vM 21 0)
    else (0, upd (upd vM 21 0) 21 2))
  else (0, upd (upd vM 21 0) 21 1)
set_option maxHeartbeats 4000000 in
set_option maxRecDepth 100000 in
theorem X5_bagOf_c (l : Launch) (g : kG) (oM : Nat) (rM : Nat → Nat) (vM : Nat → Int32) (aM : Nat → Nat → Int32) (p0 : Int32) (p1 : Int32) (hB5 : (∃ n : Nat, n ≤ 6 ∧ aM 0 5 = nI n)) : kM l yX5_bagOf wX5_bagOf 2 43 0 0 g [.ref oM, .int p0, .int p1] [X5W g oM rM vM aM] (fun x u => x = (X5_bagOf_f vM aM p0 p1).1 ∧ u = [X5W g oM rM ((X5_bagOf_f vM aM p0 p1).2) aM]) := by
  refine kM_of (cc := cX5_bagOf) (nL := 3) (ret := (some .int)) (lv := [(0, .ref oM), (1, .int p0), (2, .int p1)]) (by decide) rfl (Nat.le_of_ble_eq_true rfl) rfl ?_
  intro p e s m args below meth c ls A C hP hD hE hA hS hl
  have C : kC p c cX5_bagOf s m args meth RX5 g 3 (some .int) := C
  have hx := C.1.1
  have hb := C.1.2.1
  have hts := C.1.2.2.2.2
  refine lv_aload_n hx hb dX5_bagOf_0 rfl (lv_at hl 0 rfl) ?_
  refine lv_iconst (v := 0) hx hb dX5_bagOf_1 (by decide) ?_
  refine kg_put C kFX5 (k := 21) kw1467 hP hD hS (i := 0) (q := 0) rfl rfl (by decide) rfl rfl rfl (Nat.le_of_ble_eq_true rfl) X5s_21 rfl dX5_bagOf_2 (fun H locs hP hD hS => ?_)
  have hP : kp g [X5W g oM rM (upd vM 21 0) aM] H := hP
  have hD : kd A [X5W g oM rM (upd vM 21 0) aM] := hD
  refine lv_aload_n hx hb dX5_bagOf_5 rfl (lv_at hl 0 rfl) ?_
  refine lv_iload_n hx hb dX5_bagOf_6 rfl (lv_at hl 1 rfl) ?_
  refine kR_V (As := [.int p0]) (rest := []) C (X5_isBag_c l g oM rM (upd vM 21 0) aM p0) (cwV 1 hts (k_gV kw1560 ca_X5_isBag) rfl rfl rfl ⟨rfl, pnX5_isBag⟩ ⟨Nat.le_of_ble_eq_true rfl, Nat.le_of_ble_eq_true rfl⟩) hE hS (hP.pick [0] rfl) (k_recv C kFX5 hP (i := 0) (q := 0) rfl rfl) rfl hl.1 rfl rfl dX5_bagOf_7 ⟨Nat.le_of_ble_eq_true rfl, Nat.le_of_ble_eq_true rfl⟩ ?_
  refine lv_if_ne (tgt := 19) hx hb dX5_bagOf_10 (by decide) (fun c1 => ?_) (fun c1 => ?_)
  · have c1 := b2i_ne0 c1
    have z1 := k_isBag c1 hB5
    refine lv_iload_n hx hb dX5_bagOf_19 rfl (lv_at hl 2 rfl) ?_
    by_cases c2 : p1 = 0
    · refine lv_tableIn (off := 40) (tgt := 60) hx hb dX5_bagOf_20 (by show ¬ (p1).toInt < 0; rw [c2]; decide) (by show ¬ 5 < (p1).toInt; rw [c2]; decide) (by rw [c2]; rfl) (by decide) ?_
      have z5 : ∃ c : Nat, c < 5 ∧ p1 = nI c := ⟨0, by omega, c2⟩
      refine lv_aload_n hx hb dX5_bagOf_60 rfl (lv_at hl 0 rfl) ?_
      refine lv_iload_n hx hb dX5_bagOf_61 rfl (lv_at hl 1 rfl) ?_
      refine lv_iload_n hx hb dX5_bagOf_62 rfl (lv_at hl 2 rfl) ?_
      refine kR_V (As := [.int p0, .int p1]) (rest := []) C (X5_of_c l g oM rM (upd vM 21 0) aM p0 p1 (by first | assumption | exact hB5 | exact ⟨0, by omega, rfl⟩ | exact ⟨1, by omega, rfl⟩ | exact ⟨2, by omega, rfl⟩ | exact ⟨3, by omega, rfl⟩ | exact ⟨4, by omega, rfl⟩) (by first | assumption | exact hB5 | exact ⟨0, by omega, rfl⟩ | exact ⟨1, by omega, rfl⟩ | exact ⟨2, by omega, rfl⟩ | exact ⟨3, by omega, rfl⟩ | exact ⟨4, by omega, rfl⟩)) (cwV 2 hts (k_gV kw1568 ca_X5_of) rfl rfl rfl ⟨rfl, pnX5_of⟩ ⟨Nat.le_of_ble_eq_true rfl, Nat.le_of_ble_eq_true rfl⟩) hE hS (hP.pick [0] rfl) (k_recv C kFX5 hP (i := 0) (q := 0) rfl rfl) rfl hl.1 rfl rfl dX5_bagOf_63 ⟨Nat.le_of_ble_eq_true rfl, Nat.le_of_ble_eq_true rfl⟩ ?_
      have hF := (show X5_bagOf_f vM aM p0 p1 = ((X5_of_f (upd vM 21 0) aM p0 p1), upd vM 21 0) from (if_pos c1).trans ((if_pos c2).trans (rfl)))
      exact kM_ret (x := (X5_of_f (upd vM 21 0) aM p0 p1)) C hP hD hS ⟨by rw [hF], by rw [hF]⟩ dX5_bagOf_66
    by_cases c3 : p1 = 1
    · refine lv_tableIn (off := 40) (tgt := 60) hx hb dX5_bagOf_20 (by show ¬ (p1).toInt < 0; rw [c3]; decide) (by show ¬ 5 < (p1).toInt; rw [c3]; decide) (by rw [c3]; rfl) (by decide) ?_
      have z5 : ∃ c : Nat, c < 5 ∧ p1 = nI c := ⟨1, by omega, c3⟩
      refine lv_aload_n hx hb dX5_bagOf_60 rfl (lv_at hl 0 rfl) ?_
      refine lv_iload_n hx hb dX5_bagOf_61 rfl (lv_at hl 1 rfl) ?_
      refine lv_iload_n hx hb dX5_bagOf_62 rfl (lv_at hl 2 rfl) ?_
      refine kR_V (As := [.int p0, .int p1]) (rest := []) C (X5_of_c l g oM rM (upd vM 21 0) aM p0 p1 (by first | assumption | exact hB5 | exact ⟨0, by omega, rfl⟩ | exact ⟨1, by omega, rfl⟩ | exact ⟨2, by omega, rfl⟩ | exact ⟨3, by omega, rfl⟩ | exact ⟨4, by omega, rfl⟩) (by first | assumption | exact hB5 | exact ⟨0, by omega, rfl⟩ | exact ⟨1, by omega, rfl⟩ | exact ⟨2, by omega, rfl⟩ | exact ⟨3, by omega, rfl⟩ | exact ⟨4, by omega, rfl⟩)) (cwV 2 hts (k_gV kw1568 ca_X5_of) rfl rfl rfl ⟨rfl, pnX5_of⟩ ⟨Nat.le_of_ble_eq_true rfl, Nat.le_of_ble_eq_true rfl⟩) hE hS (hP.pick [0] rfl) (k_recv C kFX5 hP (i := 0) (q := 0) rfl rfl) rfl hl.1 rfl rfl dX5_bagOf_63 ⟨Nat.le_of_ble_eq_true rfl, Nat.le_of_ble_eq_true rfl⟩ ?_
      have hF := (show X5_bagOf_f vM aM p0 p1 = ((X5_of_f (upd vM 21 0) aM p0 p1), upd vM 21 0) from (if_pos c1).trans ((if_neg c2).trans ((if_pos c3).trans (rfl))))
      exact kM_ret (x := (X5_of_f (upd vM 21 0) aM p0 p1)) C hP hD hS ⟨by rw [hF], by rw [hF]⟩ dX5_bagOf_66
    by_cases c4 : p1 = 2
    · refine lv_tableIn (off := 47) (tgt := 67) hx hb dX5_bagOf_20 (by show ¬ (p1).toInt < 0; rw [c4]; decide) (by show ¬ 5 < (p1).toInt; rw [c4]; decide) (by rw [c4]; rfl) (by decide) ?_
      refine lv_aload_n hx hb dX5_bagOf_67 rfl (lv_at hl 0 rfl) ?_
      refine lv_iload_n hx hb dX5_bagOf_68 rfl (lv_at hl 1 rfl) ?_
      refine lv_iconst (v := 2) hx hb dX5_bagOf_69 (by decide) ?_
      refine kR_V (As := [.int p0, .int 2]) (rest := []) C (X5_of_c l g oM rM (upd vM 21 0) aM p0 2 (by first | assumption | exact hB5 | exact ⟨0, by omega, rfl⟩ | exact ⟨1, by omega, rfl⟩ | exact ⟨2, by omega, rfl⟩ | exact ⟨3, by omega, rfl⟩ | exact ⟨4, by omega, rfl⟩) (by first | assumption | exact hB5 | exact ⟨0, by omega, rfl⟩ | exact ⟨1, by omega, rfl⟩ | exact ⟨2, by omega, rfl⟩ | exact ⟨3, by omega, rfl⟩ | exact ⟨4, by omega, rfl⟩)) (cwV 2 hts (k_gV kw1568 ca_X5_of) rfl rfl rfl ⟨rfl, pnX5_of⟩ ⟨Nat.le_of_ble_eq_true rfl, Nat.le_of_ble_eq_true rfl⟩) hE hS (hP.pick [0] rfl) (k_recv C kFX5 hP (i := 0) (q := 0) rfl rfl) rfl hl.1 rfl rfl dX5_bagOf_70 ⟨Nat.le_of_ble_eq_true rfl, Nat.le_of_ble_eq_true rfl⟩ ?_
      refine lv_iconst (v := 1) hx hb dX5_bagOf_73 (by decide) ?_
      refine lv_isub hx hb dX5_bagOf_74 ?_
      have hF := (show X5_bagOf_f vM aM p0 p1 = (((X5_of_f (upd vM 21 0) aM p0 2) - 1), upd vM 21 0) from (if_pos c1).trans ((if_neg c2).trans ((if_neg c3).trans ((if_pos c4).trans (rfl)))))
      exact kM_ret (x := ((X5_of_f (upd vM 21 0) aM p0 2) - 1)) C hP hD hS ⟨by rw [hF], by rw [hF]⟩ dX5_bagOf_75
    by_cases c5 : p1 = 3
    · refine lv_tableIn (off := 40) (tgt := 60) hx hb dX5_bagOf_20 (by show ¬ (p1).toInt < 0; rw [c5]; decide) (by show ¬ 5 < (p1).toInt; rw [c5]; decide) (by rw [c5]; rfl) (by decide) ?_
      have z5 : ∃ c : Nat, c < 5 ∧ p1 = nI c := ⟨3, by omega, c5⟩
      refine lv_aload_n hx hb dX5_bagOf_60 rfl (lv_at hl 0 rfl) ?_
      refine lv_iload_n hx hb dX5_bagOf_61 rfl (lv_at hl 1 rfl) ?_
      refine lv_iload_n hx hb dX5_bagOf_62 rfl (lv_at hl 2 rfl) ?_
      refine kR_V (As := [.int p0, .int p1]) (rest := []) C (X5_of_c l g oM rM (upd vM 21 0) aM p0 p1 (by first | assumption | exact hB5 | exact ⟨0, by omega, rfl⟩ | exact ⟨1, by omega, rfl⟩ | exact ⟨2, by omega, rfl⟩ | exact ⟨3, by omega, rfl⟩ | exact ⟨4, by omega, rfl⟩) (by first | assumption | exact hB5 | exact ⟨0, by omega, rfl⟩ | exact ⟨1, by omega, rfl⟩ | exact ⟨2, by omega, rfl⟩ | exact ⟨3, by omega, rfl⟩ | exact ⟨4, by omega, rfl⟩)) (cwV 2 hts (k_gV kw1568 ca_X5_of) rfl rfl rfl ⟨rfl, pnX5_of⟩ ⟨Nat.le_of_ble_eq_true rfl, Nat.le_of_ble_eq_true rfl⟩) hE hS (hP.pick [0] rfl) (k_recv C kFX5 hP (i := 0) (q := 0) rfl rfl) rfl hl.1 rfl rfl dX5_bagOf_63 ⟨Nat.le_of_ble_eq_true rfl, Nat.le_of_ble_eq_true rfl⟩ ?_
      have hF := (show X5_bagOf_f vM aM p0 p1 = ((X5_of_f (upd vM 21 0) aM p0 p1), upd vM 21 0) from (if_pos c1).trans ((if_neg c2).trans ((if_neg c3).trans ((if_neg c4).trans ((if_pos c5).trans (rfl))))))
      exact kM_ret (x := (X5_of_f (upd vM 21 0) aM p0 p1)) C hP hD hS ⟨by rw [hF], by rw [hF]⟩ dX5_bagOf_66
    by_cases c6 : p1 = 4
    · refine lv_tableIn (off := 56) (tgt := 76) hx hb dX5_bagOf_20 (by show ¬ (p1).toInt < 0; rw [c6]; decide) (by show ¬ 5 < (p1).toInt; rw [c6]; decide) (by rw [c6]; rfl) (by decide) ?_
      refine lv_aload_n hx hb dX5_bagOf_76 rfl (lv_at hl 0 rfl) ?_
      refine lv_iload_n hx hb dX5_bagOf_77 rfl (lv_at hl 1 rfl) ?_
      refine kR_V (As := [.int p0]) (rest := []) C (X5_load_c l g oM rM (upd vM 21 0) aM p0 (by first | assumption | exact hB5 | exact ⟨0, by omega, rfl⟩ | exact ⟨1, by omega, rfl⟩ | exact ⟨2, by omega, rfl⟩ | exact ⟨3, by omega, rfl⟩ | exact ⟨4, by omega, rfl⟩)) (cwV 1 hts (k_gV kw1624 ca_X5_load) rfl rfl rfl ⟨rfl, pnX5_load⟩ ⟨Nat.le_of_ble_eq_true rfl, Nat.le_of_ble_eq_true rfl⟩) hE hS (hP.pick [0] rfl) (k_recv C kFX5 hP (i := 0) (q := 0) rfl rfl) rfl hl.1 rfl rfl dX5_bagOf_78 ⟨Nat.le_of_ble_eq_true rfl, Nat.le_of_ble_eq_true rfl⟩ ?_
      have hF := (show X5_bagOf_f vM aM p0 p1 = ((X5_load_f (upd vM 21 0) aM p0), upd vM 21 0) from (if_pos c1).trans ((if_neg c2).trans ((if_neg c3).trans ((if_neg c4).trans ((if_neg c5).trans ((if_pos c6).trans (rfl)))))))
      exact kM_ret (x := (X5_load_f (upd vM 21 0) aM p0)) C hP hD hS ⟨by rw [hF], by rw [hF]⟩ dX5_bagOf_81
    by_cases c7 : p1 = 5
    · refine lv_tableIn (off := 62) (tgt := 82) hx hb dX5_bagOf_20 (by show ¬ (p1).toInt < 0; rw [c7]; decide) (by show ¬ 5 < (p1).toInt; rw [c7]; decide) (by rw [c7]; rfl) (by decide) ?_
      refine lv_aload_n hx hb dX5_bagOf_82 rfl (lv_at hl 0 rfl) ?_
      refine lv_iload_n hx hb dX5_bagOf_83 rfl (lv_at hl 1 rfl) ?_
      refine lv_iconst (v := 4) hx hb dX5_bagOf_84 (by decide) ?_
      refine kR_V (As := [.int p0, .int 4]) (rest := []) C (X5_of_c l g oM rM (upd vM 21 0) aM p0 4 (by first | assumption | exact hB5 | exact ⟨0, by omega, rfl⟩ | exact ⟨1, by omega, rfl⟩ | exact ⟨2, by omega, rfl⟩ | exact ⟨3, by omega, rfl⟩ | exact ⟨4, by omega, rfl⟩) (by first | assumption | exact hB5 | exact ⟨0, by omega, rfl⟩ | exact ⟨1, by omega, rfl⟩ | exact ⟨2, by omega, rfl⟩ | exact ⟨3, by omega, rfl⟩ | exact ⟨4, by omega, rfl⟩)) (cwV 2 hts (k_gV kw1568 ca_X5_of) rfl rfl rfl ⟨rfl, pnX5_of⟩ ⟨Nat.le_of_ble_eq_true rfl, Nat.le_of_ble_eq_true rfl⟩) hE hS (hP.pick [0] rfl) (k_recv C kFX5 hP (i := 0) (q := 0) rfl rfl) rfl hl.1 rfl rfl dX5_bagOf_85 ⟨Nat.le_of_ble_eq_true rfl, Nat.le_of_ble_eq_true rfl⟩ ?_
      have hF := (show X5_bagOf_f vM aM p0 p1 = ((X5_of_f (upd vM 21 0) aM p0 4), upd vM 21 0) from (if_pos c1).trans ((if_neg c2).trans ((if_neg c3).trans ((if_neg c4).trans ((if_neg c5).trans ((if_neg c6).trans ((if_pos c7).trans (rfl))))))))
      exact kM_ret (x := (X5_of_f (upd vM 21 0) aM p0 4)) C hP hD hS ⟨by rw [hF], by rw [hF]⟩ dX5_bagOf_88
    refine lv_tableOut (tgt := 89) hx hb dX5_bagOf_20 (by have n0 := lv_neT (a := 0) c2 (by decide); have n1 := lv_neT (a := 1) c3 (by decide); have n2 := lv_neT (a := 2) c4 (by decide); have n3 := lv_neT (a := 3) c5 (by decide); have n4 := lv_neT (a := 4) c6 (by decide); have n5 := lv_neT (a := 5) c7 (by decide); omega) (by decide) ?_
    refine lv_aload_n hx hb dX5_bagOf_89 rfl (lv_at hl 0 rfl) ?_
    refine lv_iconst (v := 2) hx hb dX5_bagOf_90 (by decide) ?_
    refine kM_V (As := [.int 2]) (rest := []) (wr := []) C (X5_raises_c l g oM rM (upd vM 21 0) aM 2) (cwV 1 hts (k_gV kw1540 ca_X5_raises) rfl rfl rfl ⟨rfl, pnX5_raises⟩ ⟨Nat.le_of_ble_eq_true rfl, Nat.le_of_ble_eq_true rfl⟩) hE hS hA hP hD [0] [] rfl rfl ⟨rfl, rfl, by decide⟩ (k_recv C kFX5 hP (i := 0) (q := 0) rfl rfl) rfl hl.1 rfl rfl dX5_bagOf_91 ⟨Nat.le_of_ble_eq_true rfl, Nat.le_of_ble_eq_true rfl⟩ (fun r8 u8 H locs hp8 hP hD hS => ?_)
    obtain ⟨er8, eu8⟩ := hp8
    have er8 : r8 = 0 := er8
    have eu8 : u8 = [X5W g oM rM (upd (upd vM 21 0) 21 2) aM] := eu8
    subst er8 eu8
    have hP : kp g [X5W g oM rM (upd (upd vM 21 0) 21 2) aM] H := hP
    have hD : kd A [X5W g oM rM (upd (upd vM 21 0) 21 2) aM] := hD
    have hF := (show X5_bagOf_f vM aM p0 p1 = (0, upd (upd vM 21 0) 21 2) from (if_pos c1).trans ((if_neg c2).trans ((if_neg c3).trans ((if_neg c4).trans ((if_neg c5).trans ((if_neg c6).trans ((if_neg c7).trans (rfl))))))))
    exact kM_ret (x := 0) C hP hD hS ⟨by rw [hF], by rw [hF]⟩ dX5_bagOf_94
  have c1 := b2i_eq0 c1
  refine lv_aload_n hx hb dX5_bagOf_13 rfl (lv_at hl 0 rfl) ?_
  refine lv_iconst (v := 1) hx hb dX5_bagOf_14 (by decide) ?_
  refine kM_V (As := [.int 1]) (rest := []) (wr := []) C (X5_raises_c l g oM rM (upd vM 21 0) aM 1) (cwV 1 hts (k_gV kw1540 ca_X5_raises) rfl rfl rfl ⟨rfl, pnX5_raises⟩ ⟨Nat.le_of_ble_eq_true rfl, Nat.le_of_ble_eq_true rfl⟩) hE hS hA hP hD [0] [] rfl rfl ⟨rfl, rfl, by decide⟩ (k_recv C kFX5 hP (i := 0) (q := 0) rfl rfl) rfl hl.1 rfl rfl dX5_bagOf_15 ⟨Nat.le_of_ble_eq_true rfl, Nat.le_of_ble_eq_true rfl⟩ (fun r9 u9 H locs hp9 hP hD hS => ?_)
  obtain ⟨er9, eu9⟩ := hp9
  have er9 : r9 = 0 := er9
  have eu9 : u9 = [X5W g oM rM (upd (upd vM 21 0) 21 1) aM] := eu9
  subst er9 eu9
  have hP : kp g [X5W g oM rM (upd (upd vM 21 0) 21 1) aM] H := hP
  have hD : kd A [X5W g oM rM (upd (upd vM 21 0) 21 1) aM] := hD
  have hF := (show X5_bagOf_f vM aM p0 p1 = (0, upd (upd vM 21 0) 21 1) from (if_neg c1).trans (rfl))
  exact kM_ret (x := 0) C hP hD hS ⟨by rw [hF], by rw [hF]⟩ dX5_bagOf_18

abbrev wX5_weightOf : List Cond := Cond.code yX5_weightOf cX5_weightOf 4 (some .int) :: kW
def X5_weightOf_f (vM : Nat → Int32) (aM : Nat → Nat → Int32) (p0 : Int32) (p1 : Int32) : Int32 × (Nat → Int32) :=
  if (X5_isWeight_f p0) = true then (if p1 = 0 then ((X5_weight_f p0), upd vM 21 0)
    else if p1 = 1 then ((X5_shortBy_f (upd vM 21 0) aM p0), upd vM 21 0)
    else if p1 = 2 then (((aM 0) (14 + p0).toNatClampNeg), upd vM 21 0)
    else if p1 = 3 then (if ((X5_weight_f p0) / 10) ≤ (((aM 0) (14 + p0).toNatClampNeg) / 8) then ((-1), upd vM 21 0)
      else ((8 - (((aM 0) (14 + p0).toNatClampNeg) - ((aM 0) (14 + p0).toNatClampNeg) / 8 * 8)), upd vM 21 0))
    else (0, upd (upd vM 21 0) 21 2))
  else (0, upd (upd vM 21 0) 21 1)
set_option maxHeartbeats 4000000 in
set_option maxRecDepth 100000 in
theorem X5_weightOf_c (l : Launch) (g : kG) (oM : Nat) (rM : Nat → Nat) (vM : Nat → Int32) (aM : Nat → Nat → Int32) (p0 : Int32) (p1 : Int32) : kM l yX5_weightOf wX5_weightOf 2 42 0 0 g [.ref oM, .int p0, .int p1] [X5W g oM rM vM aM] (fun x u => x = (X5_weightOf_f vM aM p0 p1).1 ∧ u = [X5W g oM rM ((X5_weightOf_f vM aM p0 p1).2) aM]) := by
  refine kM_of (cc := cX5_weightOf) (nL := 4) (ret := (some .int)) (lv := [(0, .ref oM), (1, .int p0), (2, .int p1)]) (by decide) rfl (Nat.le_of_ble_eq_true rfl) rfl ?_
  intro p e s m args below meth c ls A C hP hD hE hA hS hl
  have C : kC p c cX5_weightOf s m args meth RX5 g 4 (some .int) := C
  have hx := C.1.1
  have hb := C.1.2.1
  have hts := C.1.2.2.2.2
  refine lv_aload_n hx hb dX5_weightOf_0 rfl (lv_at hl 0 rfl) ?_
  refine lv_iconst (v := 0) hx hb dX5_weightOf_1 (by decide) ?_
  refine kg_put C kFX5 (k := 21) kw1467 hP hD hS (i := 0) (q := 0) rfl rfl (by decide) rfl rfl rfl (Nat.le_of_ble_eq_true rfl) X5s_21 rfl dX5_weightOf_2 (fun H locs hP hD hS => ?_)
  have hP : kp g [X5W g oM rM (upd vM 21 0) aM] H := hP
  have hD : kd A [X5W g oM rM (upd vM 21 0) aM] := hD
  refine lv_iload_n hx hb dX5_weightOf_5 rfl (lv_at hl 1 rfl) ?_
  refine kR_S (As := [.int p0]) (rest := []) C (X5_isWeight_c l g p0) (va_cwS 1 hts (k_gS kw1694 cs_X5_isWeight) rfl rfl rfl pnX5_isWeight ⟨Nat.le_of_ble_eq_true rfl, Nat.le_of_ble_eq_true rfl⟩) hE hS (hP.pick [] rfl) rfl hl.1 rfl rfl dX5_weightOf_6 ⟨Nat.le_of_ble_eq_true rfl, Nat.le_of_ble_eq_true rfl⟩ ?_
  refine lv_if_ne (tgt := 18) hx hb dX5_weightOf_9 (by decide) (fun c1 => ?_) (fun c1 => ?_)
  · have c1 := b2i_ne0 c1
    have z1 := k_isWeight5 c1
    refine lv_aload_n hx hb dX5_weightOf_18 rfl (lv_at hl 0 rfl) ?_
    refine kg_get C kFX5 (k := 0) kw1446 hP (i := 0) (q := 0) rfl rfl (by decide) rfl dX5_weightOf_19 ?_
    refine lv_bipush (v := 14) hx hb dX5_weightOf_22 (by decide) ?_
    refine lv_iload_n hx hb dX5_weightOf_24 rfl (lv_at hl 1 rfl) ?_
    refine lv_iadd hx hb dX5_weightOf_25 ?_
    refine kg_iald C hP (i := 0) (q := 1) rfl rfl (k_off (c := 14) rfl z1 (by omega) (by omega)) dX5_weightOf_26 ?_
    refine lv_istore_n (lv' := [(3, .int ((aM 0) (14 + p0).toNatClampNeg)), (0, .ref oM), (1, .int p0), (2, .int p1)]) hx hb dX5_weightOf_27 rfl hl (by decide) rfl (fun ls hl => ?_)
    refine lv_iload_n hx hb dX5_weightOf_28 rfl (lv_at hl 3 rfl) ?_
    by_cases c2 : p1 = 0
    · refine lv_tableIn (off := 31) (tgt := 60) hx hb dX5_weightOf_29 (by show ¬ (p1).toInt < 0; rw [c2]; decide) (by show ¬ 3 < (p1).toInt; rw [c2]; decide) (by rw [c2]; rfl) (by decide) ?_
      refine lv_iload_n hx hb dX5_weightOf_60 rfl (lv_at hl 2 rfl) ?_
      refine kR_S (As := [.int p0]) (rest := []) C (X5_weight_c l g p0) (va_cwS 1 hts (k_gS kw1632 cs_X5_weight) rfl rfl rfl pnX5_weight ⟨Nat.le_of_ble_eq_true rfl, Nat.le_of_ble_eq_true rfl⟩) hE hS (hP.pick [] rfl) rfl hl.1 rfl rfl dX5_weightOf_61 ⟨Nat.le_of_ble_eq_true rfl, Nat.le_of_ble_eq_true rfl⟩ ?_
      have hF := (show X5_weightOf_f vM aM p0 p1 = ((X5_weight_f p0), upd vM 21 0) from (if_pos c1).trans ((if_pos c2).trans (rfl)))
      exact kM_ret (x := (X5_weight_f p0)) C hP hD hS ⟨by rw [hF], by rw [hF]⟩ dX5_weightOf_64
    by_cases c3 : p1 = 1
    · refine lv_tableIn (off := 36) (tgt := 65) hx hb dX5_weightOf_29 (by show ¬ (p1).toInt < 0; rw [c3]; decide) (by show ¬ 3 < (p1).toInt; rw [c3]; decide) (by rw [c3]; rfl) (by decide) ?_
      refine lv_aload_n hx hb dX5_weightOf_65 rfl (lv_at hl 1 rfl) ?_
      refine lv_iload_n hx hb dX5_weightOf_66 rfl (lv_at hl 2 rfl) ?_
      refine kR_V (As := [.int p0]) (rest := []) C (X5_shortBy_c l g oM rM (upd vM 21 0) aM p0 (by first | assumption | exact ⟨0, by omega, rfl⟩ | exact ⟨1, by omega, rfl⟩ | exact ⟨2, by omega, rfl⟩ | exact ⟨3, by omega, rfl⟩ | exact ⟨4, by omega, rfl⟩)) (cwV 1 hts (k_gV kw1635 ca_X5_shortBy) rfl rfl rfl ⟨rfl, pnX5_shortBy⟩ ⟨Nat.le_of_ble_eq_true rfl, Nat.le_of_ble_eq_true rfl⟩) hE hS (hP.pick [0] rfl) (k_recv C kFX5 hP (i := 0) (q := 0) rfl rfl) rfl hl.1 rfl rfl dX5_weightOf_67 ⟨Nat.le_of_ble_eq_true rfl, Nat.le_of_ble_eq_true rfl⟩ ?_
      have hF := (show X5_weightOf_f vM aM p0 p1 = ((X5_shortBy_f (upd vM 21 0) aM p0), upd vM 21 0) from (if_pos c1).trans ((if_neg c2).trans ((if_pos c3).trans (rfl))))
      exact kM_ret (x := (X5_shortBy_f (upd vM 21 0) aM p0)) C hP hD hS ⟨by rw [hF], by rw [hF]⟩ dX5_weightOf_70
    by_cases c4 : p1 = 2
    · refine lv_tableIn (off := 42) (tgt := 71) hx hb dX5_weightOf_29 (by show ¬ (p1).toInt < 0; rw [c4]; decide) (by show ¬ 3 < (p1).toInt; rw [c4]; decide) (by rw [c4]; rfl) (by decide) ?_
      refine lv_iload_n hx hb dX5_weightOf_71 rfl (lv_at hl 0 rfl) ?_
      have hF := (show X5_weightOf_f vM aM p0 p1 = (((aM 0) (14 + p0).toNatClampNeg), upd vM 21 0) from (if_pos c1).trans ((if_neg c2).trans ((if_neg c3).trans ((if_pos c4).trans (rfl)))))
      exact kM_ret (x := ((aM 0) (14 + p0).toNatClampNeg)) C hP hD hS ⟨by rw [hF], by rw [hF]⟩ dX5_weightOf_72
    by_cases c5 : p1 = 3
    · refine lv_tableIn (off := 44) (tgt := 73) hx hb dX5_weightOf_29 (by show ¬ (p1).toInt < 0; rw [c5]; decide) (by show ¬ 3 < (p1).toInt; rw [c5]; decide) (by rw [c5]; rfl) (by decide) ?_
      refine lv_iload_n hx hb dX5_weightOf_73 rfl (lv_at hl 0 rfl) ?_
      refine lv_bipush (v := 8) hx hb dX5_weightOf_74 (by decide) ?_
      refine lv_idiv hx hb dX5_weightOf_76 (by decide) ?_
      refine lv_iload_n hx hb dX5_weightOf_77 rfl (lv_at hl 2 rfl) ?_
      refine kR_S (As := [.int p0]) (rest := [.int (((aM 0) (14 + p0).toNatClampNeg) / 8)]) C (X5_weight_c l g p0) (va_cwS 1 hts (k_gS kw1632 cs_X5_weight) rfl rfl rfl pnX5_weight ⟨Nat.le_of_ble_eq_true rfl, Nat.le_of_ble_eq_true rfl⟩) hE hS (hP.pick [] rfl) rfl hl.1 rfl rfl dX5_weightOf_78 ⟨Nat.le_of_ble_eq_true rfl, Nat.le_of_ble_eq_true rfl⟩ ?_
      refine lv_bipush (v := 10) hx hb dX5_weightOf_81 (by decide) ?_
      refine lv_idiv hx hb dX5_weightOf_83 (by decide) ?_
      refine lv_icmp_ge (tgt := 97) hx hb dX5_weightOf_84 (by decide) (fun c6 => ?_) (fun c6 => ?_)
      · refine lv_iconst (v := (-1)) hx hb dX5_weightOf_97 (by decide) ?_
        have hF := (show X5_weightOf_f vM aM p0 p1 = ((-1), upd vM 21 0) from (if_pos c1).trans ((if_neg c2).trans ((if_neg c3).trans ((if_neg c4).trans ((if_pos c5).trans ((if_pos c6).trans (rfl)))))))
        exact kM_ret (x := (-1)) C hP hD hS ⟨by rw [hF], by rw [hF]⟩ dX5_weightOf_98
      refine lv_bipush (v := 8) hx hb dX5_weightOf_87 (by decide) ?_
      refine lv_iload_n hx hb dX5_weightOf_89 rfl (lv_at hl 0 rfl) ?_
      refine lv_bipush (v := 8) hx hb dX5_weightOf_90 (by decide) ?_
      refine lv_irem hx hb dX5_weightOf_92 (by decide) ?_
      refine lv_isub hx hb dX5_weightOf_93 ?_
      refine lv_goto (tgt := 98) hx hb dX5_weightOf_94 (by decide) ?_
      have hF := (show X5_weightOf_f vM aM p0 p1 = ((8 - (((aM 0) (14 + p0).toNatClampNeg) - ((aM 0) (14 + p0).toNatClampNeg) / 8 * 8)), upd vM 21 0) from (if_pos c1).trans ((if_neg c2).trans ((if_neg c3).trans ((if_neg c4).trans ((if_pos c5).trans ((if_neg c6).trans (rfl)))))))
      exact kM_ret (x := (8 - (((aM 0) (14 + p0).toNatClampNeg) - ((aM 0) (14 + p0).toNatClampNeg) / 8 * 8))) C hP hD hS ⟨by rw [hF], by rw [hF]⟩ dX5_weightOf_98
    refine lv_tableOut (tgt := 99) hx hb dX5_weightOf_29 (by have n0 := lv_neT (a := 0) c2 (by decide); have n1 := lv_neT (a := 1) c3 (by decide); have n2 := lv_neT (a := 2) c4 (by decide); have n3 := lv_neT (a := 3) c5 (by decide); omega) (by decide) ?_
    refine lv_aload_n hx hb dX5_weightOf_99 rfl (lv_at hl 1 rfl) ?_
    refine lv_iconst (v := 2) hx hb dX5_weightOf_100 (by decide) ?_
    refine kM_V (As := [.int 2]) (rest := []) (wr := []) C (X5_raises_c l g oM rM (upd vM 21 0) aM 2) (cwV 1 hts (k_gV kw1540 ca_X5_raises) rfl rfl rfl ⟨rfl, pnX5_raises⟩ ⟨Nat.le_of_ble_eq_true rfl, Nat.le_of_ble_eq_true rfl⟩) hE hS hA hP hD [0] [] rfl rfl ⟨rfl, rfl, by decide⟩ (k_recv C kFX5 hP (i := 0) (q := 0) rfl rfl) rfl hl.1 rfl rfl dX5_weightOf_101 ⟨Nat.le_of_ble_eq_true rfl, Nat.le_of_ble_eq_true rfl⟩ (fun r7 u7 H locs hp7 hP hD hS => ?_)
    obtain ⟨er7, eu7⟩ := hp7
    have er7 : r7 = 0 := er7
    have eu7 : u7 = [X5W g oM rM (upd (upd vM 21 0) 21 2) aM] := eu7
    subst er7 eu7
    have hP : kp g [X5W g oM rM (upd (upd vM 21 0) 21 2) aM] H := hP
    have hD : kd A [X5W g oM rM (upd (upd vM 21 0) 21 2) aM] := hD
    have hF := (show X5_weightOf_f vM aM p0 p1 = (0, upd (upd vM 21 0) 21 2) from (if_pos c1).trans ((if_neg c2).trans ((if_neg c3).trans ((if_neg c4).trans ((if_neg c5).trans (rfl))))))
    exact kM_ret (x := 0) C hP hD hS ⟨by rw [hF], by rw [hF]⟩ dX5_weightOf_104
  have c1 := b2i_eq0 c1
  refine lv_aload_n hx hb dX5_weightOf_12 rfl (lv_at hl 0 rfl) ?_
  refine lv_iconst (v := 1) hx hb dX5_weightOf_13 (by decide) ?_
  refine kM_V (As := [.int 1]) (rest := []) (wr := []) C (X5_raises_c l g oM rM (upd vM 21 0) aM 1) (cwV 1 hts (k_gV kw1540 ca_X5_raises) rfl rfl rfl ⟨rfl, pnX5_raises⟩ ⟨Nat.le_of_ble_eq_true rfl, Nat.le_of_ble_eq_true rfl⟩) hE hS hA hP hD [0] [] rfl rfl ⟨rfl, rfl, by decide⟩ (k_recv C kFX5 hP (i := 0) (q := 0) rfl rfl) rfl hl.1 rfl rfl dX5_weightOf_14 ⟨Nat.le_of_ble_eq_true rfl, Nat.le_of_ble_eq_true rfl⟩ (fun r8 u8 H locs hp8 hP hD hS => ?_)
  obtain ⟨er8, eu8⟩ := hp8
  have er8 : r8 = 0 := er8
  have eu8 : u8 = [X5W g oM rM (upd (upd vM 21 0) 21 1) aM] := eu8
  subst er8 eu8
  have hP : kp g [X5W g oM rM (upd (upd vM 21 0) 21 1) aM] H := hP
  have hD : kd A [X5W g oM rM (upd (upd vM 21 0) 21 1) aM] := hD
  have hF := (show X5_weightOf_f vM aM p0 p1 = (0, upd (upd vM 21 0) 21 1) from (if_neg c1).trans (rfl))
  exact kM_ret (x := 0) C hP hD hS ⟨by rw [hF], by rw [hF]⟩ dX5_weightOf_17

abbrev wX5_told : List Cond := Cond.code yX5_told cX5_told 2 (some .int) :: kW
def X5_told_f (vM : Nat → Int32) (aM : Nat → Nat → Int32) (p0 : Int32) : Int32 × (Nat → Int32) :=
  if (X5_isBag_f (upd vM 21 0) aM p0) = true then ((X5_scales_f (upd vM 21 0) aM (X5_load_f (upd vM 21 0) aM p0)).1, (X5_scales_f (upd vM 21 0) aM (X5_load_f (upd vM 21 0) aM p0)).2)
  else (0, upd (upd vM 21 0) 21 1)
set_option maxHeartbeats 4000000 in
set_option maxRecDepth 100000 in
theorem X5_told_c (l : Launch) (g : kG) (oM : Nat) (rM : Nat → Nat) (vM : Nat → Int32) (aM : Nat → Nat → Int32) (p0 : Int32) (hB5 : (∃ n : Nat, n ≤ 6 ∧ aM 0 5 = nI n)) : kM l yX5_told wX5_told 3 66 0 0 g [.ref oM, .int p0] [X5W g oM rM vM aM] (fun x u => x = (X5_told_f vM aM p0).1 ∧ u = [X5W g oM rM ((X5_told_f vM aM p0).2) aM]) := by
  refine kM_of (cc := cX5_told) (nL := 2) (ret := (some .int)) (lv := [(0, .ref oM), (1, .int p0)]) (by decide) rfl (Nat.le_of_ble_eq_true rfl) rfl ?_
  intro p e s m args below meth c ls A C hP hD hE hA hS hl
  have C : kC p c cX5_told s m args meth RX5 g 2 (some .int) := C
  have hx := C.1.1
  have hb := C.1.2.1
  have hts := C.1.2.2.2.2
  refine lv_aload_n hx hb dX5_told_0 rfl (lv_at hl 0 rfl) ?_
  refine lv_iconst (v := 0) hx hb dX5_told_1 (by decide) ?_
  refine kg_put C kFX5 (k := 21) kw1467 hP hD hS (i := 0) (q := 0) rfl rfl (by decide) rfl rfl rfl (Nat.le_of_ble_eq_true rfl) X5s_21 rfl dX5_told_2 (fun H locs hP hD hS => ?_)
  have hP : kp g [X5W g oM rM (upd vM 21 0) aM] H := hP
  have hD : kd A [X5W g oM rM (upd vM 21 0) aM] := hD
  refine lv_aload_n hx hb dX5_told_5 rfl (lv_at hl 0 rfl) ?_
  refine lv_iload_n hx hb dX5_told_6 rfl (lv_at hl 1 rfl) ?_
  refine kR_V (As := [.int p0]) (rest := []) C (X5_isBag_c l g oM rM (upd vM 21 0) aM p0) (cwV 1 hts (k_gV kw1560 ca_X5_isBag) rfl rfl rfl ⟨rfl, pnX5_isBag⟩ ⟨Nat.le_of_ble_eq_true rfl, Nat.le_of_ble_eq_true rfl⟩) hE hS (hP.pick [0] rfl) (k_recv C kFX5 hP (i := 0) (q := 0) rfl rfl) rfl hl.1 rfl rfl dX5_told_7 ⟨Nat.le_of_ble_eq_true rfl, Nat.le_of_ble_eq_true rfl⟩ ?_
  refine lv_if_eq (tgt := 25) hx hb dX5_told_10 (by decide) (fun c1 => ?_) (fun c1 => ?_)
  · have c1 := b2i_eq0 c1
    refine lv_aload_n hx hb dX5_told_25 rfl (lv_at hl 0 rfl) ?_
    refine lv_iconst (v := 1) hx hb dX5_told_26 (by decide) ?_
    refine kM_V (As := [.int 1]) (rest := []) (wr := []) C (X5_raises_c l g oM rM (upd vM 21 0) aM 1) (cwV 1 hts (k_gV kw1540 ca_X5_raises) rfl rfl rfl ⟨rfl, pnX5_raises⟩ ⟨Nat.le_of_ble_eq_true rfl, Nat.le_of_ble_eq_true rfl⟩) hE hS hA hP hD [0] [] rfl rfl ⟨rfl, rfl, by decide⟩ (k_recv C kFX5 hP (i := 0) (q := 0) rfl rfl) rfl hl.1 rfl rfl dX5_told_27 ⟨Nat.le_of_ble_eq_true rfl, Nat.le_of_ble_eq_true rfl⟩ (fun r2 u2 H locs hp2 hP hD hS => ?_)
    obtain ⟨er2, eu2⟩ := hp2
    have er2 : r2 = 0 := er2
    have eu2 : u2 = [X5W g oM rM (upd (upd vM 21 0) 21 1) aM] := eu2
    subst er2 eu2
    have hP : kp g [X5W g oM rM (upd (upd vM 21 0) 21 1) aM] H := hP
    have hD : kd A [X5W g oM rM (upd (upd vM 21 0) 21 1) aM] := hD
    have hF := (show X5_told_f vM aM p0 = (0, upd (upd vM 21 0) 21 1) from (if_neg c1).trans (rfl))
    exact kM_ret (x := 0) C hP hD hS ⟨by rw [hF], by rw [hF]⟩ dX5_told_30
  have c1 := b2i_ne0 c1
  have z1 := k_isBag c1 hB5
  refine lv_aload_n hx hb dX5_told_13 rfl (lv_at hl 0 rfl) ?_
  refine lv_aload_n hx hb dX5_told_14 rfl (lv_at hl 0 rfl) ?_
  refine lv_iload_n hx hb dX5_told_15 rfl (lv_at hl 1 rfl) ?_
  refine kR_V (As := [.int p0]) (rest := [.ref oM]) C (X5_load_c l g oM rM (upd vM 21 0) aM p0 (by first | assumption | exact hB5 | exact ⟨0, by omega, rfl⟩ | exact ⟨1, by omega, rfl⟩ | exact ⟨2, by omega, rfl⟩ | exact ⟨3, by omega, rfl⟩ | exact ⟨4, by omega, rfl⟩)) (cwV 1 hts (k_gV kw1624 ca_X5_load) rfl rfl rfl ⟨rfl, pnX5_load⟩ ⟨Nat.le_of_ble_eq_true rfl, Nat.le_of_ble_eq_true rfl⟩) hE hS (hP.pick [0] rfl) (k_recv C kFX5 hP (i := 0) (q := 0) rfl rfl) rfl hl.1 rfl rfl dX5_told_16 ⟨Nat.le_of_ble_eq_true rfl, Nat.le_of_ble_eq_true rfl⟩ ?_
  refine kM_V (As := [.int (X5_load_f (upd vM 21 0) aM p0)]) (rest := []) (wr := []) C (X5_scales_c l g oM rM (upd vM 21 0) aM (X5_load_f (upd vM 21 0) aM p0)) (cwV 1 hts (k_gV kw1628 ca_X5_scales) rfl rfl rfl ⟨rfl, pnX5_scales⟩ ⟨Nat.le_of_ble_eq_true rfl, Nat.le_of_ble_eq_true rfl⟩) hE hS hA hP hD [0] [] rfl rfl ⟨rfl, rfl, by decide⟩ (k_recv C kFX5 hP (i := 0) (q := 0) rfl rfl) rfl hl.1 rfl rfl dX5_told_19 ⟨Nat.le_of_ble_eq_true rfl, Nat.le_of_ble_eq_true rfl⟩ (fun r3 u3 H locs hp3 hP hD hS => ?_)
  obtain ⟨rfl, rfl⟩ := hp3
  have hP : kp g [X5W g oM rM ((X5_scales_f (upd vM 21 0) aM (X5_load_f (upd vM 21 0) aM p0)).2) aM] H := hP
  have hD : kd A [X5W g oM rM ((X5_scales_f (upd vM 21 0) aM (X5_load_f (upd vM 21 0) aM p0)).2) aM] := hD
  refine lv_goto (tgt := 30) hx hb dX5_told_22 (by decide) ?_
  have hF := (show X5_told_f vM aM p0 = ((X5_scales_f (upd vM 21 0) aM (X5_load_f (upd vM 21 0) aM p0)).1, (X5_scales_f (upd vM 21 0) aM (X5_load_f (upd vM 21 0) aM p0)).2) from (if_pos c1).trans (rfl))
  exact kM_ret (x := (X5_scales_f (upd vM 21 0) aM (X5_load_f (upd vM 21 0) aM p0)).1) C hP hD hS ⟨by rw [hF], by rw [hF]⟩ dX5_told_30

theorem pnX5_told : yX5_told.cls ≠ "java/lang/invoke/MethodHandle" ∧ yX5_told.cls ≠ "java/lang/invoke/VarHandle" ∧ (parseMethodDescriptor yX5_told.desc).map (fun d => d.parameters.length) = some 1 := by decide +kernel
theorem ca_X5_told : kCal yX5_told (Cond.code yX5_told cX5_told 2 (some .int)) := ⟨k_w 8 176 rfl rfl, k_w 8 177 rfl rfl, k_w 2 10 rfl rfl, k_w 8 178 rfl rfl⟩

abbrev wX5_toldAgain : List Cond := Cond.code yX5_toldAgain cX5_toldAgain 2 (some .int) :: kW
def X5_toldAgain_f (vM : Nat → Int32) (aM : Nat → Nat → Int32) (p0 : Int32) : Int32 × (Nat → Int32) :=
  ((X5_told_f vM aM p0).1, (X5_told_f vM aM p0).2)
set_option maxHeartbeats 4000000 in
set_option maxRecDepth 100000 in
theorem X5_toldAgain_c (l : Launch) (g : kG) (oM : Nat) (rM : Nat → Nat) (vM : Nat → Int32) (aM : Nat → Nat → Int32) (p0 : Int32) (hB5 : (∃ n : Nat, n ≤ 6 ∧ aM 0 5 = nI n)) : kM l yX5_toldAgain wX5_toldAgain 4 87 0 0 g [.ref oM, .int p0] [X5W g oM rM vM aM] (fun x u => x = (X5_toldAgain_f vM aM p0).1 ∧ u = [X5W g oM rM ((X5_toldAgain_f vM aM p0).2) aM]) := by
  refine kM_of (cc := cX5_toldAgain) (nL := 2) (ret := (some .int)) (lv := [(0, .ref oM), (1, .int p0)]) (by decide) rfl (Nat.le_of_ble_eq_true rfl) rfl ?_
  intro p e s m args below meth c ls A C hP hD hE hA hS hl
  have C : kC p c cX5_toldAgain s m args meth RX5 g 2 (some .int) := C
  have hx := C.1.1
  have hb := C.1.2.1
  have hts := C.1.2.2.2.2
  refine lv_aload_n hx hb dX5_toldAgain_0 rfl (lv_at hl 0 rfl) ?_
  refine lv_iload_n hx hb dX5_toldAgain_1 rfl (lv_at hl 1 rfl) ?_
  refine kM_V (As := [.int p0]) (rest := []) (wr := []) C (X5_told_c l g oM rM vM aM p0 (by first | assumption | exact hB5 | exact ⟨0, by omega, rfl⟩ | exact ⟨1, by omega, rfl⟩ | exact ⟨2, by omega, rfl⟩ | exact ⟨3, by omega, rfl⟩ | exact ⟨4, by omega, rfl⟩)) (cwV 1 hts (k_gV kw1729 ca_X5_told) rfl rfl rfl ⟨rfl, pnX5_told⟩ ⟨Nat.le_of_ble_eq_true rfl, Nat.le_of_ble_eq_true rfl⟩) hE hS hA hP hD [0] [] rfl rfl ⟨rfl, rfl, by decide⟩ (k_recv C kFX5 hP (i := 0) (q := 0) rfl rfl) rfl hl.1 rfl rfl dX5_toldAgain_2 ⟨Nat.le_of_ble_eq_true rfl, Nat.le_of_ble_eq_true rfl⟩ (fun r1 u1 H locs hp1 hP hD hS => ?_)
  obtain ⟨rfl, rfl⟩ := hp1
  have hP : kp g [X5W g oM rM ((X5_told_f vM aM p0).2) aM] H := hP
  have hD : kd A [X5W g oM rM ((X5_told_f vM aM p0).2) aM] := hD
  have hF := (show X5_toldAgain_f vM aM p0 = ((X5_told_f vM aM p0).1, (X5_told_f vM aM p0).2) from rfl)
  exact kM_ret (x := (X5_told_f vM aM p0).1) C hP hD hS ⟨by rw [hF], by rw [hF]⟩ dX5_toldAgain_5

abbrev wX5_onPan : List Cond := Cond.code yX5_onPan cX5_onPan 3 (some .int) :: kW
def X5_onPan_f (vM : Nat → Int32) (aM : Nat → Nat → Int32) (p0 : Int32) : Int32 × (Nat → Int32) :=
  if (X5_isBag_f (upd vM 21 0) aM p0) = true then ((((X5_scales_f (upd vM 21 0) aM (X5_load_f (upd vM 21 0) aM p0)).2) 19), (X5_scales_f (upd vM 21 0) aM (X5_load_f (upd vM 21 0) aM p0)).2)
  else (0, upd (upd vM 21 0) 21 1)
set_option maxHeartbeats 4000000 in
set_option maxRecDepth 100000 in
theorem X5_onPan_c (l : Launch) (g : kG) (oM : Nat) (rM : Nat → Nat) (vM : Nat → Int32) (aM : Nat → Nat → Int32) (p0 : Int32) (hB5 : (∃ n : Nat, n ≤ 6 ∧ aM 0 5 = nI n)) : kM l yX5_onPan wX5_onPan 3 66 0 0 g [.ref oM, .int p0] [X5W g oM rM vM aM] (fun x u => x = (X5_onPan_f vM aM p0).1 ∧ u = [X5W g oM rM ((X5_onPan_f vM aM p0).2) aM]) := by
  refine kM_of (cc := cX5_onPan) (nL := 3) (ret := (some .int)) (lv := [(0, .ref oM), (1, .int p0)]) (by decide) rfl (Nat.le_of_ble_eq_true rfl) rfl ?_
  intro p e s m args below meth c ls A C hP hD hE hA hS hl
  have C : kC p c cX5_onPan s m args meth RX5 g 3 (some .int) := C
  have hx := C.1.1
  have hb := C.1.2.1
  have hts := C.1.2.2.2.2
  refine lv_aload_n hx hb dX5_onPan_0 rfl (lv_at hl 0 rfl) ?_
  refine lv_iconst (v := 0) hx hb dX5_onPan_1 (by decide) ?_
  refine kg_put C kFX5 (k := 21) kw1467 hP hD hS (i := 0) (q := 0) rfl rfl (by decide) rfl rfl rfl (Nat.le_of_ble_eq_true rfl) X5s_21 rfl dX5_onPan_2 (fun H locs hP hD hS => ?_)
  have hP : kp g [X5W g oM rM (upd vM 21 0) aM] H := hP
  have hD : kd A [X5W g oM rM (upd vM 21 0) aM] := hD
  refine lv_aload_n hx hb dX5_onPan_5 rfl (lv_at hl 0 rfl) ?_
  refine lv_iload_n hx hb dX5_onPan_6 rfl (lv_at hl 1 rfl) ?_
  refine kR_V (As := [.int p0]) (rest := []) C (X5_isBag_c l g oM rM (upd vM 21 0) aM p0) (cwV 1 hts (k_gV kw1560 ca_X5_isBag) rfl rfl rfl ⟨rfl, pnX5_isBag⟩ ⟨Nat.le_of_ble_eq_true rfl, Nat.le_of_ble_eq_true rfl⟩) hE hS (hP.pick [0] rfl) (k_recv C kFX5 hP (i := 0) (q := 0) rfl rfl) rfl hl.1 rfl rfl dX5_onPan_7 ⟨Nat.le_of_ble_eq_true rfl, Nat.le_of_ble_eq_true rfl⟩ ?_
  refine lv_if_ne (tgt := 19) hx hb dX5_onPan_10 (by decide) (fun c1 => ?_) (fun c1 => ?_)
  · have c1 := b2i_ne0 c1
    have z1 := k_isBag c1 hB5
    refine lv_aload_n hx hb dX5_onPan_19 rfl (lv_at hl 0 rfl) ?_
    refine lv_aload_n hx hb dX5_onPan_20 rfl (lv_at hl 0 rfl) ?_
    refine lv_iload_n hx hb dX5_onPan_21 rfl (lv_at hl 1 rfl) ?_
    refine kR_V (As := [.int p0]) (rest := [.ref oM]) C (X5_load_c l g oM rM (upd vM 21 0) aM p0 (by first | assumption | exact hB5 | exact ⟨0, by omega, rfl⟩ | exact ⟨1, by omega, rfl⟩ | exact ⟨2, by omega, rfl⟩ | exact ⟨3, by omega, rfl⟩ | exact ⟨4, by omega, rfl⟩)) (cwV 1 hts (k_gV kw1624 ca_X5_load) rfl rfl rfl ⟨rfl, pnX5_load⟩ ⟨Nat.le_of_ble_eq_true rfl, Nat.le_of_ble_eq_true rfl⟩) hE hS (hP.pick [0] rfl) (k_recv C kFX5 hP (i := 0) (q := 0) rfl rfl) rfl hl.1 rfl rfl dX5_onPan_22 ⟨Nat.le_of_ble_eq_true rfl, Nat.le_of_ble_eq_true rfl⟩ ?_
    refine kM_V (As := [.int (X5_load_f (upd vM 21 0) aM p0)]) (rest := []) (wr := []) C (X5_scales_c l g oM rM (upd vM 21 0) aM (X5_load_f (upd vM 21 0) aM p0)) (cwV 1 hts (k_gV kw1628 ca_X5_scales) rfl rfl rfl ⟨rfl, pnX5_scales⟩ ⟨Nat.le_of_ble_eq_true rfl, Nat.le_of_ble_eq_true rfl⟩) hE hS hA hP hD [0] [] rfl rfl ⟨rfl, rfl, by decide⟩ (k_recv C kFX5 hP (i := 0) (q := 0) rfl rfl) rfl hl.1 rfl rfl dX5_onPan_25 ⟨Nat.le_of_ble_eq_true rfl, Nat.le_of_ble_eq_true rfl⟩ (fun r2 u2 H locs hp2 hP hD hS => ?_)
    obtain ⟨rfl, rfl⟩ := hp2
    have hP : kp g [X5W g oM rM ((X5_scales_f (upd vM 21 0) aM (X5_load_f (upd vM 21 0) aM p0)).2) aM] H := hP
    have hD : kd A [X5W g oM rM ((X5_scales_f (upd vM 21 0) aM (X5_load_f (upd vM 21 0) aM p0)).2) aM] := hD
    refine lv_istore_n (lv' := [(2, .int ((X5_scales_f (upd vM 21 0) aM (X5_load_f (upd vM 21 0) aM p0)).1)), (0, .ref oM), (1, .int p0)]) hx hb dX5_onPan_28 rfl hl (by decide) rfl (fun ls hl => ?_)
    refine lv_aload_n hx hb dX5_onPan_29 rfl (lv_at hl 1 rfl) ?_
    refine kg_get C kFX5 (k := 19) kw1465 hP (i := 0) (q := 0) rfl rfl (by decide) rfl dX5_onPan_30 ?_
    have hF := (show X5_onPan_f vM aM p0 = ((((X5_scales_f (upd vM 21 0) aM (X5_load_f (upd vM 21 0) aM p0)).2) 19), (X5_scales_f (upd vM 21 0) aM (X5_load_f (upd vM 21 0) aM p0)).2) from (if_pos c1).trans (rfl))
    exact kM_ret (x := (((X5_scales_f (upd vM 21 0) aM (X5_load_f (upd vM 21 0) aM p0)).2) 19)) C hP hD hS ⟨by rw [hF], by rw [hF]⟩ dX5_onPan_33
  have c1 := b2i_eq0 c1
  refine lv_aload_n hx hb dX5_onPan_13 rfl (lv_at hl 0 rfl) ?_
  refine lv_iconst (v := 1) hx hb dX5_onPan_14 (by decide) ?_
  refine kM_V (As := [.int 1]) (rest := []) (wr := []) C (X5_raises_c l g oM rM (upd vM 21 0) aM 1) (cwV 1 hts (k_gV kw1540 ca_X5_raises) rfl rfl rfl ⟨rfl, pnX5_raises⟩ ⟨Nat.le_of_ble_eq_true rfl, Nat.le_of_ble_eq_true rfl⟩) hE hS hA hP hD [0] [] rfl rfl ⟨rfl, rfl, by decide⟩ (k_recv C kFX5 hP (i := 0) (q := 0) rfl rfl) rfl hl.1 rfl rfl dX5_onPan_15 ⟨Nat.le_of_ble_eq_true rfl, Nat.le_of_ble_eq_true rfl⟩ (fun r3 u3 H locs hp3 hP hD hS => ?_)
  obtain ⟨er3, eu3⟩ := hp3
  have er3 : r3 = 0 := er3
  have eu3 : u3 = [X5W g oM rM (upd (upd vM 21 0) 21 1) aM] := eu3
  subst er3 eu3
  have hP : kp g [X5W g oM rM (upd (upd vM 21 0) 21 1) aM] H := hP
  have hD : kd A [X5W g oM rM (upd (upd vM 21 0) 21 1) aM] := hD
  have hF := (show X5_onPan_f vM aM p0 = (0, upd (upd vM 21 0) 21 1) from (if_neg c1).trans (rfl))
  exact kM_ret (x := 0) C hP hD hS ⟨by rw [hF], by rw [hF]⟩ dX5_onPan_18

abbrev wX5_rest : List Cond := Cond.code yX5_rest cX5_rest 3 (some .int) :: kW
def X5_rest_f (vM : Nat → Int32) (aM : Nat → Nat → Int32) (p0 : Int32) : Int32 × (Nat → Int32) :=
  if (X5_isBag_f (upd vM 21 0) aM p0) = true then (((X5_load_f ((X5_scales_f (upd vM 21 0) aM (X5_load_f (upd vM 21 0) aM p0)).2) aM p0) - (((X5_scales_f (upd vM 21 0) aM (X5_load_f (upd vM 21 0) aM p0)).2) 20)), (X5_scales_f (upd vM 21 0) aM (X5_load_f (upd vM 21 0) aM p0)).2)
  else (0, upd (upd vM 21 0) 21 1)
set_option maxHeartbeats 4000000 in
set_option maxRecDepth 100000 in
theorem X5_rest_c (l : Launch) (g : kG) (oM : Nat) (rM : Nat → Nat) (vM : Nat → Int32) (aM : Nat → Nat → Int32) (p0 : Int32) (hB5 : (∃ n : Nat, n ≤ 6 ∧ aM 0 5 = nI n)) : kM l yX5_rest wX5_rest 3 66 0 0 g [.ref oM, .int p0] [X5W g oM rM vM aM] (fun x u => x = (X5_rest_f vM aM p0).1 ∧ u = [X5W g oM rM ((X5_rest_f vM aM p0).2) aM]) := by
  refine kM_of (cc := cX5_rest) (nL := 3) (ret := (some .int)) (lv := [(0, .ref oM), (1, .int p0)]) (by decide) rfl (Nat.le_of_ble_eq_true rfl) rfl ?_
  intro p e s m args below meth c ls A C hP hD hE hA hS hl
  have C : kC p c cX5_rest s m args meth RX5 g 3 (some .int) := C
  have hx := C.1.1
  have hb := C.1.2.1
  have hts := C.1.2.2.2.2
  refine lv_aload_n hx hb dX5_rest_0 rfl (lv_at hl 0 rfl) ?_
  refine lv_iconst (v := 0) hx hb dX5_rest_1 (by decide) ?_
  refine kg_put C kFX5 (k := 21) kw1467 hP hD hS (i := 0) (q := 0) rfl rfl (by decide) rfl rfl rfl (Nat.le_of_ble_eq_true rfl) X5s_21 rfl dX5_rest_2 (fun H locs hP hD hS => ?_)
  have hP : kp g [X5W g oM rM (upd vM 21 0) aM] H := hP
  have hD : kd A [X5W g oM rM (upd vM 21 0) aM] := hD
  refine lv_aload_n hx hb dX5_rest_5 rfl (lv_at hl 0 rfl) ?_
  refine lv_iload_n hx hb dX5_rest_6 rfl (lv_at hl 1 rfl) ?_
  refine kR_V (As := [.int p0]) (rest := []) C (X5_isBag_c l g oM rM (upd vM 21 0) aM p0) (cwV 1 hts (k_gV kw1560 ca_X5_isBag) rfl rfl rfl ⟨rfl, pnX5_isBag⟩ ⟨Nat.le_of_ble_eq_true rfl, Nat.le_of_ble_eq_true rfl⟩) hE hS (hP.pick [0] rfl) (k_recv C kFX5 hP (i := 0) (q := 0) rfl rfl) rfl hl.1 rfl rfl dX5_rest_7 ⟨Nat.le_of_ble_eq_true rfl, Nat.le_of_ble_eq_true rfl⟩ ?_
  refine lv_if_ne (tgt := 19) hx hb dX5_rest_10 (by decide) (fun c1 => ?_) (fun c1 => ?_)
  · have c1 := b2i_ne0 c1
    have z1 := k_isBag c1 hB5
    refine lv_aload_n hx hb dX5_rest_19 rfl (lv_at hl 0 rfl) ?_
    refine lv_aload_n hx hb dX5_rest_20 rfl (lv_at hl 0 rfl) ?_
    refine lv_iload_n hx hb dX5_rest_21 rfl (lv_at hl 1 rfl) ?_
    refine kR_V (As := [.int p0]) (rest := [.ref oM]) C (X5_load_c l g oM rM (upd vM 21 0) aM p0 (by first | assumption | exact hB5 | exact ⟨0, by omega, rfl⟩ | exact ⟨1, by omega, rfl⟩ | exact ⟨2, by omega, rfl⟩ | exact ⟨3, by omega, rfl⟩ | exact ⟨4, by omega, rfl⟩)) (cwV 1 hts (k_gV kw1624 ca_X5_load) rfl rfl rfl ⟨rfl, pnX5_load⟩ ⟨Nat.le_of_ble_eq_true rfl, Nat.le_of_ble_eq_true rfl⟩) hE hS (hP.pick [0] rfl) (k_recv C kFX5 hP (i := 0) (q := 0) rfl rfl) rfl hl.1 rfl rfl dX5_rest_22 ⟨Nat.le_of_ble_eq_true rfl, Nat.le_of_ble_eq_true rfl⟩ ?_
    refine kM_V (As := [.int (X5_load_f (upd vM 21 0) aM p0)]) (rest := []) (wr := []) C (X5_scales_c l g oM rM (upd vM 21 0) aM (X5_load_f (upd vM 21 0) aM p0)) (cwV 1 hts (k_gV kw1628 ca_X5_scales) rfl rfl rfl ⟨rfl, pnX5_scales⟩ ⟨Nat.le_of_ble_eq_true rfl, Nat.le_of_ble_eq_true rfl⟩) hE hS hA hP hD [0] [] rfl rfl ⟨rfl, rfl, by decide⟩ (k_recv C kFX5 hP (i := 0) (q := 0) rfl rfl) rfl hl.1 rfl rfl dX5_rest_25 ⟨Nat.le_of_ble_eq_true rfl, Nat.le_of_ble_eq_true rfl⟩ (fun r2 u2 H locs hp2 hP hD hS => ?_)
    obtain ⟨rfl, rfl⟩ := hp2
    have hP : kp g [X5W g oM rM ((X5_scales_f (upd vM 21 0) aM (X5_load_f (upd vM 21 0) aM p0)).2) aM] H := hP
    have hD : kd A [X5W g oM rM ((X5_scales_f (upd vM 21 0) aM (X5_load_f (upd vM 21 0) aM p0)).2) aM] := hD
    refine lv_istore_n (lv' := [(2, .int ((X5_scales_f (upd vM 21 0) aM (X5_load_f (upd vM 21 0) aM p0)).1)), (0, .ref oM), (1, .int p0)]) hx hb dX5_rest_28 rfl hl (by decide) rfl (fun ls hl => ?_)
    refine lv_aload_n hx hb dX5_rest_29 rfl (lv_at hl 1 rfl) ?_
    refine lv_iload_n hx hb dX5_rest_30 rfl (lv_at hl 2 rfl) ?_
    refine kR_V (As := [.int p0]) (rest := []) C (X5_load_c l g oM rM ((X5_scales_f (upd vM 21 0) aM (X5_load_f (upd vM 21 0) aM p0)).2) aM p0 (by first | assumption | exact hB5 | exact ⟨0, by omega, rfl⟩ | exact ⟨1, by omega, rfl⟩ | exact ⟨2, by omega, rfl⟩ | exact ⟨3, by omega, rfl⟩ | exact ⟨4, by omega, rfl⟩)) (cwV 1 hts (k_gV kw1624 ca_X5_load) rfl rfl rfl ⟨rfl, pnX5_load⟩ ⟨Nat.le_of_ble_eq_true rfl, Nat.le_of_ble_eq_true rfl⟩) hE hS (hP.pick [0] rfl) (k_recv C kFX5 hP (i := 0) (q := 0) rfl rfl) rfl hl.1 rfl rfl dX5_rest_31 ⟨Nat.le_of_ble_eq_true rfl, Nat.le_of_ble_eq_true rfl⟩ ?_
    refine lv_aload_n hx hb dX5_rest_34 rfl (lv_at hl 1 rfl) ?_
    refine kg_get C kFX5 (k := 20) kw1466 hP (i := 0) (q := 0) rfl rfl (by decide) rfl dX5_rest_35 ?_
    refine lv_isub hx hb dX5_rest_38 ?_
    have hF := (show X5_rest_f vM aM p0 = (((X5_load_f ((X5_scales_f (upd vM 21 0) aM (X5_load_f (upd vM 21 0) aM p0)).2) aM p0) - (((X5_scales_f (upd vM 21 0) aM (X5_load_f (upd vM 21 0) aM p0)).2) 20)), (X5_scales_f (upd vM 21 0) aM (X5_load_f (upd vM 21 0) aM p0)).2) from (if_pos c1).trans (rfl))
    exact kM_ret (x := ((X5_load_f ((X5_scales_f (upd vM 21 0) aM (X5_load_f (upd vM 21 0) aM p0)).2) aM p0) - (((X5_scales_f (upd vM 21 0) aM (X5_load_f (upd vM 21 0) aM p0)).2) 20))) C hP hD hS ⟨by rw [hF], by rw [hF]⟩ dX5_rest_39
  have c1 := b2i_eq0 c1
  refine lv_aload_n hx hb dX5_rest_13 rfl (lv_at hl 0 rfl) ?_
  refine lv_iconst (v := 1) hx hb dX5_rest_14 (by decide) ?_
  refine kM_V (As := [.int 1]) (rest := []) (wr := []) C (X5_raises_c l g oM rM (upd vM 21 0) aM 1) (cwV 1 hts (k_gV kw1540 ca_X5_raises) rfl rfl rfl ⟨rfl, pnX5_raises⟩ ⟨Nat.le_of_ble_eq_true rfl, Nat.le_of_ble_eq_true rfl⟩) hE hS hA hP hD [0] [] rfl rfl ⟨rfl, rfl, by decide⟩ (k_recv C kFX5 hP (i := 0) (q := 0) rfl rfl) rfl hl.1 rfl rfl dX5_rest_15 ⟨Nat.le_of_ble_eq_true rfl, Nat.le_of_ble_eq_true rfl⟩ (fun r3 u3 H locs hp3 hP hD hS => ?_)
  obtain ⟨er3, eu3⟩ := hp3
  have er3 : r3 = 0 := er3
  have eu3 : u3 = [X5W g oM rM (upd (upd vM 21 0) 21 1) aM] := eu3
  subst er3 eu3
  have hP : kp g [X5W g oM rM (upd (upd vM 21 0) 21 1) aM] H := hP
  have hD : kd A [X5W g oM rM (upd (upd vM 21 0) 21 1) aM] := hD
  have hF := (show X5_rest_f vM aM p0 = (0, upd (upd vM 21 0) 21 1) from (if_neg c1).trans (rfl))
  exact kM_ret (x := 0) C hP hD hS ⟨by rw [hF], by rw [hF]⟩ dX5_rest_18

abbrev wX5_honest : List Cond := Cond.code yX5_honest cX5_honest 2 (some .int) :: kW
def X5_honest_f (vM : Nat → Int32) (aM : Nat → Nat → Int32) (p0 : Int32) : Int32 × (Nat → Int32) :=
  if (X5_isBag_f (upd vM 21 0) aM p0) = true then ((X5_scales_f (upd vM 21 0) aM ((X5_of_f (upd vM 21 0) aM p0 0) + (X5_of_f (upd vM 21 0) aM p0 3))).1, (X5_scales_f (upd vM 21 0) aM ((X5_of_f (upd vM 21 0) aM p0 0) + (X5_of_f (upd vM 21 0) aM p0 3))).2)
  else (0, upd (upd vM 21 0) 21 1)
set_option maxHeartbeats 4000000 in
set_option maxRecDepth 100000 in
theorem X5_honest_c (l : Launch) (g : kG) (oM : Nat) (rM : Nat → Nat) (vM : Nat → Int32) (aM : Nat → Nat → Int32) (p0 : Int32) (hB5 : (∃ n : Nat, n ≤ 6 ∧ aM 0 5 = nI n)) : kM l yX5_honest wX5_honest 3 66 0 0 g [.ref oM, .int p0] [X5W g oM rM vM aM] (fun x u => x = (X5_honest_f vM aM p0).1 ∧ u = [X5W g oM rM ((X5_honest_f vM aM p0).2) aM]) := by
  refine kM_of (cc := cX5_honest) (nL := 2) (ret := (some .int)) (lv := [(0, .ref oM), (1, .int p0)]) (by decide) rfl (Nat.le_of_ble_eq_true rfl) rfl ?_
  intro p e s m args below meth c ls A C hP hD hE hA hS hl
  have C : kC p c cX5_honest s m args meth RX5 g 2 (some .int) := C
  have hx := C.1.1
  have hb := C.1.2.1
  have hts := C.1.2.2.2.2
  refine lv_aload_n hx hb dX5_honest_0 rfl (lv_at hl 0 rfl) ?_
  refine lv_iconst (v := 0) hx hb dX5_honest_1 (by decide) ?_
  refine kg_put C kFX5 (k := 21) kw1467 hP hD hS (i := 0) (q := 0) rfl rfl (by decide) rfl rfl rfl (Nat.le_of_ble_eq_true rfl) X5s_21 rfl dX5_honest_2 (fun H locs hP hD hS => ?_)
  have hP : kp g [X5W g oM rM (upd vM 21 0) aM] H := hP
  have hD : kd A [X5W g oM rM (upd vM 21 0) aM] := hD
  refine lv_aload_n hx hb dX5_honest_5 rfl (lv_at hl 0 rfl) ?_
  refine lv_iload_n hx hb dX5_honest_6 rfl (lv_at hl 1 rfl) ?_
  refine kR_V (As := [.int p0]) (rest := []) C (X5_isBag_c l g oM rM (upd vM 21 0) aM p0) (cwV 1 hts (k_gV kw1560 ca_X5_isBag) rfl rfl rfl ⟨rfl, pnX5_isBag⟩ ⟨Nat.le_of_ble_eq_true rfl, Nat.le_of_ble_eq_true rfl⟩) hE hS (hP.pick [0] rfl) (k_recv C kFX5 hP (i := 0) (q := 0) rfl rfl) rfl hl.1 rfl rfl dX5_honest_7 ⟨Nat.le_of_ble_eq_true rfl, Nat.le_of_ble_eq_true rfl⟩ ?_
  refine lv_if_eq (tgt := 33) hx hb dX5_honest_10 (by decide) (fun c1 => ?_) (fun c1 => ?_)
  · have c1 := b2i_eq0 c1
    refine lv_aload_n hx hb dX5_honest_33 rfl (lv_at hl 0 rfl) ?_
    refine lv_iconst (v := 1) hx hb dX5_honest_34 (by decide) ?_
    refine kM_V (As := [.int 1]) (rest := []) (wr := []) C (X5_raises_c l g oM rM (upd vM 21 0) aM 1) (cwV 1 hts (k_gV kw1540 ca_X5_raises) rfl rfl rfl ⟨rfl, pnX5_raises⟩ ⟨Nat.le_of_ble_eq_true rfl, Nat.le_of_ble_eq_true rfl⟩) hE hS hA hP hD [0] [] rfl rfl ⟨rfl, rfl, by decide⟩ (k_recv C kFX5 hP (i := 0) (q := 0) rfl rfl) rfl hl.1 rfl rfl dX5_honest_35 ⟨Nat.le_of_ble_eq_true rfl, Nat.le_of_ble_eq_true rfl⟩ (fun r2 u2 H locs hp2 hP hD hS => ?_)
    obtain ⟨er2, eu2⟩ := hp2
    have er2 : r2 = 0 := er2
    have eu2 : u2 = [X5W g oM rM (upd (upd vM 21 0) 21 1) aM] := eu2
    subst er2 eu2
    have hP : kp g [X5W g oM rM (upd (upd vM 21 0) 21 1) aM] H := hP
    have hD : kd A [X5W g oM rM (upd (upd vM 21 0) 21 1) aM] := hD
    have hF := (show X5_honest_f vM aM p0 = (0, upd (upd vM 21 0) 21 1) from (if_neg c1).trans (rfl))
    exact kM_ret (x := 0) C hP hD hS ⟨by rw [hF], by rw [hF]⟩ dX5_honest_38
  have c1 := b2i_ne0 c1
  have z1 := k_isBag c1 hB5
  refine lv_aload_n hx hb dX5_honest_13 rfl (lv_at hl 0 rfl) ?_
  refine lv_aload_n hx hb dX5_honest_14 rfl (lv_at hl 0 rfl) ?_
  refine lv_iload_n hx hb dX5_honest_15 rfl (lv_at hl 1 rfl) ?_
  refine lv_iconst (v := 0) hx hb dX5_honest_16 (by decide) ?_
  refine kR_V (As := [.int p0, .int 0]) (rest := [.ref oM]) C (X5_of_c l g oM rM (upd vM 21 0) aM p0 0 (by first | assumption | exact hB5 | exact ⟨0, by omega, rfl⟩ | exact ⟨1, by omega, rfl⟩ | exact ⟨2, by omega, rfl⟩ | exact ⟨3, by omega, rfl⟩ | exact ⟨4, by omega, rfl⟩) (by first | assumption | exact hB5 | exact ⟨0, by omega, rfl⟩ | exact ⟨1, by omega, rfl⟩ | exact ⟨2, by omega, rfl⟩ | exact ⟨3, by omega, rfl⟩ | exact ⟨4, by omega, rfl⟩)) (cwV 2 hts (k_gV kw1568 ca_X5_of) rfl rfl rfl ⟨rfl, pnX5_of⟩ ⟨Nat.le_of_ble_eq_true rfl, Nat.le_of_ble_eq_true rfl⟩) hE hS (hP.pick [0] rfl) (k_recv C kFX5 hP (i := 0) (q := 0) rfl rfl) rfl hl.1 rfl rfl dX5_honest_17 ⟨Nat.le_of_ble_eq_true rfl, Nat.le_of_ble_eq_true rfl⟩ ?_
  refine lv_aload_n hx hb dX5_honest_20 rfl (lv_at hl 0 rfl) ?_
  refine lv_iload_n hx hb dX5_honest_21 rfl (lv_at hl 1 rfl) ?_
  refine lv_iconst (v := 3) hx hb dX5_honest_22 (by decide) ?_
  refine kR_V (As := [.int p0, .int 3]) (rest := [.int (X5_of_f (upd vM 21 0) aM p0 0), .ref oM]) C (X5_of_c l g oM rM (upd vM 21 0) aM p0 3 (by first | assumption | exact hB5 | exact ⟨0, by omega, rfl⟩ | exact ⟨1, by omega, rfl⟩ | exact ⟨2, by omega, rfl⟩ | exact ⟨3, by omega, rfl⟩ | exact ⟨4, by omega, rfl⟩) (by first | assumption | exact hB5 | exact ⟨0, by omega, rfl⟩ | exact ⟨1, by omega, rfl⟩ | exact ⟨2, by omega, rfl⟩ | exact ⟨3, by omega, rfl⟩ | exact ⟨4, by omega, rfl⟩)) (cwV 2 hts (k_gV kw1568 ca_X5_of) rfl rfl rfl ⟨rfl, pnX5_of⟩ ⟨Nat.le_of_ble_eq_true rfl, Nat.le_of_ble_eq_true rfl⟩) hE hS (hP.pick [0] rfl) (k_recv C kFX5 hP (i := 0) (q := 0) rfl rfl) rfl hl.1 rfl rfl dX5_honest_23 ⟨Nat.le_of_ble_eq_true rfl, Nat.le_of_ble_eq_true rfl⟩ ?_
  refine lv_iadd hx hb dX5_honest_26 ?_
  refine kM_V (As := [.int ((X5_of_f (upd vM 21 0) aM p0 0) + (X5_of_f (upd vM 21 0) aM p0 3))]) (rest := []) (wr := []) C (X5_scales_c l g oM rM (upd vM 21 0) aM ((X5_of_f (upd vM 21 0) aM p0 0) + (X5_of_f (upd vM 21 0) aM p0 3))) (cwV 1 hts (k_gV kw1628 ca_X5_scales) rfl rfl rfl ⟨rfl, pnX5_scales⟩ ⟨Nat.le_of_ble_eq_true rfl, Nat.le_of_ble_eq_true rfl⟩) hE hS hA hP hD [0] [] rfl rfl ⟨rfl, rfl, by decide⟩ (k_recv C kFX5 hP (i := 0) (q := 0) rfl rfl) rfl hl.1 rfl rfl dX5_honest_27 ⟨Nat.le_of_ble_eq_true rfl, Nat.le_of_ble_eq_true rfl⟩ (fun r3 u3 H locs hp3 hP hD hS => ?_)
  obtain ⟨rfl, rfl⟩ := hp3
  have hP : kp g [X5W g oM rM ((X5_scales_f (upd vM 21 0) aM ((X5_of_f (upd vM 21 0) aM p0 0) + (X5_of_f (upd vM 21 0) aM p0 3))).2) aM] H := hP
  have hD : kd A [X5W g oM rM ((X5_scales_f (upd vM 21 0) aM ((X5_of_f (upd vM 21 0) aM p0 0) + (X5_of_f (upd vM 21 0) aM p0 3))).2) aM] := hD
  refine lv_goto (tgt := 38) hx hb dX5_honest_30 (by decide) ?_
  have hF := (show X5_honest_f vM aM p0 = ((X5_scales_f (upd vM 21 0) aM ((X5_of_f (upd vM 21 0) aM p0 0) + (X5_of_f (upd vM 21 0) aM p0 3))).1, (X5_scales_f (upd vM 21 0) aM ((X5_of_f (upd vM 21 0) aM p0 0) + (X5_of_f (upd vM 21 0) aM p0 3))).2) from (if_pos c1).trans (rfl))
  exact kM_ret (x := (X5_scales_f (upd vM 21 0) aM ((X5_of_f (upd vM 21 0) aM p0 0) + (X5_of_f (upd vM 21 0) aM p0 3))).1) C hP hD hS ⟨by rw [hF], by rw [hF]⟩ dX5_honest_38

abbrev wX5_pays : List Cond := Cond.code yX5_pays cX5_pays 3 (some .int) :: kW
def X5_pays_f (vM : Nat → Int32) (aM : Nat → Nat → Int32) (p0 : Int32) (p1 : Int32) : Int32 × (Nat → Int32) :=
  if (X5_isMarket_f p0) = true then (if (X5_in_f p1 0 4) = true then ((X5_pay_f p0 p1), upd vM 21 0)
    else (0, upd (upd vM 21 0) 21 2))
  else (0, upd (upd vM 21 0) 21 1)
set_option maxHeartbeats 4000000 in
set_option maxRecDepth 100000 in
theorem X5_pays_c (l : Launch) (g : kG) (oM : Nat) (rM : Nat → Nat) (vM : Nat → Int32) (aM : Nat → Nat → Int32) (p0 : Int32) (p1 : Int32) : kM l yX5_pays wX5_pays 2 42 0 0 g [.ref oM, .int p0, .int p1] [X5W g oM rM vM aM] (fun x u => x = (X5_pays_f vM aM p0 p1).1 ∧ u = [X5W g oM rM ((X5_pays_f vM aM p0 p1).2) aM]) := by
  refine kM_of (cc := cX5_pays) (nL := 3) (ret := (some .int)) (lv := [(0, .ref oM), (1, .int p0), (2, .int p1)]) (by decide) rfl (Nat.le_of_ble_eq_true rfl) rfl ?_
  intro p e s m args below meth c ls A C hP hD hE hA hS hl
  have C : kC p c cX5_pays s m args meth RX5 g 3 (some .int) := C
  have hx := C.1.1
  have hb := C.1.2.1
  have hts := C.1.2.2.2.2
  refine lv_aload_n hx hb dX5_pays_0 rfl (lv_at hl 0 rfl) ?_
  refine lv_iconst (v := 0) hx hb dX5_pays_1 (by decide) ?_
  refine kg_put C kFX5 (k := 21) kw1467 hP hD hS (i := 0) (q := 0) rfl rfl (by decide) rfl rfl rfl (Nat.le_of_ble_eq_true rfl) X5s_21 rfl dX5_pays_2 (fun H locs hP hD hS => ?_)
  have hP : kp g [X5W g oM rM (upd vM 21 0) aM] H := hP
  have hD : kd A [X5W g oM rM (upd vM 21 0) aM] := hD
  refine lv_iload_n hx hb dX5_pays_5 rfl (lv_at hl 1 rfl) ?_
  refine kR_S (As := [.int p0]) (rest := []) C (X5_isMarket_c l g p0) (va_cwS 1 hts (k_gS kw1675 cs_X5_isMarket) rfl rfl rfl pnX5_isMarket ⟨Nat.le_of_ble_eq_true rfl, Nat.le_of_ble_eq_true rfl⟩) hE hS (hP.pick [] rfl) rfl hl.1 rfl rfl dX5_pays_6 ⟨Nat.le_of_ble_eq_true rfl, Nat.le_of_ble_eq_true rfl⟩ ?_
  refine lv_if_ne (tgt := 18) hx hb dX5_pays_9 (by decide) (fun c1 => ?_) (fun c1 => ?_)
  · have c1 := b2i_ne0 c1
    refine lv_iload_n hx hb dX5_pays_18 rfl (lv_at hl 2 rfl) ?_
    refine lv_iconst (v := 0) hx hb dX5_pays_19 (by decide) ?_
    refine lv_iconst (v := 4) hx hb dX5_pays_20 (by decide) ?_
    refine kR_S (As := [.int p1, .int 0, .int 4]) (rest := []) C (X5_in_c l g p1 0 4) (va_cwS 3 hts (k_gS kw1525 cs_X5_in) rfl rfl rfl pnX5_in ⟨Nat.le_of_ble_eq_true rfl, Nat.le_of_ble_eq_true rfl⟩) hE hS (hP.pick [] rfl) rfl hl.1 rfl rfl dX5_pays_21 ⟨Nat.le_of_ble_eq_true rfl, Nat.le_of_ble_eq_true rfl⟩ ?_
    refine lv_if_eq (tgt := 35) hx hb dX5_pays_24 (by decide) (fun c2 => ?_) (fun c2 => ?_)
    · have c2 := b2i_eq0 c2
      refine lv_aload_n hx hb dX5_pays_35 rfl (lv_at hl 0 rfl) ?_
      refine lv_iconst (v := 2) hx hb dX5_pays_36 (by decide) ?_
      refine kM_V (As := [.int 2]) (rest := []) (wr := []) C (X5_raises_c l g oM rM (upd vM 21 0) aM 2) (cwV 1 hts (k_gV kw1540 ca_X5_raises) rfl rfl rfl ⟨rfl, pnX5_raises⟩ ⟨Nat.le_of_ble_eq_true rfl, Nat.le_of_ble_eq_true rfl⟩) hE hS hA hP hD [0] [] rfl rfl ⟨rfl, rfl, by decide⟩ (k_recv C kFX5 hP (i := 0) (q := 0) rfl rfl) rfl hl.1 rfl rfl dX5_pays_37 ⟨Nat.le_of_ble_eq_true rfl, Nat.le_of_ble_eq_true rfl⟩ (fun r3 u3 H locs hp3 hP hD hS => ?_)
      obtain ⟨er3, eu3⟩ := hp3
      have er3 : r3 = 0 := er3
      have eu3 : u3 = [X5W g oM rM (upd (upd vM 21 0) 21 2) aM] := eu3
      subst er3 eu3
      have hP : kp g [X5W g oM rM (upd (upd vM 21 0) 21 2) aM] H := hP
      have hD : kd A [X5W g oM rM (upd (upd vM 21 0) 21 2) aM] := hD
      have hF := (show X5_pays_f vM aM p0 p1 = (0, upd (upd vM 21 0) 21 2) from (if_pos c1).trans ((if_neg c2).trans (rfl)))
      exact kM_ret (x := 0) C hP hD hS ⟨by rw [hF], by rw [hF]⟩ dX5_pays_40
    have c2 := b2i_ne0 c2
    refine lv_iload_n hx hb dX5_pays_27 rfl (lv_at hl 1 rfl) ?_
    refine lv_iload_n hx hb dX5_pays_28 rfl (lv_at hl 2 rfl) ?_
    refine kR_S (As := [.int p0, .int p1]) (rest := []) C (X5_pay_c l g p0 p1) (va_cwS 2 hts (k_gS kw1656 cs_X5_pay) rfl rfl rfl pnX5_pay ⟨Nat.le_of_ble_eq_true rfl, Nat.le_of_ble_eq_true rfl⟩) hE hS (hP.pick [] rfl) rfl hl.1 rfl rfl dX5_pays_29 ⟨Nat.le_of_ble_eq_true rfl, Nat.le_of_ble_eq_true rfl⟩ ?_
    refine lv_goto (tgt := 40) hx hb dX5_pays_32 (by decide) ?_
    have hF := (show X5_pays_f vM aM p0 p1 = ((X5_pay_f p0 p1), upd vM 21 0) from (if_pos c1).trans ((if_pos c2).trans (rfl)))
    exact kM_ret (x := (X5_pay_f p0 p1)) C hP hD hS ⟨by rw [hF], by rw [hF]⟩ dX5_pays_40
  have c1 := b2i_eq0 c1
  refine lv_aload_n hx hb dX5_pays_12 rfl (lv_at hl 0 rfl) ?_
  refine lv_iconst (v := 1) hx hb dX5_pays_13 (by decide) ?_
  refine kM_V (As := [.int 1]) (rest := []) (wr := []) C (X5_raises_c l g oM rM (upd vM 21 0) aM 1) (cwV 1 hts (k_gV kw1540 ca_X5_raises) rfl rfl rfl ⟨rfl, pnX5_raises⟩ ⟨Nat.le_of_ble_eq_true rfl, Nat.le_of_ble_eq_true rfl⟩) hE hS hA hP hD [0] [] rfl rfl ⟨rfl, rfl, by decide⟩ (k_recv C kFX5 hP (i := 0) (q := 0) rfl rfl) rfl hl.1 rfl rfl dX5_pays_14 ⟨Nat.le_of_ble_eq_true rfl, Nat.le_of_ble_eq_true rfl⟩ (fun r4 u4 H locs hp4 hP hD hS => ?_)
  obtain ⟨er4, eu4⟩ := hp4
  have er4 : r4 = 0 := er4
  have eu4 : u4 = [X5W g oM rM (upd (upd vM 21 0) 21 1) aM] := eu4
  subst er4 eu4
  have hP : kp g [X5W g oM rM (upd (upd vM 21 0) 21 1) aM] H := hP
  have hD : kd A [X5W g oM rM (upd (upd vM 21 0) 21 1) aM] := hD
  have hF := (show X5_pays_f vM aM p0 p1 = (0, upd (upd vM 21 0) 21 1) from (if_neg c1).trans (rfl))
  exact kM_ret (x := 0) C hP hD hS ⟨by rw [hF], by rw [hF]⟩ dX5_pays_17

abbrev wX5_gets : List Cond := Cond.code yX5_gets cX5_gets 3 (some .int) :: kW
def X5_gets_f (vM : Nat → Int32) (aM : Nat → Nat → Int32) (p0 : Int32) (p1 : Int32) : Int32 × (Nat → Int32) :=
  ((X5_coins_f ((X5_scales_f vM aM (X5_load_f vM aM p0)).2) aM p1 ((X5_of_f vM aM p0 2) - 1) ((X5_scales_f vM aM (X5_load_f vM aM p0)).1 - (X5_of_f ((X5_scales_f vM aM (X5_load_f vM aM p0)).2) aM p0 0))), (X5_scales_f vM aM (X5_load_f vM aM p0)).2)
set_option maxHeartbeats 4000000 in
set_option maxRecDepth 100000 in
theorem X5_gets_c (l : Launch) (g : kG) (oM : Nat) (rM : Nat → Nat) (vM : Nat → Int32) (aM : Nat → Nat → Int32) (p0 : Int32) (p1 : Int32) (hb : vp_in p0 6) (hm : vp_in p1 4) : kM l yX5_gets wX5_gets 3 66 0 0 g [.ref oM, .int p0, .int p1] [X5W g oM rM vM aM] (fun x u => x = (X5_gets_f vM aM p0 p1).1 ∧ u = [X5W g oM rM ((X5_gets_f vM aM p0 p1).2) aM]) := by
  refine kM_of (cc := cX5_gets) (nL := 3) (ret := (some .int)) (lv := [(0, .ref oM), (1, .int p0), (2, .int p1)]) (by decide) rfl (Nat.le_of_ble_eq_true rfl) rfl ?_
  intro p e s m args below meth c ls A C hP hD hE hA hS hl
  have C : kC p c cX5_gets s m args meth RX5 g 3 (some .int) := C
  have hx := C.1.1
  have hb := C.1.2.1
  have hts := C.1.2.2.2.2
  refine lv_aload_n hx hb dX5_gets_0 rfl (lv_at hl 0 rfl) ?_
  refine lv_iload_n hx hb dX5_gets_1 rfl (lv_at hl 2 rfl) ?_
  refine lv_aload_n hx hb dX5_gets_2 rfl (lv_at hl 0 rfl) ?_
  refine lv_iload_n hx hb dX5_gets_3 rfl (lv_at hl 1 rfl) ?_
  refine lv_iconst (v := 2) hx hb dX5_gets_4 (by decide) ?_
  refine kR_V (As := [.int p0, .int 2]) (rest := [.int p1, .ref oM]) C (X5_of_c l g oM rM vM aM p0 2 (by first | assumption | exact hb | exact hm | exact ⟨0, by omega, rfl⟩ | exact ⟨1, by omega, rfl⟩ | exact ⟨2, by omega, rfl⟩ | exact ⟨3, by omega, rfl⟩ | exact ⟨4, by omega, rfl⟩) (by first | assumption | exact hb | exact hm | exact ⟨0, by omega, rfl⟩ | exact ⟨1, by omega, rfl⟩ | exact ⟨2, by omega, rfl⟩ | exact ⟨3, by omega, rfl⟩ | exact ⟨4, by omega, rfl⟩)) (cwV 2 hts (k_gV kw1568 ca_X5_of) rfl rfl rfl ⟨rfl, pnX5_of⟩ ⟨Nat.le_of_ble_eq_true rfl, Nat.le_of_ble_eq_true rfl⟩) hE hS (hP.pick [0] rfl) (k_recv C kFX5 hP (i := 0) (q := 0) rfl rfl) rfl hl.1 rfl rfl dX5_gets_5 ⟨Nat.le_of_ble_eq_true rfl, Nat.le_of_ble_eq_true rfl⟩ ?_
  refine lv_iconst (v := 1) hx hb dX5_gets_8 (by decide) ?_
  refine lv_isub hx hb dX5_gets_9 ?_
  refine lv_aload_n hx hb dX5_gets_10 rfl (lv_at hl 0 rfl) ?_
  refine lv_aload_n hx hb dX5_gets_11 rfl (lv_at hl 0 rfl) ?_
  refine lv_iload_n hx hb dX5_gets_12 rfl (lv_at hl 1 rfl) ?_
  refine kR_V (As := [.int p0]) (rest := [.ref oM, .int ((X5_of_f vM aM p0 2) - 1), .int p1, .ref oM]) C (X5_load_c l g oM rM vM aM p0 (by first | assumption | exact hb | exact hm | exact ⟨0, by omega, rfl⟩ | exact ⟨1, by omega, rfl⟩ | exact ⟨2, by omega, rfl⟩ | exact ⟨3, by omega, rfl⟩ | exact ⟨4, by omega, rfl⟩)) (cwV 1 hts (k_gV kw1624 ca_X5_load) rfl rfl rfl ⟨rfl, pnX5_load⟩ ⟨Nat.le_of_ble_eq_true rfl, Nat.le_of_ble_eq_true rfl⟩) hE hS (hP.pick [0] rfl) (k_recv C kFX5 hP (i := 0) (q := 0) rfl rfl) rfl hl.1 rfl rfl dX5_gets_13 ⟨Nat.le_of_ble_eq_true rfl, Nat.le_of_ble_eq_true rfl⟩ ?_
  refine kM_V (As := [.int (X5_load_f vM aM p0)]) (rest := [.int ((X5_of_f vM aM p0 2) - 1), .int p1, .ref oM]) (wr := []) C (X5_scales_c l g oM rM vM aM (X5_load_f vM aM p0)) (cwV 1 hts (k_gV kw1628 ca_X5_scales) rfl rfl rfl ⟨rfl, pnX5_scales⟩ ⟨Nat.le_of_ble_eq_true rfl, Nat.le_of_ble_eq_true rfl⟩) hE hS hA hP hD [0] [] rfl rfl ⟨rfl, rfl, by decide⟩ (k_recv C kFX5 hP (i := 0) (q := 0) rfl rfl) rfl hl.1 rfl rfl dX5_gets_16 ⟨Nat.le_of_ble_eq_true rfl, Nat.le_of_ble_eq_true rfl⟩ (fun r1 u1 H locs hp1 hP hD hS => ?_)
  obtain ⟨rfl, rfl⟩ := hp1
  have hP : kp g [X5W g oM rM ((X5_scales_f vM aM (X5_load_f vM aM p0)).2) aM] H := hP
  have hD : kd A [X5W g oM rM ((X5_scales_f vM aM (X5_load_f vM aM p0)).2) aM] := hD
  refine lv_aload_n hx hb dX5_gets_19 rfl (lv_at hl 0 rfl) ?_
  refine lv_iload_n hx hb dX5_gets_20 rfl (lv_at hl 1 rfl) ?_
  refine lv_iconst (v := 0) hx hb dX5_gets_21 (by decide) ?_
  refine kR_V (As := [.int p0, .int 0]) (rest := [.int ((X5_scales_f vM aM (X5_load_f vM aM p0)).1), .int ((X5_of_f vM aM p0 2) - 1), .int p1, .ref oM]) C (X5_of_c l g oM rM ((X5_scales_f vM aM (X5_load_f vM aM p0)).2) aM p0 0 (by first | assumption | exact hb | exact hm | exact ⟨0, by omega, rfl⟩ | exact ⟨1, by omega, rfl⟩ | exact ⟨2, by omega, rfl⟩ | exact ⟨3, by omega, rfl⟩ | exact ⟨4, by omega, rfl⟩) (by first | assumption | exact hb | exact hm | exact ⟨0, by omega, rfl⟩ | exact ⟨1, by omega, rfl⟩ | exact ⟨2, by omega, rfl⟩ | exact ⟨3, by omega, rfl⟩ | exact ⟨4, by omega, rfl⟩)) (cwV 2 hts (k_gV kw1568 ca_X5_of) rfl rfl rfl ⟨rfl, pnX5_of⟩ ⟨Nat.le_of_ble_eq_true rfl, Nat.le_of_ble_eq_true rfl⟩) hE hS (hP.pick [0] rfl) (k_recv C kFX5 hP (i := 0) (q := 0) rfl rfl) rfl hl.1 rfl rfl dX5_gets_22 ⟨Nat.le_of_ble_eq_true rfl, Nat.le_of_ble_eq_true rfl⟩ ?_
  refine lv_isub hx hb dX5_gets_25 ?_
  refine kR_V (As := [.int p1, .int ((X5_of_f vM aM p0 2) - 1), .int ((X5_scales_f vM aM (X5_load_f vM aM p0)).1 - (X5_of_f ((X5_scales_f vM aM (X5_load_f vM aM p0)).2) aM p0 0))]) (rest := []) C (X5_coins_c l g oM rM ((X5_scales_f vM aM (X5_load_f vM aM p0)).2) aM p1 ((X5_of_f vM aM p0 2) - 1) ((X5_scales_f vM aM (X5_load_f vM aM p0)).1 - (X5_of_f ((X5_scales_f vM aM (X5_load_f vM aM p0)).2) aM p0 0)) (by first | assumption | exact hb | exact hm | exact ⟨0, by omega, rfl⟩ | exact ⟨1, by omega, rfl⟩ | exact ⟨2, by omega, rfl⟩ | exact ⟨3, by omega, rfl⟩ | exact ⟨4, by omega, rfl⟩)) (cwV 3 hts (k_gV kw1652 ca_X5_coins) rfl rfl rfl ⟨rfl, pnX5_coins⟩ ⟨Nat.le_of_ble_eq_true rfl, Nat.le_of_ble_eq_true rfl⟩) hE hS (hP.pick [0] rfl) (k_recv C kFX5 hP (i := 0) (q := 0) rfl rfl) rfl hl.1 rfl rfl dX5_gets_26 ⟨Nat.le_of_ble_eq_true rfl, Nat.le_of_ble_eq_true rfl⟩ ?_
  have hF := (show X5_gets_f vM aM p0 p1 = ((X5_coins_f ((X5_scales_f vM aM (X5_load_f vM aM p0)).2) aM p1 ((X5_of_f vM aM p0 2) - 1) ((X5_scales_f vM aM (X5_load_f vM aM p0)).1 - (X5_of_f ((X5_scales_f vM aM (X5_load_f vM aM p0)).2) aM p0 0))), (X5_scales_f vM aM (X5_load_f vM aM p0)).2) from rfl)
  exact kM_ret (x := (X5_coins_f ((X5_scales_f vM aM (X5_load_f vM aM p0)).2) aM p1 ((X5_of_f vM aM p0 2) - 1) ((X5_scales_f vM aM (X5_load_f vM aM p0)).1 - (X5_of_f ((X5_scales_f vM aM (X5_load_f vM aM p0)).2) aM p0 0)))) C hP hD hS ⟨by rw [hF], by rw [hF]⟩ dX5_gets_29

theorem pnX5_gets : yX5_gets.cls ≠ "java/lang/invoke/MethodHandle" ∧ yX5_gets.cls ≠ "java/lang/invoke/VarHandle" ∧ (parseMethodDescriptor yX5_gets.desc).map (fun d => d.parameters.length) = some 2 := by decide +kernel
theorem ca_X5_gets : kCal yX5_gets (Cond.code yX5_gets cX5_gets 3 (some .int)) := ⟨k_w 8 206 rfl rfl, k_w 1 93 rfl rfl, k_w 2 10 rfl rfl, k_w 8 207 rfl rfl⟩

abbrev wX5_wouldGet : List Cond := Cond.code yX5_wouldGet cX5_wouldGet 3 (some .int) :: kW
def X5_wouldGet_f (vM : Nat → Int32) (aM : Nat → Nat → Int32) (p0 : Int32) (p1 : Int32) : Int32 × (Nat → Int32) :=
  if (X5_isBag_f (upd vM 21 0) aM p0) = true then (if (X5_isMarket_f p1) = true then (if (X5_of_f (upd vM 21 0) aM p0 3) = 0 then (0, upd (upd vM 21 0) 21 2)
      else ((X5_gets_f (upd vM 21 0) aM p0 p1).1, (X5_gets_f (upd vM 21 0) aM p0 p1).2))
    else (0, upd (upd vM 21 0) 21 1))
  else (0, upd (upd vM 21 0) 21 1)
set_option maxHeartbeats 4000000 in
set_option maxRecDepth 100000 in
theorem X5_wouldGet_c (l : Launch) (g : kG) (oM : Nat) (rM : Nat → Nat) (vM : Nat → Int32) (aM : Nat → Nat → Int32) (p0 : Int32) (p1 : Int32) (hB5 : (∃ n : Nat, n ≤ 6 ∧ aM 0 5 = nI n)) : kM l yX5_wouldGet wX5_wouldGet 4 88 0 0 g [.ref oM, .int p0, .int p1] [X5W g oM rM vM aM] (fun x u => x = (X5_wouldGet_f vM aM p0 p1).1 ∧ u = [X5W g oM rM ((X5_wouldGet_f vM aM p0 p1).2) aM]) := by
  refine kM_of (cc := cX5_wouldGet) (nL := 3) (ret := (some .int)) (lv := [(0, .ref oM), (1, .int p0), (2, .int p1)]) (by decide) rfl (Nat.le_of_ble_eq_true rfl) rfl ?_
  intro p e s m args below meth c ls A C hP hD hE hA hS hl
  have C : kC p c cX5_wouldGet s m args meth RX5 g 3 (some .int) := C
  have hx := C.1.1
  have hb := C.1.2.1
  have hts := C.1.2.2.2.2
  refine lv_aload_n hx hb dX5_wouldGet_0 rfl (lv_at hl 0 rfl) ?_
  refine lv_iconst (v := 0) hx hb dX5_wouldGet_1 (by decide) ?_
  refine kg_put C kFX5 (k := 21) kw1467 hP hD hS (i := 0) (q := 0) rfl rfl (by decide) rfl rfl rfl (Nat.le_of_ble_eq_true rfl) X5s_21 rfl dX5_wouldGet_2 (fun H locs hP hD hS => ?_)
  have hP : kp g [X5W g oM rM (upd vM 21 0) aM] H := hP
  have hD : kd A [X5W g oM rM (upd vM 21 0) aM] := hD
  refine lv_aload_n hx hb dX5_wouldGet_5 rfl (lv_at hl 0 rfl) ?_
  refine lv_iload_n hx hb dX5_wouldGet_6 rfl (lv_at hl 1 rfl) ?_
  refine kR_V (As := [.int p0]) (rest := []) C (X5_isBag_c l g oM rM (upd vM 21 0) aM p0) (cwV 1 hts (k_gV kw1560 ca_X5_isBag) rfl rfl rfl ⟨rfl, pnX5_isBag⟩ ⟨Nat.le_of_ble_eq_true rfl, Nat.le_of_ble_eq_true rfl⟩) hE hS (hP.pick [0] rfl) (k_recv C kFX5 hP (i := 0) (q := 0) rfl rfl) rfl hl.1 rfl rfl dX5_wouldGet_7 ⟨Nat.le_of_ble_eq_true rfl, Nat.le_of_ble_eq_true rfl⟩ ?_
  refine lv_if_eq (tgt := 20) hx hb dX5_wouldGet_10 (by decide) (fun c1 => ?_) (fun c1 => ?_)
  · have c1 := b2i_eq0 c1
    refine lv_aload_n hx hb dX5_wouldGet_20 rfl (lv_at hl 0 rfl) ?_
    refine lv_iconst (v := 1) hx hb dX5_wouldGet_21 (by decide) ?_
    refine kM_V (As := [.int 1]) (rest := []) (wr := []) C (X5_raises_c l g oM rM (upd vM 21 0) aM 1) (cwV 1 hts (k_gV kw1540 ca_X5_raises) rfl rfl rfl ⟨rfl, pnX5_raises⟩ ⟨Nat.le_of_ble_eq_true rfl, Nat.le_of_ble_eq_true rfl⟩) hE hS hA hP hD [0] [] rfl rfl ⟨rfl, rfl, by decide⟩ (k_recv C kFX5 hP (i := 0) (q := 0) rfl rfl) rfl hl.1 rfl rfl dX5_wouldGet_22 ⟨Nat.le_of_ble_eq_true rfl, Nat.le_of_ble_eq_true rfl⟩ (fun r2 u2 H locs hp2 hP hD hS => ?_)
    obtain ⟨er2, eu2⟩ := hp2
    have er2 : r2 = 0 := er2
    have eu2 : u2 = [X5W g oM rM (upd (upd vM 21 0) 21 1) aM] := eu2
    subst er2 eu2
    have hP : kp g [X5W g oM rM (upd (upd vM 21 0) 21 1) aM] H := hP
    have hD : kd A [X5W g oM rM (upd (upd vM 21 0) 21 1) aM] := hD
    have hF := (show X5_wouldGet_f vM aM p0 p1 = (0, upd (upd vM 21 0) 21 1) from (if_neg c1).trans (rfl))
    exact kM_ret (x := 0) C hP hD hS ⟨by rw [hF], by rw [hF]⟩ dX5_wouldGet_25
  have c1 := b2i_ne0 c1
  have z1 := k_isBag c1 hB5
  refine lv_iload_n hx hb dX5_wouldGet_13 rfl (lv_at hl 2 rfl) ?_
  refine kR_S (As := [.int p1]) (rest := []) C (X5_isMarket_c l g p1) (va_cwS 1 hts (k_gS kw1675 cs_X5_isMarket) rfl rfl rfl pnX5_isMarket ⟨Nat.le_of_ble_eq_true rfl, Nat.le_of_ble_eq_true rfl⟩) hE hS (hP.pick [] rfl) rfl hl.1 rfl rfl dX5_wouldGet_14 ⟨Nat.le_of_ble_eq_true rfl, Nat.le_of_ble_eq_true rfl⟩ ?_
  refine lv_if_ne (tgt := 26) hx hb dX5_wouldGet_17 (by decide) (fun c3 => ?_) (fun c3 => ?_)
  · have c3 := b2i_ne0 c3
    have z3 := k_isMarket5 c3
    refine lv_aload_n hx hb dX5_wouldGet_26 rfl (lv_at hl 0 rfl) ?_
    refine lv_iload_n hx hb dX5_wouldGet_27 rfl (lv_at hl 1 rfl) ?_
    refine lv_iconst (v := 3) hx hb dX5_wouldGet_28 (by decide) ?_
    refine kR_V (As := [.int p0, .int 3]) (rest := []) C (X5_of_c l g oM rM (upd vM 21 0) aM p0 3 (by first | assumption | exact hB5 | exact ⟨0, by omega, rfl⟩ | exact ⟨1, by omega, rfl⟩ | exact ⟨2, by omega, rfl⟩ | exact ⟨3, by omega, rfl⟩ | exact ⟨4, by omega, rfl⟩) (by first | assumption | exact hB5 | exact ⟨0, by omega, rfl⟩ | exact ⟨1, by omega, rfl⟩ | exact ⟨2, by omega, rfl⟩ | exact ⟨3, by omega, rfl⟩ | exact ⟨4, by omega, rfl⟩)) (cwV 2 hts (k_gV kw1568 ca_X5_of) rfl rfl rfl ⟨rfl, pnX5_of⟩ ⟨Nat.le_of_ble_eq_true rfl, Nat.le_of_ble_eq_true rfl⟩) hE hS (hP.pick [0] rfl) (k_recv C kFX5 hP (i := 0) (q := 0) rfl rfl) rfl hl.1 rfl rfl dX5_wouldGet_29 ⟨Nat.le_of_ble_eq_true rfl, Nat.le_of_ble_eq_true rfl⟩ ?_
    refine lv_if_ne (tgt := 43) hx hb dX5_wouldGet_32 (by decide) (fun c4 => ?_) (fun c4 => ?_)
    · refine lv_aload_n hx hb dX5_wouldGet_43 rfl (lv_at hl 0 rfl) ?_
      refine lv_iload_n hx hb dX5_wouldGet_44 rfl (lv_at hl 1 rfl) ?_
      refine lv_iload_n hx hb dX5_wouldGet_45 rfl (lv_at hl 2 rfl) ?_
      refine kM_V (As := [.int p0, .int p1]) (rest := []) (wr := []) C (X5_gets_c l g oM rM (upd vM 21 0) aM p0 p1 (by first | assumption | exact hB5 | exact ⟨0, by omega, rfl⟩ | exact ⟨1, by omega, rfl⟩ | exact ⟨2, by omega, rfl⟩ | exact ⟨3, by omega, rfl⟩ | exact ⟨4, by omega, rfl⟩) (by first | assumption | exact hB5 | exact ⟨0, by omega, rfl⟩ | exact ⟨1, by omega, rfl⟩ | exact ⟨2, by omega, rfl⟩ | exact ⟨3, by omega, rfl⟩ | exact ⟨4, by omega, rfl⟩)) (cwV 2 hts (k_gV kw1750 ca_X5_gets) rfl rfl rfl ⟨rfl, pnX5_gets⟩ ⟨Nat.le_of_ble_eq_true rfl, Nat.le_of_ble_eq_true rfl⟩) hE hS hA hP hD [0] [] rfl rfl ⟨rfl, rfl, by decide⟩ (k_recv C kFX5 hP (i := 0) (q := 0) rfl rfl) rfl hl.1 rfl rfl dX5_wouldGet_46 ⟨Nat.le_of_ble_eq_true rfl, Nat.le_of_ble_eq_true rfl⟩ (fun r5 u5 H locs hp5 hP hD hS => ?_)
      obtain ⟨rfl, rfl⟩ := hp5
      have hP : kp g [X5W g oM rM ((X5_gets_f (upd vM 21 0) aM p0 p1).2) aM] H := hP
      have hD : kd A [X5W g oM rM ((X5_gets_f (upd vM 21 0) aM p0 p1).2) aM] := hD
      have hF := (show X5_wouldGet_f vM aM p0 p1 = ((X5_gets_f (upd vM 21 0) aM p0 p1).1, (X5_gets_f (upd vM 21 0) aM p0 p1).2) from (if_pos c1).trans ((if_pos c3).trans ((if_neg c4).trans (rfl))))
      exact kM_ret (x := (X5_gets_f (upd vM 21 0) aM p0 p1).1) C hP hD hS ⟨by rw [hF], by rw [hF]⟩ dX5_wouldGet_49
    refine lv_aload_n hx hb dX5_wouldGet_35 rfl (lv_at hl 0 rfl) ?_
    refine lv_iconst (v := 2) hx hb dX5_wouldGet_36 (by decide) ?_
    refine kM_V (As := [.int 2]) (rest := []) (wr := []) C (X5_raises_c l g oM rM (upd vM 21 0) aM 2) (cwV 1 hts (k_gV kw1540 ca_X5_raises) rfl rfl rfl ⟨rfl, pnX5_raises⟩ ⟨Nat.le_of_ble_eq_true rfl, Nat.le_of_ble_eq_true rfl⟩) hE hS hA hP hD [0] [] rfl rfl ⟨rfl, rfl, by decide⟩ (k_recv C kFX5 hP (i := 0) (q := 0) rfl rfl) rfl hl.1 rfl rfl dX5_wouldGet_37 ⟨Nat.le_of_ble_eq_true rfl, Nat.le_of_ble_eq_true rfl⟩ (fun r6 u6 H locs hp6 hP hD hS => ?_)
    obtain ⟨er6, eu6⟩ := hp6
    have er6 : r6 = 0 := er6
    have eu6 : u6 = [X5W g oM rM (upd (upd vM 21 0) 21 2) aM] := eu6
    subst er6 eu6
    have hP : kp g [X5W g oM rM (upd (upd vM 21 0) 21 2) aM] H := hP
    have hD : kd A [X5W g oM rM (upd (upd vM 21 0) 21 2) aM] := hD
    refine lv_goto (tgt := 49) hx hb dX5_wouldGet_40 (by decide) ?_
    have hF := (show X5_wouldGet_f vM aM p0 p1 = (0, upd (upd vM 21 0) 21 2) from (if_pos c1).trans ((if_pos c3).trans ((if_pos c4).trans (rfl))))
    exact kM_ret (x := 0) C hP hD hS ⟨by rw [hF], by rw [hF]⟩ dX5_wouldGet_49
  have c3 := b2i_eq0 c3
  refine lv_aload_n hx hb dX5_wouldGet_20 rfl (lv_at hl 0 rfl) ?_
  refine lv_iconst (v := 1) hx hb dX5_wouldGet_21 (by decide) ?_
  refine kM_V (As := [.int 1]) (rest := []) (wr := []) C (X5_raises_c l g oM rM (upd vM 21 0) aM 1) (cwV 1 hts (k_gV kw1540 ca_X5_raises) rfl rfl rfl ⟨rfl, pnX5_raises⟩ ⟨Nat.le_of_ble_eq_true rfl, Nat.le_of_ble_eq_true rfl⟩) hE hS hA hP hD [0] [] rfl rfl ⟨rfl, rfl, by decide⟩ (k_recv C kFX5 hP (i := 0) (q := 0) rfl rfl) rfl hl.1 rfl rfl dX5_wouldGet_22 ⟨Nat.le_of_ble_eq_true rfl, Nat.le_of_ble_eq_true rfl⟩ (fun r7 u7 H locs hp7 hP hD hS => ?_)
  obtain ⟨er7, eu7⟩ := hp7
  have er7 : r7 = 0 := er7
  have eu7 : u7 = [X5W g oM rM (upd (upd vM 21 0) 21 1) aM] := eu7
  subst er7 eu7
  have hP : kp g [X5W g oM rM (upd (upd vM 21 0) 21 1) aM] H := hP
  have hD : kd A [X5W g oM rM (upd (upd vM 21 0) 21 1) aM] := hD
  have hF := (show X5_wouldGet_f vM aM p0 p1 = (0, upd (upd vM 21 0) 21 1) from (if_pos c1).trans ((if_neg c3).trans (rfl)))
  exact kM_ret (x := 0) C hP hD hS ⟨by rw [hF], by rw [hF]⟩ dX5_wouldGet_25

abbrev wX5_bestMarket : List Cond := Cond.code yX5_bestMarket cX5_bestMarket 6 (some .int) :: kW
def X5_bestMarket_lp38b (vM : Nat → Int32) (aM : Nat → Nat → Int32) (p0 : Int32) (rec : Int32 → Int32 → (Nat → Int32) → (Int32 × (Nat → Int32))) (x2_38 x3_38 : Int32) (vM38 : Nat → Int32) : Int32 × (Nat → Int32) :=
  if 4 ≤ x3_38 then (x2_38, vM38)
  else if 0 < ((X5_gets_f vM38 aM p0 x3_38).1 - (X5_gets_f ((X5_gets_f vM38 aM p0 x3_38).2) aM p0 x2_38).1) then rec x3_38 (x3_38 + 1) ((X5_gets_f ((X5_gets_f vM38 aM p0 x3_38).2) aM p0 x2_38).2)
  else if ((X5_gets_f vM38 aM p0 x3_38).1 - (X5_gets_f ((X5_gets_f vM38 aM p0 x3_38).2) aM p0 x2_38).1) = 0 then (if ((if 0 ≤ ((X5_where_f x2_38) - (X5_where_f ((aM 0) 1))) then ((X5_where_f x2_38) - (X5_where_f ((aM 0) 1))) else 0 - ((X5_where_f x2_38) - (X5_where_f ((aM 0) 1)))) - (if 0 ≤ ((X5_where_f x3_38) - (X5_where_f ((aM 0) 1))) then ((X5_where_f x3_38) - (X5_where_f ((aM 0) 1))) else 0 - ((X5_where_f x3_38) - (X5_where_f ((aM 0) 1))))) ≤ 0 then rec x2_38 (x3_38 + 1) ((X5_gets_f ((X5_gets_f vM38 aM p0 x3_38).2) aM p0 x2_38).2)
    else rec x3_38 (x3_38 + 1) ((X5_gets_f ((X5_gets_f vM38 aM p0 x3_38).2) aM p0 x2_38).2))
  else rec x2_38 (x3_38 + 1) ((X5_gets_f ((X5_gets_f vM38 aM p0 x3_38).2) aM p0 x2_38).2)
def X5_bestMarket_lp38 (vM : Nat → Int32) (aM : Nat → Nat → Int32) (p0 : Int32) : Nat → Int32 → Int32 → (Nat → Int32) → (Int32 × (Nat → Int32))
  | 0 => fun x2_38 x3_38 vM38 => (0, vM38)
  | n + 1 => X5_bestMarket_lp38b vM aM p0 (X5_bestMarket_lp38 vM aM p0 n)
theorem X5_bestMarket_lp38_s (vM : Nat → Int32) (aM : Nat → Nat → Int32) (p0 : Int32) (n : Nat) (x2_38 x3_38 : Int32) (vM38 : Nat → Int32) : X5_bestMarket_lp38 vM aM p0 (n + 1) x2_38 x3_38 vM38 = X5_bestMarket_lp38b vM aM p0 (X5_bestMarket_lp38 vM aM p0 n) x2_38 x3_38 vM38 := rfl
def X5_bestMarket_f (vM : Nat → Int32) (aM : Nat → Nat → Int32) (p0 : Int32) : Int32 × (Nat → Int32) :=
  if (X5_isBag_f (upd vM 21 0) aM p0) = true then (if (X5_of_f (upd vM 21 0) aM p0 3) = 0 then (0, upd (upd vM 21 0) 21 2)
    else X5_bestMarket_lp38 vM aM p0 4 0 1 (upd vM 21 0))
  else (0, upd (upd vM 21 0) 21 1)
set_option maxHeartbeats 4000000 in
set_option maxRecDepth 100000 in
theorem X5_bestMarket_c (l : Launch) (g : kG) (oM : Nat) (rM : Nat → Nat) (vM : Nat → Int32) (aM : Nat → Nat → Int32) (p0 : Int32) (hB5 : (∃ n : Nat, n ≤ 6 ∧ aM 0 5 = nI n)) : kM l yX5_bestMarket wX5_bestMarket 4 88 0 0 g [.ref oM, .int p0] [X5W g oM rM vM aM] (fun x u => x = (X5_bestMarket_f vM aM p0).1 ∧ u = [X5W g oM rM ((X5_bestMarket_f vM aM p0).2) aM]) := by
  refine kM_of (cc := cX5_bestMarket) (nL := 6) (ret := (some .int)) (lv := [(0, .ref oM), (1, .int p0)]) (by decide) rfl (Nat.le_of_ble_eq_true rfl) rfl ?_
  intro p e s m args below meth c ls A C hP hD hE hA hS hl
  have C : kC p c cX5_bestMarket s m args meth RX5 g 6 (some .int) := C
  have hx := C.1.1
  have hb := C.1.2.1
  have hts := C.1.2.2.2.2
  have loop38 : ∀ (n : Nat) (j38 : Nat) (x2_38 x3_38 : Int32) (vM38 : Nat → Int32) (H : Heap) (locs : List Loc) (ls : Array Slot), j38 ≤ 4 → 4 < j38 + n → x3_38 = nI j38 → vp_in p0 6 → vp_in x2_38 4 → X5_bestMarket_f vM aM p0 = X5_bestMarket_lp38 vM aM p0 n x2_38 x3_38 vM38 → kp g [X5W g oM rM vM38 aM] H → kd A [X5W g oM rM vM38 aM] → va_S A s.heap H locs → lv_has ls 6 [(3, .int x3_38), (2, .int x2_38), (0, .ref oM), (1, .int p0)] → W p l e (kRm 4 0 0 88) s m args below meth c H locs 0 0 (MQ below (kQi g (fun x u => x = (X5_bestMarket_f vM aM p0).1 ∧ u = [X5W g oM rM ((X5_bestMarket_f vM aM p0).2) aM]) A) args s 0 0 A) (F0 m 38 ls []) := by
    intro n
    induction n with
    | zero =>
      intro j38 x2_38 x3_38 vM38 H locs ls hi38 hn38 hx38 hb38 hbest hF38 hP hD hS hl
      exact absurd hn38 (by omega)
    | succ n ih38 =>
      intro j38 x2_38 x3_38 vM38 H locs ls hi38 hn38 hx38 hb38 hbest hF38 hP hD hS hl
      refine lv_iload_n hx hb dX5_bestMarket_38 rfl (lv_at hl 0 rfl) ?_
      refine lv_iconst (v := 4) hx hb dX5_bestMarket_39 (by decide) ?_
      refine lv_icmp_ge (tgt := 118) hx hb dX5_bestMarket_40 (by decide) (fun c3 => ?_) (fun c3 => ?_)
      · refine lv_iload_n hx hb dX5_bestMarket_118 rfl (lv_at hl 1 rfl) ?_
        have hF := (show X5_bestMarket_f vM aM p0 = (x2_38, vM38) from hF38.trans ((X5_bestMarket_lp38_s vM aM p0 n x2_38 x3_38 vM38).trans ((if_pos c3).trans (rfl))))
        exact kM_ret (x := x2_38) C hP hD hS ⟨by rw [hF], by rw [hF]⟩ dX5_bestMarket_119
      have hj38 := k_asc hx38 (y := 4) (N := 4) rfl hi38 (by omega) c3
      refine lv_aload_n hx hb dX5_bestMarket_43 rfl (lv_at hl 2 rfl) ?_
      refine lv_iload_n hx hb dX5_bestMarket_44 rfl (lv_at hl 3 rfl) ?_
      refine lv_iload_n hx hb dX5_bestMarket_45 rfl (lv_at hl 0 rfl) ?_
      refine kM_V (As := [.int p0, .int x3_38]) (rest := []) (wr := []) C (X5_gets_c l g oM rM vM38 aM p0 x3_38 (by first | assumption | exact k_vin hx38 (by omega) (by decide) | exact hB5 | exact ⟨0, by omega, rfl⟩ | exact ⟨1, by omega, rfl⟩ | exact ⟨2, by omega, rfl⟩ | exact ⟨3, by omega, rfl⟩ | exact ⟨4, by omega, rfl⟩ | exact ⟨j38, by omega, hx38⟩) (by first | assumption | exact k_vin hx38 (by omega) (by decide) | exact hB5 | exact ⟨0, by omega, rfl⟩ | exact ⟨1, by omega, rfl⟩ | exact ⟨2, by omega, rfl⟩ | exact ⟨3, by omega, rfl⟩ | exact ⟨4, by omega, rfl⟩ | exact ⟨j38, by omega, hx38⟩)) (cwV 2 hts (k_gV kw1750 ca_X5_gets) rfl rfl rfl ⟨rfl, pnX5_gets⟩ ⟨Nat.le_of_ble_eq_true rfl, Nat.le_of_ble_eq_true rfl⟩) hE hS hA hP hD [0] [] rfl rfl ⟨rfl, rfl, by decide⟩ (k_recv C kFX5 hP (i := 0) (q := 0) rfl rfl) rfl hl.1 rfl rfl dX5_bestMarket_46 ⟨Nat.le_of_ble_eq_true rfl, Nat.le_of_ble_eq_true rfl⟩ (fun r4 u4 H locs hp4 hP hD hS => ?_)
      obtain ⟨rfl, rfl⟩ := hp4
      have hP : kp g [X5W g oM rM ((X5_gets_f vM38 aM p0 x3_38).2) aM] H := hP
      have hD : kd A [X5W g oM rM ((X5_gets_f vM38 aM p0 x3_38).2) aM] := hD
      refine lv_aload_n hx hb dX5_bestMarket_49 rfl (lv_at hl 2 rfl) ?_
      refine lv_iload_n hx hb dX5_bestMarket_50 rfl (lv_at hl 3 rfl) ?_
      refine lv_iload_n hx hb dX5_bestMarket_51 rfl (lv_at hl 1 rfl) ?_
      refine kM_V (As := [.int p0, .int x2_38]) (rest := [.int ((X5_gets_f vM38 aM p0 x3_38).1)]) (wr := []) C (X5_gets_c l g oM rM ((X5_gets_f vM38 aM p0 x3_38).2) aM p0 x2_38 (by first | assumption | exact k_vin hx38 (by omega) (by decide) | exact hB5 | exact ⟨0, by omega, rfl⟩ | exact ⟨1, by omega, rfl⟩ | exact ⟨2, by omega, rfl⟩ | exact ⟨3, by omega, rfl⟩ | exact ⟨4, by omega, rfl⟩ | exact ⟨j38, by omega, hx38⟩) (by first | assumption | exact k_vin hx38 (by omega) (by decide) | exact hB5 | exact ⟨0, by omega, rfl⟩ | exact ⟨1, by omega, rfl⟩ | exact ⟨2, by omega, rfl⟩ | exact ⟨3, by omega, rfl⟩ | exact ⟨4, by omega, rfl⟩ | exact ⟨j38, by omega, hx38⟩)) (cwV 2 hts (k_gV kw1750 ca_X5_gets) rfl rfl rfl ⟨rfl, pnX5_gets⟩ ⟨Nat.le_of_ble_eq_true rfl, Nat.le_of_ble_eq_true rfl⟩) hE hS hA hP hD [0] [] rfl rfl ⟨rfl, rfl, by decide⟩ (k_recv C kFX5 hP (i := 0) (q := 0) rfl rfl) rfl hl.1 rfl rfl dX5_bestMarket_52 ⟨Nat.le_of_ble_eq_true rfl, Nat.le_of_ble_eq_true rfl⟩ (fun r5 u5 H locs hp5 hP hD hS => ?_)
      obtain ⟨rfl, rfl⟩ := hp5
      have hP : kp g [X5W g oM rM ((X5_gets_f ((X5_gets_f vM38 aM p0 x3_38).2) aM p0 x2_38).2) aM] H := hP
      have hD : kd A [X5W g oM rM ((X5_gets_f ((X5_gets_f vM38 aM p0 x3_38).2) aM p0 x2_38).2) aM] := hD
      refine lv_isub hx hb dX5_bestMarket_55 ?_
      refine lv_istore (lv' := [(4, .int ((X5_gets_f vM38 aM p0 x3_38).1 - (X5_gets_f ((X5_gets_f vM38 aM p0 x3_38).2) aM p0 x2_38).1)), (3, .int x3_38), (2, .int x2_38), (0, .ref oM), (1, .int p0)]) hx hb dX5_bestMarket_56 hl (by decide) rfl (fun ls hl => ?_)
      refine lv_iload_n hx hb dX5_bestMarket_58 rfl (lv_at hl 2 rfl) ?_
      refine kR_S (As := [.int x2_38]) (rest := []) C (X5_where_c l g x2_38) (va_cwS 1 hts (k_gS kw1678 cs_X5_where) rfl rfl rfl pnX5_where ⟨Nat.le_of_ble_eq_true rfl, Nat.le_of_ble_eq_true rfl⟩) hE hS (hP.pick [] rfl) rfl hl.1 rfl rfl dX5_bestMarket_59 ⟨Nat.le_of_ble_eq_true rfl, Nat.le_of_ble_eq_true rfl⟩ ?_
      refine lv_aload_n hx hb dX5_bestMarket_62 rfl (lv_at hl 3 rfl) ?_
      refine kg_get C kFX5 (k := 0) kw1446 hP (i := 0) (q := 0) rfl rfl (by decide) rfl dX5_bestMarket_63 ?_
      refine lv_iconst (v := 1) hx hb dX5_bestMarket_66 (by decide) ?_
      refine kg_ialdK C hP (i := 0) (q := 1) rfl rfl (j := 1) rfl (k_vin (j := 1) rfl (by decide) (by decide)) dX5_bestMarket_67 ?_
      refine kR_S (As := [.int ((aM 0) 1)]) (rest := [.int (X5_where_f x2_38)]) C (X5_where_c l g ((aM 0) 1)) (va_cwS 1 hts (k_gS kw1678 cs_X5_where) rfl rfl rfl pnX5_where ⟨Nat.le_of_ble_eq_true rfl, Nat.le_of_ble_eq_true rfl⟩) hE hS (hP.pick [] rfl) rfl hl.1 rfl rfl dX5_bestMarket_68 ⟨Nat.le_of_ble_eq_true rfl, Nat.le_of_ble_eq_true rfl⟩ ?_
      refine lv_isub hx hb dX5_bestMarket_71 ?_
      refine va_mabs hx hb (by rw [C.1.2.2.1, hl.1]) C.1.2.2.2.1 (hts _ (kw1681)) (hts _ kw648) (hts _ kw122) (hts _ kw649) (Nat.le_of_ble_eq_true rfl) (Nat.le_of_ble_eq_true rfl) (Nat.le_of_ble_eq_true rfl) (Nat.le_of_ble_eq_true rfl) dX5_bestMarket_72 ?_
      refine lv_iload_n hx hb dX5_bestMarket_75 rfl (lv_at hl 1 rfl) ?_
      refine kR_S (As := [.int x3_38]) (rest := [.int (if 0 ≤ ((X5_where_f x2_38) - (X5_where_f ((aM 0) 1))) then ((X5_where_f x2_38) - (X5_where_f ((aM 0) 1))) else 0 - ((X5_where_f x2_38) - (X5_where_f ((aM 0) 1))))]) C (X5_where_c l g x3_38) (va_cwS 1 hts (k_gS kw1678 cs_X5_where) rfl rfl rfl pnX5_where ⟨Nat.le_of_ble_eq_true rfl, Nat.le_of_ble_eq_true rfl⟩) hE hS (hP.pick [] rfl) rfl hl.1 rfl rfl dX5_bestMarket_76 ⟨Nat.le_of_ble_eq_true rfl, Nat.le_of_ble_eq_true rfl⟩ ?_
      refine lv_aload_n hx hb dX5_bestMarket_79 rfl (lv_at hl 3 rfl) ?_
      refine kg_get C kFX5 (k := 0) kw1446 hP (i := 0) (q := 0) rfl rfl (by decide) rfl dX5_bestMarket_80 ?_
      refine lv_iconst (v := 1) hx hb dX5_bestMarket_83 (by decide) ?_
      refine kg_ialdK C hP (i := 0) (q := 1) rfl rfl (j := 1) rfl (k_vin (j := 1) rfl (by decide) (by decide)) dX5_bestMarket_84 ?_
      refine kR_S (As := [.int ((aM 0) 1)]) (rest := [.int (X5_where_f x3_38), .int (if 0 ≤ ((X5_where_f x2_38) - (X5_where_f ((aM 0) 1))) then ((X5_where_f x2_38) - (X5_where_f ((aM 0) 1))) else 0 - ((X5_where_f x2_38) - (X5_where_f ((aM 0) 1))))]) C (X5_where_c l g ((aM 0) 1)) (va_cwS 1 hts (k_gS kw1678 cs_X5_where) rfl rfl rfl pnX5_where ⟨Nat.le_of_ble_eq_true rfl, Nat.le_of_ble_eq_true rfl⟩) hE hS (hP.pick [] rfl) rfl hl.1 rfl rfl dX5_bestMarket_85 ⟨Nat.le_of_ble_eq_true rfl, Nat.le_of_ble_eq_true rfl⟩ ?_
      refine lv_isub hx hb dX5_bestMarket_88 ?_
      refine va_mabs hx hb (by rw [C.1.2.2.1, hl.1]) C.1.2.2.2.1 (hts _ (kw1681)) (hts _ kw648) (hts _ kw122) (hts _ kw649) (Nat.le_of_ble_eq_true rfl) (Nat.le_of_ble_eq_true rfl) (Nat.le_of_ble_eq_true rfl) (Nat.le_of_ble_eq_true rfl) dX5_bestMarket_89 ?_
      refine lv_isub hx hb dX5_bestMarket_92 ?_
      refine lv_istore (lv' := [(5, .int ((if 0 ≤ ((X5_where_f x2_38) - (X5_where_f ((aM 0) 1))) then ((X5_where_f x2_38) - (X5_where_f ((aM 0) 1))) else 0 - ((X5_where_f x2_38) - (X5_where_f ((aM 0) 1)))) - (if 0 ≤ ((X5_where_f x3_38) - (X5_where_f ((aM 0) 1))) then ((X5_where_f x3_38) - (X5_where_f ((aM 0) 1))) else 0 - ((X5_where_f x3_38) - (X5_where_f ((aM 0) 1)))))), (4, .int ((X5_gets_f vM38 aM p0 x3_38).1 - (X5_gets_f ((X5_gets_f vM38 aM p0 x3_38).2) aM p0 x2_38).1)), (3, .int x3_38), (2, .int x2_38), (0, .ref oM), (1, .int p0)]) hx hb dX5_bestMarket_93 hl (by decide) rfl (fun ls hl => ?_)
      refine lv_iload hx hb dX5_bestMarket_95 (lv_at hl 1 rfl) ?_
      refine lv_if_gt (tgt := 110) hx hb dX5_bestMarket_97 (by decide) (fun c6 => ?_) (fun c6 => ?_)
      · refine lv_iload_n hx hb dX5_bestMarket_110 rfl (lv_at hl 2 rfl) ?_
        refine lv_istore_n (lv' := [(2, .int x3_38), (5, .int ((if 0 ≤ ((X5_where_f x2_38) - (X5_where_f ((aM 0) 1))) then ((X5_where_f x2_38) - (X5_where_f ((aM 0) 1))) else 0 - ((X5_where_f x2_38) - (X5_where_f ((aM 0) 1)))) - (if 0 ≤ ((X5_where_f x3_38) - (X5_where_f ((aM 0) 1))) then ((X5_where_f x3_38) - (X5_where_f ((aM 0) 1))) else 0 - ((X5_where_f x3_38) - (X5_where_f ((aM 0) 1)))))), (4, .int ((X5_gets_f vM38 aM p0 x3_38).1 - (X5_gets_f ((X5_gets_f vM38 aM p0 x3_38).2) aM p0 x2_38).1)), (3, .int x3_38), (0, .ref oM), (1, .int p0)]) hx hb dX5_bestMarket_111 rfl hl (by decide) rfl (fun ls hl => ?_)
        refine lv_iinc (v := (x3_38 + 1)) (lv' := [(3, .int (x3_38 + 1)), (2, .int x3_38), (5, .int ((if 0 ≤ ((X5_where_f x2_38) - (X5_where_f ((aM 0) 1))) then ((X5_where_f x2_38) - (X5_where_f ((aM 0) 1))) else 0 - ((X5_where_f x2_38) - (X5_where_f ((aM 0) 1)))) - (if 0 ≤ ((X5_where_f x3_38) - (X5_where_f ((aM 0) 1))) then ((X5_where_f x3_38) - (X5_where_f ((aM 0) 1))) else 0 - ((X5_where_f x3_38) - (X5_where_f ((aM 0) 1)))))), (4, .int ((X5_gets_f vM38 aM p0 x3_38).1 - (X5_gets_f ((X5_gets_f vM38 aM p0 x3_38).2) aM p0 x2_38).1)), (0, .ref oM), (1, .int p0)]) hx hb dX5_bestMarket_112 hl (k := 3) rfl rfl (by decide) rfl (fun ls hl => ?_)
        refine lv_goto (tgt := 38) hx hb dX5_bestMarket_115 (by decide) ?_
        exact ih38 (j38 + 1) x3_38 (x3_38 + 1) ((X5_gets_f ((X5_gets_f vM38 aM p0 x3_38).2) aM p0 x2_38).2) _ _ ls hj38 (by omega) (k_up hx38) hb38 (by first | assumption | exact k_vin (M := 4) hx38 (by omega) (by decide)) (show X5_bestMarket_f vM aM p0 = X5_bestMarket_lp38 vM aM p0 n x3_38 (x3_38 + 1) ((X5_gets_f ((X5_gets_f vM38 aM p0 x3_38).2) aM p0 x2_38).2) from hF38.trans ((X5_bestMarket_lp38_s vM aM p0 n x2_38 x3_38 vM38).trans ((if_neg c3).trans ((if_pos c6).trans (rfl))))) hP hD hS (lv_sub hl [0, 1, 4, 5] rfl)
      refine lv_iload hx hb dX5_bestMarket_100 (lv_at hl 1 rfl) ?_
      refine lv_if_ne (tgt := 112) hx hb dX5_bestMarket_102 (by decide) (fun c7 => ?_) (fun c7 => ?_)
      · refine lv_iinc (v := (x3_38 + 1)) (lv' := [(3, .int (x3_38 + 1)), (5, .int ((if 0 ≤ ((X5_where_f x2_38) - (X5_where_f ((aM 0) 1))) then ((X5_where_f x2_38) - (X5_where_f ((aM 0) 1))) else 0 - ((X5_where_f x2_38) - (X5_where_f ((aM 0) 1)))) - (if 0 ≤ ((X5_where_f x3_38) - (X5_where_f ((aM 0) 1))) then ((X5_where_f x3_38) - (X5_where_f ((aM 0) 1))) else 0 - ((X5_where_f x3_38) - (X5_where_f ((aM 0) 1)))))), (4, .int ((X5_gets_f vM38 aM p0 x3_38).1 - (X5_gets_f ((X5_gets_f vM38 aM p0 x3_38).2) aM p0 x2_38).1)), (2, .int x2_38), (0, .ref oM), (1, .int p0)]) hx hb dX5_bestMarket_112 hl (k := 2) rfl rfl (by decide) rfl (fun ls hl => ?_)
        refine lv_goto (tgt := 38) hx hb dX5_bestMarket_115 (by decide) ?_
        exact ih38 (j38 + 1) x2_38 (x3_38 + 1) ((X5_gets_f ((X5_gets_f vM38 aM p0 x3_38).2) aM p0 x2_38).2) _ _ ls hj38 (by omega) (k_up hx38) hb38 (by first | assumption | exact k_vin (M := 4) hx38 (by omega) (by decide)) (show X5_bestMarket_f vM aM p0 = X5_bestMarket_lp38 vM aM p0 n x2_38 (x3_38 + 1) ((X5_gets_f ((X5_gets_f vM38 aM p0 x3_38).2) aM p0 x2_38).2) from hF38.trans ((X5_bestMarket_lp38_s vM aM p0 n x2_38 x3_38 vM38).trans ((if_neg c3).trans ((if_neg c6).trans ((if_neg c7).trans (rfl)))))) hP hD hS (lv_sub hl [0, 3, 4, 5] rfl)
      refine lv_iload hx hb dX5_bestMarket_105 (lv_at hl 0 rfl) ?_
      refine lv_if_le (tgt := 112) hx hb dX5_bestMarket_107 (by decide) (fun c8 => ?_) (fun c8 => ?_)
      · refine lv_iinc (v := (x3_38 + 1)) (lv' := [(3, .int (x3_38 + 1)), (5, .int ((if 0 ≤ ((X5_where_f x2_38) - (X5_where_f ((aM 0) 1))) then ((X5_where_f x2_38) - (X5_where_f ((aM 0) 1))) else 0 - ((X5_where_f x2_38) - (X5_where_f ((aM 0) 1)))) - (if 0 ≤ ((X5_where_f x3_38) - (X5_where_f ((aM 0) 1))) then ((X5_where_f x3_38) - (X5_where_f ((aM 0) 1))) else 0 - ((X5_where_f x3_38) - (X5_where_f ((aM 0) 1)))))), (4, .int ((X5_gets_f vM38 aM p0 x3_38).1 - (X5_gets_f ((X5_gets_f vM38 aM p0 x3_38).2) aM p0 x2_38).1)), (2, .int x2_38), (0, .ref oM), (1, .int p0)]) hx hb dX5_bestMarket_112 hl (k := 2) rfl rfl (by decide) rfl (fun ls hl => ?_)
        refine lv_goto (tgt := 38) hx hb dX5_bestMarket_115 (by decide) ?_
        exact ih38 (j38 + 1) x2_38 (x3_38 + 1) ((X5_gets_f ((X5_gets_f vM38 aM p0 x3_38).2) aM p0 x2_38).2) _ _ ls hj38 (by omega) (k_up hx38) hb38 (by first | assumption | exact k_vin (M := 4) hx38 (by omega) (by decide)) (show X5_bestMarket_f vM aM p0 = X5_bestMarket_lp38 vM aM p0 n x2_38 (x3_38 + 1) ((X5_gets_f ((X5_gets_f vM38 aM p0 x3_38).2) aM p0 x2_38).2) from hF38.trans ((X5_bestMarket_lp38_s vM aM p0 n x2_38 x3_38 vM38).trans ((if_neg c3).trans ((if_neg c6).trans ((if_pos c7).trans ((if_pos c8).trans (rfl))))))) hP hD hS (lv_sub hl [0, 3, 4, 5] rfl)
      refine lv_iload_n hx hb dX5_bestMarket_110 rfl (lv_at hl 2 rfl) ?_
      refine lv_istore_n (lv' := [(2, .int x3_38), (5, .int ((if 0 ≤ ((X5_where_f x2_38) - (X5_where_f ((aM 0) 1))) then ((X5_where_f x2_38) - (X5_where_f ((aM 0) 1))) else 0 - ((X5_where_f x2_38) - (X5_where_f ((aM 0) 1)))) - (if 0 ≤ ((X5_where_f x3_38) - (X5_where_f ((aM 0) 1))) then ((X5_where_f x3_38) - (X5_where_f ((aM 0) 1))) else 0 - ((X5_where_f x3_38) - (X5_where_f ((aM 0) 1)))))), (4, .int ((X5_gets_f vM38 aM p0 x3_38).1 - (X5_gets_f ((X5_gets_f vM38 aM p0 x3_38).2) aM p0 x2_38).1)), (3, .int x3_38), (0, .ref oM), (1, .int p0)]) hx hb dX5_bestMarket_111 rfl hl (by decide) rfl (fun ls hl => ?_)
      refine lv_iinc (v := (x3_38 + 1)) (lv' := [(3, .int (x3_38 + 1)), (2, .int x3_38), (5, .int ((if 0 ≤ ((X5_where_f x2_38) - (X5_where_f ((aM 0) 1))) then ((X5_where_f x2_38) - (X5_where_f ((aM 0) 1))) else 0 - ((X5_where_f x2_38) - (X5_where_f ((aM 0) 1)))) - (if 0 ≤ ((X5_where_f x3_38) - (X5_where_f ((aM 0) 1))) then ((X5_where_f x3_38) - (X5_where_f ((aM 0) 1))) else 0 - ((X5_where_f x3_38) - (X5_where_f ((aM 0) 1)))))), (4, .int ((X5_gets_f vM38 aM p0 x3_38).1 - (X5_gets_f ((X5_gets_f vM38 aM p0 x3_38).2) aM p0 x2_38).1)), (0, .ref oM), (1, .int p0)]) hx hb dX5_bestMarket_112 hl (k := 3) rfl rfl (by decide) rfl (fun ls hl => ?_)
      refine lv_goto (tgt := 38) hx hb dX5_bestMarket_115 (by decide) ?_
      exact ih38 (j38 + 1) x3_38 (x3_38 + 1) ((X5_gets_f ((X5_gets_f vM38 aM p0 x3_38).2) aM p0 x2_38).2) _ _ ls hj38 (by omega) (k_up hx38) hb38 (by first | assumption | exact k_vin (M := 4) hx38 (by omega) (by decide)) (show X5_bestMarket_f vM aM p0 = X5_bestMarket_lp38 vM aM p0 n x3_38 (x3_38 + 1) ((X5_gets_f ((X5_gets_f vM38 aM p0 x3_38).2) aM p0 x2_38).2) from hF38.trans ((X5_bestMarket_lp38_s vM aM p0 n x2_38 x3_38 vM38).trans ((if_neg c3).trans ((if_neg c6).trans ((if_pos c7).trans ((if_neg c8).trans (rfl))))))) hP hD hS (lv_sub hl [0, 1, 4, 5] rfl)
  refine lv_aload_n hx hb dX5_bestMarket_0 rfl (lv_at hl 0 rfl) ?_
  refine lv_iconst (v := 0) hx hb dX5_bestMarket_1 (by decide) ?_
  refine kg_put C kFX5 (k := 21) kw1467 hP hD hS (i := 0) (q := 0) rfl rfl (by decide) rfl rfl rfl (Nat.le_of_ble_eq_true rfl) X5s_21 rfl dX5_bestMarket_2 (fun H locs hP hD hS => ?_)
  have hP : kp g [X5W g oM rM (upd vM 21 0) aM] H := hP
  have hD : kd A [X5W g oM rM (upd vM 21 0) aM] := hD
  refine lv_aload_n hx hb dX5_bestMarket_5 rfl (lv_at hl 0 rfl) ?_
  refine lv_iload_n hx hb dX5_bestMarket_6 rfl (lv_at hl 1 rfl) ?_
  refine kR_V (As := [.int p0]) (rest := []) C (X5_isBag_c l g oM rM (upd vM 21 0) aM p0) (cwV 1 hts (k_gV kw1560 ca_X5_isBag) rfl rfl rfl ⟨rfl, pnX5_isBag⟩ ⟨Nat.le_of_ble_eq_true rfl, Nat.le_of_ble_eq_true rfl⟩) hE hS (hP.pick [0] rfl) (k_recv C kFX5 hP (i := 0) (q := 0) rfl rfl) rfl hl.1 rfl rfl dX5_bestMarket_7 ⟨Nat.le_of_ble_eq_true rfl, Nat.le_of_ble_eq_true rfl⟩ ?_
  refine lv_if_ne (tgt := 19) hx hb dX5_bestMarket_10 (by decide) (fun c1 => ?_) (fun c1 => ?_)
  · have c1 := b2i_ne0 c1
    have z1 := k_isBag c1 hB5
    refine lv_aload_n hx hb dX5_bestMarket_19 rfl (lv_at hl 0 rfl) ?_
    refine lv_iload_n hx hb dX5_bestMarket_20 rfl (lv_at hl 1 rfl) ?_
    refine lv_iconst (v := 3) hx hb dX5_bestMarket_21 (by decide) ?_
    refine kR_V (As := [.int p0, .int 3]) (rest := []) C (X5_of_c l g oM rM (upd vM 21 0) aM p0 3 (by first | assumption | exact hB5 | exact ⟨0, by omega, rfl⟩ | exact ⟨1, by omega, rfl⟩ | exact ⟨2, by omega, rfl⟩ | exact ⟨3, by omega, rfl⟩ | exact ⟨4, by omega, rfl⟩) (by first | assumption | exact hB5 | exact ⟨0, by omega, rfl⟩ | exact ⟨1, by omega, rfl⟩ | exact ⟨2, by omega, rfl⟩ | exact ⟨3, by omega, rfl⟩ | exact ⟨4, by omega, rfl⟩)) (cwV 2 hts (k_gV kw1568 ca_X5_of) rfl rfl rfl ⟨rfl, pnX5_of⟩ ⟨Nat.le_of_ble_eq_true rfl, Nat.le_of_ble_eq_true rfl⟩) hE hS (hP.pick [0] rfl) (k_recv C kFX5 hP (i := 0) (q := 0) rfl rfl) rfl hl.1 rfl rfl dX5_bestMarket_22 ⟨Nat.le_of_ble_eq_true rfl, Nat.le_of_ble_eq_true rfl⟩ ?_
    refine lv_if_ne (tgt := 34) hx hb dX5_bestMarket_25 (by decide) (fun c2 => ?_) (fun c2 => ?_)
    · refine lv_iconst (v := 0) hx hb dX5_bestMarket_34 (by decide) ?_
      refine lv_istore_n (lv' := [(2, .int 0), (0, .ref oM), (1, .int p0)]) hx hb dX5_bestMarket_35 rfl hl (by decide) rfl (fun ls hl => ?_)
      refine lv_iconst (v := 1) hx hb dX5_bestMarket_36 (by decide) ?_
      refine lv_istore_n (lv' := [(3, .int 1), (2, .int 0), (0, .ref oM), (1, .int p0)]) hx hb dX5_bestMarket_37 rfl hl (by decide) rfl (fun ls hl => ?_)
      exact loop38 4 1 0 1 (upd vM 21 0) _ _ ls (by omega) (by omega) rfl z1 (k_vin (j := 0) rfl (by decide) (by decide)) (show X5_bestMarket_f vM aM p0 = X5_bestMarket_lp38 vM aM p0 4 0 1 (upd vM 21 0) from (if_pos c1).trans ((if_neg c2).trans (rfl))) hP hD hS (lv_sub hl [0, 1, 2, 3] rfl)
    refine lv_aload_n hx hb dX5_bestMarket_28 rfl (lv_at hl 0 rfl) ?_
    refine lv_iconst (v := 2) hx hb dX5_bestMarket_29 (by decide) ?_
    refine kM_V (As := [.int 2]) (rest := []) (wr := []) C (X5_raises_c l g oM rM (upd vM 21 0) aM 2) (cwV 1 hts (k_gV kw1540 ca_X5_raises) rfl rfl rfl ⟨rfl, pnX5_raises⟩ ⟨Nat.le_of_ble_eq_true rfl, Nat.le_of_ble_eq_true rfl⟩) hE hS hA hP hD [0] [] rfl rfl ⟨rfl, rfl, by decide⟩ (k_recv C kFX5 hP (i := 0) (q := 0) rfl rfl) rfl hl.1 rfl rfl dX5_bestMarket_30 ⟨Nat.le_of_ble_eq_true rfl, Nat.le_of_ble_eq_true rfl⟩ (fun r9 u9 H locs hp9 hP hD hS => ?_)
    obtain ⟨er9, eu9⟩ := hp9
    have er9 : r9 = 0 := er9
    have eu9 : u9 = [X5W g oM rM (upd (upd vM 21 0) 21 2) aM] := eu9
    subst er9 eu9
    have hP : kp g [X5W g oM rM (upd (upd vM 21 0) 21 2) aM] H := hP
    have hD : kd A [X5W g oM rM (upd (upd vM 21 0) 21 2) aM] := hD
    have hF := (show X5_bestMarket_f vM aM p0 = (0, upd (upd vM 21 0) 21 2) from (if_pos c1).trans ((if_pos c2).trans (rfl)))
    exact kM_ret (x := 0) C hP hD hS ⟨by rw [hF], by rw [hF]⟩ dX5_bestMarket_33
  have c1 := b2i_eq0 c1
  refine lv_aload_n hx hb dX5_bestMarket_13 rfl (lv_at hl 0 rfl) ?_
  refine lv_iconst (v := 1) hx hb dX5_bestMarket_14 (by decide) ?_
  refine kM_V (As := [.int 1]) (rest := []) (wr := []) C (X5_raises_c l g oM rM (upd vM 21 0) aM 1) (cwV 1 hts (k_gV kw1540 ca_X5_raises) rfl rfl rfl ⟨rfl, pnX5_raises⟩ ⟨Nat.le_of_ble_eq_true rfl, Nat.le_of_ble_eq_true rfl⟩) hE hS hA hP hD [0] [] rfl rfl ⟨rfl, rfl, by decide⟩ (k_recv C kFX5 hP (i := 0) (q := 0) rfl rfl) rfl hl.1 rfl rfl dX5_bestMarket_15 ⟨Nat.le_of_ble_eq_true rfl, Nat.le_of_ble_eq_true rfl⟩ (fun r10 u10 H locs hp10 hP hD hS => ?_)
  obtain ⟨er10, eu10⟩ := hp10
  have er10 : r10 = 0 := er10
  have eu10 : u10 = [X5W g oM rM (upd (upd vM 21 0) 21 1) aM] := eu10
  subst er10 eu10
  have hP : kp g [X5W g oM rM (upd (upd vM 21 0) 21 1) aM] H := hP
  have hD : kd A [X5W g oM rM (upd (upd vM 21 0) 21 1) aM] := hD
  have hF := (show X5_bestMarket_f vM aM p0 = (0, upd (upd vM 21 0) 21 1) from (if_neg c1).trans (rfl))
  exact kM_ret (x := 0) C hP hD hS ⟨by rw [hF], by rw [hF]⟩ dX5_bestMarket_18

abbrev wX5_oathUntil : List Cond := Cond.code yX5_oathUntil cX5_oathUntil 2 (some .int) :: kW
def X5_oathUntil_f (vM : Nat → Int32) (aM : Nat → Nat → Int32) (p0 : Int32) : Int32 × (Nat → Int32) :=
  if (X5_isMarket_f p0) = true then (if (X5_isSworn_f (upd vM 21 0) aM p0) = true then ((((aM 0) (10 + p0).toNatClampNeg) - 1), upd vM 21 0)
    else (0, upd (upd vM 21 0) 21 2))
  else (0, upd (upd vM 21 0) 21 1)
set_option maxHeartbeats 4000000 in
set_option maxRecDepth 100000 in
theorem X5_oathUntil_c (l : Launch) (g : kG) (oM : Nat) (rM : Nat → Nat) (vM : Nat → Int32) (aM : Nat → Nat → Int32) (p0 : Int32) : kM l yX5_oathUntil wX5_oathUntil 2 42 0 0 g [.ref oM, .int p0] [X5W g oM rM vM aM] (fun x u => x = (X5_oathUntil_f vM aM p0).1 ∧ u = [X5W g oM rM ((X5_oathUntil_f vM aM p0).2) aM]) := by
  refine kM_of (cc := cX5_oathUntil) (nL := 2) (ret := (some .int)) (lv := [(0, .ref oM), (1, .int p0)]) (by decide) rfl (Nat.le_of_ble_eq_true rfl) rfl ?_
  intro p e s m args below meth c ls A C hP hD hE hA hS hl
  have C : kC p c cX5_oathUntil s m args meth RX5 g 2 (some .int) := C
  have hx := C.1.1
  have hb := C.1.2.1
  have hts := C.1.2.2.2.2
  refine lv_aload_n hx hb dX5_oathUntil_0 rfl (lv_at hl 0 rfl) ?_
  refine lv_iconst (v := 0) hx hb dX5_oathUntil_1 (by decide) ?_
  refine kg_put C kFX5 (k := 21) kw1467 hP hD hS (i := 0) (q := 0) rfl rfl (by decide) rfl rfl rfl (Nat.le_of_ble_eq_true rfl) X5s_21 rfl dX5_oathUntil_2 (fun H locs hP hD hS => ?_)
  have hP : kp g [X5W g oM rM (upd vM 21 0) aM] H := hP
  have hD : kd A [X5W g oM rM (upd vM 21 0) aM] := hD
  refine lv_iload_n hx hb dX5_oathUntil_5 rfl (lv_at hl 1 rfl) ?_
  refine kR_S (As := [.int p0]) (rest := []) C (X5_isMarket_c l g p0) (va_cwS 1 hts (k_gS kw1675 cs_X5_isMarket) rfl rfl rfl pnX5_isMarket ⟨Nat.le_of_ble_eq_true rfl, Nat.le_of_ble_eq_true rfl⟩) hE hS (hP.pick [] rfl) rfl hl.1 rfl rfl dX5_oathUntil_6 ⟨Nat.le_of_ble_eq_true rfl, Nat.le_of_ble_eq_true rfl⟩ ?_
  refine lv_if_ne (tgt := 18) hx hb dX5_oathUntil_9 (by decide) (fun c1 => ?_) (fun c1 => ?_)
  · have c1 := b2i_ne0 c1
    have z3 := k_isMarket5 c1
    refine lv_aload_n hx hb dX5_oathUntil_18 rfl (lv_at hl 0 rfl) ?_
    refine lv_iload_n hx hb dX5_oathUntil_19 rfl (lv_at hl 1 rfl) ?_
    refine kR_V (As := [.int p0]) (rest := []) C (X5_isSworn_c l g oM rM (upd vM 21 0) aM p0 (by first | assumption | exact ⟨0, by omega, rfl⟩ | exact ⟨1, by omega, rfl⟩ | exact ⟨2, by omega, rfl⟩ | exact ⟨3, by omega, rfl⟩ | exact ⟨4, by omega, rfl⟩)) (cwV 1 hts (k_gV kw1604 ca_X5_isSworn) rfl rfl rfl ⟨rfl, pnX5_isSworn⟩ ⟨Nat.le_of_ble_eq_true rfl, Nat.le_of_ble_eq_true rfl⟩) hE hS (hP.pick [0] rfl) (k_recv C kFX5 hP (i := 0) (q := 0) rfl rfl) rfl hl.1 rfl rfl dX5_oathUntil_20 ⟨Nat.le_of_ble_eq_true rfl, Nat.le_of_ble_eq_true rfl⟩ ?_
    refine lv_if_eq (tgt := 40) hx hb dX5_oathUntil_23 (by decide) (fun c2 => ?_) (fun c2 => ?_)
    · have c2 := b2i_eq0 c2
      refine lv_aload_n hx hb dX5_oathUntil_40 rfl (lv_at hl 0 rfl) ?_
      refine lv_iconst (v := 2) hx hb dX5_oathUntil_41 (by decide) ?_
      refine kM_V (As := [.int 2]) (rest := []) (wr := []) C (X5_raises_c l g oM rM (upd vM 21 0) aM 2) (cwV 1 hts (k_gV kw1540 ca_X5_raises) rfl rfl rfl ⟨rfl, pnX5_raises⟩ ⟨Nat.le_of_ble_eq_true rfl, Nat.le_of_ble_eq_true rfl⟩) hE hS hA hP hD [0] [] rfl rfl ⟨rfl, rfl, by decide⟩ (k_recv C kFX5 hP (i := 0) (q := 0) rfl rfl) rfl hl.1 rfl rfl dX5_oathUntil_42 ⟨Nat.le_of_ble_eq_true rfl, Nat.le_of_ble_eq_true rfl⟩ (fun r3 u3 H locs hp3 hP hD hS => ?_)
      obtain ⟨er3, eu3⟩ := hp3
      have er3 : r3 = 0 := er3
      have eu3 : u3 = [X5W g oM rM (upd (upd vM 21 0) 21 2) aM] := eu3
      subst er3 eu3
      have hP : kp g [X5W g oM rM (upd (upd vM 21 0) 21 2) aM] H := hP
      have hD : kd A [X5W g oM rM (upd (upd vM 21 0) 21 2) aM] := hD
      have hF := (show X5_oathUntil_f vM aM p0 = (0, upd (upd vM 21 0) 21 2) from (if_pos c1).trans ((if_neg c2).trans (rfl)))
      exact kM_ret (x := 0) C hP hD hS ⟨by rw [hF], by rw [hF]⟩ dX5_oathUntil_45
    have c2 := b2i_ne0 c2
    refine lv_aload_n hx hb dX5_oathUntil_26 rfl (lv_at hl 0 rfl) ?_
    refine kg_get C kFX5 (k := 0) kw1446 hP (i := 0) (q := 0) rfl rfl (by decide) rfl dX5_oathUntil_27 ?_
    refine lv_bipush (v := 10) hx hb dX5_oathUntil_30 (by decide) ?_
    refine lv_iload_n hx hb dX5_oathUntil_32 rfl (lv_at hl 1 rfl) ?_
    refine lv_iadd hx hb dX5_oathUntil_33 ?_
    refine kg_iald C hP (i := 0) (q := 1) rfl rfl (k_off (c := 10) rfl z3 (by omega) (by omega)) dX5_oathUntil_34 ?_
    refine lv_iconst (v := 1) hx hb dX5_oathUntil_35 (by decide) ?_
    refine lv_isub hx hb dX5_oathUntil_36 ?_
    refine lv_goto (tgt := 45) hx hb dX5_oathUntil_37 (by decide) ?_
    have hF := (show X5_oathUntil_f vM aM p0 = ((((aM 0) (10 + p0).toNatClampNeg) - 1), upd vM 21 0) from (if_pos c1).trans ((if_pos c2).trans (rfl)))
    exact kM_ret (x := (((aM 0) (10 + p0).toNatClampNeg) - 1)) C hP hD hS ⟨by rw [hF], by rw [hF]⟩ dX5_oathUntil_45
  have c1 := b2i_eq0 c1
  refine lv_aload_n hx hb dX5_oathUntil_12 rfl (lv_at hl 0 rfl) ?_
  refine lv_iconst (v := 1) hx hb dX5_oathUntil_13 (by decide) ?_
  refine kM_V (As := [.int 1]) (rest := []) (wr := []) C (X5_raises_c l g oM rM (upd vM 21 0) aM 1) (cwV 1 hts (k_gV kw1540 ca_X5_raises) rfl rfl rfl ⟨rfl, pnX5_raises⟩ ⟨Nat.le_of_ble_eq_true rfl, Nat.le_of_ble_eq_true rfl⟩) hE hS hA hP hD [0] [] rfl rfl ⟨rfl, rfl, by decide⟩ (k_recv C kFX5 hP (i := 0) (q := 0) rfl rfl) rfl hl.1 rfl rfl dX5_oathUntil_14 ⟨Nat.le_of_ble_eq_true rfl, Nat.le_of_ble_eq_true rfl⟩ (fun r4 u4 H locs hp4 hP hD hS => ?_)
  obtain ⟨er4, eu4⟩ := hp4
  have er4 : r4 = 0 := er4
  have eu4 : u4 = [X5W g oM rM (upd (upd vM 21 0) 21 1) aM] := eu4
  subst er4 eu4
  have hP : kp g [X5W g oM rM (upd (upd vM 21 0) 21 1) aM] H := hP
  have hD : kd A [X5W g oM rM (upd (upd vM 21 0) 21 1) aM] := hD
  have hF := (show X5_oathUntil_f vM aM p0 = (0, upd (upd vM 21 0) 21 1) from (if_neg c1).trans (rfl))
  exact kM_ret (x := 0) C hP hD hS ⟨by rw [hF], by rw [hF]⟩ dX5_oathUntil_17

abbrev wX5_isNoticed : List Cond := Cond.code yX5_isNoticed cX5_isNoticed 2 (some .boolean) :: kW
def X5_isNoticed_f (vM : Nat → Int32) (aM : Nat → Nat → Int32) (p0 : Int32) : Bool × (Nat → Int32) :=
  if (X5_isMarket_f p0) = true then (if ((aM 0) 3) ≤ (X5_most_f (upd vM 21 0) aM p0) then (false, upd vM 21 0)
    else (true, upd vM 21 0))
  else (false, upd vM 21 1)
set_option maxHeartbeats 4000000 in
set_option maxRecDepth 100000 in
theorem X5_isNoticed_c (l : Launch) (g : kG) (oM : Nat) (rM : Nat → Nat) (vM : Nat → Int32) (aM : Nat → Nat → Int32) (p0 : Int32) : kM l yX5_isNoticed wX5_isNoticed 2 42 0 0 g [.ref oM, .int p0] [X5W g oM rM vM aM] (fun x u => x = b2i (X5_isNoticed_f vM aM p0).1 ∧ u = [X5W g oM rM ((X5_isNoticed_f vM aM p0).2) aM]) := by
  refine kM_of (cc := cX5_isNoticed) (nL := 2) (ret := (some .boolean)) (lv := [(0, .ref oM), (1, .int p0)]) (by decide) rfl (Nat.le_of_ble_eq_true rfl) rfl ?_
  intro p e s m args below meth c ls A C hP hD hE hA hS hl
  have C : kC p c cX5_isNoticed s m args meth RX5 g 2 (some .boolean) := C
  have hx := C.1.1
  have hb := C.1.2.1
  have hts := C.1.2.2.2.2
  refine lv_aload_n hx hb dX5_isNoticed_0 rfl (lv_at hl 0 rfl) ?_
  refine lv_iload_n hx hb dX5_isNoticed_1 rfl (lv_at hl 1 rfl) ?_
  refine kR_S (As := [.int p0]) (rest := [.ref oM]) C (X5_isMarket_c l g p0) (va_cwS 1 hts (k_gS kw1675 cs_X5_isMarket) rfl rfl rfl pnX5_isMarket ⟨Nat.le_of_ble_eq_true rfl, Nat.le_of_ble_eq_true rfl⟩) hE hS (hP.pick [] rfl) rfl hl.1 rfl rfl dX5_isNoticed_2 ⟨Nat.le_of_ble_eq_true rfl, Nat.le_of_ble_eq_true rfl⟩ ?_
  refine lv_if_eq (tgt := 12) hx hb dX5_isNoticed_5 (by decide) (fun c1 => ?_) (fun c1 => ?_)
  · have c1 := b2i_eq0 c1
    refine lv_iconst (v := 1) hx hb dX5_isNoticed_12 (by decide) ?_
    refine kg_put C kFX5 (k := 21) kw1467 hP hD hS (i := 0) (q := 0) rfl rfl (by decide) rfl rfl rfl (Nat.le_of_ble_eq_true rfl) X5s_21 rfl dX5_isNoticed_13 (fun H locs hP hD hS => ?_)
    have hP : kp g [X5W g oM rM (upd vM 21 1) aM] H := hP
    have hD : kd A [X5W g oM rM (upd vM 21 1) aM] := hD
    refine lv_aload_n hx hb dX5_isNoticed_16 rfl (lv_at hl 0 rfl) ?_
    refine kg_get C kFX5 (k := 21) kw1467 hP (i := 0) (q := 0) rfl rfl (by decide) rfl dX5_isNoticed_17 ?_
    refine lv_if_ne (tgt := 41) hx hb dX5_isNoticed_20 (by decide) (fun _ => ?_) (fun z => absurd z (show ¬ ((1 : Int32) = 0) by decide))
    refine lv_iconst (v := 0) hx hb dX5_isNoticed_41 (by decide) ?_
    have hF := (show X5_isNoticed_f vM aM p0 = (false, upd vM 21 1) from (if_neg c1).trans (rfl))
    exact kM_zret (x := b2i false) C (b2i_nar _) hP hD hS ⟨by rw [hF], by rw [hF]⟩ dX5_isNoticed_42
  have c1 := b2i_ne0 c1
  refine lv_iconst (v := 0) hx hb dX5_isNoticed_8 (by decide) ?_
  refine lv_goto (tgt := 13) hx hb dX5_isNoticed_9 (by decide) ?_
  refine kg_put C kFX5 (k := 21) kw1467 hP hD hS (i := 0) (q := 0) rfl rfl (by decide) rfl rfl rfl (Nat.le_of_ble_eq_true rfl) X5s_21 rfl dX5_isNoticed_13 (fun H locs hP hD hS => ?_)
  have hP : kp g [X5W g oM rM (upd vM 21 0) aM] H := hP
  have hD : kd A [X5W g oM rM (upd vM 21 0) aM] := hD
  refine lv_aload_n hx hb dX5_isNoticed_16 rfl (lv_at hl 0 rfl) ?_
  refine kg_get C kFX5 (k := 21) kw1467 hP (i := 0) (q := 0) rfl rfl (by decide) rfl dX5_isNoticed_17 ?_
  refine lv_if_ne (tgt := 41) hx hb dX5_isNoticed_20 (by decide) (fun z => absurd (show ((0 : Int32) = 0) by decide) z) (fun _ => ?_)
  refine lv_aload_n hx hb dX5_isNoticed_23 rfl (lv_at hl 0 rfl) ?_
  refine kg_get C kFX5 (k := 0) kw1446 hP (i := 0) (q := 0) rfl rfl (by decide) rfl dX5_isNoticed_24 ?_
  refine lv_iconst (v := 3) hx hb dX5_isNoticed_27 (by decide) ?_
  refine kg_ialdK C hP (i := 0) (q := 1) rfl rfl (j := 3) rfl (k_vin (j := 3) rfl (by decide) (by decide)) dX5_isNoticed_28 ?_
  refine lv_aload_n hx hb dX5_isNoticed_29 rfl (lv_at hl 0 rfl) ?_
  refine lv_iload_n hx hb dX5_isNoticed_30 rfl (lv_at hl 1 rfl) ?_
  refine kR_V (As := [.int p0]) (rest := [.int ((aM 0) 3)]) C (X5_most_c l g oM rM (upd vM 21 0) aM p0) (cwV 1 hts (k_gV kw1648 ca_X5_most) rfl rfl rfl ⟨rfl, pnX5_most⟩ ⟨Nat.le_of_ble_eq_true rfl, Nat.le_of_ble_eq_true rfl⟩) hE hS (hP.pick [0] rfl) (k_recv C kFX5 hP (i := 0) (q := 0) rfl rfl) rfl hl.1 rfl rfl dX5_isNoticed_31 ⟨Nat.le_of_ble_eq_true rfl, Nat.le_of_ble_eq_true rfl⟩ ?_
  refine lv_icmp_le (tgt := 41) hx hb dX5_isNoticed_34 (by decide) (fun c4 => ?_) (fun c4 => ?_)
  · refine lv_iconst (v := 0) hx hb dX5_isNoticed_41 (by decide) ?_
    have hF := (show X5_isNoticed_f vM aM p0 = (false, upd vM 21 0) from (if_pos c1).trans ((if_pos c4).trans (rfl)))
    exact kM_zret (x := b2i false) C (b2i_nar _) hP hD hS ⟨by rw [hF], by rw [hF]⟩ dX5_isNoticed_42
  refine lv_iconst (v := 1) hx hb dX5_isNoticed_37 (by decide) ?_
  refine lv_goto (tgt := 42) hx hb dX5_isNoticed_38 (by decide) ?_
  have hF := (show X5_isNoticed_f vM aM p0 = (true, upd vM 21 0) from (if_pos c1).trans ((if_neg c4).trans (rfl)))
  exact kM_zret (x := b2i true) C (b2i_nar _) hP hD hS ⟨by rw [hF], by rw [hF]⟩ dX5_isNoticed_42

abbrev wX5_ranked : List Cond := Cond.code yX5_ranked cX5_ranked 7 (some .int) :: kW
def X5_ranked_lp22b (vM : Nat → Int32) (aM : Nat → Nat → Int32) (p0 : Int32) (rec : Int32 → Int32 → Int32 → (Int32 × Int32)) (x2_22 x3_22 x4_22 : Int32) : Int32 × Int32 :=
  if ((aM 0) 5) ≤ x4_22 then (x3_22, x4_22)
  else if 0 < ((X5_of_f (upd vM 21 0) aM x4_22 3) - (X5_of_f (upd vM 21 0) aM x2_22 3)) then rec x2_22 (x3_22 + 1) (x4_22 + 1)
  else if ((X5_of_f (upd vM 21 0) aM x4_22 3) - (X5_of_f (upd vM 21 0) aM x2_22 3)) = 0 then (if 0 < ((X5_of_f (upd vM 21 0) aM x2_22 0) - (X5_of_f (upd vM 21 0) aM x4_22 0)) then rec x2_22 (x3_22 + 1) (x4_22 + 1)
    else if ((X5_of_f (upd vM 21 0) aM x2_22 0) - (X5_of_f (upd vM 21 0) aM x4_22 0)) = 0 then (if x2_22 ≤ x4_22 then rec x2_22 x3_22 (x4_22 + 1)
      else rec x2_22 (x3_22 + 1) (x4_22 + 1))
    else rec x2_22 x3_22 (x4_22 + 1))
  else rec x2_22 x3_22 (x4_22 + 1)
def X5_ranked_lp22 (vM : Nat → Int32) (aM : Nat → Nat → Int32) (p0 : Int32) : Nat → Int32 → Int32 → Int32 → (Int32 × Int32)
  | 0 => fun x2_22 x3_22 x4_22 => (x3_22, x4_22)
  | n + 1 => X5_ranked_lp22b vM aM p0 (X5_ranked_lp22 vM aM p0 n)
theorem X5_ranked_lp22_s (vM : Nat → Int32) (aM : Nat → Nat → Int32) (p0 : Int32) (n : Nat) (x2_22 x3_22 x4_22 : Int32) : X5_ranked_lp22 vM aM p0 (n + 1) x2_22 x3_22 x4_22 = X5_ranked_lp22b vM aM p0 (X5_ranked_lp22 vM aM p0 n) x2_22 x3_22 x4_22 := rfl
def X5_ranked_lp7b (vM : Nat → Int32) (aM : Nat → Nat → Int32) (p0 : Int32) (rec : Int32 → (Int32 × (Nat → Int32))) (x2_7 : Int32) : Int32 × (Nat → Int32) :=
  if ((aM 0) 5) ≤ x2_7 then (0, upd (upd vM 21 0) 21 1)
  else if (X5_ranked_lp22 vM aM p0 7 x2_7 0 0).1 = p0 then (x2_7, upd vM 21 0)
  else rec (x2_7 + 1)
def X5_ranked_lp7 (vM : Nat → Int32) (aM : Nat → Nat → Int32) (p0 : Int32) : Nat → Int32 → (Int32 × (Nat → Int32))
  | 0 => fun x2_7 => (0, vM)
  | n + 1 => X5_ranked_lp7b vM aM p0 (X5_ranked_lp7 vM aM p0 n)
theorem X5_ranked_lp7_s (vM : Nat → Int32) (aM : Nat → Nat → Int32) (p0 : Int32) (n : Nat) (x2_7 : Int32) : X5_ranked_lp7 vM aM p0 (n + 1) x2_7 = X5_ranked_lp7b vM aM p0 (X5_ranked_lp7 vM aM p0 n) x2_7 := rfl
def X5_ranked_f (vM : Nat → Int32) (aM : Nat → Nat → Int32) (p0 : Int32) : Int32 × (Nat → Int32) :=
  X5_ranked_lp7 vM aM p0 7 0
set_option maxHeartbeats 4000000 in
set_option maxRecDepth 100000 in
theorem X5_ranked_c (l : Launch) (g : kG) (oM : Nat) (rM : Nat → Nat) (vM : Nat → Int32) (aM : Nat → Nat → Int32) (p0 : Int32) (hB5 : (∃ n : Nat, n ≤ 6 ∧ aM 0 5 = nI n)) : kM l yX5_ranked wX5_ranked 1 22 0 0 g [.ref oM, .int p0] [X5W g oM rM vM aM] (fun x u => x = (X5_ranked_f vM aM p0).1 ∧ u = [X5W g oM rM ((X5_ranked_f vM aM p0).2) aM]) := by
  refine kM_of (cc := cX5_ranked) (nL := 7) (ret := (some .int)) (lv := [(0, .ref oM), (1, .int p0)]) (by decide) rfl (Nat.le_of_ble_eq_true rfl) rfl ?_
  intro p e s m args below meth c ls A C hP hD hE hA hS hl
  have C : kC p c cX5_ranked s m args meth RX5 g 7 (some .int) := C
  have hx := C.1.1
  have hb := C.1.2.1
  have hts := C.1.2.2.2.2
  obtain ⟨nb, hnb, hn5⟩ := hB5
  have loop22 : ∀ (n : Nat) (j22 : Nat) (x2_22 x3_22 x4_22 : Int32) (H : Heap) (locs : List Loc) (ls : Array Slot), j22 ≤ nb → nb < j22 + n → x4_22 = nI j22 → vp_in x2_22 6 → (∀ (H : Heap) (locs : List Loc) (ls : Array Slot), kp g [X5W g oM rM (upd vM 21 0) aM] H → kd A [X5W g oM rM (upd vM 21 0) aM] → va_S A s.heap H locs → lv_has ls 7 [(4, .int ((X5_ranked_lp22 vM aM p0 n x2_22 x3_22 x4_22).2)), (3, .int ((X5_ranked_lp22 vM aM p0 n x2_22 x3_22 x4_22).1)), (2, .int x2_22), (0, .ref oM), (1, .int p0)] → W p l e (kRm 1 0 0 22) s m args below meth c H locs 0 0 (MQ below (kQi g (fun x u => x = (X5_ranked_f vM aM p0).1 ∧ u = [X5W g oM rM ((X5_ranked_f vM aM p0).2) aM]) A) args s 0 0 A) (F0 m 100 ls [])) → kp g [X5W g oM rM (upd vM 21 0) aM] H → kd A [X5W g oM rM (upd vM 21 0) aM] → va_S A s.heap H locs → lv_has ls 7 [(4, .int x4_22), (3, .int x3_22), (2, .int x2_22), (0, .ref oM), (1, .int p0)] → W p l e (kRm 1 0 0 22) s m args below meth c H locs 0 0 (MQ below (kQi g (fun x u => x = (X5_ranked_f vM aM p0).1 ∧ u = [X5W g oM rM ((X5_ranked_f vM aM p0).2) aM]) A) args s 0 0 A) (F0 m 22 ls []) := by
    intro n
    induction n with
    | zero =>
      intro j22 x2_22 x3_22 x4_22 H locs ls hi22 hn22 hx22 hb22 hF22 hP hD hS hl
      exact absurd hn22 (by omega)
    | succ n ih22 =>
      intro j22 x2_22 x3_22 x4_22 H locs ls hi22 hn22 hx22 hb22 hF22 hP hD hS hl
      refine lv_iload hx hb dX5_ranked_22 (lv_at hl 0 rfl) ?_
      refine lv_aload_n hx hb dX5_ranked_24 rfl (lv_at hl 3 rfl) ?_
      refine kg_get C kFX5 (k := 0) kw1446 hP (i := 0) (q := 0) rfl rfl (by decide) rfl dX5_ranked_25 ?_
      refine lv_iconst (v := 5) hx hb dX5_ranked_28 (by decide) ?_
      refine kg_ialdK C hP (i := 0) (q := 1) rfl rfl (j := 5) rfl (k_vin (j := 5) rfl (by decide) (by decide)) dX5_ranked_29 ?_
      refine lv_icmp_ge (tgt := 100) hx hb dX5_ranked_30 (by decide) (fun c3 => ?_) (fun c3 => ?_)
      · have e22 : X5_ranked_lp22 vM aM p0 (n + 1) x2_22 x3_22 x4_22 = (x3_22, x4_22) := (X5_ranked_lp22_s vM aM p0 n x2_22 x3_22 x4_22).trans ((if_pos c3).trans (rfl))
        exact hF22 _ _ ls hP hD hS (by rw [e22]; exact lv_sub hl [0, 1, 2, 3, 4] rfl)
      have hj22 := k_asc hx22 (y := ((aM 0) 5)) (N := nb) hn5 hi22 (by omega) c3
      refine lv_aload_n hx hb dX5_ranked_33 rfl (lv_at hl 3 rfl) ?_
      refine lv_iload hx hb dX5_ranked_34 (lv_at hl 0 rfl) ?_
      refine lv_iconst (v := 3) hx hb dX5_ranked_36 (by decide) ?_
      refine kR_V (As := [.int x4_22, .int 3]) (rest := []) C (X5_of_c l g oM rM (upd vM 21 0) aM x4_22 3 (by first | assumption | exact k_vin hx7 (by omega) (by decide) | exact k_vin hx22 (by omega) (by decide) | exact hB5 | exact ⟨0, by omega, rfl⟩ | exact ⟨1, by omega, rfl⟩ | exact ⟨2, by omega, rfl⟩ | exact ⟨3, by omega, rfl⟩ | exact ⟨4, by omega, rfl⟩ | exact ⟨j7, by omega, hx7⟩ | exact ⟨j22, by omega, hx22⟩) (by first | assumption | exact k_vin hx7 (by omega) (by decide) | exact k_vin hx22 (by omega) (by decide) | exact hB5 | exact ⟨0, by omega, rfl⟩ | exact ⟨1, by omega, rfl⟩ | exact ⟨2, by omega, rfl⟩ | exact ⟨3, by omega, rfl⟩ | exact ⟨4, by omega, rfl⟩ | exact ⟨j7, by omega, hx7⟩ | exact ⟨j22, by omega, hx22⟩)) (cwV 2 hts (k_gV kw1568 ca_X5_of) rfl rfl rfl ⟨rfl, pnX5_of⟩ ⟨Nat.le_of_ble_eq_true rfl, Nat.le_of_ble_eq_true rfl⟩) hE hS (hP.pick [0] rfl) (k_recv C kFX5 hP (i := 0) (q := 0) rfl rfl) rfl hl.1 rfl rfl dX5_ranked_37 ⟨Nat.le_of_ble_eq_true rfl, Nat.le_of_ble_eq_true rfl⟩ ?_
      refine lv_aload_n hx hb dX5_ranked_40 rfl (lv_at hl 3 rfl) ?_
      refine lv_iload_n hx hb dX5_ranked_41 rfl (lv_at hl 2 rfl) ?_
      refine lv_iconst (v := 3) hx hb dX5_ranked_42 (by decide) ?_
      refine kR_V (As := [.int x2_22, .int 3]) (rest := [.int (X5_of_f (upd vM 21 0) aM x4_22 3)]) C (X5_of_c l g oM rM (upd vM 21 0) aM x2_22 3 (by first | assumption | exact k_vin hx7 (by omega) (by decide) | exact k_vin hx22 (by omega) (by decide) | exact hB5 | exact ⟨0, by omega, rfl⟩ | exact ⟨1, by omega, rfl⟩ | exact ⟨2, by omega, rfl⟩ | exact ⟨3, by omega, rfl⟩ | exact ⟨4, by omega, rfl⟩ | exact ⟨j7, by omega, hx7⟩ | exact ⟨j22, by omega, hx22⟩) (by first | assumption | exact k_vin hx7 (by omega) (by decide) | exact k_vin hx22 (by omega) (by decide) | exact hB5 | exact ⟨0, by omega, rfl⟩ | exact ⟨1, by omega, rfl⟩ | exact ⟨2, by omega, rfl⟩ | exact ⟨3, by omega, rfl⟩ | exact ⟨4, by omega, rfl⟩ | exact ⟨j7, by omega, hx7⟩ | exact ⟨j22, by omega, hx22⟩)) (cwV 2 hts (k_gV kw1568 ca_X5_of) rfl rfl rfl ⟨rfl, pnX5_of⟩ ⟨Nat.le_of_ble_eq_true rfl, Nat.le_of_ble_eq_true rfl⟩) hE hS (hP.pick [0] rfl) (k_recv C kFX5 hP (i := 0) (q := 0) rfl rfl) rfl hl.1 rfl rfl dX5_ranked_43 ⟨Nat.le_of_ble_eq_true rfl, Nat.le_of_ble_eq_true rfl⟩ ?_
      refine lv_isub hx hb dX5_ranked_46 ?_
      refine lv_istore (lv' := [(5, .int ((X5_of_f (upd vM 21 0) aM x4_22 3) - (X5_of_f (upd vM 21 0) aM x2_22 3))), (4, .int x4_22), (3, .int x3_22), (2, .int x2_22), (0, .ref oM), (1, .int p0)]) hx hb dX5_ranked_47 hl (by decide) rfl (fun ls hl => ?_)
      refine lv_aload_n hx hb dX5_ranked_49 rfl (lv_at hl 4 rfl) ?_
      refine lv_iload_n hx hb dX5_ranked_50 rfl (lv_at hl 3 rfl) ?_
      refine lv_iconst (v := 0) hx hb dX5_ranked_51 (by decide) ?_
      refine kR_V (As := [.int x2_22, .int 0]) (rest := []) C (X5_of_c l g oM rM (upd vM 21 0) aM x2_22 0 (by first | assumption | exact k_vin hx7 (by omega) (by decide) | exact k_vin hx22 (by omega) (by decide) | exact hB5 | exact ⟨0, by omega, rfl⟩ | exact ⟨1, by omega, rfl⟩ | exact ⟨2, by omega, rfl⟩ | exact ⟨3, by omega, rfl⟩ | exact ⟨4, by omega, rfl⟩ | exact ⟨j7, by omega, hx7⟩ | exact ⟨j22, by omega, hx22⟩) (by first | assumption | exact k_vin hx7 (by omega) (by decide) | exact k_vin hx22 (by omega) (by decide) | exact hB5 | exact ⟨0, by omega, rfl⟩ | exact ⟨1, by omega, rfl⟩ | exact ⟨2, by omega, rfl⟩ | exact ⟨3, by omega, rfl⟩ | exact ⟨4, by omega, rfl⟩ | exact ⟨j7, by omega, hx7⟩ | exact ⟨j22, by omega, hx22⟩)) (cwV 2 hts (k_gV kw1568 ca_X5_of) rfl rfl rfl ⟨rfl, pnX5_of⟩ ⟨Nat.le_of_ble_eq_true rfl, Nat.le_of_ble_eq_true rfl⟩) hE hS (hP.pick [0] rfl) (k_recv C kFX5 hP (i := 0) (q := 0) rfl rfl) rfl hl.1 rfl rfl dX5_ranked_52 ⟨Nat.le_of_ble_eq_true rfl, Nat.le_of_ble_eq_true rfl⟩ ?_
      refine lv_aload_n hx hb dX5_ranked_55 rfl (lv_at hl 4 rfl) ?_
      refine lv_iload hx hb dX5_ranked_56 (lv_at hl 1 rfl) ?_
      refine lv_iconst (v := 0) hx hb dX5_ranked_58 (by decide) ?_
      refine kR_V (As := [.int x4_22, .int 0]) (rest := [.int (X5_of_f (upd vM 21 0) aM x2_22 0)]) C (X5_of_c l g oM rM (upd vM 21 0) aM x4_22 0 (by first | assumption | exact k_vin hx7 (by omega) (by decide) | exact k_vin hx22 (by omega) (by decide) | exact hB5 | exact ⟨0, by omega, rfl⟩ | exact ⟨1, by omega, rfl⟩ | exact ⟨2, by omega, rfl⟩ | exact ⟨3, by omega, rfl⟩ | exact ⟨4, by omega, rfl⟩ | exact ⟨j7, by omega, hx7⟩ | exact ⟨j22, by omega, hx22⟩) (by first | assumption | exact k_vin hx7 (by omega) (by decide) | exact k_vin hx22 (by omega) (by decide) | exact hB5 | exact ⟨0, by omega, rfl⟩ | exact ⟨1, by omega, rfl⟩ | exact ⟨2, by omega, rfl⟩ | exact ⟨3, by omega, rfl⟩ | exact ⟨4, by omega, rfl⟩ | exact ⟨j7, by omega, hx7⟩ | exact ⟨j22, by omega, hx22⟩)) (cwV 2 hts (k_gV kw1568 ca_X5_of) rfl rfl rfl ⟨rfl, pnX5_of⟩ ⟨Nat.le_of_ble_eq_true rfl, Nat.le_of_ble_eq_true rfl⟩) hE hS (hP.pick [0] rfl) (k_recv C kFX5 hP (i := 0) (q := 0) rfl rfl) rfl hl.1 rfl rfl dX5_ranked_59 ⟨Nat.le_of_ble_eq_true rfl, Nat.le_of_ble_eq_true rfl⟩ ?_
      refine lv_isub hx hb dX5_ranked_62 ?_
      refine lv_istore (lv' := [(6, .int ((X5_of_f (upd vM 21 0) aM x2_22 0) - (X5_of_f (upd vM 21 0) aM x4_22 0))), (5, .int ((X5_of_f (upd vM 21 0) aM x4_22 3) - (X5_of_f (upd vM 21 0) aM x2_22 3))), (4, .int x4_22), (3, .int x3_22), (2, .int x2_22), (0, .ref oM), (1, .int p0)]) hx hb dX5_ranked_63 hl (by decide) rfl (fun ls hl => ?_)
      refine lv_iload hx hb dX5_ranked_65 (lv_at hl 1 rfl) ?_
      refine lv_if_gt (tgt := 91) hx hb dX5_ranked_67 (by decide) (fun c4 => ?_) (fun c4 => ?_)
      · refine lv_iinc (v := (x3_22 + 1)) (lv' := [(3, .int (x3_22 + 1)), (6, .int ((X5_of_f (upd vM 21 0) aM x2_22 0) - (X5_of_f (upd vM 21 0) aM x4_22 0))), (5, .int ((X5_of_f (upd vM 21 0) aM x4_22 3) - (X5_of_f (upd vM 21 0) aM x2_22 3))), (4, .int x4_22), (2, .int x2_22), (0, .ref oM), (1, .int p0)]) hx hb dX5_ranked_91 hl (k := 3) rfl rfl (by decide) rfl (fun ls hl => ?_)
        refine lv_iinc (v := (x4_22 + 1)) (lv' := [(4, .int (x4_22 + 1)), (3, .int (x3_22 + 1)), (6, .int ((X5_of_f (upd vM 21 0) aM x2_22 0) - (X5_of_f (upd vM 21 0) aM x4_22 0))), (5, .int ((X5_of_f (upd vM 21 0) aM x4_22 3) - (X5_of_f (upd vM 21 0) aM x2_22 3))), (2, .int x2_22), (0, .ref oM), (1, .int p0)]) hx hb dX5_ranked_94 hl (k := 3) rfl rfl (by decide) rfl (fun ls hl => ?_)
        refine lv_goto (tgt := 22) hx hb dX5_ranked_97 (by decide) ?_
        have e22 : X5_ranked_lp22 vM aM p0 (n + 1) x2_22 x3_22 x4_22 = X5_ranked_lp22 vM aM p0 n x2_22 (x3_22 + 1) (x4_22 + 1) := (X5_ranked_lp22_s vM aM p0 n x2_22 x3_22 x4_22).trans ((if_neg c3).trans ((if_pos c4).trans (rfl)))
        exact ih22 (j22 + 1) x2_22 (x3_22 + 1) (x4_22 + 1) _ _ ls hj22 (by omega) (k_up hx22) hb22 (fun H locs ls hP hD hS hl => hF22 H locs ls hP hD hS (by rw [e22]; exact hl)) hP hD hS (lv_sub hl [0, 1, 4, 5, 6] rfl)
      refine lv_iload hx hb dX5_ranked_70 (lv_at hl 1 rfl) ?_
      refine lv_if_ne (tgt := 94) hx hb dX5_ranked_72 (by decide) (fun c5 => ?_) (fun c5 => ?_)
      · refine lv_iinc (v := (x4_22 + 1)) (lv' := [(4, .int (x4_22 + 1)), (6, .int ((X5_of_f (upd vM 21 0) aM x2_22 0) - (X5_of_f (upd vM 21 0) aM x4_22 0))), (5, .int ((X5_of_f (upd vM 21 0) aM x4_22 3) - (X5_of_f (upd vM 21 0) aM x2_22 3))), (3, .int x3_22), (2, .int x2_22), (0, .ref oM), (1, .int p0)]) hx hb dX5_ranked_94 hl (k := 2) rfl rfl (by decide) rfl (fun ls hl => ?_)
        refine lv_goto (tgt := 22) hx hb dX5_ranked_97 (by decide) ?_
        have e22 : X5_ranked_lp22 vM aM p0 (n + 1) x2_22 x3_22 x4_22 = X5_ranked_lp22 vM aM p0 n x2_22 x3_22 (x4_22 + 1) := (X5_ranked_lp22_s vM aM p0 n x2_22 x3_22 x4_22).trans ((if_neg c3).trans ((if_neg c4).trans ((if_neg c5).trans (rfl))))
        exact ih22 (j22 + 1) x2_22 x3_22 (x4_22 + 1) _ _ ls hj22 (by omega) (k_up hx22) hb22 (fun H locs ls hP hD hS hl => hF22 H locs ls hP hD hS (by rw [e22]; exact hl)) hP hD hS (lv_sub hl [0, 3, 4, 5, 6] rfl)
      refine lv_iload hx hb dX5_ranked_75 (lv_at hl 0 rfl) ?_
      refine lv_if_gt (tgt := 91) hx hb dX5_ranked_77 (by decide) (fun c6 => ?_) (fun c6 => ?_)
      · refine lv_iinc (v := (x3_22 + 1)) (lv' := [(3, .int (x3_22 + 1)), (6, .int ((X5_of_f (upd vM 21 0) aM x2_22 0) - (X5_of_f (upd vM 21 0) aM x4_22 0))), (5, .int ((X5_of_f (upd vM 21 0) aM x4_22 3) - (X5_of_f (upd vM 21 0) aM x2_22 3))), (4, .int x4_22), (2, .int x2_22), (0, .ref oM), (1, .int p0)]) hx hb dX5_ranked_91 hl (k := 3) rfl rfl (by decide) rfl (fun ls hl => ?_)
        refine lv_iinc (v := (x4_22 + 1)) (lv' := [(4, .int (x4_22 + 1)), (3, .int (x3_22 + 1)), (6, .int ((X5_of_f (upd vM 21 0) aM x2_22 0) - (X5_of_f (upd vM 21 0) aM x4_22 0))), (5, .int ((X5_of_f (upd vM 21 0) aM x4_22 3) - (X5_of_f (upd vM 21 0) aM x2_22 3))), (2, .int x2_22), (0, .ref oM), (1, .int p0)]) hx hb dX5_ranked_94 hl (k := 3) rfl rfl (by decide) rfl (fun ls hl => ?_)
        refine lv_goto (tgt := 22) hx hb dX5_ranked_97 (by decide) ?_
        have e22 : X5_ranked_lp22 vM aM p0 (n + 1) x2_22 x3_22 x4_22 = X5_ranked_lp22 vM aM p0 n x2_22 (x3_22 + 1) (x4_22 + 1) := (X5_ranked_lp22_s vM aM p0 n x2_22 x3_22 x4_22).trans ((if_neg c3).trans ((if_neg c4).trans ((if_pos c5).trans ((if_pos c6).trans (rfl)))))
        exact ih22 (j22 + 1) x2_22 (x3_22 + 1) (x4_22 + 1) _ _ ls hj22 (by omega) (k_up hx22) hb22 (fun H locs ls hP hD hS hl => hF22 H locs ls hP hD hS (by rw [e22]; exact hl)) hP hD hS (lv_sub hl [0, 1, 4, 5, 6] rfl)
      refine lv_iload hx hb dX5_ranked_80 (lv_at hl 0 rfl) ?_
      refine lv_if_ne (tgt := 94) hx hb dX5_ranked_82 (by decide) (fun c7 => ?_) (fun c7 => ?_)
      · refine lv_iinc (v := (x4_22 + 1)) (lv' := [(4, .int (x4_22 + 1)), (6, .int ((X5_of_f (upd vM 21 0) aM x2_22 0) - (X5_of_f (upd vM 21 0) aM x4_22 0))), (5, .int ((X5_of_f (upd vM 21 0) aM x4_22 3) - (X5_of_f (upd vM 21 0) aM x2_22 3))), (3, .int x3_22), (2, .int x2_22), (0, .ref oM), (1, .int p0)]) hx hb dX5_ranked_94 hl (k := 2) rfl rfl (by decide) rfl (fun ls hl => ?_)
        refine lv_goto (tgt := 22) hx hb dX5_ranked_97 (by decide) ?_
        have e22 : X5_ranked_lp22 vM aM p0 (n + 1) x2_22 x3_22 x4_22 = X5_ranked_lp22 vM aM p0 n x2_22 x3_22 (x4_22 + 1) := (X5_ranked_lp22_s vM aM p0 n x2_22 x3_22 x4_22).trans ((if_neg c3).trans ((if_neg c4).trans ((if_pos c5).trans ((if_neg c6).trans ((if_neg c7).trans (rfl))))))
        exact ih22 (j22 + 1) x2_22 x3_22 (x4_22 + 1) _ _ ls hj22 (by omega) (k_up hx22) hb22 (fun H locs ls hP hD hS hl => hF22 H locs ls hP hD hS (by rw [e22]; exact hl)) hP hD hS (lv_sub hl [0, 3, 4, 5, 6] rfl)
      refine lv_iload hx hb dX5_ranked_85 (lv_at hl 2 rfl) ?_
      refine lv_iload_n hx hb dX5_ranked_87 rfl (lv_at hl 4 rfl) ?_
      refine lv_icmp_ge (tgt := 94) hx hb dX5_ranked_88 (by decide) (fun c8 => ?_) (fun c8 => ?_)
      · refine lv_iinc (v := (x4_22 + 1)) (lv' := [(4, .int (x4_22 + 1)), (6, .int ((X5_of_f (upd vM 21 0) aM x2_22 0) - (X5_of_f (upd vM 21 0) aM x4_22 0))), (5, .int ((X5_of_f (upd vM 21 0) aM x4_22 3) - (X5_of_f (upd vM 21 0) aM x2_22 3))), (3, .int x3_22), (2, .int x2_22), (0, .ref oM), (1, .int p0)]) hx hb dX5_ranked_94 hl (k := 2) rfl rfl (by decide) rfl (fun ls hl => ?_)
        refine lv_goto (tgt := 22) hx hb dX5_ranked_97 (by decide) ?_
        have e22 : X5_ranked_lp22 vM aM p0 (n + 1) x2_22 x3_22 x4_22 = X5_ranked_lp22 vM aM p0 n x2_22 x3_22 (x4_22 + 1) := (X5_ranked_lp22_s vM aM p0 n x2_22 x3_22 x4_22).trans ((if_neg c3).trans ((if_neg c4).trans ((if_pos c5).trans ((if_neg c6).trans ((if_pos c7).trans ((if_pos c8).trans (rfl)))))))
        exact ih22 (j22 + 1) x2_22 x3_22 (x4_22 + 1) _ _ ls hj22 (by omega) (k_up hx22) hb22 (fun H locs ls hP hD hS hl => hF22 H locs ls hP hD hS (by rw [e22]; exact hl)) hP hD hS (lv_sub hl [0, 3, 4, 5, 6] rfl)
      refine lv_iinc (v := (x3_22 + 1)) (lv' := [(3, .int (x3_22 + 1)), (6, .int ((X5_of_f (upd vM 21 0) aM x2_22 0) - (X5_of_f (upd vM 21 0) aM x4_22 0))), (5, .int ((X5_of_f (upd vM 21 0) aM x4_22 3) - (X5_of_f (upd vM 21 0) aM x2_22 3))), (4, .int x4_22), (2, .int x2_22), (0, .ref oM), (1, .int p0)]) hx hb dX5_ranked_91 hl (k := 3) rfl rfl (by decide) rfl (fun ls hl => ?_)
      refine lv_iinc (v := (x4_22 + 1)) (lv' := [(4, .int (x4_22 + 1)), (3, .int (x3_22 + 1)), (6, .int ((X5_of_f (upd vM 21 0) aM x2_22 0) - (X5_of_f (upd vM 21 0) aM x4_22 0))), (5, .int ((X5_of_f (upd vM 21 0) aM x4_22 3) - (X5_of_f (upd vM 21 0) aM x2_22 3))), (2, .int x2_22), (0, .ref oM), (1, .int p0)]) hx hb dX5_ranked_94 hl (k := 3) rfl rfl (by decide) rfl (fun ls hl => ?_)
      refine lv_goto (tgt := 22) hx hb dX5_ranked_97 (by decide) ?_
      have e22 : X5_ranked_lp22 vM aM p0 (n + 1) x2_22 x3_22 x4_22 = X5_ranked_lp22 vM aM p0 n x2_22 (x3_22 + 1) (x4_22 + 1) := (X5_ranked_lp22_s vM aM p0 n x2_22 x3_22 x4_22).trans ((if_neg c3).trans ((if_neg c4).trans ((if_pos c5).trans ((if_neg c6).trans ((if_pos c7).trans ((if_neg c8).trans (rfl)))))))
      exact ih22 (j22 + 1) x2_22 (x3_22 + 1) (x4_22 + 1) _ _ ls hj22 (by omega) (k_up hx22) hb22 (fun H locs ls hP hD hS hl => hF22 H locs ls hP hD hS (by rw [e22]; exact hl)) hP hD hS (lv_sub hl [0, 1, 4, 5, 6] rfl)
  have loop7 : ∀ (n : Nat) (j7 : Nat) (x2_7 : Int32) (H : Heap) (locs : List Loc) (ls : Array Slot), j7 ≤ nb → nb < j7 + n → x2_7 = nI j7 → X5_ranked_f vM aM p0 = X5_ranked_lp7 vM aM p0 n x2_7 → kp g [X5W g oM rM (upd vM 21 0) aM] H → kd A [X5W g oM rM (upd vM 21 0) aM] → va_S A s.heap H locs → lv_has ls 7 [(2, .int x2_7), (0, .ref oM), (1, .int p0)] → W p l e (kRm 1 0 0 22) s m args below meth c H locs 0 0 (MQ below (kQi g (fun x u => x = (X5_ranked_f vM aM p0).1 ∧ u = [X5W g oM rM ((X5_ranked_f vM aM p0).2) aM]) A) args s 0 0 A) (F0 m 7 ls []) := by
    intro n
    induction n with
    | zero =>
      intro j7 x2_7 H locs ls hi7 hn7 hx7 hF7 hP hD hS hl
      exact absurd hn7 (by omega)
    | succ n ih7 =>
      intro j7 x2_7 H locs ls hi7 hn7 hx7 hF7 hP hD hS hl
      refine lv_iload_n hx hb dX5_ranked_7 rfl (lv_at hl 0 rfl) ?_
      refine lv_aload_n hx hb dX5_ranked_8 rfl (lv_at hl 1 rfl) ?_
      refine kg_get C kFX5 (k := 0) kw1446 hP (i := 0) (q := 0) rfl rfl (by decide) rfl dX5_ranked_9 ?_
      refine lv_iconst (v := 5) hx hb dX5_ranked_12 (by decide) ?_
      refine kg_ialdK C hP (i := 0) (q := 1) rfl rfl (j := 5) rfl (k_vin (j := 5) rfl (by decide) (by decide)) dX5_ranked_13 ?_
      refine lv_icmp_ge (tgt := 113) hx hb dX5_ranked_14 (by decide) (fun c1 => ?_) (fun c1 => ?_)
      · refine lv_aload_n hx hb dX5_ranked_113 rfl (lv_at hl 1 rfl) ?_
        refine lv_iconst (v := 1) hx hb dX5_ranked_114 (by decide) ?_
        refine kM_V (As := [.int 1]) (rest := []) (wr := []) C (X5_raises_c l g oM rM (upd vM 21 0) aM 1) (cwV 1 hts (k_gV kw1540 ca_X5_raises) rfl rfl rfl ⟨rfl, pnX5_raises⟩ ⟨Nat.le_of_ble_eq_true rfl, Nat.le_of_ble_eq_true rfl⟩) hE hS hA hP hD [0] [] rfl rfl ⟨rfl, rfl, by decide⟩ (k_recv C kFX5 hP (i := 0) (q := 0) rfl rfl) rfl hl.1 rfl rfl dX5_ranked_115 ⟨Nat.le_of_ble_eq_true rfl, Nat.le_of_ble_eq_true rfl⟩ (fun r2 u2 H locs hp2 hP hD hS => ?_)
        obtain ⟨er2, eu2⟩ := hp2
        have er2 : r2 = 0 := er2
        have eu2 : u2 = [X5W g oM rM (upd (upd vM 21 0) 21 1) aM] := eu2
        subst er2 eu2
        have hP : kp g [X5W g oM rM (upd (upd vM 21 0) 21 1) aM] H := hP
        have hD : kd A [X5W g oM rM (upd (upd vM 21 0) 21 1) aM] := hD
        have hF := (show X5_ranked_f vM aM p0 = (0, upd (upd vM 21 0) 21 1) from hF7.trans ((X5_ranked_lp7_s vM aM p0 n x2_7).trans ((if_pos c1).trans (rfl))))
        exact kM_ret (x := 0) C hP hD hS ⟨by rw [hF], by rw [hF]⟩ dX5_ranked_118
      have hj7 := k_asc hx7 (y := ((aM 0) 5)) (N := nb) hn5 hi7 (by omega) c1
      refine lv_iconst (v := 0) hx hb dX5_ranked_17 (by decide) ?_
      refine lv_istore_n (lv' := [(3, .int 0), (2, .int x2_7), (0, .ref oM), (1, .int p0)]) hx hb dX5_ranked_18 rfl hl (by decide) rfl (fun ls hl => ?_)
      refine lv_iconst (v := 0) hx hb dX5_ranked_19 (by decide) ?_
      refine lv_istore (lv' := [(4, .int 0), (3, .int 0), (2, .int x2_7), (0, .ref oM), (1, .int p0)]) hx hb dX5_ranked_20 hl (by decide) rfl (fun ls hl => ?_)
      refine loop22 7 0 x2_7 0 0 _ _ ls (by omega) (by omega) rfl (k_vin (M := 6) hx7 (by omega) (by decide)) (fun H locs ls hP hD hS hl => ?_) hP hD hS (lv_sub hl [0, 1, 2, 3, 4] rfl)
      have hP : kp g [X5W g oM rM (upd vM 21 0) aM] H := hP
      have hD : kd A [X5W g oM rM (upd vM 21 0) aM] := hD
      refine lv_iload_n hx hb dX5_ranked_100 rfl (lv_at hl 1 rfl) ?_
      refine lv_iload_n hx hb dX5_ranked_101 rfl (lv_at hl 4 rfl) ?_
      refine lv_icmp_ne (tgt := 107) hx hb dX5_ranked_102 (by decide) (fun c9 => ?_) (fun c9 => ?_)
      · refine lv_iinc (v := (x2_7 + 1)) (lv' := [(2, .int (x2_7 + 1)), (4, .int ((X5_ranked_lp22 vM aM p0 7 x2_7 0 0).2)), (3, .int ((X5_ranked_lp22 vM aM p0 7 x2_7 0 0).1)), (0, .ref oM), (1, .int p0)]) hx hb dX5_ranked_107 hl (k := 2) rfl rfl (by decide) rfl (fun ls hl => ?_)
        refine lv_goto (tgt := 7) hx hb dX5_ranked_110 (by decide) ?_
        exact ih7 (j7 + 1) (x2_7 + 1) _ _ ls hj7 (by omega) (k_up hx7) (show X5_ranked_f vM aM p0 = X5_ranked_lp7 vM aM p0 n (x2_7 + 1) from hF7.trans ((X5_ranked_lp7_s vM aM p0 n x2_7).trans ((if_neg c1).trans ((if_neg c9).trans (rfl))))) hP hD hS (lv_sub hl [0, 3, 4] rfl)
      refine lv_iload_n hx hb dX5_ranked_105 rfl (lv_at hl 2 rfl) ?_
      have hF := (show X5_ranked_f vM aM p0 = (x2_7, upd vM 21 0) from hF7.trans ((X5_ranked_lp7_s vM aM p0 n x2_7).trans ((if_neg c1).trans ((if_pos c9).trans (rfl)))))
      exact kM_ret (x := x2_7) C hP hD hS ⟨by rw [hF], by rw [hF]⟩ dX5_ranked_106
  refine lv_aload_n hx hb dX5_ranked_0 rfl (lv_at hl 0 rfl) ?_
  refine lv_iconst (v := 0) hx hb dX5_ranked_1 (by decide) ?_
  refine kg_put C kFX5 (k := 21) kw1467 hP hD hS (i := 0) (q := 0) rfl rfl (by decide) rfl rfl rfl (Nat.le_of_ble_eq_true rfl) X5s_21 rfl dX5_ranked_2 (fun H locs hP hD hS => ?_)
  have hP : kp g [X5W g oM rM (upd vM 21 0) aM] H := hP
  have hD : kd A [X5W g oM rM (upd vM 21 0) aM] := hD
  refine lv_iconst (v := 0) hx hb dX5_ranked_5 (by decide) ?_
  refine lv_istore_n (lv' := [(2, .int 0), (0, .ref oM), (1, .int p0)]) hx hb dX5_ranked_6 rfl hl (by decide) rfl (fun ls hl => ?_)
  exact loop7 7 0 0 _ _ ls (by omega) (by omega) rfl (show X5_ranked_f vM aM p0 = X5_ranked_lp7 vM aM p0 7 0 from rfl) hP hD hS (lv_sub hl [0, 1, 2] rfl)
