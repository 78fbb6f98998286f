
theorem kw82 : Cond.initialized "java/lang/System" ∈ kW := k_w 2 14 rfl rfl
theorem kw118 : Cond.fieldLink RX0 9 "SpiceScale$Caravan" "coins" "I" ∈ kW := k_w 2 50 rfl rfl
theorem kw127 : Cond.fieldLink RX0 15 "SpiceScale$Caravan" "jarSpice" "[I" ∈ kW := k_w 2 59 rfl rfl
theorem kw130 : Cond.fieldLink RX0 19 "SpiceScale$Caravan" "jarGrains" "[I" ∈ kW := k_w 2 62 rfl rfl
theorem kw147 : Cond.fieldLink RX0 34 "SpiceScale$Caravan" "bagWeighings" "[I" ∈ kW := k_w 2 79 rfl rfl
theorem kw153 : Cond.fieldLink RX0 64 "SpiceScale$Caravan" "soldBags" "I" ∈ kW := k_w 2 85 rfl rfl
theorem kw155 : Cond.fieldLink RX0 67 "SpiceScale$Caravan" "soldGrains" "I" ∈ kW := k_w 2 87 rfl rfl
theorem kw157 : Cond.fieldLink RX0 70 "SpiceScale$Caravan" "soldNet" "I" ∈ kW := k_w 2 89 rfl rfl
theorem kw159 : Cond.fieldLink RX0 73 "SpiceScale$Caravan" "coinsGot" "I" ∈ kW := k_w 2 91 rfl rfl
theorem kw338 : Cond.methodLink RX0 55 arraycopyName ∈ kW := k_w 3 30 rfl rfl
theorem kw339 : Cond.static arraycopyName ∈ kW := k_w 3 31 rfl rfl
theorem kw340 : Cond.native arraycopyName ∈ kW := k_w 3 32 rfl rfl
theorem kw551 : Cond.static Lib.Math.min.name ∈ kW := k_w 4 3 rfl rfl
theorem kw552 : Cond.code Lib.Math.min.name Lib.Math.min.code 2 (some .int) ∈ kW := k_w 4 4 rfl rfl
theorem kw557 : Cond.methodLink RX0 76 yX0_addJar ∈ kW := k_w 4 9 rfl rfl
theorem kw561 : Cond.methodLink RX0 80 yX0_addBag ∈ kW := k_w 4 13 rfl rfl
theorem kw565 : Cond.methodLink RX0 84 yX0_fillBag ∈ kW := k_w 4 17 rfl rfl
theorem kw569 : Cond.methodLink RX0 88 yX0_emptyBag ∈ kW := k_w 4 21 rfl rfl
theorem kw573 : Cond.methodLink RX0 116 yX0_clearBag ∈ kW := k_w 4 25 rfl rfl
theorem kw577 : Cond.methodLink RX0 91 yX0_beatBag ∈ kW := k_w 4 29 rfl rfl
theorem kw581 : Cond.methodLink RX0 94 yX0_setThumb ∈ kW := k_w 4 33 rfl rfl
theorem kw585 : Cond.methodLink RX0 97 yX0_weighBag ∈ kW := k_w 4 37 rfl rfl
theorem kw590 : Cond.methodLink RX0 100 yX0_sellBag ∈ kW := k_w 4 42 rfl rfl
theorem kw602 : Cond.methodLink RX0 103 yX0_swearOath ∈ kW := k_w 4 54 rfl rfl
theorem kw606 : Cond.methodLink RX0 107 yX0_travelTo ∈ kW := k_w 4 58 rfl rfl
theorem kw619 : Cond.methodLink RX0 113 yX0_letDaysGo ∈ kW := k_w 4 71 rfl rfl
theorem kw623 : Cond.methodLink RX0 146 Lib.Math.min.name ∈ kW := k_w 4 75 rfl rfl
theorem kw624 : Cond.methodLink RX0 151 yX0_dustTogether ∈ kW := k_w 4 76 rfl rfl
theorem kw631 : Cond.methodLink RX0 110 yX0_sealWeight ∈ kW := k_w 4 83 rfl rfl
theorem pnX0_dustTogether : yX0_dustTogether.cls ≠ "java/lang/invoke/MethodHandle" ∧ yX0_dustTogether.cls ≠ "java/lang/invoke/VarHandle" ∧ (parseMethodDescriptor yX0_dustTogether.desc).map (fun d => d.parameters.length) = some 0 := by decide +kernel
theorem ca_X0_dustTogether : kCal yX0_dustTogether (Cond.code yX0_dustTogether cX0_dustTogether 1 (some .int)) := ⟨k_w 4 78 rfl rfl, k_w 1 42 rfl rfl, k_w 2 2 rfl rfl, k_w 4 79 rfl rfl⟩

abbrev wX0_letDaysGo : List Cond := Cond.code yX0_letDaysGo cX0_letDaysGo 3 (some .int) :: kW
def X0_letDaysGo_lp12b (vC : Nat → Int32) (aC : Nat → Nat → Int32) (p0 : Int32) (rec : Int32 → (Nat → Nat → Int32) → (Int32 × (Nat → Int32) × (Nat → Nat → Int32))) (x2_12 : Int32) (aC12 : Nat → Nat → Int32) : Int32 × (Nat → Int32) × (Nat → Nat → Int32) :=
  if (vC 7) ≤ x2_12 then ((X0_dustTogether_f (upd vC 0 ((vC 0) + p0)) aC12), upd vC 0 ((vC 0) + p0), aC12)
  else rec (x2_12 + 1) (va_up aC12 9 (upd (aC12 9) x2_12.toNatClampNeg (if (((aC12 9) x2_12.toNatClampNeg) + p0) < 20 then (((aC12 9) x2_12.toNatClampNeg) + p0) else 20)))
def X0_letDaysGo_lp12 (vC : Nat → Int32) (aC : Nat → Nat → Int32) (p0 : Int32) : Nat → Int32 → (Nat → Nat → Int32) → (Int32 × (Nat → Int32) × (Nat → Nat → Int32))
  | 0 => fun x2_12 aC12 => (0, vC, aC12)
  | n + 1 => X0_letDaysGo_lp12b vC aC p0 (X0_letDaysGo_lp12 vC aC p0 n)
theorem X0_letDaysGo_lp12_s (vC : Nat → Int32) (aC : Nat → Nat → Int32) (p0 : Int32) (n : Nat) (x2_12 : Int32) (aC12 : Nat → Nat → Int32) : X0_letDaysGo_lp12 vC aC p0 (n + 1) x2_12 aC12 = X0_letDaysGo_lp12b vC aC p0 (X0_letDaysGo_lp12 vC aC p0 n) x2_12 aC12 := rfl
def X0_letDaysGo_f (vC : Nat → Int32) (aC : Nat → Nat → Int32) (p0 : Int32) : Int32 × (Nat → Int32) × (Nat → Nat → Int32) :=
  X0_letDaysGo_lp12 vC aC p0 7 0 aC
set_option maxHeartbeats 4000000 in
set_option maxRecDepth 100000 in
theorem X0_letDaysGo_c (l : Launch) (g : kG) (oC : Nat) (rC : Nat → Nat) (vC : Nat → Int32) (aC : Nat → Nat → Int32) (p0 : Int32) (nb : Nat) (hnb : nb ≤ 6) (hv7 : vC 7 = nI nb) : kM l yX0_letDaysGo wX0_letDaysGo 2 43 0 0 g [.ref oC, .int p0] [X0W g oC rC vC aC] (fun x u => x = (X0_letDaysGo_f vC aC p0).1 ∧ u = [X0W g oC rC ((X0_letDaysGo_f vC aC p0).2.1) ((X0_letDaysGo_f vC aC p0).2.2)]) := by
  refine kM_of (cc := cX0_letDaysGo) (nL := 3) (ret := (some .int)) (lv := [(0, .ref oC), (1, .int p0)]) (by decide) rfl (Nat.le_of_ble_eq_true rfl) rfl ?_
  intro p e s m args below meth c ls A C hP hD hE hA hS hl
  have C : kC p c cX0_letDaysGo s m args meth RX0 g 3 (some .int) := C
  have hx := C.1.1
  have hb := C.1.2.1
  have hts := C.1.2.2.2.2
  have loop12 : ∀ (n : Nat) (j12 : Nat) (x2_12 : Int32) (aC12 : Nat → Nat → Int32) (H : Heap) (locs : List Loc) (ls : Array Slot), j12 ≤ nb → nb < j12 + n → x2_12 = nI j12 → X0_letDaysGo_f vC aC p0 = X0_letDaysGo_lp12 vC aC p0 n x2_12 aC12 → kp g [X0W g oC rC (upd vC 0 ((vC 0) + p0)) aC12] H → kd A [X0W g oC rC (upd vC 0 ((vC 0) + p0)) aC12] → va_S A s.heap H locs → lv_has ls 3 [(2, .int x2_12), (0, .ref oC), (1, .int p0)] → W p l e (kRm 2 0 0 43) s m args below meth c H locs 0 0 (MQ below (kQi g (fun x u => x = (X0_letDaysGo_f vC aC p0).1 ∧ u = [X0W g oC rC ((X0_letDaysGo_f vC aC p0).2.1) ((X0_letDaysGo_f vC aC p0).2.2)]) A) args s 0 0 A) (F0 m 12 ls []) := by
    intro n
    induction n with
    | zero =>
      intro j12 x2_12 aC12 H locs ls hi12 hn12 hx12 hF12 hP hD hS hl
      exact absurd hn12 (by omega)
    | succ n ih12 =>
      intro j12 x2_12 aC12 H locs ls hi12 hn12 hx12 hF12 hP hD hS hl
      refine lv_iload_n hx hb dX0_letDaysGo_12 rfl (lv_at hl 0 rfl) ?_
      refine lv_aload_n hx hb dX0_letDaysGo_13 rfl (lv_at hl 1 rfl) ?_
      refine kg_get C kFX0 (k := 7) kw133 hP (i := 0) (q := 0) rfl rfl (by decide) rfl dX0_letDaysGo_14 ?_
      refine lv_icmp_ge (tgt := 45) hx hb dX0_letDaysGo_17 (by decide) (fun c1 => ?_) (fun c1 => ?_)
      · refine lv_aload_n hx hb dX0_letDaysGo_45 rfl (lv_at hl 1 rfl) ?_
        refine kR_V (As := []) (rest := []) C (X0_dustTogether_c l g oC rC (upd vC 0 ((vC 0) + p0)) aC12 nb (by first | assumption | exact k_vin hx12 (by omega) (by decide)) (by first | assumption | exact k_vin hx12 (by omega) (by decide))) (cwV 0 hts (k_gV kw624 ca_X0_dustTogether) rfl rfl rfl ⟨rfl, pnX0_dustTogether⟩ ⟨Nat.le_of_ble_eq_true rfl, Nat.le_of_ble_eq_true rfl⟩) hE hS (hP.pick [0] rfl) (k_recv C kFX0 hP (i := 0) (q := 0) rfl rfl) rfl hl.1 rfl rfl dX0_letDaysGo_46 ⟨Nat.le_of_ble_eq_true rfl, Nat.le_of_ble_eq_true rfl⟩ ?_
        have hF := (show X0_letDaysGo_f vC aC p0 = ((X0_dustTogether_f (upd vC 0 ((vC 0) + p0)) aC12), upd vC 0 ((vC 0) + p0), aC12) from hF12.trans ((X0_letDaysGo_lp12_s vC aC p0 n x2_12 aC12).trans ((if_pos c1).trans (rfl))))
        exact kM_ret (x := (X0_dustTogether_f (upd vC 0 ((vC 0) + p0)) aC12)) C hP hD hS ⟨by rw [hF], by rw [hF]⟩ dX0_letDaysGo_49
      have hj12 := k_asc hx12 (y := (vC 7)) (N := nb) hv7 hi12 (by omega) c1
      refine lv_aload_n hx hb dX0_letDaysGo_20 rfl (lv_at hl 1 rfl) ?_
      refine kg_get C kFX0 (k := 9) kw139 hP (i := 0) (q := 0) rfl rfl (by decide) rfl dX0_letDaysGo_21 ?_
      refine lv_iload_n hx hb dX0_letDaysGo_24 rfl (lv_at hl 0 rfl) ?_
      refine lv_bipush (v := 20) hx hb dX0_letDaysGo_25 (by decide) ?_
      refine lv_aload_n hx hb dX0_letDaysGo_27 rfl (lv_at hl 1 rfl) ?_
      refine kg_get C kFX0 (k := 9) kw139 hP (i := 0) (q := 0) rfl rfl (by decide) rfl dX0_letDaysGo_28 ?_
      refine lv_iload_n hx hb dX0_letDaysGo_31 rfl (lv_at hl 0 rfl) ?_
      refine kg_iald C hP (i := 0) (q := 4) rfl rfl (by first | assumption | exact k_vin (M := 6) hx12 (by omega) (by decide)) dX0_letDaysGo_32 ?_
      refine lv_iload_n hx hb dX0_letDaysGo_33 rfl (lv_at hl 2 rfl) ?_
      refine lv_iadd hx hb dX0_letDaysGo_34 ?_
      refine va_mmin hx hb (by rw [C.1.2.2.1, hl.1]) C.1.2.2.2.1 (hts _ (kw623)) (hts _ kw551) (hts _ kw84) (hts _ kw552) (Nat.le_of_ble_eq_true rfl) (Nat.le_of_ble_eq_true rfl) (Nat.le_of_ble_eq_true rfl) (Nat.le_of_ble_eq_true rfl) dX0_letDaysGo_35 ?_
      refine kg_iast C hP hD hS (i := 0) (q := 4) rfl rfl (by first | assumption | exact k_vin (M := 6) hx12 (by omega) (by decide)) X0t_9 rfl dX0_letDaysGo_38 (fun H locs hP hD hS => ?_)
      have hP : kp g [X0W g oC rC (upd vC 0 ((vC 0) + p0)) (va_up aC12 9 (upd (aC12 9) x2_12.toNatClampNeg (if (((aC12 9) x2_12.toNatClampNeg) + p0) < 20 then (((aC12 9) x2_12.toNatClampNeg) + p0) else 20)))] H := hP
      have hD : kd A [X0W g oC rC (upd vC 0 ((vC 0) + p0)) (va_up aC12 9 (upd (aC12 9) x2_12.toNatClampNeg (if (((aC12 9) x2_12.toNatClampNeg) + p0) < 20 then (((aC12 9) x2_12.toNatClampNeg) + p0) else 20)))] := hD
      refine lv_iinc (v := (x2_12 + 1)) (lv' := [(2, .int (x2_12 + 1)), (0, .ref oC), (1, .int p0)]) hx hb dX0_letDaysGo_39 hl (k := 0) rfl rfl (by decide) rfl (fun ls hl => ?_)
      refine lv_goto (tgt := 12) hx hb dX0_letDaysGo_42 (by decide) ?_
      exact ih12 (j12 + 1) (x2_12 + 1) (va_up aC12 9 (upd (aC12 9) x2_12.toNatClampNeg (if (((aC12 9) x2_12.toNatClampNeg) + p0) < 20 then (((aC12 9) x2_12.toNatClampNeg) + p0) else 20))) _ _ ls hj12 (by omega) (k_up hx12) (show X0_letDaysGo_f vC aC p0 = X0_letDaysGo_lp12 vC aC p0 n (x2_12 + 1) (va_up aC12 9 (upd (aC12 9) x2_12.toNatClampNeg (if (((aC12 9) x2_12.toNatClampNeg) + p0) < 20 then (((aC12 9) x2_12.toNatClampNeg) + p0) else 20))) from hF12.trans ((X0_letDaysGo_lp12_s vC aC p0 n x2_12 aC12).trans ((if_neg c1).trans (rfl)))) hP hD hS (lv_sub hl [0, 1, 2] rfl)
  refine lv_aload_n hx hb dX0_letDaysGo_0 rfl (lv_at hl 0 rfl) ?_
  refine lv_dup hx hb dX0_letDaysGo_1 rfl ?_
  refine kg_get C kFX0 (k := 0) kw113 hP (i := 0) (q := 0) rfl rfl (by decide) rfl dX0_letDaysGo_2 ?_
  refine lv_iload_n hx hb dX0_letDaysGo_5 rfl (lv_at hl 1 rfl) ?_
  refine lv_iadd hx hb dX0_letDaysGo_6 ?_
  refine kg_put C kFX0 (k := 0) kw113 hP hD hS (i := 0) (q := 0) rfl rfl (by decide) rfl rfl rfl (Nat.le_of_ble_eq_true rfl) X0s_0 rfl dX0_letDaysGo_7 (fun H locs hP hD hS => ?_)
  have hP : kp g [X0W g oC rC (upd vC 0 ((vC 0) + p0)) aC] H := hP
  have hD : kd A [X0W g oC rC (upd vC 0 ((vC 0) + p0)) aC] := hD
  refine lv_iconst (v := 0) hx hb dX0_letDaysGo_10 (by decide) ?_
  refine lv_istore_n (lv' := [(2, .int 0), (0, .ref oC), (1, .int p0)]) hx hb dX0_letDaysGo_11 rfl hl (by decide) rfl (fun ls hl => ?_)
  exact loop12 7 0 0 aC _ _ ls (by omega) (by omega) rfl (show X0_letDaysGo_f vC aC p0 = X0_letDaysGo_lp12 vC aC p0 7 0 aC from rfl) hP hD hS (lv_sub hl [0, 1, 2] rfl)

abbrev wX0_addJar : List Cond := Cond.code yX0_addJar cX0_addJar 3 (some .int) :: kW
def X0_addJar_f (vC : Nat → Int32) (aC : Nat → Nat → Int32) (p0 : Int32) (p1 : Int32) : Int32 × (Nat → Int32) × (Nat → Nat → Int32) :=
  ((((vC 4) + 1) - 1), upd vC 4 ((vC 4) + 1), va_up (va_up aC 5 (upd (aC 5) ((vC 4).toNatClampNeg) p0)) 6 (upd (aC 6) ((vC 4).toNatClampNeg) p1))
set_option maxHeartbeats 4000000 in
set_option maxRecDepth 100000 in
theorem X0_addJar_c (l : Launch) (g : kG) (oC : Nat) (rC : Nat → Nat) (vC : Nat → Int32) (aC : Nat → Nat → Int32) (p0 : Int32) (p1 : Int32) (hj : vp_in (vC 4) 6) : kM l yX0_addJar wX0_addJar 0 0 0 0 g [.ref oC, .int p0, .int p1] [X0W g oC rC vC aC] (fun x u => x = (X0_addJar_f vC aC p0 p1).1 ∧ u = [X0W g oC rC ((X0_addJar_f vC aC p0 p1).2.1) ((X0_addJar_f vC aC p0 p1).2.2)]) := by
  refine kM_of (cc := cX0_addJar) (nL := 3) (ret := (some .int)) (lv := [(0, .ref oC), (1, .int p0), (2, .int p1)]) (by decide) rfl (Nat.le_of_ble_eq_true rfl) rfl ?_
  intro p e s m args below meth c ls A C hP hD hE hA hS hl
  have C : kC p c cX0_addJar s m args meth RX0 g 3 (some .int) := C
  have hx := C.1.1
  have hb := C.1.2.1
  have hts := C.1.2.2.2.2
  refine lv_aload_n hx hb dX0_addJar_0 rfl (lv_at hl 0 rfl) ?_
  refine kg_get C kFX0 (k := 5) kw127 hP (i := 0) (q := 0) rfl rfl (by decide) rfl dX0_addJar_1 ?_
  refine lv_aload_n hx hb dX0_addJar_4 rfl (lv_at hl 0 rfl) ?_
  refine kg_get C kFX0 (k := 4) kw124 hP (i := 0) (q := 0) rfl rfl (by decide) rfl dX0_addJar_5 ?_
  refine lv_iload_n hx hb dX0_addJar_8 rfl (lv_at hl 1 rfl) ?_
  refine kg_iast C hP hD hS (i := 0) (q := 1) rfl rfl (by first | assumption) X0t_5 rfl dX0_addJar_9 (fun H locs hP hD hS => ?_)
  have hP : kp g [X0W g oC rC vC (va_up aC 5 (upd (aC 5) ((vC 4).toNatClampNeg) p0))] H := hP
  have hD : kd A [X0W g oC rC vC (va_up aC 5 (upd (aC 5) ((vC 4).toNatClampNeg) p0))] := hD
  refine lv_aload_n hx hb dX0_addJar_10 rfl (lv_at hl 0 rfl) ?_
  refine kg_get C kFX0 (k := 6) kw130 hP (i := 0) (q := 0) rfl rfl (by decide) rfl dX0_addJar_11 ?_
  refine lv_aload_n hx hb dX0_addJar_14 rfl (lv_at hl 0 rfl) ?_
  refine kg_get C kFX0 (k := 4) kw124 hP (i := 0) (q := 0) rfl rfl (by decide) rfl dX0_addJar_15 ?_
  refine lv_iload_n hx hb dX0_addJar_18 rfl (lv_at hl 2 rfl) ?_
  refine kg_iast C hP hD hS (i := 0) (q := 2) rfl rfl (by first | assumption) X0t_6 rfl dX0_addJar_19 (fun H locs hP hD hS => ?_)
  have hP : kp g [X0W g oC rC vC (va_up (va_up aC 5 (upd (aC 5) ((vC 4).toNatClampNeg) p0)) 6 (upd (aC 6) ((vC 4).toNatClampNeg) p1))] H := hP
  have hD : kd A [X0W g oC rC vC (va_up (va_up aC 5 (upd (aC 5) ((vC 4).toNatClampNeg) p0)) 6 (upd (aC 6) ((vC 4).toNatClampNeg) p1))] := hD
  refine lv_aload_n hx hb dX0_addJar_20 rfl (lv_at hl 0 rfl) ?_
  refine lv_dup hx hb dX0_addJar_21 rfl ?_
  refine kg_get C kFX0 (k := 4) kw124 hP (i := 0) (q := 0) rfl rfl (by decide) rfl dX0_addJar_22 ?_
  refine lv_iconst (v := 1) hx hb dX0_addJar_25 (by decide) ?_
  refine lv_iadd hx hb dX0_addJar_26 ?_
  refine kg_put C kFX0 (k := 4) kw124 hP hD hS (i := 0) (q := 0) rfl rfl (by decide) rfl rfl rfl (Nat.le_of_ble_eq_true rfl) X0s_4 rfl dX0_addJar_27 (fun H locs hP hD hS => ?_)
  have hP : kp g [X0W g oC rC (upd vC 4 ((vC 4) + 1)) (va_up (va_up aC 5 (upd (aC 5) ((vC 4).toNatClampNeg) p0)) 6 (upd (aC 6) ((vC 4).toNatClampNeg) p1))] H := hP
  have hD : kd A [X0W g oC rC (upd vC 4 ((vC 4) + 1)) (va_up (va_up aC 5 (upd (aC 5) ((vC 4).toNatClampNeg) p0)) 6 (upd (aC 6) ((vC 4).toNatClampNeg) p1))] := hD
  refine lv_aload_n hx hb dX0_addJar_30 rfl (lv_at hl 0 rfl) ?_
  refine kg_get C kFX0 (k := 4) kw124 hP (i := 0) (q := 0) rfl rfl (by decide) rfl dX0_addJar_31 ?_
  refine lv_iconst (v := 1) hx hb dX0_addJar_34 (by decide) ?_
  refine lv_isub hx hb dX0_addJar_35 ?_
  have hF := (show X0_addJar_f vC aC p0 p1 = ((((vC 4) + 1) - 1), upd vC 4 ((vC 4) + 1), va_up (va_up aC 5 (upd (aC 5) ((vC 4).toNatClampNeg) p0)) 6 (upd (aC 6) ((vC 4).toNatClampNeg) p1)) from rfl)
  exact kM_ret (x := (((vC 4) + 1) - 1)) C hP hD hS ⟨by rw [hF], by rw [hF]⟩ dX0_addJar_36

abbrev wX0_addBag : List Cond := Cond.code yX0_addBag cX0_addBag 2 (some .int) :: kW
def X0_addBag_f (vC : Nat → Int32) (aC : Nat → Nat → Int32) (p0 : Int32) : Int32 × (Nat → Int32) × (Nat → Nat → Int32) :=
  ((((vC 7) + 1) - 1), upd vC 7 ((vC 7) + 1), va_up (va_up (va_up (va_up (va_up aC 8 (upd (aC 8) ((vC 7).toNatClampNeg) p0)) 9 (upd (aC 9) ((vC 7).toNatClampNeg) 0)) 10 (upd (aC 10) ((vC 7).toNatClampNeg) (-1))) 11 (upd (aC 11) ((vC 7).toNatClampNeg) 0)) 12 (upd (aC 12) ((vC 7).toNatClampNeg) 0))
set_option maxHeartbeats 4000000 in
set_option maxRecDepth 100000 in
theorem X0_addBag_c (l : Launch) (g : kG) (oC : Nat) (rC : Nat → Nat) (vC : Nat → Int32) (aC : Nat → Nat → Int32) (p0 : Int32) (hj : vp_in (vC 7) 6) : kM l yX0_addBag wX0_addBag 0 0 0 0 g [.ref oC, .int p0] [X0W g oC rC vC aC] (fun x u => x = (X0_addBag_f vC aC p0).1 ∧ u = [X0W g oC rC ((X0_addBag_f vC aC p0).2.1) ((X0_addBag_f vC aC p0).2.2)]) := by
  refine kM_of (cc := cX0_addBag) (nL := 2) (ret := (some .int)) (lv := [(0, .ref oC), (1, .int p0)]) (by decide) rfl (Nat.le_of_ble_eq_true rfl) rfl ?_
  intro p e s m args below meth c ls A C hP hD hE hA hS hl
  have C : kC p c cX0_addBag s m args meth RX0 g 2 (some .int) := C
  have hx := C.1.1
  have hb := C.1.2.1
  have hts := C.1.2.2.2.2
  refine lv_aload_n hx hb dX0_addBag_0 rfl (lv_at hl 0 rfl) ?_
  refine kg_get C kFX0 (k := 8) kw136 hP (i := 0) (q := 0) rfl rfl (by decide) rfl dX0_addBag_1 ?_
  refine lv_aload_n hx hb dX0_addBag_4 rfl (lv_at hl 0 rfl) ?_
  refine kg_get C kFX0 (k := 7) kw133 hP (i := 0) (q := 0) rfl rfl (by decide) rfl dX0_addBag_5 ?_
  refine lv_iload_n hx hb dX0_addBag_8 rfl (lv_at hl 1 rfl) ?_
  refine kg_iast C hP hD hS (i := 0) (q := 3) rfl rfl (by first | assumption) X0t_8 rfl dX0_addBag_9 (fun H locs hP hD hS => ?_)
  have hP : kp g [X0W g oC rC vC (va_up aC 8 (upd (aC 8) ((vC 7).toNatClampNeg) p0))] H := hP
  have hD : kd A [X0W g oC rC vC (va_up aC 8 (upd (aC 8) ((vC 7).toNatClampNeg) p0))] := hD
  refine lv_aload_n hx hb dX0_addBag_10 rfl (lv_at hl 0 rfl) ?_
  refine kg_get C kFX0 (k := 9) kw139 hP (i := 0) (q := 0) rfl rfl (by decide) rfl dX0_addBag_11 ?_
  refine lv_aload_n hx hb dX0_addBag_14 rfl (lv_at hl 0 rfl) ?_
  refine kg_get C kFX0 (k := 7) kw133 hP (i := 0) (q := 0) rfl rfl (by decide) rfl dX0_addBag_15 ?_
  refine lv_iconst (v := 0) hx hb dX0_addBag_18 (by decide) ?_
  refine kg_iast C hP hD hS (i := 0) (q := 4) rfl rfl (by first | assumption) X0t_9 rfl dX0_addBag_19 (fun H locs hP hD hS => ?_)
  have hP : kp g [X0W g oC rC vC (va_up (va_up aC 8 (upd (aC 8) ((vC 7).toNatClampNeg) p0)) 9 (upd (aC 9) ((vC 7).toNatClampNeg) 0))] H := hP
  have hD : kd A [X0W g oC rC vC (va_up (va_up aC 8 (upd (aC 8) ((vC 7).toNatClampNeg) p0)) 9 (upd (aC 9) ((vC 7).toNatClampNeg) 0))] := hD
  refine lv_aload_n hx hb dX0_addBag_20 rfl (lv_at hl 0 rfl) ?_
  refine kg_get C kFX0 (k := 10) kw141 hP (i := 0) (q := 0) rfl rfl (by decide) rfl dX0_addBag_21 ?_
  refine lv_aload_n hx hb dX0_addBag_24 rfl (lv_at hl 0 rfl) ?_
  refine kg_get C kFX0 (k := 7) kw133 hP (i := 0) (q := 0) rfl rfl (by decide) rfl dX0_addBag_25 ?_
  refine lv_iconst (v := (-1)) hx hb dX0_addBag_28 (by decide) ?_
  refine kg_iast C hP hD hS (i := 0) (q := 5) rfl rfl (by first | assumption) X0t_10 rfl dX0_addBag_29 (fun H locs hP hD hS => ?_)
  have hP : kp g [X0W g oC rC vC (va_up (va_up (va_up aC 8 (upd (aC 8) ((vC 7).toNatClampNeg) p0)) 9 (upd (aC 9) ((vC 7).toNatClampNeg) 0)) 10 (upd (aC 10) ((vC 7).toNatClampNeg) (-1)))] H := hP
  have hD : kd A [X0W g oC rC vC (va_up (va_up (va_up aC 8 (upd (aC 8) ((vC 7).toNatClampNeg) p0)) 9 (upd (aC 9) ((vC 7).toNatClampNeg) 0)) 10 (upd (aC 10) ((vC 7).toNatClampNeg) (-1)))] := hD
  refine lv_aload_n hx hb dX0_addBag_30 rfl (lv_at hl 0 rfl) ?_
  refine kg_get C kFX0 (k := 11) kw144 hP (i := 0) (q := 0) rfl rfl (by decide) rfl dX0_addBag_31 ?_
  refine lv_aload_n hx hb dX0_addBag_34 rfl (lv_at hl 0 rfl) ?_
  refine kg_get C kFX0 (k := 7) kw133 hP (i := 0) (q := 0) rfl rfl (by decide) rfl dX0_addBag_35 ?_
  refine lv_iconst (v := 0) hx hb dX0_addBag_38 (by decide) ?_
  refine kg_iast C hP hD hS (i := 0) (q := 6) rfl rfl (by first | assumption) X0t_11 rfl dX0_addBag_39 (fun H locs hP hD hS => ?_)
  have hP : kp g [X0W g oC rC vC (va_up (va_up (va_up (va_up aC 8 (upd (aC 8) ((vC 7).toNatClampNeg) p0)) 9 (upd (aC 9) ((vC 7).toNatClampNeg) 0)) 10 (upd (aC 10) ((vC 7).toNatClampNeg) (-1))) 11 (upd (aC 11) ((vC 7).toNatClampNeg) 0))] H := hP
  have hD : kd A [X0W g oC rC vC (va_up (va_up (va_up (va_up aC 8 (upd (aC 8) ((vC 7).toNatClampNeg) p0)) 9 (upd (aC 9) ((vC 7).toNatClampNeg) 0)) 10 (upd (aC 10) ((vC 7).toNatClampNeg) (-1))) 11 (upd (aC 11) ((vC 7).toNatClampNeg) 0))] := hD
  refine lv_aload_n hx hb dX0_addBag_40 rfl (lv_at hl 0 rfl) ?_
  refine kg_get C kFX0 (k := 12) kw147 hP (i := 0) (q := 0) rfl rfl (by decide) rfl dX0_addBag_41 ?_
  refine lv_aload_n hx hb dX0_addBag_44 rfl (lv_at hl 0 rfl) ?_
  refine kg_get C kFX0 (k := 7) kw133 hP (i := 0) (q := 0) rfl rfl (by decide) rfl dX0_addBag_45 ?_
  refine lv_iconst (v := 0) hx hb dX0_addBag_48 (by decide) ?_
  refine kg_iast C hP hD hS (i := 0) (q := 7) rfl rfl (by first | assumption) X0t_12 rfl dX0_addBag_49 (fun H locs hP hD hS => ?_)
  have hP : kp g [X0W g oC rC vC (va_up (va_up (va_up (va_up (va_up aC 8 (upd (aC 8) ((vC 7).toNatClampNeg) p0)) 9 (upd (aC 9) ((vC 7).toNatClampNeg) 0)) 10 (upd (aC 10) ((vC 7).toNatClampNeg) (-1))) 11 (upd (aC 11) ((vC 7).toNatClampNeg) 0)) 12 (upd (aC 12) ((vC 7).toNatClampNeg) 0))] H := hP
  have hD : kd A [X0W g oC rC vC (va_up (va_up (va_up (va_up (va_up aC 8 (upd (aC 8) ((vC 7).toNatClampNeg) p0)) 9 (upd (aC 9) ((vC 7).toNatClampNeg) 0)) 10 (upd (aC 10) ((vC 7).toNatClampNeg) (-1))) 11 (upd (aC 11) ((vC 7).toNatClampNeg) 0)) 12 (upd (aC 12) ((vC 7).toNatClampNeg) 0))] := hD
  refine lv_aload_n hx hb dX0_addBag_50 rfl (lv_at hl 0 rfl) ?_
  refine lv_dup hx hb dX0_addBag_51 rfl ?_
  refine kg_get C kFX0 (k := 7) kw133 hP (i := 0) (q := 0) rfl rfl (by decide) rfl dX0_addBag_52 ?_
  refine lv_iconst (v := 1) hx hb dX0_addBag_55 (by decide) ?_
  refine lv_iadd hx hb dX0_addBag_56 ?_
  refine kg_put C kFX0 (k := 7) kw133 hP hD hS (i := 0) (q := 0) rfl rfl (by decide) rfl rfl rfl (Nat.le_of_ble_eq_true rfl) X0s_7 rfl dX0_addBag_57 (fun H locs hP hD hS => ?_)
  have hP : kp g [X0W g oC rC (upd vC 7 ((vC 7) + 1)) (va_up (va_up (va_up (va_up (va_up aC 8 (upd (aC 8) ((vC 7).toNatClampNeg) p0)) 9 (upd (aC 9) ((vC 7).toNatClampNeg) 0)) 10 (upd (aC 10) ((vC 7).toNatClampNeg) (-1))) 11 (upd (aC 11) ((vC 7).toNatClampNeg) 0)) 12 (upd (aC 12) ((vC 7).toNatClampNeg) 0))] H := hP
  have hD : kd A [X0W g oC rC (upd vC 7 ((vC 7) + 1)) (va_up (va_up (va_up (va_up (va_up aC 8 (upd (aC 8) ((vC 7).toNatClampNeg) p0)) 9 (upd (aC 9) ((vC 7).toNatClampNeg) 0)) 10 (upd (aC 10) ((vC 7).toNatClampNeg) (-1))) 11 (upd (aC 11) ((vC 7).toNatClampNeg) 0)) 12 (upd (aC 12) ((vC 7).toNatClampNeg) 0))] := hD
  refine lv_aload_n hx hb dX0_addBag_60 rfl (lv_at hl 0 rfl) ?_
  refine kg_get C kFX0 (k := 7) kw133 hP (i := 0) (q := 0) rfl rfl (by decide) rfl dX0_addBag_61 ?_
  refine lv_iconst (v := 1) hx hb dX0_addBag_64 (by decide) ?_
  refine lv_isub hx hb dX0_addBag_65 ?_
  have hF := (show X0_addBag_f vC aC p0 = ((((vC 7) + 1) - 1), upd vC 7 ((vC 7) + 1), va_up (va_up (va_up (va_up (va_up aC 8 (upd (aC 8) ((vC 7).toNatClampNeg) p0)) 9 (upd (aC 9) ((vC 7).toNatClampNeg) 0)) 10 (upd (aC 10) ((vC 7).toNatClampNeg) (-1))) 11 (upd (aC 11) ((vC 7).toNatClampNeg) 0)) 12 (upd (aC 12) ((vC 7).toNatClampNeg) 0)) from rfl)
  exact kM_ret (x := (((vC 7) + 1) - 1)) C hP hD hS ⟨by rw [hF], by rw [hF]⟩ dX0_addBag_66

abbrev wX0_fillBag : List Cond := Cond.code yX0_fillBag cX0_fillBag 4 (some .int) :: kW
def X0_fillBag_f (vC : Nat → Int32) (aC : Nat → Nat → Int32) (p0 : Int32) (p1 : Int32) (p2 : Int32) : Int32 × (Nat → Nat → Int32) :=
  (((upd (aC 11) p0.toNatClampNeg (((aC 11) p0.toNatClampNeg) + p2)) p0.toNatClampNeg), va_up (va_up (va_up aC 6 (upd (aC 6) p1.toNatClampNeg (((aC 6) p1.toNatClampNeg) - p2))) 10 (upd (aC 10) p0.toNatClampNeg ((aC 5) p1.toNatClampNeg))) 11 (upd (aC 11) p0.toNatClampNeg (((aC 11) p0.toNatClampNeg) + p2)))
set_option maxHeartbeats 4000000 in
set_option maxRecDepth 100000 in
theorem X0_fillBag_c (l : Launch) (g : kG) (oC : Nat) (rC : Nat → Nat) (vC : Nat → Int32) (aC : Nat → Nat → Int32) (p0 : Int32) (p1 : Int32) (p2 : Int32) (hb : vp_in p0 6) (hb1 : vp_in p1 6) : kM l yX0_fillBag wX0_fillBag 0 0 0 0 g [.ref oC, .int p0, .int p1, .int p2] [X0W g oC rC vC aC] (fun x u => x = (X0_fillBag_f vC aC p0 p1 p2).1 ∧ u = [X0W g oC rC vC ((X0_fillBag_f vC aC p0 p1 p2).2)]) := by
  refine kM_of (cc := cX0_fillBag) (nL := 4) (ret := (some .int)) (lv := [(0, .ref oC), (1, .int p0), (2, .int p1), (3, .int p2)]) (by decide) rfl (Nat.le_of_ble_eq_true rfl) rfl ?_
  intro p e s m args below meth c ls A C hP hD hE hA hS hl
  have C : kC p c cX0_fillBag s m args meth RX0 g 4 (some .int) := C
  have hx := C.1.1
  have hb := C.1.2.1
  have hts := C.1.2.2.2.2
  refine lv_aload_n hx hb dX0_fillBag_0 rfl (lv_at hl 0 rfl) ?_
  refine kg_get C kFX0 (k := 6) kw130 hP (i := 0) (q := 0) rfl rfl (by decide) rfl dX0_fillBag_1 ?_
  refine lv_iload_n hx hb dX0_fillBag_4 rfl (lv_at hl 2 rfl) ?_
  refine lv_dup2_11 hx hb dX0_fillBag_5 rfl rfl ?_
  refine kg_iald C hP (i := 0) (q := 2) rfl rfl (by first | assumption) dX0_fillBag_6 ?_
  refine lv_iload_n hx hb dX0_fillBag_7 rfl (lv_at hl 3 rfl) ?_
  refine lv_isub hx hb dX0_fillBag_8 ?_
  refine kg_iast C hP hD hS (i := 0) (q := 2) rfl rfl (by first | assumption) X0t_6 rfl dX0_fillBag_9 (fun H locs hP hD hS => ?_)
  have hP : kp g [X0W g oC rC vC (va_up aC 6 (upd (aC 6) p1.toNatClampNeg (((aC 6) p1.toNatClampNeg) - p2)))] H := hP
  have hD : kd A [X0W g oC rC vC (va_up aC 6 (upd (aC 6) p1.toNatClampNeg (((aC 6) p1.toNatClampNeg) - p2)))] := hD
  refine lv_aload_n hx hb dX0_fillBag_10 rfl (lv_at hl 0 rfl) ?_
  refine kg_get C kFX0 (k := 10) kw141 hP (i := 0) (q := 0) rfl rfl (by decide) rfl dX0_fillBag_11 ?_
  refine lv_iload_n hx hb dX0_fillBag_14 rfl (lv_at hl 1 rfl) ?_
  refine lv_aload_n hx hb dX0_fillBag_15 rfl (lv_at hl 0 rfl) ?_
  refine kg_get C kFX0 (k := 5) kw127 hP (i := 0) (q := 0) rfl rfl (by decide) rfl dX0_fillBag_16 ?_
  refine lv_iload_n hx hb dX0_fillBag_19 rfl (lv_at hl 2 rfl) ?_
  refine kg_iald C hP (i := 0) (q := 1) rfl rfl (by first | assumption) dX0_fillBag_20 ?_
  refine kg_iast C hP hD hS (i := 0) (q := 5) rfl rfl (by first | assumption) X0t_10 rfl dX0_fillBag_21 (fun H locs hP hD hS => ?_)
  have hP : kp g [X0W g oC rC vC (va_up (va_up aC 6 (upd (aC 6) p1.toNatClampNeg (((aC 6) p1.toNatClampNeg) - p2))) 10 (upd (aC 10) p0.toNatClampNeg ((aC 5) p1.toNatClampNeg)))] H := hP
  have hD : kd A [X0W g oC rC vC (va_up (va_up aC 6 (upd (aC 6) p1.toNatClampNeg (((aC 6) p1.toNatClampNeg) - p2))) 10 (upd (aC 10) p0.toNatClampNeg ((aC 5) p1.toNatClampNeg)))] := hD
  refine lv_aload_n hx hb dX0_fillBag_22 rfl (lv_at hl 0 rfl) ?_
  refine kg_get C kFX0 (k := 11) kw144 hP (i := 0) (q := 0) rfl rfl (by decide) rfl dX0_fillBag_23 ?_
  refine lv_iload_n hx hb dX0_fillBag_26 rfl (lv_at hl 1 rfl) ?_
  refine lv_dup2_11 hx hb dX0_fillBag_27 rfl rfl ?_
  refine kg_iald C hP (i := 0) (q := 6) rfl rfl (by first | assumption) dX0_fillBag_28 ?_
  refine lv_iload_n hx hb dX0_fillBag_29 rfl (lv_at hl 3 rfl) ?_
  refine lv_iadd hx hb dX0_fillBag_30 ?_
  refine kg_iast C hP hD hS (i := 0) (q := 6) rfl rfl (by first | assumption) X0t_11 rfl dX0_fillBag_31 (fun H locs hP hD hS => ?_)
  have hP : kp g [X0W g oC rC vC (va_up (va_up (va_up aC 6 (upd (aC 6) p1.toNatClampNeg (((aC 6) p1.toNatClampNeg) - p2))) 10 (upd (aC 10) p0.toNatClampNeg ((aC 5) p1.toNatClampNeg))) 11 (upd (aC 11) p0.toNatClampNeg (((aC 11) p0.toNatClampNeg) + p2)))] H := hP
  have hD : kd A [X0W g oC rC vC (va_up (va_up (va_up aC 6 (upd (aC 6) p1.toNatClampNeg (((aC 6) p1.toNatClampNeg) - p2))) 10 (upd (aC 10) p0.toNatClampNeg ((aC 5) p1.toNatClampNeg))) 11 (upd (aC 11) p0.toNatClampNeg (((aC 11) p0.toNatClampNeg) + p2)))] := hD
  refine lv_aload_n hx hb dX0_fillBag_32 rfl (lv_at hl 0 rfl) ?_
  refine kg_get C kFX0 (k := 11) kw144 hP (i := 0) (q := 0) rfl rfl (by decide) rfl dX0_fillBag_33 ?_
  refine lv_iload_n hx hb dX0_fillBag_36 rfl (lv_at hl 1 rfl) ?_
  refine kg_iald C hP (i := 0) (q := 6) rfl rfl (by first | assumption) dX0_fillBag_37 ?_
  have hF := (show X0_fillBag_f vC aC p0 p1 p2 = (((upd (aC 11) p0.toNatClampNeg (((aC 11) p0.toNatClampNeg) + p2)) p0.toNatClampNeg), va_up (va_up (va_up aC 6 (upd (aC 6) p1.toNatClampNeg (((aC 6) p1.toNatClampNeg) - p2))) 10 (upd (aC 10) p0.toNatClampNeg ((aC 5) p1.toNatClampNeg))) 11 (upd (aC 11) p0.toNatClampNeg (((aC 11) p0.toNatClampNeg) + p2))) from rfl)
  exact kM_ret (x := ((upd (aC 11) p0.toNatClampNeg (((aC 11) p0.toNatClampNeg) + p2)) p0.toNatClampNeg)) C hP hD hS ⟨by rw [hF], by rw [hF]⟩ dX0_fillBag_38

abbrev wX0_clearBag : List Cond := Cond.code yX0_clearBag cX0_clearBag 2 none :: kW
def X0_clearBag_f (vC : Nat → Int32) (aC : Nat → Nat → Int32) (p0 : Int32) : (Nat → Nat → Int32) :=
  va_up (va_up aC 11 (upd (aC 11) p0.toNatClampNeg 0)) 10 (upd (aC 10) p0.toNatClampNeg (-1))
set_option maxHeartbeats 4000000 in
set_option maxRecDepth 100000 in
theorem X0_clearBag_c (l : Launch) (g : kG) (oC : Nat) (rC : Nat → Nat) (vC : Nat → Int32) (aC : Nat → Nat → Int32) (p0 : Int32) (hb : vp_in p0 6) : kV l yX0_clearBag wX0_clearBag 0 0 0 0 g [.ref oC, .int p0] [X0W g oC rC vC aC] (fun u => u = [X0W g oC rC vC (X0_clearBag_f vC aC p0)]) := by
  refine kV_of (cc := cX0_clearBag) (nL := 2) (ret := none) (lv := [(0, .ref oC), (1, .int p0)]) (by decide) rfl (Nat.le_of_ble_eq_true rfl) rfl ?_
  intro p e s m args below meth c ls A hnm C hP hD hE hA hS hl
  have C : kC p c cX0_clearBag s m args meth RX0 g 2 none := C
  have hx := C.1.1
  have hb := C.1.2.1
  have hts := C.1.2.2.2.2
  refine lv_aload_n hx hb dX0_clearBag_0 rfl (lv_at hl 0 rfl) ?_
  refine kg_get C kFX0 (k := 11) kw144 hP (i := 0) (q := 0) rfl rfl (by decide) rfl dX0_clearBag_1 ?_
  refine lv_iload_n hx hb dX0_clearBag_4 rfl (lv_at hl 1 rfl) ?_
  refine lv_iconst (v := 0) hx hb dX0_clearBag_5 (by decide) ?_
  refine kg_iast C hP hD hS (i := 0) (q := 6) rfl rfl (by first | assumption) X0t_11 rfl dX0_clearBag_6 (fun H locs hP hD hS => ?_)
  have hP : kp g [X0W g oC rC vC (va_up aC 11 (upd (aC 11) p0.toNatClampNeg 0))] H := hP
  have hD : kd A [X0W g oC rC vC (va_up aC 11 (upd (aC 11) p0.toNatClampNeg 0))] := hD
  refine lv_aload_n hx hb dX0_clearBag_7 rfl (lv_at hl 0 rfl) ?_
  refine kg_get C kFX0 (k := 10) kw141 hP (i := 0) (q := 0) rfl rfl (by decide) rfl dX0_clearBag_8 ?_
  refine lv_iload_n hx hb dX0_clearBag_11 rfl (lv_at hl 1 rfl) ?_
  refine lv_iconst (v := (-1)) hx hb dX0_clearBag_12 (by decide) ?_
  refine kg_iast C hP hD hS (i := 0) (q := 5) rfl rfl (by first | assumption) X0t_10 rfl dX0_clearBag_13 (fun H locs hP hD hS => ?_)
  have hP : kp g [X0W g oC rC vC (va_up (va_up aC 11 (upd (aC 11) p0.toNatClampNeg 0)) 10 (upd (aC 10) p0.toNatClampNeg (-1)))] H := hP
  have hD : kd A [X0W g oC rC vC (va_up (va_up aC 11 (upd (aC 11) p0.toNatClampNeg 0)) 10 (upd (aC 10) p0.toNatClampNeg (-1)))] := hD
  have hF := (show X0_clearBag_f vC aC p0 = va_up (va_up aC 11 (upd (aC 11) p0.toNatClampNeg 0)) 10 (upd (aC 10) p0.toNatClampNeg (-1)) from rfl)
  exact kV_ret C hP hD hS (by rw [hF]) dX0_clearBag_14

theorem pnX0_clearBag : yX0_clearBag.cls ≠ "java/lang/invoke/MethodHandle" ∧ yX0_clearBag.cls ≠ "java/lang/invoke/VarHandle" ∧ (parseMethodDescriptor yX0_clearBag.desc).map (fun d => d.parameters.length) = some 1 := by decide +kernel
theorem ca_X0_clearBag : kCal yX0_clearBag (Cond.code yX0_clearBag cX0_clearBag 2 none) := ⟨k_w 4 27 rfl rfl, k_w 1 32 rfl rfl, k_w 2 2 rfl rfl, k_w 4 28 rfl rfl⟩

abbrev wX0_emptyBag : List Cond := Cond.code yX0_emptyBag cX0_emptyBag 3 (some .int) :: kW
def X0_emptyBag_f (vC : Nat → Int32) (aC : Nat → Nat → Int32) (p0 : Int32) (p1 : Int32) : Int32 × (Nat → Nat → Int32) :=
  ((((X0_clearBag_f vC (va_up aC 6 (upd (aC 6) p1.toNatClampNeg (((aC 6) p1.toNatClampNeg) + ((aC 11) p0.toNatClampNeg)))) p0) 6) p1.toNatClampNeg), (X0_clearBag_f vC (va_up aC 6 (upd (aC 6) p1.toNatClampNeg (((aC 6) p1.toNatClampNeg) + ((aC 11) p0.toNatClampNeg)))) p0))
set_option maxHeartbeats 4000000 in
set_option maxRecDepth 100000 in
theorem X0_emptyBag_c (l : Launch) (g : kG) (oC : Nat) (rC : Nat → Nat) (vC : Nat → Int32) (aC : Nat → Nat → Int32) (p0 : Int32) (p1 : Int32) (hb : vp_in p0 6) (hb1 : vp_in p1 6) : kM l yX0_emptyBag wX0_emptyBag 1 21 0 0 g [.ref oC, .int p0, .int p1] [X0W g oC rC vC aC] (fun x u => x = (X0_emptyBag_f vC aC p0 p1).1 ∧ u = [X0W g oC rC vC ((X0_emptyBag_f vC aC p0 p1).2)]) := by
  refine kM_of (cc := cX0_emptyBag) (nL := 3) (ret := (some .int)) (lv := [(0, .ref oC), (1, .int p0), (2, .int p1)]) (by decide) rfl (Nat.le_of_ble_eq_true rfl) rfl ?_
  intro p e s m args below meth c ls A C hP hD hE hA hS hl
  have C : kC p c cX0_emptyBag s m args meth RX0 g 3 (some .int) := C
  have hx := C.1.1
  have hb := C.1.2.1
  have hts := C.1.2.2.2.2
  refine lv_aload_n hx hb dX0_emptyBag_0 rfl (lv_at hl 0 rfl) ?_
  refine kg_get C kFX0 (k := 6) kw130 hP (i := 0) (q := 0) rfl rfl (by decide) rfl dX0_emptyBag_1 ?_
  refine lv_iload_n hx hb dX0_emptyBag_4 rfl (lv_at hl 2 rfl) ?_
  refine lv_dup2_11 hx hb dX0_emptyBag_5 rfl rfl ?_
  refine kg_iald C hP (i := 0) (q := 2) rfl rfl (by first | assumption) dX0_emptyBag_6 ?_
  refine lv_aload_n hx hb dX0_emptyBag_7 rfl (lv_at hl 0 rfl) ?_
  refine kg_get C kFX0 (k := 11) kw144 hP (i := 0) (q := 0) rfl rfl (by decide) rfl dX0_emptyBag_8 ?_
  refine lv_iload_n hx hb dX0_emptyBag_11 rfl (lv_at hl 1 rfl) ?_
  refine kg_iald C hP (i := 0) (q := 6) rfl rfl (by first | assumption) dX0_emptyBag_12 ?_
  refine lv_iadd hx hb dX0_emptyBag_13 ?_
  refine kg_iast C hP hD hS (i := 0) (q := 2) rfl rfl (by first | assumption) X0t_6 rfl dX0_emptyBag_14 (fun H locs hP hD hS => ?_)
  have hP : kp g [X0W g oC rC vC (va_up aC 6 (upd (aC 6) p1.toNatClampNeg (((aC 6) p1.toNatClampNeg) + ((aC 11) p0.toNatClampNeg))))] H := hP
  have hD : kd A [X0W g oC rC vC (va_up aC 6 (upd (aC 6) p1.toNatClampNeg (((aC 6) p1.toNatClampNeg) + ((aC 11) p0.toNatClampNeg))))] := hD
  refine lv_aload_n hx hb dX0_emptyBag_15 rfl (lv_at hl 0 rfl) ?_
  refine lv_iload_n hx hb dX0_emptyBag_16 rfl (lv_at hl 1 rfl) ?_
  refine kV_V (As := [.int p0]) (rest := []) (wr := []) C (X0_clearBag_c l g oC rC vC (va_up aC 6 (upd (aC 6) p1.toNatClampNeg (((aC 6) p1.toNatClampNeg) + ((aC 11) p0.toNatClampNeg)))) p0 (by first | assumption)) (cwV 1 hts (k_gV kw573 ca_X0_clearBag) rfl rfl rfl ⟨rfl, pnX0_clearBag⟩ ⟨Nat.le_of_ble_eq_true rfl, Nat.le_of_ble_eq_true rfl⟩) hE hS hA hP hD [0] [] rfl rfl ⟨rfl, rfl, by decide⟩ (k_recv C kFX0 hP (i := 0) (q := 0) rfl rfl) rfl hl.1 rfl rfl dX0_emptyBag_17 ⟨Nat.le_of_ble_eq_true rfl, Nat.le_of_ble_eq_true rfl⟩ (fun u1 H locs hp1 hP hD hS => ?_)
  subst hp1
  have hP : kp g [X0W g oC rC vC (X0_clearBag_f vC (va_up aC 6 (upd (aC 6) p1.toNatClampNeg (((aC 6) p1.toNatClampNeg) + ((aC 11) p0.toNatClampNeg)))) p0)] H := hP
  have hD : kd A [X0W g oC rC vC (X0_clearBag_f vC (va_up aC 6 (upd (aC 6) p1.toNatClampNeg (((aC 6) p1.toNatClampNeg) + ((aC 11) p0.toNatClampNeg)))) p0)] := hD
  refine lv_aload_n hx hb dX0_emptyBag_20 rfl (lv_at hl 0 rfl) ?_
  refine kg_get C kFX0 (k := 6) kw130 hP (i := 0) (q := 0) rfl rfl (by decide) rfl dX0_emptyBag_21 ?_
  refine lv_iload_n hx hb dX0_emptyBag_24 rfl (lv_at hl 2 rfl) ?_
  refine kg_iald C hP (i := 0) (q := 2) rfl rfl (by first | assumption) dX0_emptyBag_25 ?_
  have hF := (show X0_emptyBag_f vC aC p0 p1 = ((((X0_clearBag_f vC (va_up aC 6 (upd (aC 6) p1.toNatClampNeg (((aC 6) p1.toNatClampNeg) + ((aC 11) p0.toNatClampNeg)))) p0) 6) p1.toNatClampNeg), (X0_clearBag_f vC (va_up aC 6 (upd (aC 6) p1.toNatClampNeg (((aC 6) p1.toNatClampNeg) + ((aC 11) p0.toNatClampNeg)))) p0)) from rfl)
  exact kM_ret (x := (((X0_clearBag_f vC (va_up aC 6 (upd (aC 6) p1.toNatClampNeg (((aC 6) p1.toNatClampNeg) + ((aC 11) p0.toNatClampNeg)))) p0) 6) p1.toNatClampNeg)) C hP hD hS ⟨by rw [hF], by rw [hF]⟩ dX0_emptyBag_26

abbrev wX0_beatBag : List Cond := Cond.code yX0_beatBag cX0_beatBag 3 (some .int) :: kW
def X0_beatBag_f (vC : Nat → Int32) (aC : Nat → Nat → Int32) (p0 : Int32) : Int32 × (Nat → Nat → Int32) :=
  (((aC 9) p0.toNatClampNeg), va_up aC 9 (upd (aC 9) p0.toNatClampNeg 0))
set_option maxHeartbeats 4000000 in
set_option maxRecDepth 100000 in
theorem X0_beatBag_c (l : Launch) (g : kG) (oC : Nat) (rC : Nat → Nat) (vC : Nat → Int32) (aC : Nat → Nat → Int32) (p0 : Int32) (hb : vp_in p0 6) : kM l yX0_beatBag wX0_beatBag 0 0 0 0 g [.ref oC, .int p0] [X0W g oC rC vC aC] (fun x u => x = (X0_beatBag_f vC aC p0).1 ∧ u = [X0W g oC rC vC ((X0_beatBag_f vC aC p0).2)]) := by
  refine kM_of (cc := cX0_beatBag) (nL := 3) (ret := (some .int)) (lv := [(0, .ref oC), (1, .int p0)]) (by decide) rfl (Nat.le_of_ble_eq_true rfl) rfl ?_
  intro p e s m args below meth c ls A C hP hD hE hA hS hl
  have C : kC p c cX0_beatBag s m args meth RX0 g 3 (some .int) := C
  have hx := C.1.1
  have hb := C.1.2.1
  have hts := C.1.2.2.2.2
  refine lv_aload_n hx hb dX0_beatBag_0 rfl (lv_at hl 0 rfl) ?_
  refine kg_get C kFX0 (k := 9) kw139 hP (i := 0) (q := 0) rfl rfl (by decide) rfl dX0_beatBag_1 ?_
  refine lv_iload_n hx hb dX0_beatBag_4 rfl (lv_at hl 1 rfl) ?_
  refine kg_iald C hP (i := 0) (q := 4) rfl rfl (by first | assumption) dX0_beatBag_5 ?_
  refine lv_istore_n (lv' := [(2, .int ((aC 9) p0.toNatClampNeg)), (0, .ref oC), (1, .int p0)]) hx hb dX0_beatBag_6 rfl hl (by decide) rfl (fun ls hl => ?_)
  refine lv_aload_n hx hb dX0_beatBag_7 rfl (lv_at hl 1 rfl) ?_
  refine kg_get C kFX0 (k := 9) kw139 hP (i := 0) (q := 0) rfl rfl (by decide) rfl dX0_beatBag_8 ?_
  refine lv_iload_n hx hb dX0_beatBag_11 rfl (lv_at hl 2 rfl) ?_
  refine lv_iconst (v := 0) hx hb dX0_beatBag_12 (by decide) ?_
  refine kg_iast C hP hD hS (i := 0) (q := 4) rfl rfl (by first | assumption) X0t_9 rfl dX0_beatBag_13 (fun H locs hP hD hS => ?_)
  have hP : kp g [X0W g oC rC vC (va_up aC 9 (upd (aC 9) p0.toNatClampNeg 0))] H := hP
  have hD : kd A [X0W g oC rC vC (va_up aC 9 (upd (aC 9) p0.toNatClampNeg 0))] := hD
  refine lv_iload_n hx hb dX0_beatBag_14 rfl (lv_at hl 0 rfl) ?_
  have hF := (show X0_beatBag_f vC aC p0 = (((aC 9) p0.toNatClampNeg), va_up aC 9 (upd (aC 9) p0.toNatClampNeg 0)) from rfl)
  exact kM_ret (x := ((aC 9) p0.toNatClampNeg)) C hP hD hS ⟨by rw [hF], by rw [hF]⟩ dX0_beatBag_15

abbrev wX0_setThumb : List Cond := Cond.code yX0_setThumb cX0_setThumb 3 (some .int) :: kW
def X0_setThumb_f (vC : Nat → Int32) (aC : Nat → Nat → Int32) (p0 : Int32) : Int32 × (Nat → Int32) :=
  ((vC 3), upd vC 3 p0)
set_option maxHeartbeats 4000000 in
set_option maxRecDepth 100000 in
theorem X0_setThumb_c (l : Launch) (g : kG) (oC : Nat) (rC : Nat → Nat) (vC : Nat → Int32) (aC : Nat → Nat → Int32) (p0 : Int32) : kM l yX0_setThumb wX0_setThumb 0 0 0 0 g [.ref oC, .int p0] [X0W g oC rC vC aC] (fun x u => x = (X0_setThumb_f vC aC p0).1 ∧ u = [X0W g oC rC ((X0_setThumb_f vC aC p0).2) aC]) := by
  refine kM_of (cc := cX0_setThumb) (nL := 3) (ret := (some .int)) (lv := [(0, .ref oC), (1, .int p0)]) (by decide) rfl (Nat.le_of_ble_eq_true rfl) rfl ?_
  intro p e s m args below meth c ls A C hP hD hE hA hS hl
  have C : kC p c cX0_setThumb s m args meth RX0 g 3 (some .int) := C
  have hx := C.1.1
  have hb := C.1.2.1
  have hts := C.1.2.2.2.2
  refine lv_aload_n hx hb dX0_setThumb_0 rfl (lv_at hl 0 rfl) ?_
  refine kg_get C kFX0 (k := 3) kw121 hP (i := 0) (q := 0) rfl rfl (by decide) rfl dX0_setThumb_1 ?_
  refine lv_istore_n (lv' := [(2, .int (vC 3)), (0, .ref oC), (1, .int p0)]) hx hb dX0_setThumb_4 rfl hl (by decide) rfl (fun ls hl => ?_)
  refine lv_aload_n hx hb dX0_setThumb_5 rfl (lv_at hl 1 rfl) ?_
  refine lv_iload_n hx hb dX0_setThumb_6 rfl (lv_at hl 2 rfl) ?_
  refine kg_put C kFX0 (k := 3) kw121 hP hD hS (i := 0) (q := 0) rfl rfl (by decide) rfl rfl rfl (Nat.le_of_ble_eq_true rfl) X0s_3 rfl dX0_setThumb_7 (fun H locs hP hD hS => ?_)
  have hP : kp g [X0W g oC rC (upd vC 3 p0) aC] H := hP
  have hD : kd A [X0W g oC rC (upd vC 3 p0) aC] := hD
  refine lv_iload_n hx hb dX0_setThumb_10 rfl (lv_at hl 0 rfl) ?_
  have hF := (show X0_setThumb_f vC aC p0 = ((vC 3), upd vC 3 p0) from rfl)
  exact kM_ret (x := (vC 3)) C hP hD hS ⟨by rw [hF], by rw [hF]⟩ dX0_setThumb_11

abbrev wX0_weighBag : List Cond := Cond.code yX0_weighBag cX0_weighBag 4 (some .int) :: kW
def X0_weighBag_lp12b (vC : Nat → Int32) (aC : Nat → Nat → Int32) (p0 : Int32) (rec : Int32 → Int32 → (Nat → Nat → Int32) → (Int32 × (Nat → Nat → Int32))) (x2_12 x3_12 : Int32) (aC12 : Nat → Nat → Int32) : Int32 × (Nat → Nat → Int32) :=
  if 8 ≤ x3_12 then ((X4_toldBy_f x2_12), va_up aC12 12 (upd (aC12 12) p0.toNatClampNeg (((aC12 12) p0.toNatClampNeg) + 1)))
  else if (X4_isAmong_f x3_12 x2_12) = true then rec x2_12 (x3_12 + 1) (va_up aC12 13 (upd (aC12 13) x3_12.toNatClampNeg (((aC12 13) x3_12.toNatClampNeg) + 1)))
  else rec x2_12 (x3_12 + 1) aC12
def X0_weighBag_lp12 (vC : Nat → Int32) (aC : Nat → Nat → Int32) (p0 : Int32) : Nat → Int32 → Int32 → (Nat → Nat → Int32) → (Int32 × (Nat → Nat → Int32))
  | 0 => fun x2_12 x3_12 aC12 => (0, aC12)
  | n + 1 => X0_weighBag_lp12b vC aC p0 (X0_weighBag_lp12 vC aC p0 n)
theorem X0_weighBag_lp12_s (vC : Nat → Int32) (aC : Nat → Nat → Int32) (p0 : Int32) (n : Nat) (x2_12 x3_12 : Int32) (aC12 : Nat → Nat → Int32) : X0_weighBag_lp12 vC aC p0 (n + 1) x2_12 x3_12 aC12 = X0_weighBag_lp12b vC aC p0 (X0_weighBag_lp12 vC aC p0 n) x2_12 x3_12 aC12 := rfl
def X0_weighBag_f (vC : Nat → Int32) (aC : Nat → Nat → Int32) (p0 : Int32) : Int32 × (Nat → Nat → Int32) :=
  X0_weighBag_lp12 vC aC p0 9 (X0_weightsFor_f vC aC (X0_loadOf_f vC aC p0)) 0 aC
set_option maxHeartbeats 4000000 in
set_option maxRecDepth 100000 in
theorem X0_weighBag_c (l : Launch) (g : kG) (oC : Nat) (rC : Nat → Nat) (vC : Nat → Int32) (aC : Nat → Nat → Int32) (p0 : Int32) (hb : vp_in p0 6) : kM l yX0_weighBag wX0_weighBag 2 47 0 0 g [.ref oC, .int p0] [X0W g oC rC vC aC] (fun x u => x = (X0_weighBag_f vC aC p0).1 ∧ u = [X0W g oC rC vC ((X0_weighBag_f vC aC p0).2)]) := by
  refine kM_of (cc := cX0_weighBag) (nL := 4) (ret := (some .int)) (lv := [(0, .ref oC), (1, .int p0)]) (by decide) rfl (Nat.le_of_ble_eq_true rfl) rfl ?_
  intro p e s m args below meth c ls A C hP hD hE hA hS hl
  have C : kC p c cX0_weighBag s m args meth RX0 g 4 (some .int) := C
  have hx := C.1.1
  have hb := C.1.2.1
  have hts := C.1.2.2.2.2
  have loop12 : ∀ (n : Nat) (j12 : Nat) (x2_12 x3_12 : Int32) (aC12 : Nat → Nat → Int32) (H : Heap) (locs : List Loc) (ls : Array Slot), j12 ≤ 8 → 8 < j12 + n → x3_12 = nI j12 → X0_weighBag_f vC aC p0 = X0_weighBag_lp12 vC aC p0 n x2_12 x3_12 aC12 → kp g [X0W g oC rC vC aC12] H → kd A [X0W g oC rC vC aC12] → va_S A s.heap H locs → lv_has ls 4 [(3, .int x3_12), (2, .int x2_12), (0, .ref oC), (1, .int p0)] → W p l e (kRm 2 0 0 47) s m args below meth c H locs 0 0 (MQ below (kQi g (fun x u => x = (X0_weighBag_f vC aC p0).1 ∧ u = [X0W g oC rC vC ((X0_weighBag_f vC aC p0).2)]) A) args s 0 0 A) (F0 m 12 ls []) := by
    intro n
    induction n with
    | zero =>
      intro j12 x2_12 x3_12 aC12 H locs ls hi12 hn12 hx12 hF12 hP hD hS hl
      exact absurd hn12 (by omega)
    | succ n ih12 =>
      intro j12 x2_12 x3_12 aC12 H locs ls hi12 hn12 hx12 hF12 hP hD hS hl
      refine lv_iload_n hx hb dX0_weighBag_12 rfl (lv_at hl 0 rfl) ?_
      refine lv_bipush (v := 8) hx hb dX0_weighBag_13 (by decide) ?_
      refine lv_icmp_ge (tgt := 42) hx hb dX0_weighBag_15 (by decide) (fun c1 => ?_) (fun c1 => ?_)
      · refine lv_aload_n hx hb dX0_weighBag_42 rfl (lv_at hl 2 rfl) ?_
        refine kg_get C kFX0 (k := 12) kw147 hP (i := 0) (q := 0) rfl rfl (by decide) rfl dX0_weighBag_43 ?_
        refine lv_iload_n hx hb dX0_weighBag_46 rfl (lv_at hl 3 rfl) ?_
        refine lv_dup2_11 hx hb dX0_weighBag_47 rfl rfl ?_
        refine kg_iald C hP (i := 0) (q := 7) rfl rfl (by first | assumption | exact k_vin (M := 6) hx12 (by omega) (by decide)) dX0_weighBag_48 ?_
        refine lv_iconst (v := 1) hx hb dX0_weighBag_49 (by decide) ?_
        refine lv_iadd hx hb dX0_weighBag_50 ?_
        refine kg_iast C hP hD hS (i := 0) (q := 7) rfl rfl (by first | assumption | exact k_vin (M := 6) hx12 (by omega) (by decide)) X0t_12 rfl dX0_weighBag_51 (fun H locs hP hD hS => ?_)
        have hP : kp g [X0W g oC rC vC (va_up aC12 12 (upd (aC12 12) p0.toNatClampNeg (((aC12 12) p0.toNatClampNeg) + 1)))] H := hP
        have hD : kd A [X0W g oC rC vC (va_up aC12 12 (upd (aC12 12) p0.toNatClampNeg (((aC12 12) p0.toNatClampNeg) + 1)))] := hD
        refine lv_iload_n hx hb dX0_weighBag_52 rfl (lv_at hl 1 rfl) ?_
        refine kR_SN (As := [.int x2_12]) (rest := []) C (X4_toldBy_c l g x2_12) ⟨va_cnB (host := "SpiceScale") 1 hts (k_gI cs_X4_toldBy.2.2) rfl rfl rfl (C.2.1.2 _ (List.mem_of_getElem? (i := 54) rfl)) (hts _ cs_X4_toldBy.2.1) pnX4_toldBy ⟨Nat.le_of_ble_eq_true rfl, Nat.le_of_ble_eq_true rfl⟩, hts _ cs_X4_toldBy.1, trivial⟩ hE hS (hP.pick [] rfl) rfl hl.1 rfl rfl dX0_weighBag_53 ⟨Nat.le_of_ble_eq_true rfl, Nat.le_of_ble_eq_true rfl⟩ ?_
        have hF := (show X0_weighBag_f vC aC p0 = ((X4_toldBy_f x2_12), va_up aC12 12 (upd (aC12 12) p0.toNatClampNeg (((aC12 12) p0.toNatClampNeg) + 1))) from hF12.trans ((X0_weighBag_lp12_s vC aC p0 n x2_12 x3_12 aC12).trans ((if_pos c1).trans (rfl))))
        exact kM_ret (x := (X4_toldBy_f x2_12)) C hP hD hS ⟨by rw [hF], by rw [hF]⟩ dX0_weighBag_56
      have hj12 := k_asc hx12 (y := 8) (N := 8) rfl hi12 (by omega) c1
      refine lv_iload_n hx hb dX0_weighBag_18 rfl (lv_at hl 0 rfl) ?_
      refine lv_iload_n hx hb dX0_weighBag_19 rfl (lv_at hl 1 rfl) ?_
      refine kR_SN (As := [.int x3_12, .int x2_12]) (rest := []) C (X4_isAmong_c l g x3_12 x2_12) ⟨va_cnB (host := "SpiceScale") 2 hts (k_gI cs_X4_isAmong.2.2) rfl rfl rfl (C.2.1.2 _ (List.mem_of_getElem? (i := 61) rfl)) (hts _ cs_X4_isAmong.2.1) pnX4_isAmong ⟨Nat.le_of_ble_eq_true rfl, Nat.le_of_ble_eq_true rfl⟩, hts _ cs_X4_isAmong.1, trivial⟩ hE hS (hP.pick [] rfl) rfl hl.1 rfl rfl dX0_weighBag_20 ⟨Nat.le_of_ble_eq_true rfl, Nat.le_of_ble_eq_true rfl⟩ ?_
      refine lv_if_eq (tgt := 36) hx hb dX0_weighBag_23 (by decide) (fun c2 => ?_) (fun c2 => ?_)
      · have c2 := b2i_eq0 c2
        refine lv_iinc (v := (x3_12 + 1)) (lv' := [(3, .int (x3_12 + 1)), (2, .int x2_12), (0, .ref oC), (1, .int p0)]) hx hb dX0_weighBag_36 hl (k := 0) rfl rfl (by decide) rfl (fun ls hl => ?_)
        refine lv_goto (tgt := 12) hx hb dX0_weighBag_39 (by decide) ?_
        exact ih12 (j12 + 1) x2_12 (x3_12 + 1) aC12 _ _ ls hj12 (by omega) (k_up hx12) (show X0_weighBag_f vC aC p0 = X0_weighBag_lp12 vC aC p0 n x2_12 (x3_12 + 1) aC12 from hF12.trans ((X0_weighBag_lp12_s vC aC p0 n x2_12 x3_12 aC12).trans ((if_neg c1).trans ((if_neg c2).trans (rfl))))) hP hD hS (lv_sub hl [0, 1, 2, 3] rfl)
      have c2 := b2i_ne0 c2
      refine lv_aload_n hx hb dX0_weighBag_26 rfl (lv_at hl 2 rfl) ?_
      refine kg_get C kFX0 (k := 13) kw149 hP (i := 0) (q := 0) rfl rfl (by decide) rfl dX0_weighBag_27 ?_
      refine lv_iload_n hx hb dX0_weighBag_30 rfl (lv_at hl 0 rfl) ?_
      refine lv_dup2_11 hx hb dX0_weighBag_31 rfl rfl ?_
      refine kg_iald C hP (i := 0) (q := 8) rfl rfl (by first | assumption | exact k_vin (M := 8) hx12 (by omega) (by decide)) dX0_weighBag_32 ?_
      refine lv_iconst (v := 1) hx hb dX0_weighBag_33 (by decide) ?_
      refine lv_iadd hx hb dX0_weighBag_34 ?_
      refine kg_iast C hP hD hS (i := 0) (q := 8) rfl rfl (by first | assumption | exact k_vin (M := 8) hx12 (by omega) (by decide)) X0t_13 rfl dX0_weighBag_35 (fun H locs hP hD hS => ?_)
      have hP : kp g [X0W g oC rC vC (va_up aC12 13 (upd (aC12 13) x3_12.toNatClampNeg (((aC12 13) x3_12.toNatClampNeg) + 1)))] H := hP
      have hD : kd A [X0W g oC rC vC (va_up aC12 13 (upd (aC12 13) x3_12.toNatClampNeg (((aC12 13) x3_12.toNatClampNeg) + 1)))] := hD
      refine lv_iinc (v := (x3_12 + 1)) (lv' := [(3, .int (x3_12 + 1)), (2, .int x2_12), (0, .ref oC), (1, .int p0)]) hx hb dX0_weighBag_36 hl (k := 0) rfl rfl (by decide) rfl (fun ls hl => ?_)
      refine lv_goto (tgt := 12) hx hb dX0_weighBag_39 (by decide) ?_
      exact ih12 (j12 + 1) x2_12 (x3_12 + 1) (va_up aC12 13 (upd (aC12 13) x3_12.toNatClampNeg (((aC12 13) x3_12.toNatClampNeg) + 1))) _ _ ls hj12 (by omega) (k_up hx12) (show X0_weighBag_f vC aC p0 = X0_weighBag_lp12 vC aC p0 n x2_12 (x3_12 + 1) (va_up aC12 13 (upd (aC12 13) x3_12.toNatClampNeg (((aC12 13) x3_12.toNatClampNeg) + 1))) from hF12.trans ((X0_weighBag_lp12_s vC aC p0 n x2_12 x3_12 aC12).trans ((if_neg c1).trans ((if_pos c2).trans (rfl))))) hP hD hS (lv_sub hl [0, 1, 2, 3] rfl)
  refine lv_aload_n hx hb dX0_weighBag_0 rfl (lv_at hl 0 rfl) ?_
  refine lv_aload_n hx hb dX0_weighBag_1 rfl (lv_at hl 0 rfl) ?_
  refine lv_iload_n hx hb dX0_weighBag_2 rfl (lv_at hl 1 rfl) ?_
  refine kR_V (As := [.int p0]) (rest := [.ref oC]) C (X0_loadOf_c l g oC rC vC aC p0 (by first | assumption)) (cwV 1 hts (k_gV kw428 ca_X0_loadOf) rfl rfl rfl ⟨rfl, pnX0_loadOf⟩ ⟨Nat.le_of_ble_eq_true rfl, Nat.le_of_ble_eq_true rfl⟩) hE hS (hP.pick [0] rfl) (k_recv C kFX0 hP (i := 0) (q := 0) rfl rfl) rfl hl.1 rfl rfl dX0_weighBag_3 ⟨Nat.le_of_ble_eq_true rfl, Nat.le_of_ble_eq_true rfl⟩ ?_
  refine kR_V (As := [.int (X0_loadOf_f vC aC p0)]) (rest := []) C (X0_weightsFor_c l g oC rC vC aC (X0_loadOf_f vC aC p0)) (cwV 1 hts (k_gV kw432 ca_X0_weightsFor) rfl rfl rfl ⟨rfl, pnX0_weightsFor⟩ ⟨Nat.le_of_ble_eq_true rfl, Nat.le_of_ble_eq_true rfl⟩) hE hS (hP.pick [0] rfl) (k_recv C kFX0 hP (i := 0) (q := 0) rfl rfl) rfl hl.1 rfl rfl dX0_weighBag_6 ⟨Nat.le_of_ble_eq_true rfl, Nat.le_of_ble_eq_true rfl⟩ ?_
  refine lv_istore_n (lv' := [(2, .int (X0_weightsFor_f vC aC (X0_loadOf_f vC aC p0))), (0, .ref oC), (1, .int p0)]) hx hb dX0_weighBag_9 rfl hl (by decide) rfl (fun ls hl => ?_)
  refine lv_iconst (v := 0) hx hb dX0_weighBag_10 (by decide) ?_
  refine lv_istore_n (lv' := [(3, .int 0), (2, .int (X0_weightsFor_f vC aC (X0_loadOf_f vC aC p0))), (0, .ref oC), (1, .int p0)]) hx hb dX0_weighBag_11 rfl hl (by decide) rfl (fun ls hl => ?_)
  exact loop12 9 0 (X0_weightsFor_f vC aC (X0_loadOf_f vC aC p0)) 0 aC _ _ ls (by omega) (by omega) rfl (show X0_weighBag_f vC aC p0 = X0_weighBag_lp12 vC aC p0 9 (X0_weightsFor_f vC aC (X0_loadOf_f vC aC p0)) 0 aC from rfl) hP hD hS (lv_sub hl [0, 1, 2, 3] rfl)

theorem pnX0_weighBag : yX0_weighBag.cls ≠ "java/lang/invoke/MethodHandle" ∧ yX0_weighBag.cls ≠ "java/lang/invoke/VarHandle" ∧ (parseMethodDescriptor yX0_weighBag.desc).map (fun d => d.parameters.length) = some 1 := by decide +kernel
theorem ca_X0_weighBag : kCal yX0_weighBag (Cond.code yX0_weighBag cX0_weighBag 4 (some .int)) := ⟨k_w 4 39 rfl rfl, k_w 1 35 rfl rfl, k_w 2 2 rfl rfl, k_w 4 40 rfl rfl⟩

abbrev wX0_sellBag : List Cond := Cond.code yX0_sellBag cX0_sellBag 4 (some .int) :: kW
def X0_sellBag_f (vC : Nat → Int32) (aC : Nat → Nat → Int32) (p0 : Int32) : Int32 × (Nat → Int32) × (Nat → Nat → Int32) :=
  ((X0_coinsFor_f vC ((X0_weighBag_f vC aC p0).2) p0 (vC 1) ((X0_weighBag_f vC aC p0).1 - ((((X0_weighBag_f vC aC p0).2) 8) p0.toNatClampNeg))), upd (upd (upd (upd (upd vC 15 ((vC 15) + 1)) 16 ((vC 16) + ((((X0_weighBag_f vC aC p0).2) 11) p0.toNatClampNeg))) 17 ((vC 17) + ((X0_weighBag_f vC aC p0).1 - ((((X0_weighBag_f vC aC p0).2) 8) p0.toNatClampNeg)))) 18 ((vC 18) + (X0_coinsFor_f vC ((X0_weighBag_f vC aC p0).2) p0 (vC 1) ((X0_weighBag_f vC aC p0).1 - ((((X0_weighBag_f vC aC p0).2) 8) p0.toNatClampNeg))))) 2 ((vC 2) + (X0_coinsFor_f vC ((X0_weighBag_f vC aC p0).2) p0 (vC 1) ((X0_weighBag_f vC aC p0).1 - ((((X0_weighBag_f vC aC p0).2) 8) p0.toNatClampNeg)))), (X0_clearBag_f (upd (upd (upd (upd (upd vC 15 ((vC 15) + 1)) 16 ((vC 16) + ((((X0_weighBag_f vC aC p0).2) 11) p0.toNatClampNeg))) 17 ((vC 17) + ((X0_weighBag_f vC aC p0).1 - ((((X0_weighBag_f vC aC p0).2) 8) p0.toNatClampNeg)))) 18 ((vC 18) + (X0_coinsFor_f vC ((X0_weighBag_f vC aC p0).2) p0 (vC 1) ((X0_weighBag_f vC aC p0).1 - ((((X0_weighBag_f vC aC p0).2) 8) p0.toNatClampNeg))))) 2 ((vC 2) + (X0_coinsFor_f vC ((X0_weighBag_f vC aC p0).2) p0 (vC 1) ((X0_weighBag_f vC aC p0).1 - ((((X0_weighBag_f vC aC p0).2) 8) p0.toNatClampNeg))))) ((X0_weighBag_f vC aC p0).2) p0))
set_option maxHeartbeats 4000000 in
set_option maxRecDepth 100000 in
theorem X0_sellBag_c (l : Launch) (g : kG) (oC : Nat) (rC : Nat → Nat) (vC : Nat → Int32) (aC : Nat → Nat → Int32) (p0 : Int32) (hb : vp_in p0 6) (hM : vp_in (vC 1) 4) : kM l yX0_sellBag wX0_sellBag 3 70 0 0 g [.ref oC, .int p0] [X0W g oC rC vC aC] (fun x u => x = (X0_sellBag_f vC aC p0).1 ∧ u = [X0W g oC rC ((X0_sellBag_f vC aC p0).2.1) ((X0_sellBag_f vC aC p0).2.2)]) := by
  refine kM_of (cc := cX0_sellBag) (nL := 4) (ret := (some .int)) (lv := [(0, .ref oC), (1, .int p0)]) (by decide) rfl (Nat.le_of_ble_eq_true rfl) rfl ?_
  intro p e s m args below meth c ls A C hP hD hE hA hS hl
  have C : kC p c cX0_sellBag s m args meth RX0 g 4 (some .int) := C
  have hx := C.1.1
  have hb := C.1.2.1
  have hts := C.1.2.2.2.2
  refine lv_aload_n hx hb dX0_sellBag_0 rfl (lv_at hl 0 rfl) ?_
  refine lv_iload_n hx hb dX0_sellBag_1 rfl (lv_at hl 1 rfl) ?_
  refine kM_V (As := [.int p0]) (rest := []) (wr := []) C (X0_weighBag_c l g oC rC vC aC p0 (by first | assumption)) (cwV 1 hts (k_gV kw585 ca_X0_weighBag) rfl rfl rfl ⟨rfl, pnX0_weighBag⟩ ⟨Nat.le_of_ble_eq_true rfl, Nat.le_of_ble_eq_true rfl⟩) hE hS hA hP hD [0] [] rfl rfl ⟨rfl, rfl, by decide⟩ (k_recv C kFX0 hP (i := 0) (q := 0) rfl rfl) rfl hl.1 rfl rfl dX0_sellBag_2 ⟨Nat.le_of_ble_eq_true rfl, Nat.le_of_ble_eq_true rfl⟩ (fun r1 u1 H locs hp1 hP hD hS => ?_)
  obtain ⟨rfl, rfl⟩ := hp1
  have hP : kp g [X0W g oC rC vC ((X0_weighBag_f vC aC p0).2)] H := hP
  have hD : kd A [X0W g oC rC vC ((X0_weighBag_f vC aC p0).2)] := hD
  refine lv_aload_n hx hb dX0_sellBag_5 rfl (lv_at hl 0 rfl) ?_
  refine kg_get C kFX0 (k := 8) kw136 hP (i := 0) (q := 0) rfl rfl (by decide) rfl dX0_sellBag_6 ?_
  refine lv_iload_n hx hb dX0_sellBag_9 rfl (lv_at hl 1 rfl) ?_
  refine kg_iald C hP (i := 0) (q := 3) rfl rfl (by first | assumption) dX0_sellBag_10 ?_
  refine lv_isub hx hb dX0_sellBag_11 ?_
  refine lv_istore_n (lv' := [(2, .int ((X0_weighBag_f vC aC p0).1 - ((((X0_weighBag_f vC aC p0).2) 8) p0.toNatClampNeg))), (0, .ref oC), (1, .int p0)]) hx hb dX0_sellBag_12 rfl hl (by decide) rfl (fun ls hl => ?_)
  refine lv_aload_n hx hb dX0_sellBag_13 rfl (lv_at hl 1 rfl) ?_
  refine lv_iload_n hx hb dX0_sellBag_14 rfl (lv_at hl 2 rfl) ?_
  refine lv_aload_n hx hb dX0_sellBag_15 rfl (lv_at hl 1 rfl) ?_
  refine kg_get C kFX0 (k := 1) kw115 hP (i := 0) (q := 0) rfl rfl (by decide) rfl dX0_sellBag_16 ?_
  refine lv_iload_n hx hb dX0_sellBag_19 rfl (lv_at hl 0 rfl) ?_
  refine kR_V (As := [.int p0, .int (vC 1), .int ((X0_weighBag_f vC aC p0).1 - ((((X0_weighBag_f vC aC p0).2) 8) p0.toNatClampNeg))]) (rest := []) C (X0_coinsFor_c l g oC rC vC ((X0_weighBag_f vC aC p0).2) p0 (vC 1) ((X0_weighBag_f vC aC p0).1 - ((((X0_weighBag_f vC aC p0).2) 8) p0.toNatClampNeg)) (by first | assumption) (by first | assumption)) (cwV 3 hts (k_gV kw594 ca_X0_coinsFor) rfl rfl rfl ⟨rfl, pnX0_coinsFor⟩ ⟨Nat.le_of_ble_eq_true rfl, Nat.le_of_ble_eq_true rfl⟩) hE hS (hP.pick [0] rfl) (k_recv C kFX0 hP (i := 0) (q := 0) rfl rfl) rfl hl.1 rfl rfl dX0_sellBag_20 ⟨Nat.le_of_ble_eq_true rfl, Nat.le_of_ble_eq_true rfl⟩ ?_
  refine lv_istore_n (lv' := [(3, .int (X0_coinsFor_f vC ((X0_weighBag_f vC aC p0).2) p0 (vC 1) ((X0_weighBag_f vC aC p0).1 - ((((X0_weighBag_f vC aC p0).2) 8) p0.toNatClampNeg)))), (2, .int ((X0_weighBag_f vC aC p0).1 - ((((X0_weighBag_f vC aC p0).2) 8) p0.toNatClampNeg))), (0, .ref oC), (1, .int p0)]) hx hb dX0_sellBag_23 rfl hl (by decide) rfl (fun ls hl => ?_)
  refine lv_aload_n hx hb dX0_sellBag_24 rfl (lv_at hl 2 rfl) ?_
  refine lv_dup hx hb dX0_sellBag_25 rfl ?_
  refine kg_get C kFX0 (k := 15) kw153 hP (i := 0) (q := 0) rfl rfl (by decide) rfl dX0_sellBag_26 ?_
  refine lv_iconst (v := 1) hx hb dX0_sellBag_29 (by decide) ?_
  refine lv_iadd hx hb dX0_sellBag_30 ?_
  refine kg_put C kFX0 (k := 15) kw153 hP hD hS (i := 0) (q := 0) rfl rfl (by decide) rfl rfl rfl (Nat.le_of_ble_eq_true rfl) X0s_15 rfl dX0_sellBag_31 (fun H locs hP hD hS => ?_)
  have hP : kp g [X0W g oC rC (upd vC 15 ((vC 15) + 1)) ((X0_weighBag_f vC aC p0).2)] H := hP
  have hD : kd A [X0W g oC rC (upd vC 15 ((vC 15) + 1)) ((X0_weighBag_f vC aC p0).2)] := hD
  refine lv_aload_n hx hb dX0_sellBag_34 rfl (lv_at hl 2 rfl) ?_
  refine lv_dup hx hb dX0_sellBag_35 rfl ?_
  refine kg_get C kFX0 (k := 16) kw155 hP (i := 0) (q := 0) rfl rfl (by decide) rfl dX0_sellBag_36 ?_
  refine lv_aload_n hx hb dX0_sellBag_39 rfl (lv_at hl 2 rfl) ?_
  refine kg_get C kFX0 (k := 11) kw144 hP (i := 0) (q := 0) rfl rfl (by decide) rfl dX0_sellBag_40 ?_
  refine lv_iload_n hx hb dX0_sellBag_43 rfl (lv_at hl 3 rfl) ?_
  refine kg_iald C hP (i := 0) (q := 6) rfl rfl (by first | assumption) dX0_sellBag_44 ?_
  refine lv_iadd hx hb dX0_sellBag_45 ?_
  refine kg_put C kFX0 (k := 16) kw155 hP hD hS (i := 0) (q := 0) rfl rfl (by decide) rfl rfl rfl (Nat.le_of_ble_eq_true rfl) X0s_16 rfl dX0_sellBag_46 (fun H locs hP hD hS => ?_)
  have hP : kp g [X0W g oC rC (upd (upd vC 15 ((vC 15) + 1)) 16 ((vC 16) + ((((X0_weighBag_f vC aC p0).2) 11) p0.toNatClampNeg))) ((X0_weighBag_f vC aC p0).2)] H := hP
  have hD : kd A [X0W g oC rC (upd (upd vC 15 ((vC 15) + 1)) 16 ((vC 16) + ((((X0_weighBag_f vC aC p0).2) 11) p0.toNatClampNeg))) ((X0_weighBag_f vC aC p0).2)] := hD
  refine lv_aload_n hx hb dX0_sellBag_49 rfl (lv_at hl 2 rfl) ?_
  refine lv_dup hx hb dX0_sellBag_50 rfl ?_
  refine kg_get C kFX0 (k := 17) kw157 hP (i := 0) (q := 0) rfl rfl (by decide) rfl dX0_sellBag_51 ?_
  refine lv_iload_n hx hb dX0_sellBag_54 rfl (lv_at hl 1 rfl) ?_
  refine lv_iadd hx hb dX0_sellBag_55 ?_
  refine kg_put C kFX0 (k := 17) kw157 hP hD hS (i := 0) (q := 0) rfl rfl (by decide) rfl rfl rfl (Nat.le_of_ble_eq_true rfl) X0s_17 rfl dX0_sellBag_56 (fun H locs hP hD hS => ?_)
  have hP : kp g [X0W g oC rC (upd (upd (upd vC 15 ((vC 15) + 1)) 16 ((vC 16) + ((((X0_weighBag_f vC aC p0).2) 11) p0.toNatClampNeg))) 17 ((vC 17) + ((X0_weighBag_f vC aC p0).1 - ((((X0_weighBag_f vC aC p0).2) 8) p0.toNatClampNeg)))) ((X0_weighBag_f vC aC p0).2)] H := hP
  have hD : kd A [X0W g oC rC (upd (upd (upd vC 15 ((vC 15) + 1)) 16 ((vC 16) + ((((X0_weighBag_f vC aC p0).2) 11) p0.toNatClampNeg))) 17 ((vC 17) + ((X0_weighBag_f vC aC p0).1 - ((((X0_weighBag_f vC aC p0).2) 8) p0.toNatClampNeg)))) ((X0_weighBag_f vC aC p0).2)] := hD
  refine lv_aload_n hx hb dX0_sellBag_59 rfl (lv_at hl 2 rfl) ?_
  refine lv_dup hx hb dX0_sellBag_60 rfl ?_
  refine kg_get C kFX0 (k := 18) kw159 hP (i := 0) (q := 0) rfl rfl (by decide) rfl dX0_sellBag_61 ?_
  refine lv_iload_n hx hb dX0_sellBag_64 rfl (lv_at hl 0 rfl) ?_
  refine lv_iadd hx hb dX0_sellBag_65 ?_
  refine kg_put C kFX0 (k := 18) kw159 hP hD hS (i := 0) (q := 0) rfl rfl (by decide) rfl rfl rfl (Nat.le_of_ble_eq_true rfl) X0s_18 rfl dX0_sellBag_66 (fun H locs hP hD hS => ?_)
  have hP : kp g [X0W g oC rC (upd (upd (upd (upd vC 15 ((vC 15) + 1)) 16 ((vC 16) + ((((X0_weighBag_f vC aC p0).2) 11) p0.toNatClampNeg))) 17 ((vC 17) + ((X0_weighBag_f vC aC p0).1 - ((((X0_weighBag_f vC aC p0).2) 8) p0.toNatClampNeg)))) 18 ((vC 18) + (X0_coinsFor_f vC ((X0_weighBag_f vC aC p0).2) p0 (vC 1) ((X0_weighBag_f vC aC p0).1 - ((((X0_weighBag_f vC aC p0).2) 8) p0.toNatClampNeg))))) ((X0_weighBag_f vC aC p0).2)] H := hP
  have hD : kd A [X0W g oC rC (upd (upd (upd (upd vC 15 ((vC 15) + 1)) 16 ((vC 16) + ((((X0_weighBag_f vC aC p0).2) 11) p0.toNatClampNeg))) 17 ((vC 17) + ((X0_weighBag_f vC aC p0).1 - ((((X0_weighBag_f vC aC p0).2) 8) p0.toNatClampNeg)))) 18 ((vC 18) + (X0_coinsFor_f vC ((X0_weighBag_f vC aC p0).2) p0 (vC 1) ((X0_weighBag_f vC aC p0).1 - ((((X0_weighBag_f vC aC p0).2) 8) p0.toNatClampNeg))))) ((X0_weighBag_f vC aC p0).2)] := hD
  refine lv_aload_n hx hb dX0_sellBag_69 rfl (lv_at hl 2 rfl) ?_
  refine lv_dup hx hb dX0_sellBag_70 rfl ?_
  refine kg_get C kFX0 (k := 2) kw118 hP (i := 0) (q := 0) rfl rfl (by decide) rfl dX0_sellBag_71 ?_
  refine lv_iload_n hx hb dX0_sellBag_74 rfl (lv_at hl 0 rfl) ?_
  refine lv_iadd hx hb dX0_sellBag_75 ?_
  refine kg_put C kFX0 (k := 2) kw118 hP hD hS (i := 0) (q := 0) rfl rfl (by decide) rfl rfl rfl (Nat.le_of_ble_eq_true rfl) X0s_2 rfl dX0_sellBag_76 (fun H locs hP hD hS => ?_)
  have hP : kp g [X0W g oC rC (upd (upd (upd (upd (upd vC 15 ((vC 15) + 1)) 16 ((vC 16) + ((((X0_weighBag_f vC aC p0).2) 11) p0.toNatClampNeg))) 17 ((vC 17) + ((X0_weighBag_f vC aC p0).1 - ((((X0_weighBag_f vC aC p0).2) 8) p0.toNatClampNeg)))) 18 ((vC 18) + (X0_coinsFor_f vC ((X0_weighBag_f vC aC p0).2) p0 (vC 1) ((X0_weighBag_f vC aC p0).1 - ((((X0_weighBag_f vC aC p0).2) 8) p0.toNatClampNeg))))) 2 ((vC 2) + (X0_coinsFor_f vC ((X0_weighBag_f vC aC p0).2) p0 (vC 1) ((X0_weighBag_f vC aC p0).1 - ((((X0_weighBag_f vC aC p0).2) 8) p0.toNatClampNeg))))) ((X0_weighBag_f vC aC p0).2)] H := hP
  have hD : kd A [X0W g oC rC (upd (upd (upd (upd (upd vC 15 ((vC 15) + 1)) 16 ((vC 16) + ((((X0_weighBag_f vC aC p0).2) 11) p0.toNatClampNeg))) 17 ((vC 17) + ((X0_weighBag_f vC aC p0).1 - ((((X0_weighBag_f vC aC p0).2) 8) p0.toNatClampNeg)))) 18 ((vC 18) + (X0_coinsFor_f vC ((X0_weighBag_f vC aC p0).2) p0 (vC 1) ((X0_weighBag_f vC aC p0).1 - ((((X0_weighBag_f vC aC p0).2) 8) p0.toNatClampNeg))))) 2 ((vC 2) + (X0_coinsFor_f vC ((X0_weighBag_f vC aC p0).2) p0 (vC 1) ((X0_weighBag_f vC aC p0).1 - ((((X0_weighBag_f vC aC p0).2) 8) p0.toNatClampNeg))))) ((X0_weighBag_f vC aC p0).2)] := hD
  refine lv_aload_n hx hb dX0_sellBag_79 rfl (lv_at hl 2 rfl) ?_
  refine lv_iload_n hx hb dX0_sellBag_80 rfl (lv_at hl 3 rfl) ?_
  refine kV_V (As := [.int p0]) (rest := []) (wr := []) C (X0_clearBag_c l g oC rC (upd (upd (upd (upd (upd vC 15 ((vC 15) + 1)) 16 ((vC 16) + ((((X0_weighBag_f vC aC p0).2) 11) p0.toNatClampNeg))) 17 ((vC 17) + ((X0_weighBag_f vC aC p0).1 - ((((X0_weighBag_f vC aC p0).2) 8) p0.toNatClampNeg)))) 18 ((vC 18) + (X0_coinsFor_f vC ((X0_weighBag_f vC aC p0).2) p0 (vC 1) ((X0_weighBag_f vC aC p0).1 - ((((X0_weighBag_f vC aC p0).2) 8) p0.toNatClampNeg))))) 2 ((vC 2) + (X0_coinsFor_f vC ((X0_weighBag_f vC aC p0).2) p0 (vC 1) ((X0_weighBag_f vC aC p0).1 - ((((X0_weighBag_f vC aC p0).2) 8) p0.toNatClampNeg))))) ((X0_weighBag_f vC aC p0).2) p0 (by first | assumption)) (cwV 1 hts (k_gV kw573 ca_X0_clearBag) rfl rfl rfl ⟨rfl, pnX0_clearBag⟩ ⟨Nat.le_of_ble_eq_true rfl, Nat.le_of_ble_eq_true rfl⟩) hE hS hA hP hD [0] [] rfl rfl ⟨rfl, rfl, by decide⟩ (k_recv C kFX0 hP (i := 0) (q := 0) rfl rfl) rfl hl.1 rfl rfl dX0_sellBag_81 ⟨Nat.le_of_ble_eq_true rfl, Nat.le_of_ble_eq_true rfl⟩ (fun u2 H locs hp2 hP hD hS => ?_)
  subst hp2
  have hP : kp g [X0W g oC rC (upd (upd (upd (upd (upd vC 15 ((vC 15) + 1)) 16 ((vC 16) + ((((X0_weighBag_f vC aC p0).2) 11) p0.toNatClampNeg))) 17 ((vC 17) + ((X0_weighBag_f vC aC p0).1 - ((((X0_weighBag_f vC aC p0).2) 8) p0.toNatClampNeg)))) 18 ((vC 18) + (X0_coinsFor_f vC ((X0_weighBag_f vC aC p0).2) p0 (vC 1) ((X0_weighBag_f vC aC p0).1 - ((((X0_weighBag_f vC aC p0).2) 8) p0.toNatClampNeg))))) 2 ((vC 2) + (X0_coinsFor_f vC ((X0_weighBag_f vC aC p0).2) p0 (vC 1) ((X0_weighBag_f vC aC p0).1 - ((((X0_weighBag_f vC aC p0).2) 8) p0.toNatClampNeg))))) (X0_clearBag_f (upd (upd (upd (upd (upd vC 15 ((vC 15) + 1)) 16 ((vC 16) + ((((X0_weighBag_f vC aC p0).2) 11) p0.toNatClampNeg))) 17 ((vC 17) + ((X0_weighBag_f vC aC p0).1 - ((((X0_weighBag_f vC aC p0).2) 8) p0.toNatClampNeg)))) 18 ((vC 18) + (X0_coinsFor_f vC ((X0_weighBag_f vC aC p0).2) p0 (vC 1) ((X0_weighBag_f vC aC p0).1 - ((((X0_weighBag_f vC aC p0).2) 8) p0.toNatClampNeg))))) 2 ((vC 2) + (X0_coinsFor_f vC ((X0_weighBag_f vC aC p0).2) p0 (vC 1) ((X0_weighBag_f vC aC p0).1 - ((((X0_weighBag_f vC aC p0).2) 8) p0.toNatClampNeg))))) ((X0_weighBag_f vC aC p0).2) p0)] H := hP
  have hD : kd A [X0W g oC rC (upd (upd (upd (upd (upd vC 15 ((vC 15) + 1)) 16 ((vC 16) + ((((X0_weighBag_f vC aC p0).2) 11) p0.toNatClampNeg))) 17 ((vC 17) + ((X0_weighBag_f vC aC p0).1 - ((((X0_weighBag_f vC aC p0).2) 8) p0.toNatClampNeg)))) 18 ((vC 18) + (X0_coinsFor_f vC ((X0_weighBag_f vC aC p0).2) p0 (vC 1) ((X0_weighBag_f vC aC p0).1 - ((((X0_weighBag_f vC aC p0).2) 8) p0.toNatClampNeg))))) 2 ((vC 2) + (X0_coinsFor_f vC ((X0_weighBag_f vC aC p0).2) p0 (vC 1) ((X0_weighBag_f vC aC p0).1 - ((((X0_weighBag_f vC aC p0).2) 8) p0.toNatClampNeg))))) (X0_clearBag_f (upd (upd (upd (upd (upd vC 15 ((vC 15) + 1)) 16 ((vC 16) + ((((X0_weighBag_f vC aC p0).2) 11) p0.toNatClampNeg))) 17 ((vC 17) + ((X0_weighBag_f vC aC p0).1 - ((((X0_weighBag_f vC aC p0).2) 8) p0.toNatClampNeg)))) 18 ((vC 18) + (X0_coinsFor_f vC ((X0_weighBag_f vC aC p0).2) p0 (vC 1) ((X0_weighBag_f vC aC p0).1 - ((((X0_weighBag_f vC aC p0).2) 8) p0.toNatClampNeg))))) 2 ((vC 2) + (X0_coinsFor_f vC ((X0_weighBag_f vC aC p0).2) p0 (vC 1) ((X0_weighBag_f vC aC p0).1 - ((((X0_weighBag_f vC aC p0).2) 8) p0.toNatClampNeg))))) ((X0_weighBag_f vC aC p0).2) p0)] := hD
  refine lv_iload_n hx hb dX0_sellBag_84 rfl (lv_at hl 0 rfl) ?_
  have hF := (show X0_sellBag_f vC aC p0 = ((X0_coinsFor_f vC ((X0_weighBag_f vC aC p0).2) p0 (vC 1) ((X0_weighBag_f vC aC p0).1 - ((((X0_weighBag_f vC aC p0).2) 8) p0.toNatClampNeg))), upd (upd (upd (upd (upd vC 15 ((vC 15) + 1)) 16 ((vC 16) + ((((X0_weighBag_f vC aC p0).2) 11) p0.toNatClampNeg))) 17 ((vC 17) + ((X0_weighBag_f vC aC p0).1 - ((((X0_weighBag_f vC aC p0).2) 8) p0.toNatClampNeg)))) 18 ((vC 18) + (X0_coinsFor_f vC ((X0_weighBag_f vC aC p0).2) p0 (vC 1) ((X0_weighBag_f vC aC p0).1 - ((((X0_weighBag_f vC aC p0).2) 8) p0.toNatClampNeg))))) 2 ((vC 2) + (X0_coinsFor_f vC ((X0_weighBag_f vC aC p0).2) p0 (vC 1) ((X0_weighBag_f vC aC p0).1 - ((((X0_weighBag_f vC aC p0).2) 8) p0.toNatClampNeg)))), (X0_clearBag_f (upd (upd (upd (upd (upd vC 15 ((vC 15) + 1)) 16 ((vC 16) + ((((X0_weighBag_f vC aC p0).2) 11) p0.toNatClampNeg))) 17 ((vC 17) + ((X0_weighBag_f vC aC p0).1 - ((((X0_weighBag_f vC aC p0).2) 8) p0.toNatClampNeg)))) 18 ((vC 18) + (X0_coinsFor_f vC ((X0_weighBag_f vC aC p0).2) p0 (vC 1) ((X0_weighBag_f vC aC p0).1 - ((((X0_weighBag_f vC aC p0).2) 8) p0.toNatClampNeg))))) 2 ((vC 2) + (X0_coinsFor_f vC ((X0_weighBag_f vC aC p0).2) p0 (vC 1) ((X0_weighBag_f vC aC p0).1 - ((((X0_weighBag_f vC aC p0).2) 8) p0.toNatClampNeg))))) ((X0_weighBag_f vC aC p0).2) p0)) from rfl)
  exact kM_ret (x := (X0_coinsFor_f vC ((X0_weighBag_f vC aC p0).2) p0 (vC 1) ((X0_weighBag_f vC aC p0).1 - ((((X0_weighBag_f vC aC p0).2) 8) p0.toNatClampNeg)))) C hP hD hS ⟨by rw [hF], by rw [hF]⟩ dX0_sellBag_85

abbrev wX0_swearOath : List Cond := Cond.code yX0_swearOath cX0_swearOath 1 (some .int) :: kW
def X0_swearOath_f (vC : Nat → Int32) (aC : Nat → Nat → Int32) : Int32 × (Nat → Nat → Int32) :=
  (((upd (aC 14) ((vC 1).toNatClampNeg) (((vC 0) + 20) - 1)) (vC 1).toNatClampNeg), va_up aC 14 (upd (aC 14) ((vC 1).toNatClampNeg) (((vC 0) + 20) - 1)))
set_option maxHeartbeats 4000000 in
set_option maxRecDepth 100000 in
theorem X0_swearOath_c (l : Launch) (g : kG) (oC : Nat) (rC : Nat → Nat) (vC : Nat → Int32) (aC : Nat → Nat → Int32) (hM : vp_in (vC 1) 4) : kM l yX0_swearOath wX0_swearOath 0 0 0 0 g [.ref oC] [X0W g oC rC vC aC] (fun x u => x = (X0_swearOath_f vC aC).1 ∧ u = [X0W g oC rC vC ((X0_swearOath_f vC aC).2)]) := by
  refine kM_of (cc := cX0_swearOath) (nL := 1) (ret := (some .int)) (lv := [(0, .ref oC)]) (by decide) rfl (Nat.le_of_ble_eq_true rfl) rfl ?_
  intro p e s m args below meth c ls A C hP hD hE hA hS hl
  have C : kC p c cX0_swearOath s m args meth RX0 g 1 (some .int) := C
  have hx := C.1.1
  have hb := C.1.2.1
  have hts := C.1.2.2.2.2
  refine lv_aload_n hx hb dX0_swearOath_0 rfl (lv_at hl 0 rfl) ?_
  refine kg_get C kFX0 (k := 14) kw151 hP (i := 0) (q := 0) rfl rfl (by decide) rfl dX0_swearOath_1 ?_
  refine lv_aload_n hx hb dX0_swearOath_4 rfl (lv_at hl 0 rfl) ?_
  refine kg_get C kFX0 (k := 1) kw115 hP (i := 0) (q := 0) rfl rfl (by decide) rfl dX0_swearOath_5 ?_
  refine lv_aload_n hx hb dX0_swearOath_8 rfl (lv_at hl 0 rfl) ?_
  refine kg_get C kFX0 (k := 0) kw113 hP (i := 0) (q := 0) rfl rfl (by decide) rfl dX0_swearOath_9 ?_
  refine lv_bipush (v := 20) hx hb dX0_swearOath_12 (by decide) ?_
  refine lv_iadd hx hb dX0_swearOath_14 ?_
  refine lv_iconst (v := 1) hx hb dX0_swearOath_15 (by decide) ?_
  refine lv_isub hx hb dX0_swearOath_16 ?_
  refine kg_iast C hP hD hS (i := 0) (q := 9) rfl rfl (by first | assumption) X0t_14 rfl dX0_swearOath_17 (fun H locs hP hD hS => ?_)
  have hP : kp g [X0W g oC rC vC (va_up aC 14 (upd (aC 14) ((vC 1).toNatClampNeg) (((vC 0) + 20) - 1)))] H := hP
  have hD : kd A [X0W g oC rC vC (va_up aC 14 (upd (aC 14) ((vC 1).toNatClampNeg) (((vC 0) + 20) - 1)))] := hD
  refine lv_aload_n hx hb dX0_swearOath_18 rfl (lv_at hl 0 rfl) ?_
  refine kg_get C kFX0 (k := 14) kw151 hP (i := 0) (q := 0) rfl rfl (by decide) rfl dX0_swearOath_19 ?_
  refine lv_aload_n hx hb dX0_swearOath_22 rfl (lv_at hl 0 rfl) ?_
  refine kg_get C kFX0 (k := 1) kw115 hP (i := 0) (q := 0) rfl rfl (by decide) rfl dX0_swearOath_23 ?_
  refine kg_iald C hP (i := 0) (q := 9) rfl rfl (by first | assumption) dX0_swearOath_26 ?_
  have hF := (show X0_swearOath_f vC aC = (((upd (aC 14) ((vC 1).toNatClampNeg) (((vC 0) + 20) - 1)) (vC 1).toNatClampNeg), va_up aC 14 (upd (aC 14) ((vC 1).toNatClampNeg) (((vC 0) + 20) - 1))) from rfl)
  exact kM_ret (x := ((upd (aC 14) ((vC 1).toNatClampNeg) (((vC 0) + 20) - 1)) (vC 1).toNatClampNeg)) C hP hD hS ⟨by rw [hF], by rw [hF]⟩ dX0_swearOath_27

theorem pnX0_letDaysGo : yX0_letDaysGo.cls ≠ "java/lang/invoke/MethodHandle" ∧ yX0_letDaysGo.cls ≠ "java/lang/invoke/VarHandle" ∧ (parseMethodDescriptor yX0_letDaysGo.desc).map (fun d => d.parameters.length) = some 1 := by decide +kernel
theorem ca_X0_letDaysGo : kCal yX0_letDaysGo (Cond.code yX0_letDaysGo cX0_letDaysGo 3 (some .int)) := ⟨k_w 4 73 rfl rfl, k_w 1 41 rfl rfl, k_w 2 2 rfl rfl, k_w 4 74 rfl rfl⟩

abbrev wX0_travelTo : List Cond := Cond.code yX0_travelTo cX0_travelTo 2 (some .int) :: kW
def X0_travelTo_f (vC : Nat → Int32) (aC : Nat → Nat → Int32) (p0 : Int32) : Int32 × (Nat → Int32) × (Nat → Nat → Int32) :=
  if (X0_isOathInForce_f (upd ((X0_letDaysGo_f vC aC (X0_distanceTo_f vC aC p0)).2.1) 1 p0) ((X0_letDaysGo_f vC aC (X0_distanceTo_f vC aC p0)).2.2) p0) = true then ((((X0_letDaysGo_f vC aC (X0_distanceTo_f vC aC p0)).2.1) 0), upd (upd ((X0_letDaysGo_f vC aC (X0_distanceTo_f vC aC p0)).2.1) 1 p0) 3 0, (X0_letDaysGo_f vC aC (X0_distanceTo_f vC aC p0)).2.2)
  else ((((X0_letDaysGo_f vC aC (X0_distanceTo_f vC aC p0)).2.1) 0), upd ((X0_letDaysGo_f vC aC (X0_distanceTo_f vC aC p0)).2.1) 1 p0, (X0_letDaysGo_f vC aC (X0_distanceTo_f vC aC p0)).2.2)
set_option maxHeartbeats 4000000 in
set_option maxRecDepth 100000 in
theorem X0_travelTo_c (l : Launch) (g : kG) (oC : Nat) (rC : Nat → Nat) (vC : Nat → Int32) (aC : Nat → Nat → Int32) (p0 : Int32) (nb : Nat) (hnb : nb ≤ 6) (hv7 : vC 7 = nI nb) (hm : vp_in p0 4) (hM : vp_in (vC 1) 4) : kM l yX0_travelTo wX0_travelTo 3 65 0 0 g [.ref oC, .int p0] [X0W g oC rC vC aC] (fun x u => x = (X0_travelTo_f vC aC p0).1 ∧ u = [X0W g oC rC ((X0_travelTo_f vC aC p0).2.1) ((X0_travelTo_f vC aC p0).2.2)]) := by
  refine kM_of (cc := cX0_travelTo) (nL := 2) (ret := (some .int)) (lv := [(0, .ref oC), (1, .int p0)]) (by decide) rfl (Nat.le_of_ble_eq_true rfl) rfl ?_
  intro p e s m args below meth c ls A C hP hD hE hA hS hl
  have C : kC p c cX0_travelTo s m args meth RX0 g 2 (some .int) := C
  have hx := C.1.1
  have hb := C.1.2.1
  have hts := C.1.2.2.2.2
  refine lv_aload_n hx hb dX0_travelTo_0 rfl (lv_at hl 0 rfl) ?_
  refine lv_aload_n hx hb dX0_travelTo_1 rfl (lv_at hl 0 rfl) ?_
  refine lv_iload_n hx hb dX0_travelTo_2 rfl (lv_at hl 1 rfl) ?_
  refine kR_V (As := [.int p0]) (rest := [.ref oC]) C (X0_distanceTo_c l g oC rC vC aC p0 (by first | assumption) (by first | assumption)) (cwV 1 hts (k_gV kw610 ca_X0_distanceTo) rfl rfl rfl ⟨rfl, pnX0_distanceTo⟩ ⟨Nat.le_of_ble_eq_true rfl, Nat.le_of_ble_eq_true rfl⟩) hE hS (hP.pick [0] rfl) (k_recv C kFX0 hP (i := 0) (q := 0) rfl rfl) rfl hl.1 rfl rfl dX0_travelTo_3 ⟨Nat.le_of_ble_eq_true rfl, Nat.le_of_ble_eq_true rfl⟩ ?_
  refine kM_V (As := [.int (X0_distanceTo_f vC aC p0)]) (rest := []) (wr := []) C (X0_letDaysGo_c l g oC rC vC aC (X0_distanceTo_f vC aC p0) nb (by first | assumption) (by first | assumption)) (cwV 1 hts (k_gV kw619 ca_X0_letDaysGo) rfl rfl rfl ⟨rfl, pnX0_letDaysGo⟩ ⟨Nat.le_of_ble_eq_true rfl, Nat.le_of_ble_eq_true rfl⟩) hE hS hA hP hD [0] [] rfl rfl ⟨rfl, rfl, by decide⟩ (k_recv C kFX0 hP (i := 0) (q := 0) rfl rfl) rfl hl.1 rfl rfl dX0_travelTo_6 ⟨Nat.le_of_ble_eq_true rfl, Nat.le_of_ble_eq_true rfl⟩ (fun r1 u1 H locs hp1 hP hD hS => ?_)
  obtain ⟨rfl, rfl⟩ := hp1
  have hP : kp g [X0W g oC rC ((X0_letDaysGo_f vC aC (X0_distanceTo_f vC aC p0)).2.1) ((X0_letDaysGo_f vC aC (X0_distanceTo_f vC aC p0)).2.2)] H := hP
  have hD : kd A [X0W g oC rC ((X0_letDaysGo_f vC aC (X0_distanceTo_f vC aC p0)).2.1) ((X0_letDaysGo_f vC aC (X0_distanceTo_f vC aC p0)).2.2)] := hD
  refine lv_pop hx hb dX0_travelTo_9 rfl ?_
  refine lv_aload_n hx hb dX0_travelTo_10 rfl (lv_at hl 0 rfl) ?_
  refine lv_iload_n hx hb dX0_travelTo_11 rfl (lv_at hl 1 rfl) ?_
  refine kg_put C kFX0 (k := 1) kw115 hP hD hS (i := 0) (q := 0) rfl rfl (by decide) rfl rfl rfl (Nat.le_of_ble_eq_true rfl) X0s_1 rfl dX0_travelTo_12 (fun H locs hP hD hS => ?_)
  have hP : kp g [X0W g oC rC (upd ((X0_letDaysGo_f vC aC (X0_distanceTo_f vC aC p0)).2.1) 1 p0) ((X0_letDaysGo_f vC aC (X0_distanceTo_f vC aC p0)).2.2)] H := hP
  have hD : kd A [X0W g oC rC (upd ((X0_letDaysGo_f vC aC (X0_distanceTo_f vC aC p0)).2.1) 1 p0) ((X0_letDaysGo_f vC aC (X0_distanceTo_f vC aC p0)).2.2)] := hD
  refine lv_aload_n hx hb dX0_travelTo_15 rfl (lv_at hl 0 rfl) ?_
  refine lv_aload_n hx hb dX0_travelTo_16 rfl (lv_at hl 0 rfl) ?_
  refine kg_get C kFX0 (k := 1) kw115 hP (i := 0) (q := 0) rfl rfl (by decide) rfl dX0_travelTo_17 ?_
  refine kR_V (As := [.int p0]) (rest := []) C (X0_isOathInForce_c l g oC rC (upd ((X0_letDaysGo_f vC aC (X0_distanceTo_f vC aC p0)).2.1) 1 p0) ((X0_letDaysGo_f vC aC (X0_distanceTo_f vC aC p0)).2.2) p0 (by first | assumption)) (cwV 1 hts (k_gV kw601 ca_X0_isOathInForce) rfl rfl rfl ⟨rfl, pnX0_isOathInForce⟩ ⟨Nat.le_of_ble_eq_true rfl, Nat.le_of_ble_eq_true rfl⟩) hE hS (hP.pick [0] rfl) (k_recv C kFX0 hP (i := 0) (q := 0) rfl rfl) rfl hl.1 rfl rfl dX0_travelTo_20 ⟨Nat.le_of_ble_eq_true rfl, Nat.le_of_ble_eq_true rfl⟩ ?_
  refine lv_if_eq (tgt := 31) hx hb dX0_travelTo_23 (by decide) (fun c2 => ?_) (fun c2 => ?_)
  · have c2 := b2i_eq0 c2
    refine lv_aload_n hx hb dX0_travelTo_31 rfl (lv_at hl 0 rfl) ?_
    refine kg_get C kFX0 (k := 0) kw113 hP (i := 0) (q := 0) rfl rfl (by decide) rfl dX0_travelTo_32 ?_
    have hF := (show X0_travelTo_f vC aC p0 = ((((X0_letDaysGo_f vC aC (X0_distanceTo_f vC aC p0)).2.1) 0), upd ((X0_letDaysGo_f vC aC (X0_distanceTo_f vC aC p0)).2.1) 1 p0, (X0_letDaysGo_f vC aC (X0_distanceTo_f vC aC p0)).2.2) from (if_neg c2).trans (rfl))
    exact kM_ret (x := (((X0_letDaysGo_f vC aC (X0_distanceTo_f vC aC p0)).2.1) 0)) C hP hD hS ⟨by rw [hF], by rw [hF]⟩ dX0_travelTo_35
  have c2 := b2i_ne0 c2
  refine lv_aload_n hx hb dX0_travelTo_26 rfl (lv_at hl 0 rfl) ?_
  refine lv_iconst (v := 0) hx hb dX0_travelTo_27 (by decide) ?_
  refine kg_put C kFX0 (k := 3) kw121 hP hD hS (i := 0) (q := 0) rfl rfl (by decide) rfl rfl rfl (Nat.le_of_ble_eq_true rfl) X0s_3 rfl dX0_travelTo_28 (fun H locs hP hD hS => ?_)
  have hP : kp g [X0W g oC rC (upd (upd ((X0_letDaysGo_f vC aC (X0_distanceTo_f vC aC p0)).2.1) 1 p0) 3 0) ((X0_letDaysGo_f vC aC (X0_distanceTo_f vC aC p0)).2.2)] H := hP
  have hD : kd A [X0W g oC rC (upd (upd ((X0_letDaysGo_f vC aC (X0_distanceTo_f vC aC p0)).2.1) 1 p0) 3 0) ((X0_letDaysGo_f vC aC (X0_distanceTo_f vC aC p0)).2.2)] := hD
  refine lv_aload_n hx hb dX0_travelTo_31 rfl (lv_at hl 0 rfl) ?_
  refine kg_get C kFX0 (k := 0) kw113 hP (i := 0) (q := 0) rfl rfl (by decide) rfl dX0_travelTo_32 ?_
  have hF := (show X0_travelTo_f vC aC p0 = ((((X0_letDaysGo_f vC aC (X0_distanceTo_f vC aC p0)).2.1) 0), upd (upd ((X0_letDaysGo_f vC aC (X0_distanceTo_f vC aC p0)).2.1) 1 p0) 3 0, (X0_letDaysGo_f vC aC (X0_distanceTo_f vC aC p0)).2.2) from (if_pos c2).trans (rfl))
  exact kM_ret (x := (((X0_letDaysGo_f vC aC (X0_distanceTo_f vC aC p0)).2.1) 0)) C hP hD hS ⟨by rw [hF], by rw [hF]⟩ dX0_travelTo_35

abbrev wX0_sealWeight : List Cond := Cond.code yX0_sealWeight cX0_sealWeight 3 (some .int) :: kW
def X0_sealWeight_f (vC : Nat → Int32) (aC : Nat → Nat → Int32) (p0 : Int32) : Int32 × (Nat → Int32) × (Nat → Nat → Int32) :=
  ((X0_shortnessOf_f vC aC p0), upd vC 2 ((vC 2) - 2), va_up aC 13 (upd (aC 13) p0.toNatClampNeg 0))
set_option maxHeartbeats 4000000 in
set_option maxRecDepth 100000 in
theorem X0_sealWeight_c (l : Launch) (g : kG) (oC : Nat) (rC : Nat → Nat) (vC : Nat → Int32) (aC : Nat → Nat → Int32) (p0 : Int32) (hw : vp_in p0 8) : kM l yX0_sealWeight wX0_sealWeight 1 22 0 0 g [.ref oC, .int p0] [X0W g oC rC vC aC] (fun x u => x = (X0_sealWeight_f vC aC p0).1 ∧ u = [X0W g oC rC ((X0_sealWeight_f vC aC p0).2.1) ((X0_sealWeight_f vC aC p0).2.2)]) := by
  refine kM_of (cc := cX0_sealWeight) (nL := 3) (ret := (some .int)) (lv := [(0, .ref oC), (1, .int p0)]) (by decide) rfl (Nat.le_of_ble_eq_true rfl) rfl ?_
  intro p e s m args below meth c ls A C hP hD hE hA hS hl
  have C : kC p c cX0_sealWeight s m args meth RX0 g 3 (some .int) := C
  have hx := C.1.1
  have hb := C.1.2.1
  have hts := C.1.2.2.2.2
  refine lv_aload_n hx hb dX0_sealWeight_0 rfl (lv_at hl 0 rfl) ?_
  refine lv_iload_n hx hb dX0_sealWeight_1 rfl (lv_at hl 1 rfl) ?_
  refine kR_V (As := [.int p0]) (rest := []) C (X0_shortnessOf_c l g oC rC vC aC p0 (by first | assumption)) (cwV 1 hts (k_gV kw438 ca_X0_shortnessOf) rfl rfl rfl ⟨rfl, pnX0_shortnessOf⟩ ⟨Nat.le_of_ble_eq_true rfl, Nat.le_of_ble_eq_true rfl⟩) hE hS (hP.pick [0] rfl) (k_recv C kFX0 hP (i := 0) (q := 0) rfl rfl) rfl hl.1 rfl rfl dX0_sealWeight_2 ⟨Nat.le_of_ble_eq_true rfl, Nat.le_of_ble_eq_true rfl⟩ ?_
  refine lv_istore_n (lv' := [(2, .int (X0_shortnessOf_f vC aC p0)), (0, .ref oC), (1, .int p0)]) hx hb dX0_sealWeight_5 rfl hl (by decide) rfl (fun ls hl => ?_)
  refine lv_aload_n hx hb dX0_sealWeight_6 rfl (lv_at hl 1 rfl) ?_
  refine kg_get C kFX0 (k := 13) kw149 hP (i := 0) (q := 0) rfl rfl (by decide) rfl dX0_sealWeight_7 ?_
  refine lv_iload_n hx hb dX0_sealWeight_10 rfl (lv_at hl 2 rfl) ?_
  refine lv_iconst (v := 0) hx hb dX0_sealWeight_11 (by decide) ?_
  refine kg_iast C hP hD hS (i := 0) (q := 8) rfl rfl (by first | assumption) X0t_13 rfl dX0_sealWeight_12 (fun H locs hP hD hS => ?_)
  have hP : kp g [X0W g oC rC vC (va_up aC 13 (upd (aC 13) p0.toNatClampNeg 0))] H := hP
  have hD : kd A [X0W g oC rC vC (va_up aC 13 (upd (aC 13) p0.toNatClampNeg 0))] := hD
  refine lv_aload_n hx hb dX0_sealWeight_13 rfl (lv_at hl 1 rfl) ?_
  refine lv_dup hx hb dX0_sealWeight_14 rfl ?_
  refine kg_get C kFX0 (k := 2) kw118 hP (i := 0) (q := 0) rfl rfl (by decide) rfl dX0_sealWeight_15 ?_
  refine lv_iconst (v := 2) hx hb dX0_sealWeight_18 (by decide) ?_
  refine lv_isub hx hb dX0_sealWeight_19 ?_
  refine kg_put C kFX0 (k := 2) kw118 hP hD hS (i := 0) (q := 0) rfl rfl (by decide) rfl rfl rfl (Nat.le_of_ble_eq_true rfl) X0s_2 rfl dX0_sealWeight_20 (fun H locs hP hD hS => ?_)
  have hP : kp g [X0W g oC rC (upd vC 2 ((vC 2) - 2)) (va_up aC 13 (upd (aC 13) p0.toNatClampNeg 0))] H := hP
  have hD : kd A [X0W g oC rC (upd vC 2 ((vC 2) - 2)) (va_up aC 13 (upd (aC 13) p0.toNatClampNeg 0))] := hD
  refine lv_iload_n hx hb dX0_sealWeight_23 rfl (lv_at hl 0 rfl) ?_
  have hF := (show X0_sealWeight_f vC aC p0 = ((X0_shortnessOf_f vC aC p0), upd vC 2 ((vC 2) - 2), va_up aC 13 (upd (aC 13) p0.toNatClampNeg 0)) from rfl)
  exact kM_ret (x := (X0_shortnessOf_f vC aC p0)) C hP hD hS ⟨by rw [hF], by rw [hF]⟩ dX0_sealWeight_24

theorem pnX0_addBag : yX0_addBag.cls ≠ "java/lang/invoke/MethodHandle" ∧ yX0_addBag.cls ≠ "java/lang/invoke/VarHandle" ∧ (parseMethodDescriptor yX0_addBag.desc).map (fun d => d.parameters.length) = some 1 := by decide +kernel
theorem ca_X0_addBag : kCal yX0_addBag (Cond.code yX0_addBag cX0_addBag 2 (some .int)) := ⟨k_w 4 15 rfl rfl, k_w 1 29 rfl rfl, k_w 2 2 rfl rfl, k_w 4 16 rfl rfl⟩

theorem pnX0_addJar : yX0_addJar.cls ≠ "java/lang/invoke/MethodHandle" ∧ yX0_addJar.cls ≠ "java/lang/invoke/VarHandle" ∧ (parseMethodDescriptor yX0_addJar.desc).map (fun d => d.parameters.length) = some 2 := by decide +kernel
theorem ca_X0_addJar : kCal yX0_addJar (Cond.code yX0_addJar cX0_addJar 3 (some .int)) := ⟨k_w 4 11 rfl rfl, k_w 1 28 rfl rfl, k_w 2 2 rfl rfl, k_w 4 12 rfl rfl⟩

theorem pnX0_beatBag : yX0_beatBag.cls ≠ "java/lang/invoke/MethodHandle" ∧ yX0_beatBag.cls ≠ "java/lang/invoke/VarHandle" ∧ (parseMethodDescriptor yX0_beatBag.desc).map (fun d => d.parameters.length) = some 1 := by decide +kernel
theorem ca_X0_beatBag : kCal yX0_beatBag (Cond.code yX0_beatBag cX0_beatBag 3 (some .int)) := ⟨k_w 4 31 rfl rfl, k_w 1 33 rfl rfl, k_w 2 2 rfl rfl, k_w 4 32 rfl rfl⟩

theorem pnX0_emptyBag : yX0_emptyBag.cls ≠ "java/lang/invoke/MethodHandle" ∧ yX0_emptyBag.cls ≠ "java/lang/invoke/VarHandle" ∧ (parseMethodDescriptor yX0_emptyBag.desc).map (fun d => d.parameters.length) = some 2 := by decide +kernel
theorem ca_X0_emptyBag : kCal yX0_emptyBag (Cond.code yX0_emptyBag cX0_emptyBag 3 (some .int)) := ⟨k_w 4 23 rfl rfl, k_w 1 31 rfl rfl, k_w 2 2 rfl rfl, k_w 4 24 rfl rfl⟩

theorem pnX0_fillBag : yX0_fillBag.cls ≠ "java/lang/invoke/MethodHandle" ∧ yX0_fillBag.cls ≠ "java/lang/invoke/VarHandle" ∧ (parseMethodDescriptor yX0_fillBag.desc).map (fun d => d.parameters.length) = some 3 := by decide +kernel
theorem ca_X0_fillBag : kCal yX0_fillBag (Cond.code yX0_fillBag cX0_fillBag 4 (some .int)) := ⟨k_w 4 19 rfl rfl, k_w 1 30 rfl rfl, k_w 2 2 rfl rfl, k_w 4 20 rfl rfl⟩

theorem pnX0_sealWeight : yX0_sealWeight.cls ≠ "java/lang/invoke/MethodHandle" ∧ yX0_sealWeight.cls ≠ "java/lang/invoke/VarHandle" ∧ (parseMethodDescriptor yX0_sealWeight.desc).map (fun d => d.parameters.length) = some 1 := by decide +kernel
theorem ca_X0_sealWeight : kCal yX0_sealWeight (Cond.code yX0_sealWeight cX0_sealWeight 3 (some .int)) := ⟨k_w 4 85 rfl rfl, k_w 1 43 rfl rfl, k_w 2 2 rfl rfl, k_w 4 86 rfl rfl⟩

theorem pnX0_sellBag : yX0_sellBag.cls ≠ "java/lang/invoke/MethodHandle" ∧ yX0_sellBag.cls ≠ "java/lang/invoke/VarHandle" ∧ (parseMethodDescriptor yX0_sellBag.desc).map (fun d => d.parameters.length) = some 1 := by decide +kernel
theorem ca_X0_sellBag : kCal yX0_sellBag (Cond.code yX0_sellBag cX0_sellBag 4 (some .int)) := ⟨k_w 4 44 rfl rfl, k_w 1 36 rfl rfl, k_w 2 2 rfl rfl, k_w 4 45 rfl rfl⟩

theorem pnX0_setThumb : yX0_setThumb.cls ≠ "java/lang/invoke/MethodHandle" ∧ yX0_setThumb.cls ≠ "java/lang/invoke/VarHandle" ∧ (parseMethodDescriptor yX0_setThumb.desc).map (fun d => d.parameters.length) = some 1 := by decide +kernel
theorem ca_X0_setThumb : kCal yX0_setThumb (Cond.code yX0_setThumb cX0_setThumb 3 (some .int)) := ⟨k_w 4 35 rfl rfl, k_w 1 34 rfl rfl, k_w 2 2 rfl rfl, k_w 4 36 rfl rfl⟩

theorem pnX0_swearOath : yX0_swearOath.cls ≠ "java/lang/invoke/MethodHandle" ∧ yX0_swearOath.cls ≠ "java/lang/invoke/VarHandle" ∧ (parseMethodDescriptor yX0_swearOath.desc).map (fun d => d.parameters.length) = some 0 := by decide +kernel
theorem ca_X0_swearOath : kCal yX0_swearOath (Cond.code yX0_swearOath cX0_swearOath 1 (some .int)) := ⟨k_w 4 56 rfl rfl, k_w 1 38 rfl rfl, k_w 2 2 rfl rfl, k_w 4 57 rfl rfl⟩

theorem pnX0_travelTo : yX0_travelTo.cls ≠ "java/lang/invoke/MethodHandle" ∧ yX0_travelTo.cls ≠ "java/lang/invoke/VarHandle" ∧ (parseMethodDescriptor yX0_travelTo.desc).map (fun d => d.parameters.length) = some 1 := by decide +kernel
theorem ca_X0_travelTo : kCal yX0_travelTo (Cond.code yX0_travelTo cX0_travelTo 2 (some .int)) := ⟨k_w 4 60 rfl rfl, k_w 1 39 rfl rfl, k_w 2 2 rfl rfl, k_w 4 61 rfl rfl⟩

abbrev wX0_carryOut : List Cond := Cond.code yX0_carryOut cX0_carryOut 5 (some .int) :: kW
def X0_carryOut_f (vC : Nat → Int32) (aC : Nat → Nat → Int32) (p0 : Int32) (p1 : Int32) (p2 : Int32) (p3 : Int32) : Int32 × (Nat → Int32) × (Nat → Nat → Int32) :=
  if p0 = 66 then ((X0_addBag_f vC aC p1).1, (X0_addBag_f vC aC p1).2.1, (X0_addBag_f vC aC p1).2.2)
  else if p0 = 74 then ((X0_addJar_f vC aC p1 p2).1, (X0_addJar_f vC aC p1 p2).2.1, (X0_addJar_f vC aC p1 p2).2.2)
  else if p0 = 98 then ((X0_beatBag_f vC aC p1).1, vC, (X0_beatBag_f vC aC p1).2)
  else if p0 = 101 then ((X0_emptyBag_f vC aC p1 p2).1, vC, (X0_emptyBag_f vC aC p1 p2).2)
  else if p0 = 102 then ((X0_fillBag_f vC aC p1 p2 p3).1, vC, (X0_fillBag_f vC aC p1 p2 p3).2)
  else if p0 = 103 then ((X0_travelTo_f vC aC p1).1, (X0_travelTo_f vC aC p1).2.1, (X0_travelTo_f vC aC p1).2.2)
  else if p0 = 110 then ((X0_letDaysGo_f vC aC p1).1, (X0_letDaysGo_f vC aC p1).2.1, (X0_letDaysGo_f vC aC p1).2.2)
  else if p0 = 111 then ((X0_swearOath_f vC aC).1, vC, (X0_swearOath_f vC aC).2)
  else if p0 = 115 then ((X0_sellBag_f vC aC p1).1, (X0_sellBag_f vC aC p1).2.1, (X0_sellBag_f vC aC p1).2.2)
  else if p0 = 116 then ((X0_setThumb_f vC aC p1).1, (X0_setThumb_f vC aC p1).2, aC)
  else if p0 = 119 then ((X0_weighBag_f vC aC p1).1, vC, (X0_weighBag_f vC aC p1).2)
  else if p0 = 120 then ((X0_sealWeight_f vC aC p1).1, (X0_sealWeight_f vC aC p1).2.1, (X0_sealWeight_f vC aC p1).2.2)
  else (0, vC, aC)
set_option maxHeartbeats 4000000 in
set_option maxRecDepth 100000 in
theorem X0_carryOut_c (l : Launch) (g : kG) (oC : Nat) (rC : Nat → Nat) (vC : Nat → Int32) (aC : Nat → Nat → Int32) (p0 : Int32) (p1 : Int32) (p2 : Int32) (p3 : Int32) (nb : Nat) (hnb : nb ≤ 6) (hv7 : vC 7 = nI nb) (hM : vp_in (vC 1) 4) (hJ : p0 = 74 → vp_in (vC 4) 6) (hB : p0 = 66 → vp_in (vC 7) 6) (hF1 : p0 = 102 → vp_in p1 6 ∧ vp_in p2 6) (hE1 : p0 = 101 → vp_in p1 6 ∧ vp_in p2 6) (hG1 : p0 = 98 ∨ p0 = 119 ∨ p0 = 115 → vp_in p1 6) (hG2 : p0 = 103 → vp_in p1 4) (hG3 : p0 = 120 → vp_in p1 8) : kM l yX0_carryOut wX0_carryOut 4 93 0 0 g [.ref oC, .int p0, .int p1, .int p2, .int p3] [X0W g oC rC vC aC] (fun x u => x = (X0_carryOut_f vC aC p0 p1 p2 p3).1 ∧ u = [X0W g oC rC ((X0_carryOut_f vC aC p0 p1 p2 p3).2.1) ((X0_carryOut_f vC aC p0 p1 p2 p3).2.2)]) := by
  refine kM_of (cc := cX0_carryOut) (nL := 5) (ret := (some .int)) (lv := [(0, .ref oC), (1, .int p0), (2, .int p1), (3, .int p2), (4, .int p3)]) (by decide) rfl (Nat.le_of_ble_eq_true rfl) rfl ?_
  intro p e s m args below meth c ls A C hP hD hE hA hS hl
  have C : kC p c cX0_carryOut s m args meth RX0 g 5 (some .int) := C
  have hx := C.1.1
  have hb := C.1.2.1
  have hts := C.1.2.2.2.2
  refine lv_iload_n hx hb dX0_carryOut_0 rfl (lv_at hl 1 rfl) ?_
  by_cases c1 : p0 = 66
  · refine lv_lookup (off := 114) (tgt := 115) hx hb dX0_carryOut_1 (by decide) (by rw [c1]; try rfl) (by decide) ?_
    have z1 := hB c1
    refine lv_aload_n hx hb dX0_carryOut_115 rfl (lv_at hl 0 rfl) ?_
    refine lv_iload_n hx hb dX0_carryOut_116 rfl (lv_at hl 2 rfl) ?_
    refine kM_V (As := [.int p1]) (rest := []) (wr := []) C (X0_addBag_c l g oC rC vC aC p1 (by first | assumption)) (cwV 1 hts (k_gV kw561 ca_X0_addBag) rfl rfl rfl ⟨rfl, pnX0_addBag⟩ ⟨Nat.le_of_ble_eq_true rfl, Nat.le_of_ble_eq_true rfl⟩) hE hS hA hP hD [0] [] rfl rfl ⟨rfl, rfl, by decide⟩ (k_recv C kFX0 hP (i := 0) (q := 0) rfl rfl) rfl hl.1 rfl rfl dX0_carryOut_117 ⟨Nat.le_of_ble_eq_true rfl, Nat.le_of_ble_eq_true rfl⟩ (fun r2 u2 H locs hp2 hP hD hS => ?_)
    obtain ⟨rfl, rfl⟩ := hp2
    have hP : kp g [X0W g oC rC ((X0_addBag_f vC aC p1).2.1) ((X0_addBag_f vC aC p1).2.2)] H := hP
    have hD : kd A [X0W g oC rC ((X0_addBag_f vC aC p1).2.1) ((X0_addBag_f vC aC p1).2.2)] := hD
    have hF := (show X0_carryOut_f vC aC p0 p1 p2 p3 = ((X0_addBag_f vC aC p1).1, (X0_addBag_f vC aC p1).2.1, (X0_addBag_f vC aC p1).2.2) from (if_pos c1).trans (rfl))
    exact kM_ret (x := (X0_addBag_f vC aC p1).1) C hP hD hS ⟨by rw [hF], by rw [hF]⟩ dX0_carryOut_120
  by_cases c3 : p0 = 74
  · refine lv_lookup (off := 107) (tgt := 108) hx hb dX0_carryOut_1 (by decide) (by rw [c3]; try rfl) (by decide) ?_
    have z1 := hJ c3
    refine lv_aload_n hx hb dX0_carryOut_108 rfl (lv_at hl 0 rfl) ?_
    refine lv_iload_n hx hb dX0_carryOut_109 rfl (lv_at hl 2 rfl) ?_
    refine lv_iload_n hx hb dX0_carryOut_110 rfl (lv_at hl 3 rfl) ?_
    refine kM_V (As := [.int p1, .int p2]) (rest := []) (wr := []) C (X0_addJar_c l g oC rC vC aC p1 p2 (by first | assumption)) (cwV 2 hts (k_gV kw557 ca_X0_addJar) rfl rfl rfl ⟨rfl, pnX0_addJar⟩ ⟨Nat.le_of_ble_eq_true rfl, Nat.le_of_ble_eq_true rfl⟩) hE hS hA hP hD [0] [] rfl rfl ⟨rfl, rfl, by decide⟩ (k_recv C kFX0 hP (i := 0) (q := 0) rfl rfl) rfl hl.1 rfl rfl dX0_carryOut_111 ⟨Nat.le_of_ble_eq_true rfl, Nat.le_of_ble_eq_true rfl⟩ (fun r4 u4 H locs hp4 hP hD hS => ?_)
    obtain ⟨rfl, rfl⟩ := hp4
    have hP : kp g [X0W g oC rC ((X0_addJar_f vC aC p1 p2).2.1) ((X0_addJar_f vC aC p1 p2).2.2)] H := hP
    have hD : kd A [X0W g oC rC ((X0_addJar_f vC aC p1 p2).2.1) ((X0_addJar_f vC aC p1 p2).2.2)] := hD
    have hF := (show X0_carryOut_f vC aC p0 p1 p2 p3 = ((X0_addJar_f vC aC p1 p2).1, (X0_addJar_f vC aC p1 p2).2.1, (X0_addJar_f vC aC p1 p2).2.2) from (if_neg c1).trans ((if_pos c3).trans (rfl)))
    exact kM_ret (x := (X0_addJar_f vC aC p1 p2).1) C hP hD hS ⟨by rw [hF], by rw [hF]⟩ dX0_carryOut_114
  by_cases c5 : p0 = 98
  · refine lv_lookup (off := 136) (tgt := 137) hx hb dX0_carryOut_1 (by decide) (by rw [c5]; try rfl) (by decide) ?_
    have z1 := hG1 (Or.inl c5)
    refine lv_aload_n hx hb dX0_carryOut_137 rfl (lv_at hl 0 rfl) ?_
    refine lv_iload_n hx hb dX0_carryOut_138 rfl (lv_at hl 2 rfl) ?_
    refine kM_V (As := [.int p1]) (rest := []) (wr := []) C (X0_beatBag_c l g oC rC vC aC p1 (by first | assumption)) (cwV 1 hts (k_gV kw577 ca_X0_beatBag) rfl rfl rfl ⟨rfl, pnX0_beatBag⟩ ⟨Nat.le_of_ble_eq_true rfl, Nat.le_of_ble_eq_true rfl⟩) hE hS hA hP hD [0] [] rfl rfl ⟨rfl, rfl, by decide⟩ (k_recv C kFX0 hP (i := 0) (q := 0) rfl rfl) rfl hl.1 rfl rfl dX0_carryOut_139 ⟨Nat.le_of_ble_eq_true rfl, Nat.le_of_ble_eq_true rfl⟩ (fun r6 u6 H locs hp6 hP hD hS => ?_)
    obtain ⟨rfl, rfl⟩ := hp6
    have hP : kp g [X0W g oC rC vC ((X0_beatBag_f vC aC p1).2)] H := hP
    have hD : kd A [X0W g oC rC vC ((X0_beatBag_f vC aC p1).2)] := hD
    have hF := (show X0_carryOut_f vC aC p0 p1 p2 p3 = ((X0_beatBag_f vC aC p1).1, vC, (X0_beatBag_f vC aC p1).2) from (if_neg c1).trans ((if_neg c3).trans ((if_pos c5).trans (rfl))))
    exact kM_ret (x := (X0_beatBag_f vC aC p1).1) C hP hD hS ⟨by rw [hF], by rw [hF]⟩ dX0_carryOut_142
  by_cases c7 : p0 = 101
  · refine lv_lookup (off := 129) (tgt := 130) hx hb dX0_carryOut_1 (by decide) (by rw [c7]; try rfl) (by decide) ?_
    obtain ⟨z1, z2⟩ := hE1 c7
    refine lv_aload_n hx hb dX0_carryOut_130 rfl (lv_at hl 0 rfl) ?_
    refine lv_iload_n hx hb dX0_carryOut_131 rfl (lv_at hl 2 rfl) ?_
    refine lv_iload_n hx hb dX0_carryOut_132 rfl (lv_at hl 3 rfl) ?_
    refine kM_V (As := [.int p1, .int p2]) (rest := []) (wr := []) C (X0_emptyBag_c l g oC rC vC aC p1 p2 (by first | assumption) (by first | assumption)) (cwV 2 hts (k_gV kw569 ca_X0_emptyBag) rfl rfl rfl ⟨rfl, pnX0_emptyBag⟩ ⟨Nat.le_of_ble_eq_true rfl, Nat.le_of_ble_eq_true rfl⟩) hE hS hA hP hD [0] [] rfl rfl ⟨rfl, rfl, by decide⟩ (k_recv C kFX0 hP (i := 0) (q := 0) rfl rfl) rfl hl.1 rfl rfl dX0_carryOut_133 ⟨Nat.le_of_ble_eq_true rfl, Nat.le_of_ble_eq_true rfl⟩ (fun r8 u8 H locs hp8 hP hD hS => ?_)
    obtain ⟨rfl, rfl⟩ := hp8
    have hP : kp g [X0W g oC rC vC ((X0_emptyBag_f vC aC p1 p2).2)] H := hP
    have hD : kd A [X0W g oC rC vC ((X0_emptyBag_f vC aC p1 p2).2)] := hD
    have hF := (show X0_carryOut_f vC aC p0 p1 p2 p3 = ((X0_emptyBag_f vC aC p1 p2).1, vC, (X0_emptyBag_f vC aC p1 p2).2) from (if_neg c1).trans ((if_neg c3).trans ((if_neg c5).trans ((if_pos c7).trans (rfl)))))
    exact kM_ret (x := (X0_emptyBag_f vC aC p1 p2).1) C hP hD hS ⟨by rw [hF], by rw [hF]⟩ dX0_carryOut_136
  by_cases c9 : p0 = 102
  · refine lv_lookup (off := 120) (tgt := 121) hx hb dX0_carryOut_1 (by decide) (by rw [c9]; try rfl) (by decide) ?_
    obtain ⟨z1, z2⟩ := hF1 c9
    refine lv_aload_n hx hb dX0_carryOut_121 rfl (lv_at hl 0 rfl) ?_
    refine lv_iload_n hx hb dX0_carryOut_122 rfl (lv_at hl 2 rfl) ?_
    refine lv_iload_n hx hb dX0_carryOut_123 rfl (lv_at hl 3 rfl) ?_
    refine lv_iload hx hb dX0_carryOut_124 (lv_at hl 4 rfl) ?_
    refine kM_V (As := [.int p1, .int p2, .int p3]) (rest := []) (wr := []) C (X0_fillBag_c l g oC rC vC aC p1 p2 p3 (by first | assumption) (by first | assumption)) (cwV 3 hts (k_gV kw565 ca_X0_fillBag) rfl rfl rfl ⟨rfl, pnX0_fillBag⟩ ⟨Nat.le_of_ble_eq_true rfl, Nat.le_of_ble_eq_true rfl⟩) hE hS hA hP hD [0] [] rfl rfl ⟨rfl, rfl, by decide⟩ (k_recv C kFX0 hP (i := 0) (q := 0) rfl rfl) rfl hl.1 rfl rfl dX0_carryOut_126 ⟨Nat.le_of_ble_eq_true rfl, Nat.le_of_ble_eq_true rfl⟩ (fun r10 u10 H locs hp10 hP hD hS => ?_)
    obtain ⟨rfl, rfl⟩ := hp10
    have hP : kp g [X0W g oC rC vC ((X0_fillBag_f vC aC p1 p2 p3).2)] H := hP
    have hD : kd A [X0W g oC rC vC ((X0_fillBag_f vC aC p1 p2 p3).2)] := hD
    have hF := (show X0_carryOut_f vC aC p0 p1 p2 p3 = ((X0_fillBag_f vC aC p1 p2 p3).1, vC, (X0_fillBag_f vC aC p1 p2 p3).2) from (if_neg c1).trans ((if_neg c3).trans ((if_neg c5).trans ((if_neg c7).trans ((if_pos c9).trans (rfl))))))
    exact kM_ret (x := (X0_fillBag_f vC aC p1 p2 p3).1) C hP hD hS ⟨by rw [hF], by rw [hF]⟩ dX0_carryOut_129
  by_cases c11 : p0 = 103
  · refine lv_lookup (off := 165) (tgt := 166) hx hb dX0_carryOut_1 (by decide) (by rw [c11]; try rfl) (by decide) ?_
    have z1 := hG2 c11
    refine lv_aload_n hx hb dX0_carryOut_166 rfl (lv_at hl 0 rfl) ?_
    refine lv_iload_n hx hb dX0_carryOut_167 rfl (lv_at hl 2 rfl) ?_
    refine kM_V (As := [.int p1]) (rest := []) (wr := []) C (X0_travelTo_c l g oC rC vC aC p1 nb (by first | assumption) (by first | assumption) (by first | assumption) (by first | assumption)) (cwV 1 hts (k_gV kw606 ca_X0_travelTo) rfl rfl rfl ⟨rfl, pnX0_travelTo⟩ ⟨Nat.le_of_ble_eq_true rfl, Nat.le_of_ble_eq_true rfl⟩) hE hS hA hP hD [0] [] rfl rfl ⟨rfl, rfl, by decide⟩ (k_recv C kFX0 hP (i := 0) (q := 0) rfl rfl) rfl hl.1 rfl rfl dX0_carryOut_168 ⟨Nat.le_of_ble_eq_true rfl, Nat.le_of_ble_eq_true rfl⟩ (fun r12 u12 H locs hp12 hP hD hS => ?_)
    obtain ⟨rfl, rfl⟩ := hp12
    have hP : kp g [X0W g oC rC ((X0_travelTo_f vC aC p1).2.1) ((X0_travelTo_f vC aC p1).2.2)] H := hP
    have hD : kd A [X0W g oC rC ((X0_travelTo_f vC aC p1).2.1) ((X0_travelTo_f vC aC p1).2.2)] := hD
    have hF := (show X0_carryOut_f vC aC p0 p1 p2 p3 = ((X0_travelTo_f vC aC p1).1, (X0_travelTo_f vC aC p1).2.1, (X0_travelTo_f vC aC p1).2.2) from (if_neg c1).trans ((if_neg c3).trans ((if_neg c5).trans ((if_neg c7).trans ((if_neg c9).trans ((if_pos c11).trans (rfl)))))))
    exact kM_ret (x := (X0_travelTo_f vC aC p1).1) C hP hD hS ⟨by rw [hF], by rw [hF]⟩ dX0_carryOut_171
  by_cases c13 : p0 = 110
  · refine lv_lookup (off := 177) (tgt := 178) hx hb dX0_carryOut_1 (by decide) (by rw [c13]; try rfl) (by decide) ?_
    refine lv_aload_n hx hb dX0_carryOut_178 rfl (lv_at hl 0 rfl) ?_
    refine lv_iload_n hx hb dX0_carryOut_179 rfl (lv_at hl 2 rfl) ?_
    refine kM_V (As := [.int p1]) (rest := []) (wr := []) C (X0_letDaysGo_c l g oC rC vC aC p1 nb (by first | assumption) (by first | assumption)) (cwV 1 hts (k_gV kw619 ca_X0_letDaysGo) rfl rfl rfl ⟨rfl, pnX0_letDaysGo⟩ ⟨Nat.le_of_ble_eq_true rfl, Nat.le_of_ble_eq_true rfl⟩) hE hS hA hP hD [0] [] rfl rfl ⟨rfl, rfl, by decide⟩ (k_recv C kFX0 hP (i := 0) (q := 0) rfl rfl) rfl hl.1 rfl rfl dX0_carryOut_180 ⟨Nat.le_of_ble_eq_true rfl, Nat.le_of_ble_eq_true rfl⟩ (fun r14 u14 H locs hp14 hP hD hS => ?_)
    obtain ⟨rfl, rfl⟩ := hp14
    have hP : kp g [X0W g oC rC ((X0_letDaysGo_f vC aC p1).2.1) ((X0_letDaysGo_f vC aC p1).2.2)] H := hP
    have hD : kd A [X0W g oC rC ((X0_letDaysGo_f vC aC p1).2.1) ((X0_letDaysGo_f vC aC p1).2.2)] := hD
    have hF := (show X0_carryOut_f vC aC p0 p1 p2 p3 = ((X0_letDaysGo_f vC aC p1).1, (X0_letDaysGo_f vC aC p1).2.1, (X0_letDaysGo_f vC aC p1).2.2) from (if_neg c1).trans ((if_neg c3).trans ((if_neg c5).trans ((if_neg c7).trans ((if_neg c9).trans ((if_neg c11).trans ((if_pos c13).trans (rfl))))))))
    exact kM_ret (x := (X0_letDaysGo_f vC aC p1).1) C hP hD hS ⟨by rw [hF], by rw [hF]⟩ dX0_carryOut_183
  by_cases c15 : p0 = 111
  · refine lv_lookup (off := 160) (tgt := 161) hx hb dX0_carryOut_1 (by decide) (by rw [c15]; try rfl) (by decide) ?_
    refine lv_aload_n hx hb dX0_carryOut_161 rfl (lv_at hl 0 rfl) ?_
    refine kM_V (As := []) (rest := []) (wr := []) C (X0_swearOath_c l g oC rC vC aC (by first | assumption)) (cwV 0 hts (k_gV kw602 ca_X0_swearOath) rfl rfl rfl ⟨rfl, pnX0_swearOath⟩ ⟨Nat.le_of_ble_eq_true rfl, Nat.le_of_ble_eq_true rfl⟩) hE hS hA hP hD [0] [] rfl rfl ⟨rfl, rfl, by decide⟩ (k_recv C kFX0 hP (i := 0) (q := 0) rfl rfl) rfl hl.1 rfl rfl dX0_carryOut_162 ⟨Nat.le_of_ble_eq_true rfl, Nat.le_of_ble_eq_true rfl⟩ (fun r16 u16 H locs hp16 hP hD hS => ?_)
    obtain ⟨rfl, rfl⟩ := hp16
    have hP : kp g [X0W g oC rC vC ((X0_swearOath_f vC aC).2)] H := hP
    have hD : kd A [X0W g oC rC vC ((X0_swearOath_f vC aC).2)] := hD
    have hF := (show X0_carryOut_f vC aC p0 p1 p2 p3 = ((X0_swearOath_f vC aC).1, vC, (X0_swearOath_f vC aC).2) from (if_neg c1).trans ((if_neg c3).trans ((if_neg c5).trans ((if_neg c7).trans ((if_neg c9).trans ((if_neg c11).trans ((if_neg c13).trans ((if_pos c15).trans (rfl)))))))))
    exact kM_ret (x := (X0_swearOath_f vC aC).1) C hP hD hS ⟨by rw [hF], by rw [hF]⟩ dX0_carryOut_165
  by_cases c17 : p0 = 115
  · refine lv_lookup (off := 154) (tgt := 155) hx hb dX0_carryOut_1 (by decide) (by rw [c17]; try rfl) (by decide) ?_
    have z1 := hG1 (Or.inr (Or.inr c17))
    refine lv_aload_n hx hb dX0_carryOut_155 rfl (lv_at hl 0 rfl) ?_
    refine lv_iload_n hx hb dX0_carryOut_156 rfl (lv_at hl 2 rfl) ?_
    refine kM_V (As := [.int p1]) (rest := []) (wr := []) C (X0_sellBag_c l g oC rC vC aC p1 (by first | assumption) (by first | assumption)) (cwV 1 hts (k_gV kw590 ca_X0_sellBag) rfl rfl rfl ⟨rfl, pnX0_sellBag⟩ ⟨Nat.le_of_ble_eq_true rfl, Nat.le_of_ble_eq_true rfl⟩) hE hS hA hP hD [0] [] rfl rfl ⟨rfl, rfl, by decide⟩ (k_recv C kFX0 hP (i := 0) (q := 0) rfl rfl) rfl hl.1 rfl rfl dX0_carryOut_157 ⟨Nat.le_of_ble_eq_true rfl, Nat.le_of_ble_eq_true rfl⟩ (fun r18 u18 H locs hp18 hP hD hS => ?_)
    obtain ⟨rfl, rfl⟩ := hp18
    have hP : kp g [X0W g oC rC ((X0_sellBag_f vC aC p1).2.1) ((X0_sellBag_f vC aC p1).2.2)] H := hP
    have hD : kd A [X0W g oC rC ((X0_sellBag_f vC aC p1).2.1) ((X0_sellBag_f vC aC p1).2.2)] := hD
    have hF := (show X0_carryOut_f vC aC p0 p1 p2 p3 = ((X0_sellBag_f vC aC p1).1, (X0_sellBag_f vC aC p1).2.1, (X0_sellBag_f vC aC p1).2.2) from (if_neg c1).trans ((if_neg c3).trans ((if_neg c5).trans ((if_neg c7).trans ((if_neg c9).trans ((if_neg c11).trans ((if_neg c13).trans ((if_neg c15).trans ((if_pos c17).trans (rfl))))))))))
    exact kM_ret (x := (X0_sellBag_f vC aC p1).1) C hP hD hS ⟨by rw [hF], by rw [hF]⟩ dX0_carryOut_160
  by_cases c19 : p0 = 116
  · refine lv_lookup (off := 142) (tgt := 143) hx hb dX0_carryOut_1 (by decide) (by rw [c19]; try rfl) (by decide) ?_
    refine lv_aload_n hx hb dX0_carryOut_143 rfl (lv_at hl 0 rfl) ?_
    refine lv_iload_n hx hb dX0_carryOut_144 rfl (lv_at hl 2 rfl) ?_
    refine kM_V (As := [.int p1]) (rest := []) (wr := []) C (X0_setThumb_c l g oC rC vC aC p1) (cwV 1 hts (k_gV kw581 ca_X0_setThumb) rfl rfl rfl ⟨rfl, pnX0_setThumb⟩ ⟨Nat.le_of_ble_eq_true rfl, Nat.le_of_ble_eq_true rfl⟩) hE hS hA hP hD [0] [] rfl rfl ⟨rfl, rfl, by decide⟩ (k_recv C kFX0 hP (i := 0) (q := 0) rfl rfl) rfl hl.1 rfl rfl dX0_carryOut_145 ⟨Nat.le_of_ble_eq_true rfl, Nat.le_of_ble_eq_true rfl⟩ (fun r20 u20 H locs hp20 hP hD hS => ?_)
    obtain ⟨rfl, rfl⟩ := hp20
    have hP : kp g [X0W g oC rC ((X0_setThumb_f vC aC p1).2) aC] H := hP
    have hD : kd A [X0W g oC rC ((X0_setThumb_f vC aC p1).2) aC] := hD
    have hF := (show X0_carryOut_f vC aC p0 p1 p2 p3 = ((X0_setThumb_f vC aC p1).1, (X0_setThumb_f vC aC p1).2, aC) from (if_neg c1).trans ((if_neg c3).trans ((if_neg c5).trans ((if_neg c7).trans ((if_neg c9).trans ((if_neg c11).trans ((if_neg c13).trans ((if_neg c15).trans ((if_neg c17).trans ((if_pos c19).trans (rfl)))))))))))
    exact kM_ret (x := (X0_setThumb_f vC aC p1).1) C hP hD hS ⟨by rw [hF], by rw [hF]⟩ dX0_carryOut_148
  by_cases c21 : p0 = 119
  · refine lv_lookup (off := 148) (tgt := 149) hx hb dX0_carryOut_1 (by decide) (by rw [c21]; try rfl) (by decide) ?_
    have z1 := hG1 (Or.inr (Or.inl c21))
    refine lv_aload_n hx hb dX0_carryOut_149 rfl (lv_at hl 0 rfl) ?_
    refine lv_iload_n hx hb dX0_carryOut_150 rfl (lv_at hl 2 rfl) ?_
    refine kM_V (As := [.int p1]) (rest := []) (wr := []) C (X0_weighBag_c l g oC rC vC aC p1 (by first | assumption)) (cwV 1 hts (k_gV kw585 ca_X0_weighBag) rfl rfl rfl ⟨rfl, pnX0_weighBag⟩ ⟨Nat.le_of_ble_eq_true rfl, Nat.le_of_ble_eq_true rfl⟩) hE hS hA hP hD [0] [] rfl rfl ⟨rfl, rfl, by decide⟩ (k_recv C kFX0 hP (i := 0) (q := 0) rfl rfl) rfl hl.1 rfl rfl dX0_carryOut_151 ⟨Nat.le_of_ble_eq_true rfl, Nat.le_of_ble_eq_true rfl⟩ (fun r22 u22 H locs hp22 hP hD hS => ?_)
    obtain ⟨rfl, rfl⟩ := hp22
    have hP : kp g [X0W g oC rC vC ((X0_weighBag_f vC aC p1).2)] H := hP
    have hD : kd A [X0W g oC rC vC ((X0_weighBag_f vC aC p1).2)] := hD
    have hF := (show X0_carryOut_f vC aC p0 p1 p2 p3 = ((X0_weighBag_f vC aC p1).1, vC, (X0_weighBag_f vC aC p1).2) from (if_neg c1).trans ((if_neg c3).trans ((if_neg c5).trans ((if_neg c7).trans ((if_neg c9).trans ((if_neg c11).trans ((if_neg c13).trans ((if_neg c15).trans ((if_neg c17).trans ((if_neg c19).trans ((if_pos c21).trans (rfl))))))))))))
    exact kM_ret (x := (X0_weighBag_f vC aC p1).1) C hP hD hS ⟨by rw [hF], by rw [hF]⟩ dX0_carryOut_154
  by_cases c23 : p0 = 120
  · refine lv_lookup (off := 171) (tgt := 172) hx hb dX0_carryOut_1 (by decide) (by rw [c23]; try rfl) (by decide) ?_
    have z1 := hG3 c23
    refine lv_aload_n hx hb dX0_carryOut_172 rfl (lv_at hl 0 rfl) ?_
    refine lv_iload_n hx hb dX0_carryOut_173 rfl (lv_at hl 2 rfl) ?_
    refine kM_V (As := [.int p1]) (rest := []) (wr := []) C (X0_sealWeight_c l g oC rC vC aC p1 (by first | assumption)) (cwV 1 hts (k_gV kw631 ca_X0_sealWeight) rfl rfl rfl ⟨rfl, pnX0_sealWeight⟩ ⟨Nat.le_of_ble_eq_true rfl, Nat.le_of_ble_eq_true rfl⟩) hE hS hA hP hD [0] [] rfl rfl ⟨rfl, rfl, by decide⟩ (k_recv C kFX0 hP (i := 0) (q := 0) rfl rfl) rfl hl.1 rfl rfl dX0_carryOut_174 ⟨Nat.le_of_ble_eq_true rfl, Nat.le_of_ble_eq_true rfl⟩ (fun r24 u24 H locs hp24 hP hD hS => ?_)
    obtain ⟨rfl, rfl⟩ := hp24
    have hP : kp g [X0W g oC rC ((X0_sealWeight_f vC aC p1).2.1) ((X0_sealWeight_f vC aC p1).2.2)] H := hP
    have hD : kd A [X0W g oC rC ((X0_sealWeight_f vC aC p1).2.1) ((X0_sealWeight_f vC aC p1).2.2)] := hD
    have hF := (show X0_carryOut_f vC aC p0 p1 p2 p3 = ((X0_sealWeight_f vC aC p1).1, (X0_sealWeight_f vC aC p1).2.1, (X0_sealWeight_f vC aC p1).2.2) from (if_neg c1).trans ((if_neg c3).trans ((if_neg c5).trans ((if_neg c7).trans ((if_neg c9).trans ((if_neg c11).trans ((if_neg c13).trans ((if_neg c15).trans ((if_neg c17).trans ((if_neg c19).trans ((if_neg c21).trans ((if_pos c23).trans (rfl)))))))))))))
    exact kM_ret (x := (X0_sealWeight_f vC aC p1).1) C hP hD hS ⟨by rw [hF], by rw [hF]⟩ dX0_carryOut_177
  refine lv_lookup (off := 183) (tgt := 184) hx hb dX0_carryOut_1 (by decide) (by show Op.lookupswitch.offset [(66, 114), (74, 107), (98, 136), (101, 129), (102, 120), (103, 165), (110, 177), (111, 160), (115, 154), (116, 142), (119, 148), (120, 171)] 183 _ = _; rw [lv_osw (a := 66) c1 (by decide), lv_osw (a := 74) c3 (by decide), lv_osw (a := 98) c5 (by decide), lv_osw (a := 101) c7 (by decide), lv_osw (a := 102) c9 (by decide), lv_osw (a := 103) c11 (by decide), lv_osw (a := 110) c13 (by decide), lv_osw (a := 111) c15 (by decide), lv_osw (a := 115) c17 (by decide), lv_osw (a := 116) c19 (by decide), lv_osw (a := 119) c21 (by decide), lv_osw (a := 120) c23 (by decide)]; try rfl) (by decide) ?_
  refine lv_iconst (v := 0) hx hb dX0_carryOut_184 (by decide) ?_
  have hF := (show X0_carryOut_f vC aC p0 p1 p2 p3 = (0, vC, aC) from (if_neg c1).trans ((if_neg c3).trans ((if_neg c5).trans ((if_neg c7).trans ((if_neg c9).trans ((if_neg c11).trans ((if_neg c13).trans ((if_neg c15).trans ((if_neg c17).trans ((if_neg c19).trans ((if_neg c21).trans ((if_neg c23).trans (rfl)))))))))))))
  exact kM_ret (x := 0) C hP hD hS ⟨by rw [hF], by rw [hF]⟩ dX0_carryOut_185

abbrev wX0_copyFrom : List Cond := Cond.code yX0_copyFrom cX0_copyFrom 2 none :: kW
def X0_copyFrom_f (vO : Nat → Int32) (aO : Nat → Nat → Int32) (vC : Nat → Int32) (aC : Nat → Nat → Int32) : (Nat → Int32) × (Nat → Nat → Int32) :=
  (upd (upd (upd (upd (upd (upd (upd (upd (upd (upd vC 0 (vO 0)) 1 (vO 1)) 2 (vO 2)) 3 (vO 3)) 4 (vO 4)) 7 (vO 7)) 15 (vO 15)) 16 (vO 16)) 17 (vO 17)) 18 (vO 18), va_up (va_up (va_up (va_up (va_up (va_up (va_up (va_up (va_up aC 5 (aO 5)) 6 (aO 6)) 8 (aO 8)) 9 (aO 9)) 10 (aO 10)) 11 (aO 11)) 12 (aO 12)) 13 (aO 13)) 14 (aO 14))
set_option maxHeartbeats 4000000 in
set_option maxRecDepth 100000 in
theorem X0_copyFrom_c (l : Launch) (g : kG) (oO : Nat) (rO : Nat → Nat) (vO : Nat → Int32) (aO : Nat → Nat → Int32) (oC : Nat) (rC : Nat → Nat) (vC : Nat → Int32) (aC : Nat → Nat → Int32) : kV l yX0_copyFrom wX0_copyFrom 1 60 0 0 g [.ref oC, .ref oO] [X0W g oO rO vO aO, X0W g oC rC vC aC] (fun u => u = [X0W g oO rO vO aO, X0W g oC rC ((X0_copyFrom_f vO aO vC aC).1) ((X0_copyFrom_f vO aO vC aC).2)]) := by
  refine kV_of (cc := cX0_copyFrom) (nL := 2) (ret := none) (lv := [(0, .ref oC), (1, .ref oO)]) (by decide) rfl (Nat.le_of_ble_eq_true rfl) rfl ?_
  intro p e s m args below meth c ls A hnm C hP hD hE hA hS hl
  have C : kC p c cX0_copyFrom s m args meth RX0 g 2 none := C
  have hx := C.1.1
  have hb := C.1.2.1
  have hts := C.1.2.2.2.2
  refine lv_aload_n hx hb dX0_copyFrom_0 rfl (lv_at hl 0 rfl) ?_
  refine lv_aload_n hx hb dX0_copyFrom_1 rfl (lv_at hl 1 rfl) ?_
  refine kg_get C kFX0 (k := 0) kw113 hP (i := 0) (q := 0) rfl rfl (by decide) rfl dX0_copyFrom_2 ?_
  refine kg_put C kFX0 (k := 0) kw113 hP hD hS (i := 1) (q := 0) rfl rfl (by decide) rfl rfl rfl (Nat.le_of_ble_eq_true rfl) X0s_0 rfl dX0_copyFrom_5 (fun H locs hP hD hS => ?_)
  have hP : kp g [X0W g oO rO vO aO, X0W g oC rC (upd vC 0 (vO 0)) aC] H := hP
  have hD : kd A [X0W g oO rO vO aO, X0W g oC rC (upd vC 0 (vO 0)) aC] := hD
  refine lv_aload_n hx hb dX0_copyFrom_8 rfl (lv_at hl 0 rfl) ?_
  refine lv_aload_n hx hb dX0_copyFrom_9 rfl (lv_at hl 1 rfl) ?_
  refine kg_get C kFX0 (k := 1) kw115 hP (i := 0) (q := 0) rfl rfl (by decide) rfl dX0_copyFrom_10 ?_
  refine kg_put C kFX0 (k := 1) kw115 hP hD hS (i := 1) (q := 0) rfl rfl (by decide) rfl rfl rfl (Nat.le_of_ble_eq_true rfl) X0s_1 rfl dX0_copyFrom_13 (fun H locs hP hD hS => ?_)
  have hP : kp g [X0W g oO rO vO aO, X0W g oC rC (upd (upd vC 0 (vO 0)) 1 (vO 1)) aC] H := hP
  have hD : kd A [X0W g oO rO vO aO, X0W g oC rC (upd (upd vC 0 (vO 0)) 1 (vO 1)) aC] := hD
  refine lv_aload_n hx hb dX0_copyFrom_16 rfl (lv_at hl 0 rfl) ?_
  refine lv_aload_n hx hb dX0_copyFrom_17 rfl (lv_at hl 1 rfl) ?_
  refine kg_get C kFX0 (k := 2) kw118 hP (i := 0) (q := 0) rfl rfl (by decide) rfl dX0_copyFrom_18 ?_
  refine kg_put C kFX0 (k := 2) kw118 hP hD hS (i := 1) (q := 0) rfl rfl (by decide) rfl rfl rfl (Nat.le_of_ble_eq_true rfl) X0s_2 rfl dX0_copyFrom_21 (fun H locs hP hD hS => ?_)
  have hP : kp g [X0W g oO rO vO aO, X0W g oC rC (upd (upd (upd vC 0 (vO 0)) 1 (vO 1)) 2 (vO 2)) aC] H := hP
  have hD : kd A [X0W g oO rO vO aO, X0W g oC rC (upd (upd (upd vC 0 (vO 0)) 1 (vO 1)) 2 (vO 2)) aC] := hD
  refine lv_aload_n hx hb dX0_copyFrom_24 rfl (lv_at hl 0 rfl) ?_
  refine lv_aload_n hx hb dX0_copyFrom_25 rfl (lv_at hl 1 rfl) ?_
  refine kg_get C kFX0 (k := 3) kw121 hP (i := 0) (q := 0) rfl rfl (by decide) rfl dX0_copyFrom_26 ?_
  refine kg_put C kFX0 (k := 3) kw121 hP hD hS (i := 1) (q := 0) rfl rfl (by decide) rfl rfl rfl (Nat.le_of_ble_eq_true rfl) X0s_3 rfl dX0_copyFrom_29 (fun H locs hP hD hS => ?_)
  have hP : kp g [X0W g oO rO vO aO, X0W g oC rC (upd (upd (upd (upd vC 0 (vO 0)) 1 (vO 1)) 2 (vO 2)) 3 (vO 3)) aC] H := hP
  have hD : kd A [X0W g oO rO vO aO, X0W g oC rC (upd (upd (upd (upd vC 0 (vO 0)) 1 (vO 1)) 2 (vO 2)) 3 (vO 3)) aC] := hD
  refine lv_aload_n hx hb dX0_copyFrom_32 rfl (lv_at hl 0 rfl) ?_
  refine lv_aload_n hx hb dX0_copyFrom_33 rfl (lv_at hl 1 rfl) ?_
  refine kg_get C kFX0 (k := 4) kw124 hP (i := 0) (q := 0) rfl rfl (by decide) rfl dX0_copyFrom_34 ?_
  refine kg_put C kFX0 (k := 4) kw124 hP hD hS (i := 1) (q := 0) rfl rfl (by decide) rfl rfl rfl (Nat.le_of_ble_eq_true rfl) X0s_4 rfl dX0_copyFrom_37 (fun H locs hP hD hS => ?_)
  have hP : kp g [X0W g oO rO vO aO, X0W g oC rC (upd (upd (upd (upd (upd vC 0 (vO 0)) 1 (vO 1)) 2 (vO 2)) 3 (vO 3)) 4 (vO 4)) aC] H := hP
  have hD : kd A [X0W g oO rO vO aO, X0W g oC rC (upd (upd (upd (upd (upd vC 0 (vO 0)) 1 (vO 1)) 2 (vO 2)) 3 (vO 3)) 4 (vO 4)) aC] := hD
  refine lv_aload_n hx hb dX0_copyFrom_40 rfl (lv_at hl 1 rfl) ?_
  refine kg_get C kFX0 (k := 5) kw127 hP (i := 0) (q := 0) rfl rfl (by decide) rfl dX0_copyFrom_41 ?_
  refine lv_iconst (v := 0) hx hb dX0_copyFrom_44 (by decide) ?_
  refine lv_aload_n hx hb dX0_copyFrom_45 rfl (lv_at hl 0 rfl) ?_
  refine kg_get C kFX0 (k := 5) kw127 hP (i := 1) (q := 0) rfl rfl (by decide) rfl dX0_copyFrom_46 ?_
  refine lv_iconst (v := 0) hx hb dX0_copyFrom_49 (by decide) ?_
  refine lv_bipush (v := 6) hx hb dX0_copyFrom_50 (by decide) ?_
  refine kg_copyi C hl.1 kw338 kw340 kw339 kw82 (by intro i; rfl) hP hD hS (i0 := 0) (q0 := 1) (i1 := 1) (q1 := 1) rfl rfl rfl rfl rfl (by decide) X0t_5 rfl (Nat.le_of_ble_eq_true rfl) (Nat.le_of_ble_eq_true rfl) dX0_copyFrom_52 (fun H locs hP hD hS => ?_)
  have hP : kp g [X0W g oO rO vO aO, X0W g oC rC (upd (upd (upd (upd (upd vC 0 (vO 0)) 1 (vO 1)) 2 (vO 2)) 3 (vO 3)) 4 (vO 4)) (va_up aC 5 (aO 5))] H := hP
  have hD : kd A [X0W g oO rO vO aO, X0W g oC rC (upd (upd (upd (upd (upd vC 0 (vO 0)) 1 (vO 1)) 2 (vO 2)) 3 (vO 3)) 4 (vO 4)) (va_up aC 5 (aO 5))] := hD
  refine lv_aload_n hx hb dX0_copyFrom_55 rfl (lv_at hl 1 rfl) ?_
  refine kg_get C kFX0 (k := 6) kw130 hP (i := 0) (q := 0) rfl rfl (by decide) rfl dX0_copyFrom_56 ?_
  refine lv_iconst (v := 0) hx hb dX0_copyFrom_59 (by decide) ?_
  refine lv_aload_n hx hb dX0_copyFrom_60 rfl (lv_at hl 0 rfl) ?_
  refine kg_get C kFX0 (k := 6) kw130 hP (i := 1) (q := 0) rfl rfl (by decide) rfl dX0_copyFrom_61 ?_
  refine lv_iconst (v := 0) hx hb dX0_copyFrom_64 (by decide) ?_
  refine lv_bipush (v := 6) hx hb dX0_copyFrom_65 (by decide) ?_
  refine kg_copyi C hl.1 kw338 kw340 kw339 kw82 (by intro i; rfl) hP hD hS (i0 := 0) (q0 := 2) (i1 := 1) (q1 := 2) rfl rfl rfl rfl rfl (by decide) X0t_6 rfl (Nat.le_of_ble_eq_true rfl) (Nat.le_of_ble_eq_true rfl) dX0_copyFrom_67 (fun H locs hP hD hS => ?_)
  have hP : kp g [X0W g oO rO vO aO, X0W g oC rC (upd (upd (upd (upd (upd vC 0 (vO 0)) 1 (vO 1)) 2 (vO 2)) 3 (vO 3)) 4 (vO 4)) (va_up (va_up aC 5 (aO 5)) 6 (aO 6))] H := hP
  have hD : kd A [X0W g oO rO vO aO, X0W g oC rC (upd (upd (upd (upd (upd vC 0 (vO 0)) 1 (vO 1)) 2 (vO 2)) 3 (vO 3)) 4 (vO 4)) (va_up (va_up aC 5 (aO 5)) 6 (aO 6))] := hD
  refine lv_aload_n hx hb dX0_copyFrom_70 rfl (lv_at hl 0 rfl) ?_
  refine lv_aload_n hx hb dX0_copyFrom_71 rfl (lv_at hl 1 rfl) ?_
  refine kg_get C kFX0 (k := 7) kw133 hP (i := 0) (q := 0) rfl rfl (by decide) rfl dX0_copyFrom_72 ?_
  refine kg_put C kFX0 (k := 7) kw133 hP hD hS (i := 1) (q := 0) rfl rfl (by decide) rfl rfl rfl (Nat.le_of_ble_eq_true rfl) X0s_7 rfl dX0_copyFrom_75 (fun H locs hP hD hS => ?_)
  have hP : kp g [X0W g oO rO vO aO, X0W g oC rC (upd (upd (upd (upd (upd (upd vC 0 (vO 0)) 1 (vO 1)) 2 (vO 2)) 3 (vO 3)) 4 (vO 4)) 7 (vO 7)) (va_up (va_up aC 5 (aO 5)) 6 (aO 6))] H := hP
  have hD : kd A [X0W g oO rO vO aO, X0W g oC rC (upd (upd (upd (upd (upd (upd vC 0 (vO 0)) 1 (vO 1)) 2 (vO 2)) 3 (vO 3)) 4 (vO 4)) 7 (vO 7)) (va_up (va_up aC 5 (aO 5)) 6 (aO 6))] := hD
  refine lv_aload_n hx hb dX0_copyFrom_78 rfl (lv_at hl 1 rfl) ?_
  refine kg_get C kFX0 (k := 8) kw136 hP (i := 0) (q := 0) rfl rfl (by decide) rfl dX0_copyFrom_79 ?_
  refine lv_iconst (v := 0) hx hb dX0_copyFrom_82 (by decide) ?_
  refine lv_aload_n hx hb dX0_copyFrom_83 rfl (lv_at hl 0 rfl) ?_
  refine kg_get C kFX0 (k := 8) kw136 hP (i := 1) (q := 0) rfl rfl (by decide) rfl dX0_copyFrom_84 ?_
  refine lv_iconst (v := 0) hx hb dX0_copyFrom_87 (by decide) ?_
  refine lv_bipush (v := 6) hx hb dX0_copyFrom_88 (by decide) ?_
  refine kg_copyi C hl.1 kw338 kw340 kw339 kw82 (by intro i; rfl) hP hD hS (i0 := 0) (q0 := 3) (i1 := 1) (q1 := 3) rfl rfl rfl rfl rfl (by decide) X0t_8 rfl (Nat.le_of_ble_eq_true rfl) (Nat.le_of_ble_eq_true rfl) dX0_copyFrom_90 (fun H locs hP hD hS => ?_)
  have hP : kp g [X0W g oO rO vO aO, X0W g oC rC (upd (upd (upd (upd (upd (upd vC 0 (vO 0)) 1 (vO 1)) 2 (vO 2)) 3 (vO 3)) 4 (vO 4)) 7 (vO 7)) (va_up (va_up (va_up aC 5 (aO 5)) 6 (aO 6)) 8 (aO 8))] H := hP
  have hD : kd A [X0W g oO rO vO aO, X0W g oC rC (upd (upd (upd (upd (upd (upd vC 0 (vO 0)) 1 (vO 1)) 2 (vO 2)) 3 (vO 3)) 4 (vO 4)) 7 (vO 7)) (va_up (va_up (va_up aC 5 (aO 5)) 6 (aO 6)) 8 (aO 8))] := hD
  refine lv_aload_n hx hb dX0_copyFrom_93 rfl (lv_at hl 1 rfl) ?_
  refine kg_get C kFX0 (k := 9) kw139 hP (i := 0) (q := 0) rfl rfl (by decide) rfl dX0_copyFrom_94 ?_
  refine lv_iconst (v := 0) hx hb dX0_copyFrom_97 (by decide) ?_
  refine lv_aload_n hx hb dX0_copyFrom_98 rfl (lv_at hl 0 rfl) ?_
  refine kg_get C kFX0 (k := 9) kw139 hP (i := 1) (q := 0) rfl rfl (by decide) rfl dX0_copyFrom_99 ?_
  refine lv_iconst (v := 0) hx hb dX0_copyFrom_102 (by decide) ?_
  refine lv_bipush (v := 6) hx hb dX0_copyFrom_103 (by decide) ?_
  refine kg_copyi C hl.1 kw338 kw340 kw339 kw82 (by intro i; rfl) hP hD hS (i0 := 0) (q0 := 4) (i1 := 1) (q1 := 4) rfl rfl rfl rfl rfl (by decide) X0t_9 rfl (Nat.le_of_ble_eq_true rfl) (Nat.le_of_ble_eq_true rfl) dX0_copyFrom_105 (fun H locs hP hD hS => ?_)
  have hP : kp g [X0W g oO rO vO aO, X0W g oC rC (upd (upd (upd (upd (upd (upd vC 0 (vO 0)) 1 (vO 1)) 2 (vO 2)) 3 (vO 3)) 4 (vO 4)) 7 (vO 7)) (va_up (va_up (va_up (va_up aC 5 (aO 5)) 6 (aO 6)) 8 (aO 8)) 9 (aO 9))] H := hP
  have hD : kd A [X0W g oO rO vO aO, X0W g oC rC (upd (upd (upd (upd (upd (upd vC 0 (vO 0)) 1 (vO 1)) 2 (vO 2)) 3 (vO 3)) 4 (vO 4)) 7 (vO 7)) (va_up (va_up (va_up (va_up aC 5 (aO 5)) 6 (aO 6)) 8 (aO 8)) 9 (aO 9))] := hD
  refine lv_aload_n hx hb dX0_copyFrom_108 rfl (lv_at hl 1 rfl) ?_
  refine kg_get C kFX0 (k := 10) kw141 hP (i := 0) (q := 0) rfl rfl (by decide) rfl dX0_copyFrom_109 ?_
  refine lv_iconst (v := 0) hx hb dX0_copyFrom_112 (by decide) ?_
  refine lv_aload_n hx hb dX0_copyFrom_113 rfl (lv_at hl 0 rfl) ?_
  refine kg_get C kFX0 (k := 10) kw141 hP (i := 1) (q := 0) rfl rfl (by decide) rfl dX0_copyFrom_114 ?_
  refine lv_iconst (v := 0) hx hb dX0_copyFrom_117 (by decide) ?_
  refine lv_bipush (v := 6) hx hb dX0_copyFrom_118 (by decide) ?_
  refine kg_copyi C hl.1 kw338 kw340 kw339 kw82 (by intro i; rfl) hP hD hS (i0 := 0) (q0 := 5) (i1 := 1) (q1 := 5) rfl rfl rfl rfl rfl (by decide) X0t_10 rfl (Nat.le_of_ble_eq_true rfl) (Nat.le_of_ble_eq_true rfl) dX0_copyFrom_120 (fun H locs hP hD hS => ?_)
  have hP : kp g [X0W g oO rO vO aO, X0W g oC rC (upd (upd (upd (upd (upd (upd vC 0 (vO 0)) 1 (vO 1)) 2 (vO 2)) 3 (vO 3)) 4 (vO 4)) 7 (vO 7)) (va_up (va_up (va_up (va_up (va_up aC 5 (aO 5)) 6 (aO 6)) 8 (aO 8)) 9 (aO 9)) 10 (aO 10))] H := hP
  have hD : kd A [X0W g oO rO vO aO, X0W g oC rC (upd (upd (upd (upd (upd (upd vC 0 (vO 0)) 1 (vO 1)) 2 (vO 2)) 3 (vO 3)) 4 (vO 4)) 7 (vO 7)) (va_up (va_up (va_up (va_up (va_up aC 5 (aO 5)) 6 (aO 6)) 8 (aO 8)) 9 (aO 9)) 10 (aO 10))] := hD
  refine lv_aload_n hx hb dX0_copyFrom_123 rfl (lv_at hl 1 rfl) ?_
  refine kg_get C kFX0 (k := 11) kw144 hP (i := 0) (q := 0) rfl rfl (by decide) rfl dX0_copyFrom_124 ?_
  refine lv_iconst (v := 0) hx hb dX0_copyFrom_127 (by decide) ?_
  refine lv_aload_n hx hb dX0_copyFrom_128 rfl (lv_at hl 0 rfl) ?_
  refine kg_get C kFX0 (k := 11) kw144 hP (i := 1) (q := 0) rfl rfl (by decide) rfl dX0_copyFrom_129 ?_
  refine lv_iconst (v := 0) hx hb dX0_copyFrom_132 (by decide) ?_
  refine lv_bipush (v := 6) hx hb dX0_copyFrom_133 (by decide) ?_
  refine kg_copyi C hl.1 kw338 kw340 kw339 kw82 (by intro i; rfl) hP hD hS (i0 := 0) (q0 := 6) (i1 := 1) (q1 := 6) rfl rfl rfl rfl rfl (by decide) X0t_11 rfl (Nat.le_of_ble_eq_true rfl) (Nat.le_of_ble_eq_true rfl) dX0_copyFrom_135 (fun H locs hP hD hS => ?_)
  have hP : kp g [X0W g oO rO vO aO, X0W g oC rC (upd (upd (upd (upd (upd (upd vC 0 (vO 0)) 1 (vO 1)) 2 (vO 2)) 3 (vO 3)) 4 (vO 4)) 7 (vO 7)) (va_up (va_up (va_up (va_up (va_up (va_up aC 5 (aO 5)) 6 (aO 6)) 8 (aO 8)) 9 (aO 9)) 10 (aO 10)) 11 (aO 11))] H := hP
  have hD : kd A [X0W g oO rO vO aO, X0W g oC rC (upd (upd (upd (upd (upd (upd vC 0 (vO 0)) 1 (vO 1)) 2 (vO 2)) 3 (vO 3)) 4 (vO 4)) 7 (vO 7)) (va_up (va_up (va_up (va_up (va_up (va_up aC 5 (aO 5)) 6 (aO 6)) 8 (aO 8)) 9 (aO 9)) 10 (aO 10)) 11 (aO 11))] := hD
  refine lv_aload_n hx hb dX0_copyFrom_138 rfl (lv_at hl 1 rfl) ?_
  refine kg_get C kFX0 (k := 12) kw147 hP (i := 0) (q := 0) rfl rfl (by decide) rfl dX0_copyFrom_139 ?_
  refine lv_iconst (v := 0) hx hb dX0_copyFrom_142 (by decide) ?_
  refine lv_aload_n hx hb dX0_copyFrom_143 rfl (lv_at hl 0 rfl) ?_
  refine kg_get C kFX0 (k := 12) kw147 hP (i := 1) (q := 0) rfl rfl (by decide) rfl dX0_copyFrom_144 ?_
  refine lv_iconst (v := 0) hx hb dX0_copyFrom_147 (by decide) ?_
  refine lv_bipush (v := 6) hx hb dX0_copyFrom_148 (by decide) ?_
  refine kg_copyi C hl.1 kw338 kw340 kw339 kw82 (by intro i; rfl) hP hD hS (i0 := 0) (q0 := 7) (i1 := 1) (q1 := 7) rfl rfl rfl rfl rfl (by decide) X0t_12 rfl (Nat.le_of_ble_eq_true rfl) (Nat.le_of_ble_eq_true rfl) dX0_copyFrom_150 (fun H locs hP hD hS => ?_)
  have hP : kp g [X0W g oO rO vO aO, X0W g oC rC (upd (upd (upd (upd (upd (upd vC 0 (vO 0)) 1 (vO 1)) 2 (vO 2)) 3 (vO 3)) 4 (vO 4)) 7 (vO 7)) (va_up (va_up (va_up (va_up (va_up (va_up (va_up aC 5 (aO 5)) 6 (aO 6)) 8 (aO 8)) 9 (aO 9)) 10 (aO 10)) 11 (aO 11)) 12 (aO 12))] H := hP
  have hD : kd A [X0W g oO rO vO aO, X0W g oC rC (upd (upd (upd (upd (upd (upd vC 0 (vO 0)) 1 (vO 1)) 2 (vO 2)) 3 (vO 3)) 4 (vO 4)) 7 (vO 7)) (va_up (va_up (va_up (va_up (va_up (va_up (va_up aC 5 (aO 5)) 6 (aO 6)) 8 (aO 8)) 9 (aO 9)) 10 (aO 10)) 11 (aO 11)) 12 (aO 12))] := hD
  refine lv_aload_n hx hb dX0_copyFrom_153 rfl (lv_at hl 1 rfl) ?_
  refine kg_get C kFX0 (k := 13) kw149 hP (i := 0) (q := 0) rfl rfl (by decide) rfl dX0_copyFrom_154 ?_
  refine lv_iconst (v := 0) hx hb dX0_copyFrom_157 (by decide) ?_
  refine lv_aload_n hx hb dX0_copyFrom_158 rfl (lv_at hl 0 rfl) ?_
  refine kg_get C kFX0 (k := 13) kw149 hP (i := 1) (q := 0) rfl rfl (by decide) rfl dX0_copyFrom_159 ?_
  refine lv_iconst (v := 0) hx hb dX0_copyFrom_162 (by decide) ?_
  refine lv_bipush (v := 8) hx hb dX0_copyFrom_163 (by decide) ?_
  refine kg_copyi C hl.1 kw338 kw340 kw339 kw82 (by intro i; rfl) hP hD hS (i0 := 0) (q0 := 8) (i1 := 1) (q1 := 8) rfl rfl rfl rfl rfl (by decide) X0t_13 rfl (Nat.le_of_ble_eq_true rfl) (Nat.le_of_ble_eq_true rfl) dX0_copyFrom_165 (fun H locs hP hD hS => ?_)
  have hP : kp g [X0W g oO rO vO aO, X0W g oC rC (upd (upd (upd (upd (upd (upd vC 0 (vO 0)) 1 (vO 1)) 2 (vO 2)) 3 (vO 3)) 4 (vO 4)) 7 (vO 7)) (va_up (va_up (va_up (va_up (va_up (va_up (va_up (va_up aC 5 (aO 5)) 6 (aO 6)) 8 (aO 8)) 9 (aO 9)) 10 (aO 10)) 11 (aO 11)) 12 (aO 12)) 13 (aO 13))] H := hP
  have hD : kd A [X0W g oO rO vO aO, X0W g oC rC (upd (upd (upd (upd (upd (upd vC 0 (vO 0)) 1 (vO 1)) 2 (vO 2)) 3 (vO 3)) 4 (vO 4)) 7 (vO 7)) (va_up (va_up (va_up (va_up (va_up (va_up (va_up (va_up aC 5 (aO 5)) 6 (aO 6)) 8 (aO 8)) 9 (aO 9)) 10 (aO 10)) 11 (aO 11)) 12 (aO 12)) 13 (aO 13))] := hD
  refine lv_aload_n hx hb dX0_copyFrom_168 rfl (lv_at hl 1 rfl) ?_
  refine kg_get C kFX0 (k := 14) kw151 hP (i := 0) (q := 0) rfl rfl (by decide) rfl dX0_copyFrom_169 ?_
  refine lv_iconst (v := 0) hx hb dX0_copyFrom_172 (by decide) ?_
  refine lv_aload_n hx hb dX0_copyFrom_173 rfl (lv_at hl 0 rfl) ?_
  refine kg_get C kFX0 (k := 14) kw151 hP (i := 1) (q := 0) rfl rfl (by decide) rfl dX0_copyFrom_174 ?_
  refine lv_iconst (v := 0) hx hb dX0_copyFrom_177 (by decide) ?_
  refine lv_iconst (v := 4) hx hb dX0_copyFrom_178 (by decide) ?_
  refine kg_copyi C hl.1 kw338 kw340 kw339 kw82 (by intro i; rfl) hP hD hS (i0 := 0) (q0 := 9) (i1 := 1) (q1 := 9) rfl rfl rfl rfl rfl (by decide) X0t_14 rfl (Nat.le_of_ble_eq_true rfl) (Nat.le_of_ble_eq_true rfl) dX0_copyFrom_179 (fun H locs hP hD hS => ?_)
  have hP : kp g [X0W g oO rO vO aO, X0W g oC rC (upd (upd (upd (upd (upd (upd vC 0 (vO 0)) 1 (vO 1)) 2 (vO 2)) 3 (vO 3)) 4 (vO 4)) 7 (vO 7)) (va_up (va_up (va_up (va_up (va_up (va_up (va_up (va_up (va_up aC 5 (aO 5)) 6 (aO 6)) 8 (aO 8)) 9 (aO 9)) 10 (aO 10)) 11 (aO 11)) 12 (aO 12)) 13 (aO 13)) 14 (aO 14))] H := hP
  have hD : kd A [X0W g oO rO vO aO, X0W g oC rC (upd (upd (upd (upd (upd (upd vC 0 (vO 0)) 1 (vO 1)) 2 (vO 2)) 3 (vO 3)) 4 (vO 4)) 7 (vO 7)) (va_up (va_up (va_up (va_up (va_up (va_up (va_up (va_up (va_up aC 5 (aO 5)) 6 (aO 6)) 8 (aO 8)) 9 (aO 9)) 10 (aO 10)) 11 (aO 11)) 12 (aO 12)) 13 (aO 13)) 14 (aO 14))] := hD
  refine lv_aload_n hx hb dX0_copyFrom_182 rfl (lv_at hl 0 rfl) ?_
  refine lv_aload_n hx hb dX0_copyFrom_183 rfl (lv_at hl 1 rfl) ?_
  refine kg_get C kFX0 (k := 15) kw153 hP (i := 0) (q := 0) rfl rfl (by decide) rfl dX0_copyFrom_184 ?_
  refine kg_put C kFX0 (k := 15) kw153 hP hD hS (i := 1) (q := 0) rfl rfl (by decide) rfl rfl rfl (Nat.le_of_ble_eq_true rfl) X0s_15 rfl dX0_copyFrom_187 (fun H locs hP hD hS => ?_)
  have hP : kp g [X0W g oO rO vO aO, X0W g oC rC (upd (upd (upd (upd (upd (upd (upd vC 0 (vO 0)) 1 (vO 1)) 2 (vO 2)) 3 (vO 3)) 4 (vO 4)) 7 (vO 7)) 15 (vO 15)) (va_up (va_up (va_up (va_up (va_up (va_up (va_up (va_up (va_up aC 5 (aO 5)) 6 (aO 6)) 8 (aO 8)) 9 (aO 9)) 10 (aO 10)) 11 (aO 11)) 12 (aO 12)) 13 (aO 13)) 14 (aO 14))] H := hP
  have hD : kd A [X0W g oO rO vO aO, X0W g oC rC (upd (upd (upd (upd (upd (upd (upd vC 0 (vO 0)) 1 (vO 1)) 2 (vO 2)) 3 (vO 3)) 4 (vO 4)) 7 (vO 7)) 15 (vO 15)) (va_up (va_up (va_up (va_up (va_up (va_up (va_up (va_up (va_up aC 5 (aO 5)) 6 (aO 6)) 8 (aO 8)) 9 (aO 9)) 10 (aO 10)) 11 (aO 11)) 12 (aO 12)) 13 (aO 13)) 14 (aO 14))] := hD
  refine lv_aload_n hx hb dX0_copyFrom_190 rfl (lv_at hl 0 rfl) ?_
  refine lv_aload_n hx hb dX0_copyFrom_191 rfl (lv_at hl 1 rfl) ?_
  refine kg_get C kFX0 (k := 16) kw155 hP (i := 0) (q := 0) rfl rfl (by decide) rfl dX0_copyFrom_192 ?_
  refine kg_put C kFX0 (k := 16) kw155 hP hD hS (i := 1) (q := 0) rfl rfl (by decide) rfl rfl rfl (Nat.le_of_ble_eq_true rfl) X0s_16 rfl dX0_copyFrom_195 (fun H locs hP hD hS => ?_)
  have hP : kp g [X0W g oO rO vO aO, X0W g oC rC (upd (upd (upd (upd (upd (upd (upd (upd vC 0 (vO 0)) 1 (vO 1)) 2 (vO 2)) 3 (vO 3)) 4 (vO 4)) 7 (vO 7)) 15 (vO 15)) 16 (vO 16)) (va_up (va_up (va_up (va_up (va_up (va_up (va_up (va_up (va_up aC 5 (aO 5)) 6 (aO 6)) 8 (aO 8)) 9 (aO 9)) 10 (aO 10)) 11 (aO 11)) 12 (aO 12)) 13 (aO 13)) 14 (aO 14))] H := hP
  have hD : kd A [X0W g oO rO vO aO, X0W g oC rC (upd (upd (upd (upd (upd (upd (upd (upd vC 0 (vO 0)) 1 (vO 1)) 2 (vO 2)) 3 (vO 3)) 4 (vO 4)) 7 (vO 7)) 15 (vO 15)) 16 (vO 16)) (va_up (va_up (va_up (va_up (va_up (va_up (va_up (va_up (va_up aC 5 (aO 5)) 6 (aO 6)) 8 (aO 8)) 9 (aO 9)) 10 (aO 10)) 11 (aO 11)) 12 (aO 12)) 13 (aO 13)) 14 (aO 14))] := hD
  refine lv_aload_n hx hb dX0_copyFrom_198 rfl (lv_at hl 0 rfl) ?_
  refine lv_aload_n hx hb dX0_copyFrom_199 rfl (lv_at hl 1 rfl) ?_
  refine kg_get C kFX0 (k := 17) kw157 hP (i := 0) (q := 0) rfl rfl (by decide) rfl dX0_copyFrom_200 ?_
  refine kg_put C kFX0 (k := 17) kw157 hP hD hS (i := 1) (q := 0) rfl rfl (by decide) rfl rfl rfl (Nat.le_of_ble_eq_true rfl) X0s_17 rfl dX0_copyFrom_203 (fun H locs hP hD hS => ?_)
  have hP : kp g [X0W g oO rO vO aO, X0W g oC rC (upd (upd (upd (upd (upd (upd (upd (upd (upd vC 0 (vO 0)) 1 (vO 1)) 2 (vO 2)) 3 (vO 3)) 4 (vO 4)) 7 (vO 7)) 15 (vO 15)) 16 (vO 16)) 17 (vO 17)) (va_up (va_up (va_up (va_up (va_up (va_up (va_up (va_up (va_up aC 5 (aO 5)) 6 (aO 6)) 8 (aO 8)) 9 (aO 9)) 10 (aO 10)) 11 (aO 11)) 12 (aO 12)) 13 (aO 13)) 14 (aO 14))] H := hP
  have hD : kd A [X0W g oO rO vO aO, X0W g oC rC (upd (upd (upd (upd (upd (upd (upd (upd (upd vC 0 (vO 0)) 1 (vO 1)) 2 (vO 2)) 3 (vO 3)) 4 (vO 4)) 7 (vO 7)) 15 (vO 15)) 16 (vO 16)) 17 (vO 17)) (va_up (va_up (va_up (va_up (va_up (va_up (va_up (va_up (va_up aC 5 (aO 5)) 6 (aO 6)) 8 (aO 8)) 9 (aO 9)) 10 (aO 10)) 11 (aO 11)) 12 (aO 12)) 13 (aO 13)) 14 (aO 14))] := hD
  refine lv_aload_n hx hb dX0_copyFrom_206 rfl (lv_at hl 0 rfl) ?_
  refine lv_aload_n hx hb dX0_copyFrom_207 rfl (lv_at hl 1 rfl) ?_
  refine kg_get C kFX0 (k := 18) kw159 hP (i := 0) (q := 0) rfl rfl (by decide) rfl dX0_copyFrom_208 ?_
  refine kg_put C kFX0 (k := 18) kw159 hP hD hS (i := 1) (q := 0) rfl rfl (by decide) rfl rfl rfl (Nat.le_of_ble_eq_true rfl) X0s_18 rfl dX0_copyFrom_211 (fun H locs hP hD hS => ?_)
  have hP : kp g [X0W g oO rO vO aO, X0W g oC rC (upd (upd (upd (upd (upd (upd (upd (upd (upd (upd vC 0 (vO 0)) 1 (vO 1)) 2 (vO 2)) 3 (vO 3)) 4 (vO 4)) 7 (vO 7)) 15 (vO 15)) 16 (vO 16)) 17 (vO 17)) 18 (vO 18)) (va_up (va_up (va_up (va_up (va_up (va_up (va_up (va_up (va_up aC 5 (aO 5)) 6 (aO 6)) 8 (aO 8)) 9 (aO 9)) 10 (aO 10)) 11 (aO 11)) 12 (aO 12)) 13 (aO 13)) 14 (aO 14))] H := hP
  have hD : kd A [X0W g oO rO vO aO, X0W g oC rC (upd (upd (upd (upd (upd (upd (upd (upd (upd (upd vC 0 (vO 0)) 1 (vO 1)) 2 (vO 2)) 3 (vO 3)) 4 (vO 4)) 7 (vO 7)) 15 (vO 15)) 16 (vO 16)) 17 (vO 17)) 18 (vO 18)) (va_up (va_up (va_up (va_up (va_up (va_up (va_up (va_up (va_up aC 5 (aO 5)) 6 (aO 6)) 8 (aO 8)) 9 (aO 9)) 10 (aO 10)) 11 (aO 11)) 12 (aO 12)) 13 (aO 13)) 14 (aO 14))] := hD
  have hF := (show X0_copyFrom_f vO aO vC aC = (upd (upd (upd (upd (upd (upd (upd (upd (upd (upd vC 0 (vO 0)) 1 (vO 1)) 2 (vO 2)) 3 (vO 3)) 4 (vO 4)) 7 (vO 7)) 15 (vO 15)) 16 (vO 16)) 17 (vO 17)) 18 (vO 18), va_up (va_up (va_up (va_up (va_up (va_up (va_up (va_up (va_up aC 5 (aO 5)) 6 (aO 6)) 8 (aO 8)) 9 (aO 9)) 10 (aO 10)) 11 (aO 11)) 12 (aO 12)) 13 (aO 13)) 14 (aO 14)) from rfl)
  exact kV_ret C hP hD hS (by rw [hF]) dX0_copyFrom_214
