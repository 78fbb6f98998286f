
theorem kw84 : Cond.initialized "java/lang/Math" ∈ kW := k_w 2 16 rfl rfl
theorem kw115 : Cond.fieldLink RX0 46 "SpiceScale$Caravan" "market" "I" ∈ kW := k_w 2 47 rfl rfl
theorem kw141 : Cond.fieldLink RX0 28 "SpiceScale$Caravan" "bagSpice" "[I" ∈ kW := k_w 2 73 rfl rfl
theorem kw428 : Cond.methodLink RX0 120 yX0_loadOf ∈ kW := k_w 3 120 rfl rfl
theorem kw432 : Cond.methodLink RX0 123 yX0_weightsFor ∈ kW := k_w 3 124 rfl rfl
theorem kw594 : Cond.methodLink RX0 133 yX0_coinsFor ∈ kW := k_w 4 46 rfl rfl
theorem kw601 : Cond.methodLink RX0 139 yX0_isOathInForce ∈ kW := k_w 4 53 rfl rfl
theorem kw610 : Cond.methodLink RX0 136 yX0_distanceTo ∈ kW := k_w 4 62 rfl rfl
theorem kw616 : Cond.methodLink RX0 161 Lib.Math.abs.name ∈ kW := k_w 4 68 rfl rfl
theorem kw617 : Cond.static Lib.Math.abs.name ∈ kW := k_w 4 69 rfl rfl
theorem kw618 : Cond.code Lib.Math.abs.name Lib.Math.abs.code 1 (some .int) ∈ kW := k_w 4 70 rfl rfl
theorem kw799 : Cond.methodLink RX0 170 yX0_shortnessTogether ∈ kW := k_w 5 11 rfl rfl
theorem kw1413 : Cond.methodLink RX0 176 yX0_netOf ∈ kW := k_w 7 145 rfl rfl
theorem kw1425 : Cond.methodLink RX0 179 yX0_isBefore ∈ kW := k_w 7 157 rfl rfl
abbrev wX0_shortnessTogether : List Cond := Cond.code yX0_shortnessTogether cX0_shortnessTogether 4 (some .int) :: kW
def X0_shortnessTogether_lp4b (vC : Nat → Int32) (aC : Nat → Nat → Int32) (p0 : Int32) (rec : Int32 → Int32 → Int32) (x2_4 x3_4 : Int32) : Int32 :=
  if 8 ≤ x3_4 then x2_4
  else if (X4_isAmong_f x3_4 p0) = true then rec (x2_4 + (X0_shortnessOf_f vC aC x3_4)) (x3_4 + 1)
  else rec x2_4 (x3_4 + 1)
def X0_shortnessTogether_lp4 (vC : Nat → Int32) (aC : Nat → Nat → Int32) (p0 : Int32) : Nat → Int32 → Int32 → Int32
  | 0 => fun x2_4 x3_4 => 0
  | n + 1 => X0_shortnessTogether_lp4b vC aC p0 (X0_shortnessTogether_lp4 vC aC p0 n)
theorem X0_shortnessTogether_lp4_s (vC : Nat → Int32) (aC : Nat → Nat → Int32) (p0 : Int32) (n : Nat) (x2_4 x3_4 : Int32) : X0_shortnessTogether_lp4 vC aC p0 (n + 1) x2_4 x3_4 = X0_shortnessTogether_lp4b vC aC p0 (X0_shortnessTogether_lp4 vC aC p0 n) x2_4 x3_4 := rfl
def X0_shortnessTogether_f (vC : Nat → Int32) (aC : Nat → Nat → Int32) (p0 : Int32) : Int32 :=
  X0_shortnessTogether_lp4 vC aC p0 9 0 0
set_option maxHeartbeats 4000000 in
set_option maxRecDepth 100000 in
theorem X0_shortnessTogether_c (l : Launch) (g : kG) (oC : Nat) (rC : Nat → Nat) (vC : Nat → Int32) (aC : Nat → Nat → Int32) (p0 : Int32) : kR l yX0_shortnessTogether wX0_shortnessTogether 1 22 g [.ref oC, .int p0] [X0W g oC rC vC aC] ((X0_shortnessTogether_f vC aC p0)) := by
  refine kR_of (cc := cX0_shortnessTogether) (nL := 4) (ret := (some .int)) (lv := [(0, .ref oC), (1, .int p0)]) (by decide) rfl (Nat.le_of_ble_eq_true rfl) rfl ?_
  intro p e s m args below meth c ls C hP hE hl
  have hS : va_S (fun _ => False) s.heap s.heap [] := va_S.rf
  have C : kC p c cX0_shortnessTogether s m args meth RX0 g 4 (some .int) := C
  have hx := C.1.1
  have hb := C.1.2.1
  have hts := C.1.2.2.2.2
  have loop4 : ∀ (n : Nat) (j4 : Nat) (x2_4 x3_4 : Int32) (ls : Array Slot), j4 ≤ 8 → 8 < j4 + n → x3_4 = nI j4 → X0_shortnessTogether_f vC aC p0 = X0_shortnessTogether_lp4 vC aC p0 n x2_4 x3_4 → lv_has ls 4 [(3, .int x3_4), (2, .int x2_4), (0, .ref oC), (1, .int p0)] → W p l e (kRm 1 0 0 22) s m args below meth c s.heap [] 0 0 (MQ below (vp_Si (fun r => r = (X0_shortnessTogether_f vC aC p0))) args s 0 0 (fun _ => False)) (F0 m 4 ls []) := by
    intro n
    induction n with
    | zero =>
      intro j4 x2_4 x3_4 ls hi4 hn4 hx4 hF4 hl
      exact absurd hn4 (by omega)
    | succ n ih4 =>
      intro j4 x2_4 x3_4 ls hi4 hn4 hx4 hF4 hl
      refine lv_iload_n hx hb dX0_shortnessTogether_4 rfl (lv_at hl 0 rfl) ?_
      refine lv_bipush (v := 8) hx hb dX0_shortnessTogether_5 (by decide) ?_
      refine lv_icmp_ge (tgt := 32) hx hb dX0_shortnessTogether_7 (by decide) (fun c1 => ?_) (fun c1 => ?_)
      · refine lv_iload_n hx hb dX0_shortnessTogether_32 rfl (lv_at hl 1 rfl) ?_
        exact kR_ret C ((show X0_shortnessTogether_f vC aC p0 = x2_4 from hF4.trans ((X0_shortnessTogether_lp4_s vC aC p0 n x2_4 x3_4).trans ((if_pos c1).trans (rfl))))).symm dX0_shortnessTogether_33
      have hj4 := k_asc hx4 (y := 8) (N := 8) rfl hi4 (by omega) c1
      refine lv_iload_n hx hb dX0_shortnessTogether_10 rfl (lv_at hl 0 rfl) ?_
      refine lv_iload_n hx hb dX0_shortnessTogether_11 rfl (lv_at hl 3 rfl) ?_
      refine kR_SN (As := [.int x3_4, .int p0]) (rest := []) C (X4_isAmong_c l g x3_4 p0) ⟨va_cnB (host := "SpiceScale") 2 hts (k_gI cs_X4_isAmong.2.2) rfl rfl rfl (C.2.1.2 _ (List.mem_of_getElem? (i := 61) rfl)) (hts _ cs_X4_isAmong.2.1) pnX4_isAmong ⟨Nat.le_of_ble_eq_true rfl, Nat.le_of_ble_eq_true rfl⟩, hts _ cs_X4_isAmong.1, trivial⟩ hE hS (hP.pick [] rfl) rfl hl.1 rfl rfl dX0_shortnessTogether_12 ⟨Nat.le_of_ble_eq_true rfl, Nat.le_of_ble_eq_true rfl⟩ ?_
      refine lv_if_eq (tgt := 26) hx hb dX0_shortnessTogether_15 (by decide) (fun c2 => ?_) (fun c2 => ?_)
      · have c2 := b2i_eq0 c2
        refine lv_iinc (v := (x3_4 + 1)) (lv' := [(3, .int (x3_4 + 1)), (2, .int x2_4), (0, .ref oC), (1, .int p0)]) hx hb dX0_shortnessTogether_26 hl (k := 0) rfl rfl (by decide) rfl (fun ls hl => ?_)
        refine lv_goto (tgt := 4) hx hb dX0_shortnessTogether_29 (by decide) ?_
        exact ih4 (j4 + 1) x2_4 (x3_4 + 1) ls hj4 (by omega) (k_up hx4) (show X0_shortnessTogether_f vC aC p0 = X0_shortnessTogether_lp4 vC aC p0 n x2_4 (x3_4 + 1) from hF4.trans ((X0_shortnessTogether_lp4_s vC aC p0 n x2_4 x3_4).trans ((if_neg c1).trans ((if_neg c2).trans (rfl))))) (lv_sub hl [0, 1, 2, 3] rfl)
      have c2 := b2i_ne0 c2
      refine lv_iload_n hx hb dX0_shortnessTogether_18 rfl (lv_at hl 1 rfl) ?_
      refine lv_aload_n hx hb dX0_shortnessTogether_19 rfl (lv_at hl 2 rfl) ?_
      refine lv_iload_n hx hb dX0_shortnessTogether_20 rfl (lv_at hl 0 rfl) ?_
      refine kR_V (As := [.int x3_4]) (rest := [.int x2_4]) C (X0_shortnessOf_c l g oC rC vC aC x3_4 (by first | assumption | exact k_vin hx4 (by omega) (by decide))) (cwV 1 hts (k_gV kw438 ca_X0_shortnessOf) rfl rfl rfl ⟨rfl, pnX0_shortnessOf⟩ ⟨Nat.le_of_ble_eq_true rfl, Nat.le_of_ble_eq_true rfl⟩) hE hS (hP.pick [0] rfl) (k_recv C kFX0 hP (i := 0) (q := 0) rfl rfl) rfl hl.1 rfl rfl dX0_shortnessTogether_21 ⟨Nat.le_of_ble_eq_true rfl, Nat.le_of_ble_eq_true rfl⟩ ?_
      refine lv_iadd hx hb dX0_shortnessTogether_24 ?_
      refine lv_istore_n (lv' := [(2, .int (x2_4 + (X0_shortnessOf_f vC aC x3_4))), (3, .int x3_4), (0, .ref oC), (1, .int p0)]) hx hb dX0_shortnessTogether_25 rfl hl (by decide) rfl (fun ls hl => ?_)
      refine lv_iinc (v := (x3_4 + 1)) (lv' := [(3, .int (x3_4 + 1)), (2, .int (x2_4 + (X0_shortnessOf_f vC aC x3_4))), (0, .ref oC), (1, .int p0)]) hx hb dX0_shortnessTogether_26 hl (k := 1) rfl rfl (by decide) rfl (fun ls hl => ?_)
      refine lv_goto (tgt := 4) hx hb dX0_shortnessTogether_29 (by decide) ?_
      exact ih4 (j4 + 1) (x2_4 + (X0_shortnessOf_f vC aC x3_4)) (x3_4 + 1) ls hj4 (by omega) (k_up hx4) (show X0_shortnessTogether_f vC aC p0 = X0_shortnessTogether_lp4 vC aC p0 n (x2_4 + (X0_shortnessOf_f vC aC x3_4)) (x3_4 + 1) from hF4.trans ((X0_shortnessTogether_lp4_s vC aC p0 n x2_4 x3_4).trans ((if_neg c1).trans ((if_pos c2).trans (rfl))))) (lv_sub hl [0, 1, 2, 3] rfl)
  refine lv_iconst (v := 0) hx hb dX0_shortnessTogether_0 (by decide) ?_
  refine lv_istore_n (lv' := [(2, .int 0), (0, .ref oC), (1, .int p0)]) hx hb dX0_shortnessTogether_1 rfl hl (by decide) rfl (fun ls hl => ?_)
  refine lv_iconst (v := 0) hx hb dX0_shortnessTogether_2 (by decide) ?_
  refine lv_istore_n (lv' := [(3, .int 0), (2, .int 0), (0, .ref oC), (1, .int p0)]) hx hb dX0_shortnessTogether_3 rfl hl (by decide) rfl (fun ls hl => ?_)
  exact loop4 9 0 0 0 ls (by omega) (by omega) rfl (show X0_shortnessTogether_f vC aC p0 = X0_shortnessTogether_lp4 vC aC p0 9 0 0 from rfl) (lv_sub hl [0, 1, 2, 3] rfl)

theorem pnX0_shortnessTogether : yX0_shortnessTogether.cls ≠ "java/lang/invoke/MethodHandle" ∧ yX0_shortnessTogether.cls ≠ "java/lang/invoke/VarHandle" ∧ (parseMethodDescriptor yX0_shortnessTogether.desc).map (fun d => d.parameters.length) = some 1 := by decide +kernel
theorem ca_X0_shortnessTogether : kCal yX0_shortnessTogether (Cond.code yX0_shortnessTogether cX0_shortnessTogether 4 (some .int)) := ⟨k_w 5 13 rfl rfl, k_w 1 47 rfl rfl, k_w 2 2 rfl rfl, k_w 5 14 rfl rfl⟩

theorem pnX0_weightsFor : yX0_weightsFor.cls ≠ "java/lang/invoke/MethodHandle" ∧ yX0_weightsFor.cls ≠ "java/lang/invoke/VarHandle" ∧ (parseMethodDescriptor yX0_weightsFor.desc).map (fun d => d.parameters.length) = some 1 := by decide +kernel
theorem ca_X0_weightsFor : kCal yX0_weightsFor (Cond.code yX0_weightsFor cX0_weightsFor 6 (some .int)) := ⟨k_w 3 126 rfl rfl, k_w 1 19 rfl rfl, k_w 2 2 rfl rfl, k_w 3 127 rfl rfl⟩

theorem pnX4_toldBy : yX4_toldBy.cls ≠ "java/lang/invoke/MethodHandle" ∧ yX4_toldBy.cls ≠ "java/lang/invoke/VarHandle" ∧ (parseMethodDescriptor yX4_toldBy.desc).map (fun d => d.parameters.length) = some 1 := by decide +kernel
theorem cs_X4_toldBy : kCst yX4_toldBy (Cond.code yX4_toldBy cX4_toldBy 3 (some .int)) := ⟨k_w 3 137 rfl rfl, k_w 2 1 rfl rfl, k_w 3 138 rfl rfl⟩

abbrev wX0_restOf : List Cond := Cond.code yX0_restOf cX0_restOf 3 (some .int) :: kW
def X0_restOf_f (vC : Nat → Int32) (aC : Nat → Nat → Int32) (p0 : Int32) : Int32 :=
  (p0 - ((X4_toldBy_f (X0_weightsFor_f vC aC p0)) - (X0_shortnessTogether_f vC aC (X0_weightsFor_f vC aC p0))))
set_option maxHeartbeats 4000000 in
set_option maxRecDepth 100000 in
theorem X0_restOf_c (l : Launch) (g : kG) (oC : Nat) (rC : Nat → Nat) (vC : Nat → Int32) (aC : Nat → Nat → Int32) (p0 : Int32) : kR l yX0_restOf wX0_restOf 2 47 g [.ref oC, .int p0] [X0W g oC rC vC aC] ((X0_restOf_f vC aC p0)) := by
  refine kR_of (cc := cX0_restOf) (nL := 3) (ret := (some .int)) (lv := [(0, .ref oC), (1, .int p0)]) (by decide) rfl (Nat.le_of_ble_eq_true rfl) rfl ?_
  intro p e s m args below meth c ls C hP hE hl
  have hS : va_S (fun _ => False) s.heap s.heap [] := va_S.rf
  have C : kC p c cX0_restOf s m args meth RX0 g 3 (some .int) := C
  have hx := C.1.1
  have hb := C.1.2.1
  have hts := C.1.2.2.2.2
  refine lv_aload_n hx hb dX0_restOf_0 rfl (lv_at hl 0 rfl) ?_
  refine lv_iload_n hx hb dX0_restOf_1 rfl (lv_at hl 1 rfl) ?_
  refine kR_V (As := [.int p0]) (rest := []) C (X0_weightsFor_c l g oC rC vC aC p0) (cwV 1 hts (k_gV kw432 ca_X0_weightsFor) rfl rfl rfl ⟨rfl, pnX0_weightsFor⟩ ⟨Nat.le_of_ble_eq_true rfl, Nat.le_of_ble_eq_true rfl⟩) hE hS (hP.pick [0] rfl) (k_recv C kFX0 hP (i := 0) (q := 0) rfl rfl) rfl hl.1 rfl rfl dX0_restOf_2 ⟨Nat.le_of_ble_eq_true rfl, Nat.le_of_ble_eq_true rfl⟩ ?_
  refine lv_istore_n (lv' := [(2, .int (X0_weightsFor_f vC aC p0)), (0, .ref oC), (1, .int p0)]) hx hb dX0_restOf_5 rfl hl (by decide) rfl (fun ls hl => ?_)
  refine lv_iload_n hx hb dX0_restOf_6 rfl (lv_at hl 2 rfl) ?_
  refine lv_iload_n hx hb dX0_restOf_7 rfl (lv_at hl 0 rfl) ?_
  refine kR_SN (As := [.int (X0_weightsFor_f vC aC p0)]) (rest := [.int p0]) C (X4_toldBy_c l g (X0_weightsFor_f vC aC p0)) ⟨va_cnB (host := "SpiceScale") 1 hts (k_gI cs_X4_toldBy.2.2) rfl rfl rfl (C.2.1.2 _ (List.mem_of_getElem? (i := 54) rfl)) (hts _ cs_X4_toldBy.2.1) pnX4_toldBy ⟨Nat.le_of_ble_eq_true rfl, Nat.le_of_ble_eq_true rfl⟩, hts _ cs_X4_toldBy.1, trivial⟩ hE hS (hP.pick [] rfl) rfl hl.1 rfl rfl dX0_restOf_8 ⟨Nat.le_of_ble_eq_true rfl, Nat.le_of_ble_eq_true rfl⟩ ?_
  refine lv_aload_n hx hb dX0_restOf_11 rfl (lv_at hl 1 rfl) ?_
  refine lv_iload_n hx hb dX0_restOf_12 rfl (lv_at hl 0 rfl) ?_
  refine kR_V (As := [.int (X0_weightsFor_f vC aC p0)]) (rest := [.int (X4_toldBy_f (X0_weightsFor_f vC aC p0)), .int p0]) C (X0_shortnessTogether_c l g oC rC vC aC (X0_weightsFor_f vC aC p0)) (cwV 1 hts (k_gV kw799 ca_X0_shortnessTogether) rfl rfl rfl ⟨rfl, pnX0_shortnessTogether⟩ ⟨Nat.le_of_ble_eq_true rfl, Nat.le_of_ble_eq_true rfl⟩) hE hS (hP.pick [0] rfl) (k_recv C kFX0 hP (i := 0) (q := 0) rfl rfl) rfl hl.1 rfl rfl dX0_restOf_13 ⟨Nat.le_of_ble_eq_true rfl, Nat.le_of_ble_eq_true rfl⟩ ?_
  refine lv_isub hx hb dX0_restOf_16 ?_
  refine lv_isub hx hb dX0_restOf_17 ?_
  exact kR_ret C ((show X0_restOf_f vC aC p0 = (p0 - ((X4_toldBy_f (X0_weightsFor_f vC aC p0)) - (X0_shortnessTogether_f vC aC (X0_weightsFor_f vC aC p0)))) from rfl)).symm dX0_restOf_18

theorem pnX0_loadOf : yX0_loadOf.cls ≠ "java/lang/invoke/MethodHandle" ∧ yX0_loadOf.cls ≠ "java/lang/invoke/VarHandle" ∧ (parseMethodDescriptor yX0_loadOf.desc).map (fun d => d.parameters.length) = some 1 := by decide +kernel
theorem ca_X0_loadOf : kCal yX0_loadOf (Cond.code yX0_loadOf cX0_loadOf 2 (some .int)) := ⟨k_w 3 122 rfl rfl, k_w 1 18 rfl rfl, k_w 2 2 rfl rfl, k_w 3 123 rfl rfl⟩

abbrev wX0_netOf : List Cond := Cond.code yX0_netOf cX0_netOf 2 (some .int) :: kW
def X0_netOf_f (vC : Nat → Int32) (aC : Nat → Nat → Int32) (p0 : Int32) : Int32 :=
  ((X4_toldBy_f (X0_weightsFor_f vC aC (X0_loadOf_f vC aC p0))) - ((aC 8) p0.toNatClampNeg))
set_option maxHeartbeats 4000000 in
set_option maxRecDepth 100000 in
theorem X0_netOf_c (l : Launch) (g : kG) (oC : Nat) (rC : Nat → Nat) (vC : Nat → Int32) (aC : Nat → Nat → Int32) (p0 : Int32) (hb : vp_in p0 6) : kR l yX0_netOf wX0_netOf 2 47 g [.ref oC, .int p0] [X0W g oC rC vC aC] ((X0_netOf_f vC aC p0)) := by
  refine kR_of (cc := cX0_netOf) (nL := 2) (ret := (some .int)) (lv := [(0, .ref oC), (1, .int p0)]) (by decide) rfl (Nat.le_of_ble_eq_true rfl) rfl ?_
  intro p e s m args below meth c ls C hP hE hl
  have hS : va_S (fun _ => False) s.heap s.heap [] := va_S.rf
  have C : kC p c cX0_netOf s m args meth RX0 g 2 (some .int) := C
  have hx := C.1.1
  have hb := C.1.2.1
  have hts := C.1.2.2.2.2
  refine lv_aload_n hx hb dX0_netOf_0 rfl (lv_at hl 0 rfl) ?_
  refine lv_aload_n hx hb dX0_netOf_1 rfl (lv_at hl 0 rfl) ?_
  refine lv_iload_n hx hb dX0_netOf_2 rfl (lv_at hl 1 rfl) ?_
  refine kR_V (As := [.int p0]) (rest := [.ref oC]) C (X0_loadOf_c l g oC rC vC aC p0 (by first | assumption)) (cwV 1 hts (k_gV kw428 ca_X0_loadOf) rfl rfl rfl ⟨rfl, pnX0_loadOf⟩ ⟨Nat.le_of_ble_eq_true rfl, Nat.le_of_ble_eq_true rfl⟩) hE hS (hP.pick [0] rfl) (k_recv C kFX0 hP (i := 0) (q := 0) rfl rfl) rfl hl.1 rfl rfl dX0_netOf_3 ⟨Nat.le_of_ble_eq_true rfl, Nat.le_of_ble_eq_true rfl⟩ ?_
  refine kR_V (As := [.int (X0_loadOf_f vC aC p0)]) (rest := []) C (X0_weightsFor_c l g oC rC vC aC (X0_loadOf_f vC aC p0)) (cwV 1 hts (k_gV kw432 ca_X0_weightsFor) rfl rfl rfl ⟨rfl, pnX0_weightsFor⟩ ⟨Nat.le_of_ble_eq_true rfl, Nat.le_of_ble_eq_true rfl⟩) hE hS (hP.pick [0] rfl) (k_recv C kFX0 hP (i := 0) (q := 0) rfl rfl) rfl hl.1 rfl rfl dX0_netOf_6 ⟨Nat.le_of_ble_eq_true rfl, Nat.le_of_ble_eq_true rfl⟩ ?_
  refine kR_SN (As := [.int (X0_weightsFor_f vC aC (X0_loadOf_f vC aC p0))]) (rest := []) C (X4_toldBy_c l g (X0_weightsFor_f vC aC (X0_loadOf_f vC aC p0))) ⟨va_cnB (host := "SpiceScale") 1 hts (k_gI cs_X4_toldBy.2.2) rfl rfl rfl (C.2.1.2 _ (List.mem_of_getElem? (i := 54) rfl)) (hts _ cs_X4_toldBy.2.1) pnX4_toldBy ⟨Nat.le_of_ble_eq_true rfl, Nat.le_of_ble_eq_true rfl⟩, hts _ cs_X4_toldBy.1, trivial⟩ hE hS (hP.pick [] rfl) rfl hl.1 rfl rfl dX0_netOf_9 ⟨Nat.le_of_ble_eq_true rfl, Nat.le_of_ble_eq_true rfl⟩ ?_
  refine lv_aload_n hx hb dX0_netOf_12 rfl (lv_at hl 0 rfl) ?_
  refine kg_get C kFX0 (k := 8) kw136 hP (i := 0) (q := 0) rfl rfl (by decide) rfl dX0_netOf_13 ?_
  refine lv_iload_n hx hb dX0_netOf_16 rfl (lv_at hl 1 rfl) ?_
  refine kg_iald C hP (i := 0) (q := 3) rfl rfl (by first | assumption) dX0_netOf_17 ?_
  refine lv_isub hx hb dX0_netOf_18 ?_
  exact kR_ret C ((show X0_netOf_f vC aC p0 = ((X4_toldBy_f (X0_weightsFor_f vC aC (X0_loadOf_f vC aC p0))) - ((aC 8) p0.toNatClampNeg)) from rfl)).symm dX0_netOf_19

theorem pnX0_isOathInForce : yX0_isOathInForce.cls ≠ "java/lang/invoke/MethodHandle" ∧ yX0_isOathInForce.cls ≠ "java/lang/invoke/VarHandle" ∧ (parseMethodDescriptor yX0_isOathInForce.desc).map (fun d => d.parameters.length) = some 1 := by decide +kernel
theorem ca_X0_isOathInForce : kCal yX0_isOathInForce (Cond.code yX0_isOathInForce cX0_isOathInForce 2 (some .boolean)) := ⟨k_w 3 104 rfl rfl, k_w 1 14 rfl rfl, k_w 2 2 rfl rfl, k_w 3 105 rfl rfl⟩

theorem pnX4_priceOf : yX4_priceOf.cls ≠ "java/lang/invoke/MethodHandle" ∧ yX4_priceOf.cls ≠ "java/lang/invoke/VarHandle" ∧ (parseMethodDescriptor yX4_priceOf.desc).map (fun d => d.parameters.length) = some 2 := by decide +kernel
theorem cs_X4_priceOf : kCst yX4_priceOf (Cond.code yX4_priceOf cX4_priceOf 2 (some .int)) := ⟨k_w 4 51 rfl rfl, k_w 2 1 rfl rfl, k_w 4 52 rfl rfl⟩

abbrev wX0_coinsFor : List Cond := Cond.code yX0_coinsFor cX0_coinsFor 5 (some .int) :: kW
def X0_coinsFor_f (vC : Nat → Int32) (aC : Nat → Nat → Int32) (p0 : Int32) (p1 : Int32) (p2 : Int32) : Int32 :=
  if 0 < p2 then (if (X0_isOathInForce_f vC aC p1) = true then ((((X4_priceOf_f p1 ((aC 10) p0.toNatClampNeg)) * p2) / 10) + ((((X4_priceOf_f p1 ((aC 10) p0.toNatClampNeg)) * p2) / 10) / 10))
    else (((X4_priceOf_f p1 ((aC 10) p0.toNatClampNeg)) * p2) / 10))
  else 0
set_option maxHeartbeats 4000000 in
set_option maxRecDepth 100000 in
theorem X0_coinsFor_c (l : Launch) (g : kG) (oC : Nat) (rC : Nat → Nat) (vC : Nat → Int32) (aC : Nat → Nat → Int32) (p0 : Int32) (p1 : Int32) (p2 : Int32) (hb : vp_in p0 6) (hm : vp_in p1 4) : kR l yX0_coinsFor wX0_coinsFor 1 21 g [.ref oC, .int p0, .int p1, .int p2] [X0W g oC rC vC aC] ((X0_coinsFor_f vC aC p0 p1 p2)) := by
  refine kR_of (cc := cX0_coinsFor) (nL := 5) (ret := (some .int)) (lv := [(0, .ref oC), (1, .int p0), (2, .int p1), (3, .int p2)]) (by decide) rfl (Nat.le_of_ble_eq_true rfl) rfl ?_
  intro p e s m args below meth c ls C hP hE hl
  have hS : va_S (fun _ => False) s.heap s.heap [] := va_S.rf
  have C : kC p c cX0_coinsFor s m args meth RX0 g 5 (some .int) := C
  have hx := C.1.1
  have hb := C.1.2.1
  have hts := C.1.2.2.2.2
  refine lv_iload_n hx hb dX0_coinsFor_0 rfl (lv_at hl 3 rfl) ?_
  refine lv_if_gt (tgt := 6) hx hb dX0_coinsFor_1 (by decide) (fun c1 => ?_) (fun c1 => ?_)
  · refine lv_iload_n hx hb dX0_coinsFor_6 rfl (lv_at hl 2 rfl) ?_
    refine lv_aload_n hx hb dX0_coinsFor_7 rfl (lv_at hl 0 rfl) ?_
    refine kg_get C kFX0 (k := 10) kw141 hP (i := 0) (q := 0) rfl rfl (by decide) rfl dX0_coinsFor_8 ?_
    refine lv_iload_n hx hb dX0_coinsFor_11 rfl (lv_at hl 1 rfl) ?_
    refine kg_iald C hP (i := 0) (q := 5) rfl rfl (by first | assumption) dX0_coinsFor_12 ?_
    refine kR_SN (As := [.int p1, .int ((aC 10) p0.toNatClampNeg)]) (rest := []) C (X4_priceOf_c l g p1 ((aC 10) p0.toNatClampNeg)) ⟨va_cnB (host := "SpiceScale") 2 hts (k_gI cs_X4_priceOf.2.2) rfl rfl rfl (C.2.1.2 _ (List.mem_of_getElem? (i := 62) rfl)) (hts _ cs_X4_priceOf.2.1) pnX4_priceOf ⟨Nat.le_of_ble_eq_true rfl, Nat.le_of_ble_eq_true rfl⟩, hts _ cs_X4_priceOf.1, trivial⟩ hE hS (hP.pick [] rfl) rfl hl.1 rfl rfl dX0_coinsFor_13 ⟨Nat.le_of_ble_eq_true rfl, Nat.le_of_ble_eq_true rfl⟩ ?_
    refine lv_iload_n hx hb dX0_coinsFor_16 rfl (lv_at hl 3 rfl) ?_
    refine lv_imul hx hb dX0_coinsFor_17 ?_
    refine lv_bipush (v := 10) hx hb dX0_coinsFor_18 (by decide) ?_
    refine lv_idiv hx hb dX0_coinsFor_20 (by decide) ?_
    refine lv_istore (lv' := [(4, .int (((X4_priceOf_f p1 ((aC 10) p0.toNatClampNeg)) * p2) / 10)), (0, .ref oC), (1, .int p0), (2, .int p1), (3, .int p2)]) hx hb dX0_coinsFor_21 hl (by decide) rfl (fun ls hl => ?_)
    refine lv_aload_n hx hb dX0_coinsFor_23 rfl (lv_at hl 1 rfl) ?_
    refine lv_iload_n hx hb dX0_coinsFor_24 rfl (lv_at hl 3 rfl) ?_
    refine kR_V (As := [.int p1]) (rest := []) C (X0_isOathInForce_c l g oC rC vC aC p1 (by first | assumption)) (cwV 1 hts (k_gV kw601 ca_X0_isOathInForce) rfl rfl rfl ⟨rfl, pnX0_isOathInForce⟩ ⟨Nat.le_of_ble_eq_true rfl, Nat.le_of_ble_eq_true rfl⟩) hE hS (hP.pick [0] rfl) (k_recv C kFX0 hP (i := 0) (q := 0) rfl rfl) rfl hl.1 rfl rfl dX0_coinsFor_25 ⟨Nat.le_of_ble_eq_true rfl, Nat.le_of_ble_eq_true rfl⟩ ?_
    refine lv_if_eq (tgt := 42) hx hb dX0_coinsFor_28 (by decide) (fun c2 => ?_) (fun c2 => ?_)
    · have c2 := b2i_eq0 c2
      refine lv_iload hx hb dX0_coinsFor_42 (lv_at hl 0 rfl) ?_
      exact kR_ret C ((show X0_coinsFor_f vC aC p0 p1 p2 = (((X4_priceOf_f p1 ((aC 10) p0.toNatClampNeg)) * p2) / 10) from (if_pos c1).trans ((if_neg c2).trans (rfl)))).symm dX0_coinsFor_44
    have c2 := b2i_ne0 c2
    refine lv_iload hx hb dX0_coinsFor_31 (lv_at hl 0 rfl) ?_
    refine lv_iload hx hb dX0_coinsFor_33 (lv_at hl 0 rfl) ?_
    refine lv_bipush (v := 10) hx hb dX0_coinsFor_35 (by decide) ?_
    refine lv_idiv hx hb dX0_coinsFor_37 (by decide) ?_
    refine lv_iadd hx hb dX0_coinsFor_38 ?_
    refine lv_goto (tgt := 44) hx hb dX0_coinsFor_39 (by decide) ?_
    exact kR_ret C ((show X0_coinsFor_f vC aC p0 p1 p2 = ((((X4_priceOf_f p1 ((aC 10) p0.toNatClampNeg)) * p2) / 10) + ((((X4_priceOf_f p1 ((aC 10) p0.toNatClampNeg)) * p2) / 10) / 10)) from (if_pos c1).trans ((if_pos c2).trans (rfl)))).symm dX0_coinsFor_44
  refine lv_iconst (v := 0) hx hb dX0_coinsFor_4 (by decide) ?_
  exact kR_ret C ((show X0_coinsFor_f vC aC p0 p1 p2 = 0 from (if_neg c1).trans (rfl))).symm dX0_coinsFor_5

abbrev wX0_distanceTo : List Cond := Cond.code yX0_distanceTo cX0_distanceTo 2 (some .int) :: kW
def X0_distanceTo_f (vC : Nat → Int32) (aC : Nat → Nat → Int32) (p0 : Int32) : Int32 :=
  (if 0 ≤ ((k_tab 0 p0.toNatClampNeg) - (k_tab 0 (vC 1).toNatClampNeg)) then ((k_tab 0 p0.toNatClampNeg) - (k_tab 0 (vC 1).toNatClampNeg)) else 0 - ((k_tab 0 p0.toNatClampNeg) - (k_tab 0 (vC 1).toNatClampNeg)))
set_option maxHeartbeats 4000000 in
set_option maxRecDepth 100000 in
theorem X0_distanceTo_c (l : Launch) (g : kG) (oC : Nat) (rC : Nat → Nat) (vC : Nat → Int32) (aC : Nat → Nat → Int32) (p0 : Int32) (hm : vp_in p0 4) (hM : vp_in (vC 1) 4) : kR l yX0_distanceTo wX0_distanceTo 1 21 g [.ref oC, .int p0] [X0W g oC rC vC aC] ((X0_distanceTo_f vC aC p0)) := by
  refine kR_of (cc := cX0_distanceTo) (nL := 2) (ret := (some .int)) (lv := [(0, .ref oC), (1, .int p0)]) (by decide) rfl (Nat.le_of_ble_eq_true rfl) rfl ?_
  intro p e s m args below meth c ls C hP hE hl
  have hS : va_S (fun _ => False) s.heap s.heap [] := va_S.rf
  have C : kC p c cX0_distanceTo s m args meth RX0 g 2 (some .int) := C
  have hx := C.1.1
  have hb := C.1.2.1
  have hts := C.1.2.2.2.2
  refine kg_tabN C 0 (by decide) hE hS (List.mem_of_getElem? (i := 63) rfl) dX0_distanceTo_0 ?_
  refine lv_iload_n hx hb dX0_distanceTo_3 rfl (lv_at hl 1 rfl) ?_
  refine kg_tald C 0 (by decide) hE hS (by first | assumption) dX0_distanceTo_4 ?_
  refine kg_tabN C 0 (by decide) hE hS (List.mem_of_getElem? (i := 63) rfl) dX0_distanceTo_5 ?_
  refine lv_aload_n hx hb dX0_distanceTo_8 rfl (lv_at hl 0 rfl) ?_
  refine kg_get C kFX0 (k := 1) kw115 hP (i := 0) (q := 0) rfl rfl (by decide) rfl dX0_distanceTo_9 ?_
  refine kg_tald C 0 (by decide) hE hS (by first | assumption) dX0_distanceTo_12 ?_
  refine lv_isub hx hb dX0_distanceTo_13 ?_
  refine va_mabs hx hb (by rw [C.1.2.2.1, hl.1]) C.1.2.2.2.1 (hts _ (kw616)) (hts _ kw617) (hts _ kw84) (hts _ kw618) (Nat.le_of_ble_eq_true rfl) (Nat.le_of_ble_eq_true rfl) (Nat.le_of_ble_eq_true rfl) (Nat.le_of_ble_eq_true rfl) dX0_distanceTo_14 ?_
  exact kR_ret C ((show X0_distanceTo_f vC aC p0 = (if 0 ≤ ((k_tab 0 p0.toNatClampNeg) - (k_tab 0 (vC 1).toNatClampNeg)) then ((k_tab 0 p0.toNatClampNeg) - (k_tab 0 (vC 1).toNatClampNeg)) else 0 - ((k_tab 0 p0.toNatClampNeg) - (k_tab 0 (vC 1).toNatClampNeg))) from rfl)).symm dX0_distanceTo_17

theorem pnX0_coinsFor : yX0_coinsFor.cls ≠ "java/lang/invoke/MethodHandle" ∧ yX0_coinsFor.cls ≠ "java/lang/invoke/VarHandle" ∧ (parseMethodDescriptor yX0_coinsFor.desc).map (fun d => d.parameters.length) = some 3 := by decide +kernel
theorem ca_X0_coinsFor : kCal yX0_coinsFor (Cond.code yX0_coinsFor cX0_coinsFor 5 (some .int)) := ⟨k_w 4 48 rfl rfl, k_w 1 37 rfl rfl, k_w 2 2 rfl rfl, k_w 4 49 rfl rfl⟩

theorem pnX0_distanceTo : yX0_distanceTo.cls ≠ "java/lang/invoke/MethodHandle" ∧ yX0_distanceTo.cls ≠ "java/lang/invoke/VarHandle" ∧ (parseMethodDescriptor yX0_distanceTo.desc).map (fun d => d.parameters.length) = some 1 := by decide +kernel
theorem ca_X0_distanceTo : kCal yX0_distanceTo (Cond.code yX0_distanceTo cX0_distanceTo 2 (some .int)) := ⟨k_w 4 64 rfl rfl, k_w 1 40 rfl rfl, k_w 2 2 rfl rfl, k_w 4 65 rfl rfl⟩

theorem pnX0_netOf : yX0_netOf.cls ≠ "java/lang/invoke/MethodHandle" ∧ yX0_netOf.cls ≠ "java/lang/invoke/VarHandle" ∧ (parseMethodDescriptor yX0_netOf.desc).map (fun d => d.parameters.length) = some 1 := by decide +kernel
theorem ca_X0_netOf : kCal yX0_netOf (Cond.code yX0_netOf cX0_netOf 2 (some .int)) := ⟨k_w 3 118 rfl rfl, k_w 1 17 rfl rfl, k_w 2 2 rfl rfl, k_w 3 119 rfl rfl⟩

abbrev wX0_marketThatGivesMost : List Cond := Cond.code yX0_marketThatGivesMost cX0_marketThatGivesMost 6 (some .int) :: kW
def X0_marketThatGivesMost_lp11b (vC : Nat → Int32) (aC : Nat → Nat → Int32) (p0 : Int32) (rec : Int32 → Int32 → Int32 → Int32) (x2_11 x3_11 x4_11 : Int32) : Int32 :=
  if 4 ≤ x4_11 then x3_11
  else if 0 < ((X0_coinsFor_f vC aC p0 x4_11 x2_11) - (X0_coinsFor_f vC aC p0 x3_11 x2_11)) then rec x2_11 x4_11 (x4_11 + 1)
  else if ((X0_coinsFor_f vC aC p0 x4_11 x2_11) - (X0_coinsFor_f vC aC p0 x3_11 x2_11)) = 0 then (if (X0_distanceTo_f vC aC x3_11) ≤ (X0_distanceTo_f vC aC x4_11) then rec x2_11 x3_11 (x4_11 + 1)
    else rec x2_11 x4_11 (x4_11 + 1))
  else rec x2_11 x3_11 (x4_11 + 1)
def X0_marketThatGivesMost_lp11 (vC : Nat → Int32) (aC : Nat → Nat → Int32) (p0 : Int32) : Nat → Int32 → Int32 → Int32 → Int32
  | 0 => fun x2_11 x3_11 x4_11 => 0
  | n + 1 => X0_marketThatGivesMost_lp11b vC aC p0 (X0_marketThatGivesMost_lp11 vC aC p0 n)
theorem X0_marketThatGivesMost_lp11_s (vC : Nat → Int32) (aC : Nat → Nat → Int32) (p0 : Int32) (n : Nat) (x2_11 x3_11 x4_11 : Int32) : X0_marketThatGivesMost_lp11 vC aC p0 (n + 1) x2_11 x3_11 x4_11 = X0_marketThatGivesMost_lp11b vC aC p0 (X0_marketThatGivesMost_lp11 vC aC p0 n) x2_11 x3_11 x4_11 := rfl
def X0_marketThatGivesMost_f (vC : Nat → Int32) (aC : Nat → Nat → Int32) (p0 : Int32) : Int32 :=
  X0_marketThatGivesMost_lp11 vC aC p0 4 (X0_netOf_f vC aC p0) 0 1
set_option maxHeartbeats 4000000 in
set_option maxRecDepth 100000 in
theorem X0_marketThatGivesMost_c (l : Launch) (g : kG) (oC : Nat) (rC : Nat → Nat) (vC : Nat → Int32) (aC : Nat → Nat → Int32) (p0 : Int32) (hb : vp_in p0 6) (hM : vp_in (vC 1) 4) : kR l yX0_marketThatGivesMost wX0_marketThatGivesMost 3 68 g [.ref oC, .int p0] [X0W g oC rC vC aC] ((X0_marketThatGivesMost_f vC aC p0)) := by
  refine kR_of (cc := cX0_marketThatGivesMost) (nL := 6) (ret := (some .int)) (lv := [(0, .ref oC), (1, .int p0)]) (by decide) rfl (Nat.le_of_ble_eq_true rfl) rfl ?_
  intro p e s m args below meth c ls C hP hE hl
  have hS : va_S (fun _ => False) s.heap s.heap [] := va_S.rf
  have C : kC p c cX0_marketThatGivesMost s m args meth RX0 g 6 (some .int) := C
  have hx := C.1.1
  have hb := C.1.2.1
  have hts := C.1.2.2.2.2
  have loop11 : ∀ (n : Nat) (j11 : Nat) (x2_11 x3_11 x4_11 : Int32) (ls : Array Slot), j11 ≤ 4 → 4 < j11 + n → x4_11 = nI j11 → vp_in x3_11 4 → X0_marketThatGivesMost_f vC aC p0 = X0_marketThatGivesMost_lp11 vC aC p0 n x2_11 x3_11 x4_11 → lv_has ls 6 [(4, .int x4_11), (3, .int x3_11), (2, .int x2_11), (0, .ref oC), (1, .int p0)] → W p l e (kRm 3 0 0 68) s m args below meth c s.heap [] 0 0 (MQ below (vp_Si (fun r => r = (X0_marketThatGivesMost_f vC aC p0))) args s 0 0 (fun _ => False)) (F0 m 11 ls []) := by
    intro n
    induction n with
    | zero =>
      intro j11 x2_11 x3_11 x4_11 ls hi11 hn11 hx11 hbest hF11 hl
      exact absurd hn11 (by omega)
    | succ n ih11 =>
      intro j11 x2_11 x3_11 x4_11 ls hi11 hn11 hx11 hbest hF11 hl
      refine lv_iload hx hb dX0_marketThatGivesMost_11 (lv_at hl 0 rfl) ?_
      refine lv_iconst (v := 4) hx hb dX0_marketThatGivesMost_13 (by decide) ?_
      refine lv_icmp_ge (tgt := 68) hx hb dX0_marketThatGivesMost_14 (by decide) (fun c1 => ?_) (fun c1 => ?_)
      · refine lv_iload_n hx hb dX0_marketThatGivesMost_68 rfl (lv_at hl 1 rfl) ?_
        exact kR_ret C ((show X0_marketThatGivesMost_f vC aC p0 = x3_11 from hF11.trans ((X0_marketThatGivesMost_lp11_s vC aC p0 n x2_11 x3_11 x4_11).trans ((if_pos c1).trans (rfl))))).symm dX0_marketThatGivesMost_69
      have hj11 := k_asc hx11 (y := 4) (N := 4) rfl hi11 (by omega) c1
      refine lv_aload_n hx hb dX0_marketThatGivesMost_17 rfl (lv_at hl 3 rfl) ?_
      refine lv_iload_n hx hb dX0_marketThatGivesMost_18 rfl (lv_at hl 4 rfl) ?_
      refine lv_iload hx hb dX0_marketThatGivesMost_19 (lv_at hl 0 rfl) ?_
      refine lv_iload_n hx hb dX0_marketThatGivesMost_21 rfl (lv_at hl 2 rfl) ?_
      refine kR_V (As := [.int p0, .int x4_11, .int x2_11]) (rest := []) C (X0_coinsFor_c l g oC rC vC aC p0 x4_11 x2_11 (by first | assumption | exact k_vin hx11 (by omega) (by decide)) (by first | assumption | exact k_vin hx11 (by omega) (by decide))) (cwV 3 hts (k_gV kw594 ca_X0_coinsFor) rfl rfl rfl ⟨rfl, pnX0_coinsFor⟩ ⟨Nat.le_of_ble_eq_true rfl, Nat.le_of_ble_eq_true rfl⟩) hE hS (hP.pick [0] rfl) (k_recv C kFX0 hP (i := 0) (q := 0) rfl rfl) rfl hl.1 rfl rfl dX0_marketThatGivesMost_22 ⟨Nat.le_of_ble_eq_true rfl, Nat.le_of_ble_eq_true rfl⟩ ?_
      refine lv_aload_n hx hb dX0_marketThatGivesMost_25 rfl (lv_at hl 3 rfl) ?_
      refine lv_iload_n hx hb dX0_marketThatGivesMost_26 rfl (lv_at hl 4 rfl) ?_
      refine lv_iload_n hx hb dX0_marketThatGivesMost_27 rfl (lv_at hl 1 rfl) ?_
      refine lv_iload_n hx hb dX0_marketThatGivesMost_28 rfl (lv_at hl 2 rfl) ?_
      refine kR_V (As := [.int p0, .int x3_11, .int x2_11]) (rest := [.int (X0_coinsFor_f vC aC p0 x4_11 x2_11)]) C (X0_coinsFor_c l g oC rC vC aC p0 x3_11 x2_11 (by first | assumption | exact k_vin hx11 (by omega) (by decide)) (by first | assumption | exact k_vin hx11 (by omega) (by decide))) (cwV 3 hts (k_gV kw594 ca_X0_coinsFor) rfl rfl rfl ⟨rfl, pnX0_coinsFor⟩ ⟨Nat.le_of_ble_eq_true rfl, Nat.le_of_ble_eq_true rfl⟩) hE hS (hP.pick [0] rfl) (k_recv C kFX0 hP (i := 0) (q := 0) rfl rfl) rfl hl.1 rfl rfl dX0_marketThatGivesMost_29 ⟨Nat.le_of_ble_eq_true rfl, Nat.le_of_ble_eq_true rfl⟩ ?_
      refine lv_isub hx hb dX0_marketThatGivesMost_32 ?_
      refine lv_istore (lv' := [(5, .int ((X0_coinsFor_f vC aC p0 x4_11 x2_11) - (X0_coinsFor_f vC aC p0 x3_11 x2_11))), (4, .int x4_11), (3, .int x3_11), (2, .int x2_11), (0, .ref oC), (1, .int p0)]) hx hb dX0_marketThatGivesMost_33 hl (by decide) rfl (fun ls hl => ?_)
      refine lv_iload hx hb dX0_marketThatGivesMost_35 (lv_at hl 0 rfl) ?_
      refine lv_if_gt (tgt := 59) hx hb dX0_marketThatGivesMost_37 (by decide) (fun c2 => ?_) (fun c2 => ?_)
      · refine lv_iload hx hb dX0_marketThatGivesMost_59 (lv_at hl 1 rfl) ?_
        refine lv_istore_n (lv' := [(3, .int x4_11), (5, .int ((X0_coinsFor_f vC aC p0 x4_11 x2_11) - (X0_coinsFor_f vC aC p0 x3_11 x2_11))), (4, .int x4_11), (2, .int x2_11), (0, .ref oC), (1, .int p0)]) hx hb dX0_marketThatGivesMost_61 rfl hl (by decide) rfl (fun ls hl => ?_)
        refine lv_iinc (v := (x4_11 + 1)) (lv' := [(4, .int (x4_11 + 1)), (3, .int x4_11), (5, .int ((X0_coinsFor_f vC aC p0 x4_11 x2_11) - (X0_coinsFor_f vC aC p0 x3_11 x2_11))), (2, .int x2_11), (0, .ref oC), (1, .int p0)]) hx hb dX0_marketThatGivesMost_62 hl (k := 2) rfl rfl (by decide) rfl (fun ls hl => ?_)
        refine lv_goto (tgt := 11) hx hb dX0_marketThatGivesMost_65 (by decide) ?_
        exact ih11 (j11 + 1) x2_11 x4_11 (x4_11 + 1) ls hj11 (by omega) (k_up hx11) (by first | assumption | exact k_vin (M := 4) hx11 (by omega) (by decide)) (show X0_marketThatGivesMost_f vC aC p0 = X0_marketThatGivesMost_lp11 vC aC p0 n x2_11 x4_11 (x4_11 + 1) from hF11.trans ((X0_marketThatGivesMost_lp11_s vC aC p0 n x2_11 x3_11 x4_11).trans ((if_neg c1).trans ((if_pos c2).trans (rfl))))) (lv_sub hl [0, 1, 3, 4, 5] rfl)
      refine lv_iload hx hb dX0_marketThatGivesMost_40 (lv_at hl 0 rfl) ?_
      refine lv_if_ne (tgt := 62) hx hb dX0_marketThatGivesMost_42 (by decide) (fun c3 => ?_) (fun c3 => ?_)
      · refine lv_iinc (v := (x4_11 + 1)) (lv' := [(4, .int (x4_11 + 1)), (5, .int ((X0_coinsFor_f vC aC p0 x4_11 x2_11) - (X0_coinsFor_f vC aC p0 x3_11 x2_11))), (3, .int x3_11), (2, .int x2_11), (0, .ref oC), (1, .int p0)]) hx hb dX0_marketThatGivesMost_62 hl (k := 1) rfl rfl (by decide) rfl (fun ls hl => ?_)
        refine lv_goto (tgt := 11) hx hb dX0_marketThatGivesMost_65 (by decide) ?_
        exact ih11 (j11 + 1) x2_11 x3_11 (x4_11 + 1) ls hj11 (by omega) (k_up hx11) (by first | assumption | exact k_vin (M := 4) hx11 (by omega) (by decide)) (show X0_marketThatGivesMost_f vC aC p0 = X0_marketThatGivesMost_lp11 vC aC p0 n x2_11 x3_11 (x4_11 + 1) from hF11.trans ((X0_marketThatGivesMost_lp11_s vC aC p0 n x2_11 x3_11 x4_11).trans ((if_neg c1).trans ((if_neg c2).trans ((if_neg c3).trans (rfl)))))) (lv_sub hl [0, 2, 3, 4, 5] rfl)
      refine lv_aload_n hx hb dX0_marketThatGivesMost_45 rfl (lv_at hl 4 rfl) ?_
      refine lv_iload hx hb dX0_marketThatGivesMost_46 (lv_at hl 1 rfl) ?_
      refine kR_V (As := [.int x4_11]) (rest := []) C (X0_distanceTo_c l g oC rC vC aC x4_11 (by first | assumption | exact k_vin hx11 (by omega) (by decide)) (by first | assumption | exact k_vin hx11 (by omega) (by decide))) (cwV 1 hts (k_gV kw610 ca_X0_distanceTo) rfl rfl rfl ⟨rfl, pnX0_distanceTo⟩ ⟨Nat.le_of_ble_eq_true rfl, Nat.le_of_ble_eq_true rfl⟩) hE hS (hP.pick [0] rfl) (k_recv C kFX0 hP (i := 0) (q := 0) rfl rfl) rfl hl.1 rfl rfl dX0_marketThatGivesMost_48 ⟨Nat.le_of_ble_eq_true rfl, Nat.le_of_ble_eq_true rfl⟩ ?_
      refine lv_aload_n hx hb dX0_marketThatGivesMost_51 rfl (lv_at hl 4 rfl) ?_
      refine lv_iload_n hx hb dX0_marketThatGivesMost_52 rfl (lv_at hl 2 rfl) ?_
      refine kR_V (As := [.int x3_11]) (rest := [.int (X0_distanceTo_f vC aC x4_11)]) C (X0_distanceTo_c l g oC rC vC aC x3_11 (by first | assumption | exact k_vin hx11 (by omega) (by decide)) (by first | assumption | exact k_vin hx11 (by omega) (by decide))) (cwV 1 hts (k_gV kw610 ca_X0_distanceTo) rfl rfl rfl ⟨rfl, pnX0_distanceTo⟩ ⟨Nat.le_of_ble_eq_true rfl, Nat.le_of_ble_eq_true rfl⟩) hE hS (hP.pick [0] rfl) (k_recv C kFX0 hP (i := 0) (q := 0) rfl rfl) rfl hl.1 rfl rfl dX0_marketThatGivesMost_53 ⟨Nat.le_of_ble_eq_true rfl, Nat.le_of_ble_eq_true rfl⟩ ?_
      refine lv_icmp_ge (tgt := 62) hx hb dX0_marketThatGivesMost_56 (by decide) (fun c4 => ?_) (fun c4 => ?_)
      · refine lv_iinc (v := (x4_11 + 1)) (lv' := [(4, .int (x4_11 + 1)), (5, .int ((X0_coinsFor_f vC aC p0 x4_11 x2_11) - (X0_coinsFor_f vC aC p0 x3_11 x2_11))), (3, .int x3_11), (2, .int x2_11), (0, .ref oC), (1, .int p0)]) hx hb dX0_marketThatGivesMost_62 hl (k := 1) rfl rfl (by decide) rfl (fun ls hl => ?_)
        refine lv_goto (tgt := 11) hx hb dX0_marketThatGivesMost_65 (by decide) ?_
        exact ih11 (j11 + 1) x2_11 x3_11 (x4_11 + 1) ls hj11 (by omega) (k_up hx11) (by first | assumption | exact k_vin (M := 4) hx11 (by omega) (by decide)) (show X0_marketThatGivesMost_f vC aC p0 = X0_marketThatGivesMost_lp11 vC aC p0 n x2_11 x3_11 (x4_11 + 1) from hF11.trans ((X0_marketThatGivesMost_lp11_s vC aC p0 n x2_11 x3_11 x4_11).trans ((if_neg c1).trans ((if_neg c2).trans ((if_pos c3).trans ((if_pos c4).trans (rfl))))))) (lv_sub hl [0, 2, 3, 4, 5] rfl)
      refine lv_iload hx hb dX0_marketThatGivesMost_59 (lv_at hl 1 rfl) ?_
      refine lv_istore_n (lv' := [(3, .int x4_11), (5, .int ((X0_coinsFor_f vC aC p0 x4_11 x2_11) - (X0_coinsFor_f vC aC p0 x3_11 x2_11))), (4, .int x4_11), (2, .int x2_11), (0, .ref oC), (1, .int p0)]) hx hb dX0_marketThatGivesMost_61 rfl hl (by decide) rfl (fun ls hl => ?_)
      refine lv_iinc (v := (x4_11 + 1)) (lv' := [(4, .int (x4_11 + 1)), (3, .int x4_11), (5, .int ((X0_coinsFor_f vC aC p0 x4_11 x2_11) - (X0_coinsFor_f vC aC p0 x3_11 x2_11))), (2, .int x2_11), (0, .ref oC), (1, .int p0)]) hx hb dX0_marketThatGivesMost_62 hl (k := 2) rfl rfl (by decide) rfl (fun ls hl => ?_)
      refine lv_goto (tgt := 11) hx hb dX0_marketThatGivesMost_65 (by decide) ?_
      exact ih11 (j11 + 1) x2_11 x4_11 (x4_11 + 1) ls hj11 (by omega) (k_up hx11) (by first | assumption | exact k_vin (M := 4) hx11 (by omega) (by decide)) (show X0_marketThatGivesMost_f vC aC p0 = X0_marketThatGivesMost_lp11 vC aC p0 n x2_11 x4_11 (x4_11 + 1) from hF11.trans ((X0_marketThatGivesMost_lp11_s vC aC p0 n x2_11 x3_11 x4_11).trans ((if_neg c1).trans ((if_neg c2).trans ((if_pos c3).trans ((if_neg c4).trans (rfl))))))) (lv_sub hl [0, 1, 3, 4, 5] rfl)
  refine lv_aload_n hx hb dX0_marketThatGivesMost_0 rfl (lv_at hl 0 rfl) ?_
  refine lv_iload_n hx hb dX0_marketThatGivesMost_1 rfl (lv_at hl 1 rfl) ?_
  refine kR_V (As := [.int p0]) (rest := []) C (X0_netOf_c l g oC rC vC aC p0 (by first | assumption)) (cwV 1 hts (k_gV kw1413 ca_X0_netOf) rfl rfl rfl ⟨rfl, pnX0_netOf⟩ ⟨Nat.le_of_ble_eq_true rfl, Nat.le_of_ble_eq_true rfl⟩) hE hS (hP.pick [0] rfl) (k_recv C kFX0 hP (i := 0) (q := 0) rfl rfl) rfl hl.1 rfl rfl dX0_marketThatGivesMost_2 ⟨Nat.le_of_ble_eq_true rfl, Nat.le_of_ble_eq_true rfl⟩ ?_
  refine lv_istore_n (lv' := [(2, .int (X0_netOf_f vC aC p0)), (0, .ref oC), (1, .int p0)]) hx hb dX0_marketThatGivesMost_5 rfl hl (by decide) rfl (fun ls hl => ?_)
  refine lv_iconst (v := 0) hx hb dX0_marketThatGivesMost_6 (by decide) ?_
  refine lv_istore_n (lv' := [(3, .int 0), (2, .int (X0_netOf_f vC aC p0)), (0, .ref oC), (1, .int p0)]) hx hb dX0_marketThatGivesMost_7 rfl hl (by decide) rfl (fun ls hl => ?_)
  refine lv_iconst (v := 1) hx hb dX0_marketThatGivesMost_8 (by decide) ?_
  refine lv_istore (lv' := [(4, .int 1), (3, .int 0), (2, .int (X0_netOf_f vC aC p0)), (0, .ref oC), (1, .int p0)]) hx hb dX0_marketThatGivesMost_9 hl (by decide) rfl (fun ls hl => ?_)
  exact loop11 4 1 (X0_netOf_f vC aC p0) 0 1 ls (by omega) (by omega) rfl (k_vin (j := 0) rfl (by decide) (by decide)) (show X0_marketThatGivesMost_f vC aC p0 = X0_marketThatGivesMost_lp11 vC aC p0 4 (X0_netOf_f vC aC p0) 0 1 from rfl) (lv_sub hl [0, 1, 2, 3, 4] rfl)

abbrev wX0_isBefore : List Cond := Cond.code yX0_isBefore cX0_isBefore 3 (some .boolean) :: kW
def X0_isBefore_f (vC : Nat → Int32) (aC : Nat → Nat → Int32) (p0 : Int32) (p1 : Int32) : Bool :=
  if ((aC 11) p0.toNatClampNeg) = ((aC 11) p1.toNatClampNeg) then (if ((aC 8) p0.toNatClampNeg) = ((aC 8) p1.toNatClampNeg) then (if p1 ≤ p0 then false
      else true)
    else if ((aC 8) p1.toNatClampNeg) ≤ ((aC 8) p0.toNatClampNeg) then false
    else true)
  else if ((aC 11) p0.toNatClampNeg) ≤ ((aC 11) p1.toNatClampNeg) then false
  else true
set_option maxHeartbeats 4000000 in
set_option maxRecDepth 100000 in
theorem X0_isBefore_c (l : Launch) (g : kG) (oC : Nat) (rC : Nat → Nat) (vC : Nat → Int32) (aC : Nat → Nat → Int32) (p0 : Int32) (p1 : Int32) (hb : vp_in p0 6) (hb1 : vp_in p1 6) : kR l yX0_isBefore wX0_isBefore 0 0 g [.ref oC, .int p0, .int p1] [X0W g oC rC vC aC] (b2i (X0_isBefore_f vC aC p0 p1)) := by
  refine kR_of (cc := cX0_isBefore) (nL := 3) (ret := (some .boolean)) (lv := [(0, .ref oC), (1, .int p0), (2, .int p1)]) (by decide) rfl (Nat.le_of_ble_eq_true rfl) rfl ?_
  intro p e s m args below meth c ls C hP hE hl
  have hS : va_S (fun _ => False) s.heap s.heap [] := va_S.rf
  have C : kC p c cX0_isBefore s m args meth RX0 g 3 (some .boolean) := C
  have hx := C.1.1
  have hb := C.1.2.1
  have hts := C.1.2.2.2.2
  refine lv_aload_n hx hb dX0_isBefore_0 rfl (lv_at hl 0 rfl) ?_
  refine kg_get C kFX0 (k := 11) kw144 hP (i := 0) (q := 0) rfl rfl (by decide) rfl dX0_isBefore_1 ?_
  refine lv_iload_n hx hb dX0_isBefore_4 rfl (lv_at hl 1 rfl) ?_
  refine kg_iald C hP (i := 0) (q := 6) rfl rfl (by first | assumption) dX0_isBefore_5 ?_
  refine lv_aload_n hx hb dX0_isBefore_6 rfl (lv_at hl 0 rfl) ?_
  refine kg_get C kFX0 (k := 11) kw144 hP (i := 0) (q := 0) rfl rfl (by decide) rfl dX0_isBefore_7 ?_
  refine lv_iload_n hx hb dX0_isBefore_10 rfl (lv_at hl 2 rfl) ?_
  refine kg_iald C hP (i := 0) (q := 6) rfl rfl (by first | assumption) dX0_isBefore_11 ?_
  refine lv_icmp_eq (tgt := 36) hx hb dX0_isBefore_12 (by decide) (fun c1 => ?_) (fun c1 => ?_)
  · refine lv_aload_n hx hb dX0_isBefore_36 rfl (lv_at hl 0 rfl) ?_
    refine kg_get C kFX0 (k := 8) kw136 hP (i := 0) (q := 0) rfl rfl (by decide) rfl dX0_isBefore_37 ?_
    refine lv_iload_n hx hb dX0_isBefore_40 rfl (lv_at hl 1 rfl) ?_
    refine kg_iald C hP (i := 0) (q := 3) rfl rfl (by first | assumption) dX0_isBefore_41 ?_
    refine lv_aload_n hx hb dX0_isBefore_42 rfl (lv_at hl 0 rfl) ?_
    refine kg_get C kFX0 (k := 8) kw136 hP (i := 0) (q := 0) rfl rfl (by decide) rfl dX0_isBefore_43 ?_
    refine lv_iload_n hx hb dX0_isBefore_46 rfl (lv_at hl 2 rfl) ?_
    refine kg_iald C hP (i := 0) (q := 3) rfl rfl (by first | assumption) dX0_isBefore_47 ?_
    refine lv_icmp_eq (tgt := 72) hx hb dX0_isBefore_48 (by decide) (fun c2 => ?_) (fun c2 => ?_)
    · refine lv_iload_n hx hb dX0_isBefore_72 rfl (lv_at hl 1 rfl) ?_
      refine lv_iload_n hx hb dX0_isBefore_73 rfl (lv_at hl 2 rfl) ?_
      refine lv_icmp_ge (tgt := 81) hx hb dX0_isBefore_74 (by decide) (fun c3 => ?_) (fun c3 => ?_)
      · refine lv_iconst (v := 0) hx hb dX0_isBefore_81 (by decide) ?_
        exact kR_zret (x := b2i false) C (b2i_nar _) (congrArg b2i (show X0_isBefore_f vC aC p0 p1 = false from (if_pos c1).trans ((if_pos c2).trans ((if_pos c3).trans (rfl)))).symm) dX0_isBefore_82
      refine lv_iconst (v := 1) hx hb dX0_isBefore_77 (by decide) ?_
      refine lv_goto (tgt := 82) hx hb dX0_isBefore_78 (by decide) ?_
      exact kR_zret (x := b2i true) C (b2i_nar _) (congrArg b2i (show X0_isBefore_f vC aC p0 p1 = true from (if_pos c1).trans ((if_pos c2).trans ((if_neg c3).trans (rfl)))).symm) dX0_isBefore_82
    refine lv_aload_n hx hb dX0_isBefore_51 rfl (lv_at hl 0 rfl) ?_
    refine kg_get C kFX0 (k := 8) kw136 hP (i := 0) (q := 0) rfl rfl (by decide) rfl dX0_isBefore_52 ?_
    refine lv_iload_n hx hb dX0_isBefore_55 rfl (lv_at hl 1 rfl) ?_
    refine kg_iald C hP (i := 0) (q := 3) rfl rfl (by first | assumption) dX0_isBefore_56 ?_
    refine lv_aload_n hx hb dX0_isBefore_57 rfl (lv_at hl 0 rfl) ?_
    refine kg_get C kFX0 (k := 8) kw136 hP (i := 0) (q := 0) rfl rfl (by decide) rfl dX0_isBefore_58 ?_
    refine lv_iload_n hx hb dX0_isBefore_61 rfl (lv_at hl 2 rfl) ?_
    refine kg_iald C hP (i := 0) (q := 3) rfl rfl (by first | assumption) dX0_isBefore_62 ?_
    refine lv_icmp_ge (tgt := 70) hx hb dX0_isBefore_63 (by decide) (fun c4 => ?_) (fun c4 => ?_)
    · refine lv_iconst (v := 0) hx hb dX0_isBefore_70 (by decide) ?_
      exact kR_zret (x := b2i false) C (b2i_nar _) (congrArg b2i (show X0_isBefore_f vC aC p0 p1 = false from (if_pos c1).trans ((if_neg c2).trans ((if_pos c4).trans (rfl)))).symm) dX0_isBefore_71
    refine lv_iconst (v := 1) hx hb dX0_isBefore_66 (by decide) ?_
    refine lv_goto (tgt := 71) hx hb dX0_isBefore_67 (by decide) ?_
    exact kR_zret (x := b2i true) C (b2i_nar _) (congrArg b2i (show X0_isBefore_f vC aC p0 p1 = true from (if_pos c1).trans ((if_neg c2).trans ((if_neg c4).trans (rfl)))).symm) dX0_isBefore_71
  refine lv_aload_n hx hb dX0_isBefore_15 rfl (lv_at hl 0 rfl) ?_
  refine kg_get C kFX0 (k := 11) kw144 hP (i := 0) (q := 0) rfl rfl (by decide) rfl dX0_isBefore_16 ?_
  refine lv_iload_n hx hb dX0_isBefore_19 rfl (lv_at hl 1 rfl) ?_
  refine kg_iald C hP (i := 0) (q := 6) rfl rfl (by first | assumption) dX0_isBefore_20 ?_
  refine lv_aload_n hx hb dX0_isBefore_21 rfl (lv_at hl 0 rfl) ?_
  refine kg_get C kFX0 (k := 11) kw144 hP (i := 0) (q := 0) rfl rfl (by decide) rfl dX0_isBefore_22 ?_
  refine lv_iload_n hx hb dX0_isBefore_25 rfl (lv_at hl 2 rfl) ?_
  refine kg_iald C hP (i := 0) (q := 6) rfl rfl (by first | assumption) dX0_isBefore_26 ?_
  refine lv_icmp_le (tgt := 34) hx hb dX0_isBefore_27 (by decide) (fun c5 => ?_) (fun c5 => ?_)
  · refine lv_iconst (v := 0) hx hb dX0_isBefore_34 (by decide) ?_
    exact kR_zret (x := b2i false) C (b2i_nar _) (congrArg b2i (show X0_isBefore_f vC aC p0 p1 = false from (if_neg c1).trans ((if_pos c5).trans (rfl))).symm) dX0_isBefore_35
  refine lv_iconst (v := 1) hx hb dX0_isBefore_30 (by decide) ?_
  refine lv_goto (tgt := 35) hx hb dX0_isBefore_31 (by decide) ?_
  exact kR_zret (x := b2i true) C (b2i_nar _) (congrArg b2i (show X0_isBefore_f vC aC p0 p1 = true from (if_neg c1).trans ((if_neg c5).trans (rfl))).symm) dX0_isBefore_35

theorem pnX0_isBefore : yX0_isBefore.cls ≠ "java/lang/invoke/MethodHandle" ∧ yX0_isBefore.cls ≠ "java/lang/invoke/VarHandle" ∧ (parseMethodDescriptor yX0_isBefore.desc).map (fun d => d.parameters.length) = some 2 := by decide +kernel
theorem ca_X0_isBefore : kCal yX0_isBefore (Cond.code yX0_isBefore cX0_isBefore 3 (some .boolean)) := ⟨k_w 7 159 rfl rfl, k_w 1 61 rfl rfl, k_w 2 2 rfl rfl, k_w 7 160 rfl rfl⟩

abbrev wX0_bagOfRank : List Cond := Cond.code yX0_bagOfRank cX0_bagOfRank 5 (some .int) :: kW
def X0_bagOfRank_lp15b (vC : Nat → Int32) (aC : Nat → Nat → Int32) (p0 : Int32) (rec : Int32 → Int32 → Int32 → (Int32 × Int32)) (x2_15 x3_15 x4_15 : Int32) : Int32 × Int32 :=
  if (vC 7) ≤ x4_15 then (x3_15, x4_15)
  else if (X0_isBefore_f vC aC x4_15 x2_15) = true then rec x2_15 (x3_15 + 1) (x4_15 + 1)
  else rec x2_15 x3_15 (x4_15 + 1)
def X0_bagOfRank_lp15 (vC : Nat → Int32) (aC : Nat → Nat → Int32) (p0 : Int32) : Nat → Int32 → Int32 → Int32 → (Int32 × Int32)
  | 0 => fun x2_15 x3_15 x4_15 => (x3_15, x4_15)
  | n + 1 => X0_bagOfRank_lp15b vC aC p0 (X0_bagOfRank_lp15 vC aC p0 n)
theorem X0_bagOfRank_lp15_s (vC : Nat → Int32) (aC : Nat → Nat → Int32) (p0 : Int32) (n : Nat) (x2_15 x3_15 x4_15 : Int32) : X0_bagOfRank_lp15 vC aC p0 (n + 1) x2_15 x3_15 x4_15 = X0_bagOfRank_lp15b vC aC p0 (X0_bagOfRank_lp15 vC aC p0 n) x2_15 x3_15 x4_15 := rfl
def X0_bagOfRank_lp2b (vC : Nat → Int32) (aC : Nat → Nat → Int32) (p0 : Int32) (rec : Int32 → Int32) (x2_2 : Int32) : Int32 :=
  if (vC 7) ≤ x2_2 then (-1)
  else if (X0_bagOfRank_lp15 vC aC p0 7 x2_2 0 0).1 = p0 then x2_2
  else rec (x2_2 + 1)
def X0_bagOfRank_lp2 (vC : Nat → Int32) (aC : Nat → Nat → Int32) (p0 : Int32) : Nat → Int32 → Int32
  | 0 => fun x2_2 => 0
  | n + 1 => X0_bagOfRank_lp2b vC aC p0 (X0_bagOfRank_lp2 vC aC p0 n)
theorem X0_bagOfRank_lp2_s (vC : Nat → Int32) (aC : Nat → Nat → Int32) (p0 : Int32) (n : Nat) (x2_2 : Int32) : X0_bagOfRank_lp2 vC aC p0 (n + 1) x2_2 = X0_bagOfRank_lp2b vC aC p0 (X0_bagOfRank_lp2 vC aC p0 n) x2_2 := rfl
def X0_bagOfRank_f (vC : Nat → Int32) (aC : Nat → Nat → Int32) (p0 : Int32) : Int32 :=
  X0_bagOfRank_lp2 vC aC p0 7 0
set_option maxHeartbeats 4000000 in
set_option maxRecDepth 100000 in
theorem X0_bagOfRank_c (l : Launch) (g : kG) (oC : Nat) (rC : Nat → Nat) (vC : Nat → Int32) (aC : Nat → Nat → Int32) (p0 : Int32) (nb : Nat) (hnb : nb ≤ 6) (hv7 : vC 7 = nI nb) : kR l yX0_bagOfRank wX0_bagOfRank 1 22 g [.ref oC, .int p0] [X0W g oC rC vC aC] ((X0_bagOfRank_f vC aC p0)) := by
  refine kR_of (cc := cX0_bagOfRank) (nL := 5) (ret := (some .int)) (lv := [(0, .ref oC), (1, .int p0)]) (by decide) rfl (Nat.le_of_ble_eq_true rfl) rfl ?_
  intro p e s m args below meth c ls C hP hE hl
  have hS : va_S (fun _ => False) s.heap s.heap [] := va_S.rf
  have C : kC p c cX0_bagOfRank s m args meth RX0 g 5 (some .int) := C
  have hx := C.1.1
  have hb := C.1.2.1
  have hts := C.1.2.2.2.2
  have loop15 : ∀ (n : Nat) (j15 : Nat) (x2_15 x3_15 x4_15 : Int32) (ls : Array Slot), j15 ≤ nb → nb < j15 + n → x4_15 = nI j15 → vp_in x2_15 6 → (∀ (ls : Array Slot), lv_has ls 5 [(4, .int ((X0_bagOfRank_lp15 vC aC p0 n x2_15 x3_15 x4_15).2)), (3, .int ((X0_bagOfRank_lp15 vC aC p0 n x2_15 x3_15 x4_15).1)), (2, .int x2_15), (0, .ref oC), (1, .int p0)] → W p l e (kRm 1 0 0 22) s m args below meth c s.heap [] 0 0 (MQ below (vp_Si (fun r => r = (X0_bagOfRank_f vC aC p0))) args s 0 0 (fun _ => False)) (F0 m 43 ls [])) → lv_has ls 5 [(4, .int x4_15), (3, .int x3_15), (2, .int x2_15), (0, .ref oC), (1, .int p0)] → W p l e (kRm 1 0 0 22) s m args below meth c s.heap [] 0 0 (MQ below (vp_Si (fun r => r = (X0_bagOfRank_f vC aC p0))) args s 0 0 (fun _ => False)) (F0 m 15 ls []) := by
    intro n
    induction n with
    | zero =>
      intro j15 x2_15 x3_15 x4_15 ls hi15 hn15 hx15 hb15 hF15 hl
      exact absurd hn15 (by omega)
    | succ n ih15 =>
      intro j15 x2_15 x3_15 x4_15 ls hi15 hn15 hx15 hb15 hF15 hl
      refine lv_iload hx hb dX0_bagOfRank_15 (lv_at hl 0 rfl) ?_
      refine lv_aload_n hx hb dX0_bagOfRank_17 rfl (lv_at hl 3 rfl) ?_
      refine kg_get C kFX0 (k := 7) kw133 hP (i := 0) (q := 0) rfl rfl (by decide) rfl dX0_bagOfRank_18 ?_
      refine lv_icmp_ge (tgt := 43) hx hb dX0_bagOfRank_21 (by decide) (fun c2 => ?_) (fun c2 => ?_)
      · have e15 : X0_bagOfRank_lp15 vC aC p0 (n + 1) x2_15 x3_15 x4_15 = (x3_15, x4_15) := (X0_bagOfRank_lp15_s vC aC p0 n x2_15 x3_15 x4_15).trans ((if_pos c2).trans (rfl))
        exact hF15 ls (by rw [e15]; exact lv_sub hl [0, 1, 2, 3, 4] rfl)
      have hj15 := k_asc hx15 (y := (vC 7)) (N := nb) hv7 hi15 (by omega) c2
      refine lv_aload_n hx hb dX0_bagOfRank_24 rfl (lv_at hl 3 rfl) ?_
      refine lv_iload hx hb dX0_bagOfRank_25 (lv_at hl 0 rfl) ?_
      refine lv_iload_n hx hb dX0_bagOfRank_27 rfl (lv_at hl 2 rfl) ?_
      refine kR_V (As := [.int x4_15, .int x2_15]) (rest := []) C (X0_isBefore_c l g oC rC vC aC x4_15 x2_15 (by first | assumption | exact k_vin hx2 (by omega) (by decide) | exact k_vin hx15 (by omega) (by decide)) (by first | assumption | exact k_vin hx2 (by omega) (by decide) | exact k_vin hx15 (by omega) (by decide))) (cwV 2 hts (k_gV kw1425 ca_X0_isBefore) rfl rfl rfl ⟨rfl, pnX0_isBefore⟩ ⟨Nat.le_of_ble_eq_true rfl, Nat.le_of_ble_eq_true rfl⟩) hE hS (hP.pick [0] rfl) (k_recv C kFX0 hP (i := 0) (q := 0) rfl rfl) rfl hl.1 rfl rfl dX0_bagOfRank_28 ⟨Nat.le_of_ble_eq_true rfl, Nat.le_of_ble_eq_true rfl⟩ ?_
      refine lv_if_eq (tgt := 37) hx hb dX0_bagOfRank_31 (by decide) (fun c3 => ?_) (fun c3 => ?_)
      · have c3 := b2i_eq0 c3
        refine lv_iinc (v := (x4_15 + 1)) (lv' := [(4, .int (x4_15 + 1)), (3, .int x3_15), (2, .int x2_15), (0, .ref oC), (1, .int p0)]) hx hb dX0_bagOfRank_37 hl (k := 0) rfl rfl (by decide) rfl (fun ls hl => ?_)
        refine lv_goto (tgt := 15) hx hb dX0_bagOfRank_40 (by decide) ?_
        have e15 : X0_bagOfRank_lp15 vC aC p0 (n + 1) x2_15 x3_15 x4_15 = X0_bagOfRank_lp15 vC aC p0 n x2_15 x3_15 (x4_15 + 1) := (X0_bagOfRank_lp15_s vC aC p0 n x2_15 x3_15 x4_15).trans ((if_neg c2).trans ((if_neg c3).trans (rfl)))
        exact ih15 (j15 + 1) x2_15 x3_15 (x4_15 + 1) ls hj15 (by omega) (k_up hx15) hb15 (fun ls hl => hF15 ls (by rw [e15]; exact hl)) (lv_sub hl [0, 1, 2, 3, 4] rfl)
      have c3 := b2i_ne0 c3
      refine lv_iinc (v := (x3_15 + 1)) (lv' := [(3, .int (x3_15 + 1)), (4, .int x4_15), (2, .int x2_15), (0, .ref oC), (1, .int p0)]) hx hb dX0_bagOfRank_34 hl (k := 1) rfl rfl (by decide) rfl (fun ls hl => ?_)
      refine lv_iinc (v := (x4_15 + 1)) (lv' := [(4, .int (x4_15 + 1)), (3, .int (x3_15 + 1)), (2, .int x2_15), (0, .ref oC), (1, .int p0)]) hx hb dX0_bagOfRank_37 hl (k := 1) rfl rfl (by decide) rfl (fun ls hl => ?_)
      refine lv_goto (tgt := 15) hx hb dX0_bagOfRank_40 (by decide) ?_
      have e15 : X0_bagOfRank_lp15 vC aC p0 (n + 1) x2_15 x3_15 x4_15 = X0_bagOfRank_lp15 vC aC p0 n x2_15 (x3_15 + 1) (x4_15 + 1) := (X0_bagOfRank_lp15_s vC aC p0 n x2_15 x3_15 x4_15).trans ((if_neg c2).trans ((if_pos c3).trans (rfl)))
      exact ih15 (j15 + 1) x2_15 (x3_15 + 1) (x4_15 + 1) ls hj15 (by omega) (k_up hx15) hb15 (fun ls hl => hF15 ls (by rw [e15]; exact hl)) (lv_sub hl [0, 1, 2, 3, 4] rfl)
  have loop2 : ∀ (n : Nat) (j2 : Nat) (x2_2 : Int32) (ls : Array Slot), j2 ≤ nb → nb < j2 + n → x2_2 = nI j2 → X0_bagOfRank_f vC aC p0 = X0_bagOfRank_lp2 vC aC p0 n x2_2 → lv_has ls 5 [(2, .int x2_2), (0, .ref oC), (1, .int p0)] → W p l e (kRm 1 0 0 22) s m args below meth c s.heap [] 0 0 (MQ below (vp_Si (fun r => r = (X0_bagOfRank_f vC aC p0))) args s 0 0 (fun _ => False)) (F0 m 2 ls []) := by
    intro n
    induction n with
    | zero =>
      intro j2 x2_2 ls hi2 hn2 hx2 hF2 hl
      exact absurd hn2 (by omega)
    | succ n ih2 =>
      intro j2 x2_2 ls hi2 hn2 hx2 hF2 hl
      refine lv_iload_n hx hb dX0_bagOfRank_2 rfl (lv_at hl 0 rfl) ?_
      refine lv_aload_n hx hb dX0_bagOfRank_3 rfl (lv_at hl 1 rfl) ?_
      refine kg_get C kFX0 (k := 7) kw133 hP (i := 0) (q := 0) rfl rfl (by decide) rfl dX0_bagOfRank_4 ?_
      refine lv_icmp_ge (tgt := 56) hx hb dX0_bagOfRank_7 (by decide) (fun c1 => ?_) (fun c1 => ?_)
      · refine lv_iconst (v := (-1)) hx hb dX0_bagOfRank_56 (by decide) ?_
        exact kR_ret C ((show X0_bagOfRank_f vC aC p0 = (-1) from hF2.trans ((X0_bagOfRank_lp2_s vC aC p0 n x2_2).trans ((if_pos c1).trans (rfl))))).symm dX0_bagOfRank_57
      have hj2 := k_asc hx2 (y := (vC 7)) (N := nb) hv7 hi2 (by omega) c1
      refine lv_iconst (v := 0) hx hb dX0_bagOfRank_10 (by decide) ?_
      refine lv_istore_n (lv' := [(3, .int 0), (2, .int x2_2), (0, .ref oC), (1, .int p0)]) hx hb dX0_bagOfRank_11 rfl hl (by decide) rfl (fun ls hl => ?_)
      refine lv_iconst (v := 0) hx hb dX0_bagOfRank_12 (by decide) ?_
      refine lv_istore (lv' := [(4, .int 0), (3, .int 0), (2, .int x2_2), (0, .ref oC), (1, .int p0)]) hx hb dX0_bagOfRank_13 hl (by decide) rfl (fun ls hl => ?_)
      refine loop15 7 0 x2_2 0 0 ls (by omega) (by omega) rfl (k_vin (M := 6) hx2 (by omega) (by decide)) (fun ls hl => ?_) (lv_sub hl [0, 1, 2, 3, 4] rfl)
      refine lv_iload_n hx hb dX0_bagOfRank_43 rfl (lv_at hl 1 rfl) ?_
      refine lv_iload_n hx hb dX0_bagOfRank_44 rfl (lv_at hl 4 rfl) ?_
      refine lv_icmp_ne (tgt := 50) hx hb dX0_bagOfRank_45 (by decide) (fun c4 => ?_) (fun c4 => ?_)
      · refine lv_iinc (v := (x2_2 + 1)) (lv' := [(2, .int (x2_2 + 1)), (4, .int ((X0_bagOfRank_lp15 vC aC p0 7 x2_2 0 0).2)), (3, .int ((X0_bagOfRank_lp15 vC aC p0 7 x2_2 0 0).1)), (0, .ref oC), (1, .int p0)]) hx hb dX0_bagOfRank_50 hl (k := 2) rfl rfl (by decide) rfl (fun ls hl => ?_)
        refine lv_goto (tgt := 2) hx hb dX0_bagOfRank_53 (by decide) ?_
        exact ih2 (j2 + 1) (x2_2 + 1) ls hj2 (by omega) (k_up hx2) (show X0_bagOfRank_f vC aC p0 = X0_bagOfRank_lp2 vC aC p0 n (x2_2 + 1) from hF2.trans ((X0_bagOfRank_lp2_s vC aC p0 n x2_2).trans ((if_neg c1).trans ((if_neg c4).trans (rfl))))) (lv_sub hl [0, 3, 4] rfl)
      refine lv_iload_n hx hb dX0_bagOfRank_48 rfl (lv_at hl 2 rfl) ?_
      exact kR_ret C ((show X0_bagOfRank_f vC aC p0 = x2_2 from hF2.trans ((X0_bagOfRank_lp2_s vC aC p0 n x2_2).trans ((if_neg c1).trans ((if_pos c4).trans (rfl)))))).symm dX0_bagOfRank_49
  refine lv_iconst (v := 0) hx hb dX0_bagOfRank_0 (by decide) ?_
  refine lv_istore_n (lv' := [(2, .int 0), (0, .ref oC), (1, .int p0)]) hx hb dX0_bagOfRank_1 rfl hl (by decide) rfl (fun ls hl => ?_)
  exact loop2 7 0 0 ls (by omega) (by omega) rfl (show X0_bagOfRank_f vC aC p0 = X0_bagOfRank_lp2 vC aC p0 7 0 from rfl) (lv_sub hl [0, 1, 2] rfl)

abbrev wX0_oathsInForce : List Cond := Cond.code yX0_oathsInForce cX0_oathsInForce 3 (some .int) :: kW
def X0_oathsInForce_lp4b (vC : Nat → Int32) (aC : Nat → Nat → Int32) (rec : Int32 → Int32 → Int32) (x1_4 x2_4 : Int32) : Int32 :=
  if 4 ≤ x2_4 then x1_4
  else if (X0_isOathInForce_f vC aC x2_4) = true then rec (x1_4 + 1) (x2_4 + 1)
  else rec x1_4 (x2_4 + 1)
def X0_oathsInForce_lp4 (vC : Nat → Int32) (aC : Nat → Nat → Int32) : Nat → Int32 → Int32 → Int32
  | 0 => fun x1_4 x2_4 => 0
  | n + 1 => X0_oathsInForce_lp4b vC aC (X0_oathsInForce_lp4 vC aC n)
theorem X0_oathsInForce_lp4_s (vC : Nat → Int32) (aC : Nat → Nat → Int32) (n : Nat) (x1_4 x2_4 : Int32) : X0_oathsInForce_lp4 vC aC (n + 1) x1_4 x2_4 = X0_oathsInForce_lp4b vC aC (X0_oathsInForce_lp4 vC aC n) x1_4 x2_4 := rfl
def X0_oathsInForce_f (vC : Nat → Int32) (aC : Nat → Nat → Int32) : Int32 :=
  X0_oathsInForce_lp4 vC aC 5 0 0
set_option maxHeartbeats 4000000 in
set_option maxRecDepth 100000 in
theorem X0_oathsInForce_c (l : Launch) (g : kG) (oC : Nat) (rC : Nat → Nat) (vC : Nat → Int32) (aC : Nat → Nat → Int32) : kR l yX0_oathsInForce wX0_oathsInForce 1 21 g [.ref oC] [X0W g oC rC vC aC] ((X0_oathsInForce_f vC aC)) := by
  refine kR_of (cc := cX0_oathsInForce) (nL := 3) (ret := (some .int)) (lv := [(0, .ref oC)]) (by decide) rfl (Nat.le_of_ble_eq_true rfl) rfl ?_
  intro p e s m args below meth c ls C hP hE hl
  have hS : va_S (fun _ => False) s.heap s.heap [] := va_S.rf
  have C : kC p c cX0_oathsInForce s m args meth RX0 g 3 (some .int) := C
  have hx := C.1.1
  have hb := C.1.2.1
  have hts := C.1.2.2.2.2
  have loop4 : ∀ (n : Nat) (j4 : Nat) (x1_4 x2_4 : Int32) (ls : Array Slot), j4 ≤ 4 → 4 < j4 + n → x2_4 = nI j4 → X0_oathsInForce_f vC aC = X0_oathsInForce_lp4 vC aC n x1_4 x2_4 → lv_has ls 3 [(2, .int x2_4), (1, .int x1_4), (0, .ref oC)] → W p l e (kRm 1 0 0 21) s m args below meth c s.heap [] 0 0 (MQ below (vp_Si (fun r => r = (X0_oathsInForce_f vC aC))) args s 0 0 (fun _ => False)) (F0 m 4 ls []) := by
    intro n
    induction n with
    | zero =>
      intro j4 x1_4 x2_4 ls hi4 hn4 hx4 hF4 hl
      exact absurd hn4 (by omega)
    | succ n ih4 =>
      intro j4 x1_4 x2_4 ls hi4 hn4 hx4 hF4 hl
      refine lv_iload_n hx hb dX0_oathsInForce_4 rfl (lv_at hl 0 rfl) ?_
      refine lv_iconst (v := 4) hx hb dX0_oathsInForce_5 (by decide) ?_
      refine lv_icmp_ge (tgt := 26) hx hb dX0_oathsInForce_6 (by decide) (fun c1 => ?_) (fun c1 => ?_)
      · refine lv_iload_n hx hb dX0_oathsInForce_26 rfl (lv_at hl 1 rfl) ?_
        exact kR_ret C ((show X0_oathsInForce_f vC aC = x1_4 from hF4.trans ((X0_oathsInForce_lp4_s vC aC n x1_4 x2_4).trans ((if_pos c1).trans (rfl))))).symm dX0_oathsInForce_27
      have hj4 := k_asc hx4 (y := 4) (N := 4) rfl hi4 (by omega) c1
      refine lv_aload_n hx hb dX0_oathsInForce_9 rfl (lv_at hl 2 rfl) ?_
      refine lv_iload_n hx hb dX0_oathsInForce_10 rfl (lv_at hl 0 rfl) ?_
      refine kR_V (As := [.int x2_4]) (rest := []) C (X0_isOathInForce_c l g oC rC vC aC x2_4 (by first | assumption | exact k_vin hx4 (by omega) (by decide))) (cwV 1 hts (k_gV kw601 ca_X0_isOathInForce) rfl rfl rfl ⟨rfl, pnX0_isOathInForce⟩ ⟨Nat.le_of_ble_eq_true rfl, Nat.le_of_ble_eq_true rfl⟩) hE hS (hP.pick [0] rfl) (k_recv C kFX0 hP (i := 0) (q := 0) rfl rfl) rfl hl.1 rfl rfl dX0_oathsInForce_11 ⟨Nat.le_of_ble_eq_true rfl, Nat.le_of_ble_eq_true rfl⟩ ?_
      refine lv_if_eq (tgt := 20) hx hb dX0_oathsInForce_14 (by decide) (fun c2 => ?_) (fun c2 => ?_)
      · have c2 := b2i_eq0 c2
        refine lv_iinc (v := (x2_4 + 1)) (lv' := [(2, .int (x2_4 + 1)), (1, .int x1_4), (0, .ref oC)]) hx hb dX0_oathsInForce_20 hl (k := 0) rfl rfl (by decide) rfl (fun ls hl => ?_)
        refine lv_goto (tgt := 4) hx hb dX0_oathsInForce_23 (by decide) ?_
        exact ih4 (j4 + 1) x1_4 (x2_4 + 1) ls hj4 (by omega) (k_up hx4) (show X0_oathsInForce_f vC aC = X0_oathsInForce_lp4 vC aC n x1_4 (x2_4 + 1) from hF4.trans ((X0_oathsInForce_lp4_s vC aC n x1_4 x2_4).trans ((if_neg c1).trans ((if_neg c2).trans (rfl))))) (lv_sub hl [0, 1, 2] rfl)
      have c2 := b2i_ne0 c2
      refine lv_iinc (v := (x1_4 + 1)) (lv' := [(1, .int (x1_4 + 1)), (2, .int x2_4), (0, .ref oC)]) hx hb dX0_oathsInForce_17 hl (k := 1) rfl rfl (by decide) rfl (fun ls hl => ?_)
      refine lv_iinc (v := (x2_4 + 1)) (lv' := [(2, .int (x2_4 + 1)), (1, .int (x1_4 + 1)), (0, .ref oC)]) hx hb dX0_oathsInForce_20 hl (k := 1) rfl rfl (by decide) rfl (fun ls hl => ?_)
      refine lv_goto (tgt := 4) hx hb dX0_oathsInForce_23 (by decide) ?_
      exact ih4 (j4 + 1) (x1_4 + 1) (x2_4 + 1) ls hj4 (by omega) (k_up hx4) (show X0_oathsInForce_f vC aC = X0_oathsInForce_lp4 vC aC n (x1_4 + 1) (x2_4 + 1) from hF4.trans ((X0_oathsInForce_lp4_s vC aC n x1_4 x2_4).trans ((if_neg c1).trans ((if_pos c2).trans (rfl))))) (lv_sub hl [0, 1, 2] rfl)
  refine lv_iconst (v := 0) hx hb dX0_oathsInForce_0 (by decide) ?_
  refine lv_istore_n (lv' := [(1, .int 0), (0, .ref oC)]) hx hb dX0_oathsInForce_1 rfl hl (by decide) rfl (fun ls hl => ?_)
  refine lv_iconst (v := 0) hx hb dX0_oathsInForce_2 (by decide) ?_
  refine lv_istore_n (lv' := [(2, .int 0), (1, .int 0), (0, .ref oC)]) hx hb dX0_oathsInForce_3 rfl hl (by decide) rfl (fun ls hl => ?_)
  exact loop4 5 0 0 0 ls (by omega) (by omega) rfl (show X0_oathsInForce_f vC aC = X0_oathsInForce_lp4 vC aC 5 0 0 from rfl) (lv_sub hl [0, 1, 2] rfl)

abbrev wX0_oathDaysLeft : List Cond := Cond.code yX0_oathDaysLeft cX0_oathDaysLeft 1 (some .int) :: kW
def X0_oathDaysLeft_f (vC : Nat → Int32) (aC : Nat → Nat → Int32) : Int32 :=
  ((((aC 14) (vC 1).toNatClampNeg) - (vC 0)) + 1)
set_option maxHeartbeats 4000000 in
set_option maxRecDepth 100000 in
theorem X0_oathDaysLeft_c (l : Launch) (g : kG) (oC : Nat) (rC : Nat → Nat) (vC : Nat → Int32) (aC : Nat → Nat → Int32) (hM : vp_in (vC 1) 4) : kR l yX0_oathDaysLeft wX0_oathDaysLeft 0 0 g [.ref oC] [X0W g oC rC vC aC] ((X0_oathDaysLeft_f vC aC)) := by
  refine kR_of (cc := cX0_oathDaysLeft) (nL := 1) (ret := (some .int)) (lv := [(0, .ref oC)]) (by decide) rfl (Nat.le_of_ble_eq_true rfl) rfl ?_
  intro p e s m args below meth c ls C hP hE hl
  have hS : va_S (fun _ => False) s.heap s.heap [] := va_S.rf
  have C : kC p c cX0_oathDaysLeft s m args meth RX0 g 1 (some .int) := C
  have hx := C.1.1
  have hb := C.1.2.1
  have hts := C.1.2.2.2.2
  refine lv_aload_n hx hb dX0_oathDaysLeft_0 rfl (lv_at hl 0 rfl) ?_
  refine kg_get C kFX0 (k := 14) kw151 hP (i := 0) (q := 0) rfl rfl (by decide) rfl dX0_oathDaysLeft_1 ?_
  refine lv_aload_n hx hb dX0_oathDaysLeft_4 rfl (lv_at hl 0 rfl) ?_
  refine kg_get C kFX0 (k := 1) kw115 hP (i := 0) (q := 0) rfl rfl (by decide) rfl dX0_oathDaysLeft_5 ?_
  refine kg_iald C hP (i := 0) (q := 9) rfl rfl (by first | assumption) dX0_oathDaysLeft_8 ?_
  refine lv_aload_n hx hb dX0_oathDaysLeft_9 rfl (lv_at hl 0 rfl) ?_
  refine kg_get C kFX0 (k := 0) kw113 hP (i := 0) (q := 0) rfl rfl (by decide) rfl dX0_oathDaysLeft_10 ?_
  refine lv_isub hx hb dX0_oathDaysLeft_13 ?_
  refine lv_iconst (v := 1) hx hb dX0_oathDaysLeft_14 (by decide) ?_
  refine lv_iadd hx hb dX0_oathDaysLeft_15 ?_
  exact kR_ret C ((show X0_oathDaysLeft_f vC aC = ((((aC 14) (vC 1).toNatClampNeg) - (vC 0)) + 1) from rfl)).symm dX0_oathDaysLeft_16

theorem pnX4_sumOf : yX4_sumOf.cls ≠ "java/lang/invoke/MethodHandle" ∧ yX4_sumOf.cls ≠ "java/lang/invoke/VarHandle" ∧ (parseMethodDescriptor yX4_sumOf.desc).map (fun d => d.parameters.length) = some 2 := by decide +kernel
theorem cs_X4_sumOf : kCst yX4_sumOf (Cond.code yX4_sumOf cX4_sumOf 4 (some .int)) := ⟨k_w 4 81 rfl rfl, k_w 2 1 rfl rfl, k_w 4 82 rfl rfl⟩

abbrev wX0_dustTogether : List Cond := Cond.code yX0_dustTogether cX0_dustTogether 1 (some .int) :: kW
def X0_dustTogether_f (vC : Nat → Int32) (aC : Nat → Nat → Int32) : Int32 :=
  (X4_sumOf_f 6 (aC 9) (vC 7))
set_option maxHeartbeats 4000000 in
set_option maxRecDepth 100000 in
theorem X0_dustTogether_c (l : Launch) (g : kG) (oC : Nat) (rC : Nat → Nat) (vC : Nat → Int32) (aC : Nat → Nat → Int32) (nb : Nat) (hnb : nb ≤ 6) (hv7 : vC 7 = nI nb) : kR l yX0_dustTogether wX0_dustTogether 1 23 g [.ref oC] [X0W g oC rC vC aC] ((X0_dustTogether_f vC aC)) := by
  refine kR_of (cc := cX0_dustTogether) (nL := 1) (ret := (some .int)) (lv := [(0, .ref oC)]) (by decide) rfl (Nat.le_of_ble_eq_true rfl) rfl ?_
  intro p e s m args below meth c ls C hP hE hl
  have hS : va_S (fun _ => False) s.heap s.heap [] := va_S.rf
  have C : kC p c cX0_dustTogether s m args meth RX0 g 1 (some .int) := C
  have hx := C.1.1
  have hb := C.1.2.1
  have hts := C.1.2.2.2.2
  refine lv_aload_n hx hb dX0_dustTogether_0 rfl (lv_at hl 0 rfl) ?_
  refine kg_get C kFX0 (k := 9) kw139 hP (i := 0) (q := 0) rfl rfl (by decide) rfl dX0_dustTogether_1 ?_
  refine lv_aload_n hx hb dX0_dustTogether_4 rfl (lv_at hl 0 rfl) ?_
  refine kg_get C kFX0 (k := 7) kw133 hP (i := 0) (q := 0) rfl rfl (by decide) rfl dX0_dustTogether_5 ?_
  refine kR_SN (As := [.ref (rC 9), .int (vC 7)]) (rest := []) C (X4_sumOf_c l g (rC 9) 6 (aC 9) (vC 7) nb hnb hv7 (by decide)) ⟨va_cnB (host := "SpiceScale") 2 hts (k_gI cs_X4_sumOf.2.2) rfl rfl rfl (C.2.1.2 _ (List.mem_of_getElem? (i := 64) rfl)) (hts _ cs_X4_sumOf.2.1) pnX4_sumOf ⟨Nat.le_of_ble_eq_true rfl, Nat.le_of_ble_eq_true rfl⟩, hts _ cs_X4_sumOf.1, trivial⟩ hE hS (hP.cell (i := 0) (q := 4) rfl rfl) rfl hl.1 rfl rfl dX0_dustTogether_8 ⟨Nat.le_of_ble_eq_true rfl, Nat.le_of_ble_eq_true rfl⟩ ?_
  exact kR_ret C ((show X0_dustTogether_f vC aC = (X4_sumOf_f 6 (aC 9) (vC 7)) from rfl)).symm dX0_dustTogether_11
