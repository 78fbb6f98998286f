
theorem kw113 : Cond.fieldLink RX0 43 "SpiceScale$Caravan" "day" "I" ∈ kW := k_w 2 45 rfl rfl
theorem kw121 : Cond.fieldLink RX0 49 "SpiceScale$Caravan" "thumb" "I" ∈ kW := k_w 2 53 rfl rfl
theorem kw124 : Cond.fieldLink RX0 52 "SpiceScale$Caravan" "jars" "I" ∈ kW := k_w 2 56 rfl rfl
theorem kw133 : Cond.fieldLink RX0 61 "SpiceScale$Caravan" "bags" "I" ∈ kW := k_w 2 65 rfl rfl
theorem kw136 : Cond.fieldLink RX0 22 "SpiceScale$Caravan" "bagTare" "[I" ∈ kW := k_w 2 68 rfl rfl
theorem kw139 : Cond.fieldLink RX0 25 "SpiceScale$Caravan" "bagDust" "[I" ∈ kW := k_w 2 71 rfl rfl
theorem kw144 : Cond.fieldLink RX0 31 "SpiceScale$Caravan" "bagGrains" "[I" ∈ kW := k_w 2 76 rfl rfl
theorem kw149 : Cond.fieldLink RX0 37 "SpiceScale$Caravan" "uses" "[I" ∈ kW := k_w 2 81 rfl rfl
theorem kw151 : Cond.fieldLink RX0 40 "SpiceScale$Caravan" "lastOathDay" "[I" ∈ kW := k_w 2 83 rfl rfl
theorem kw438 : Cond.methodLink RX0 143 yX0_shortnessOf ∈ kW := k_w 3 130 rfl rfl
theorem kw447 : Cond.methodLink RX4 339 yX4_isAmong ∈ kW := k_w 3 139 rfl rfl
theorem kw450 : Cond.fieldLink RX4 110 "SpiceScale" "GRAINS_OF_WEIGHT" "[I" ∈ kW := k_w 3 142 rfl rfl
abbrev wX4_isAmong : List Cond := Cond.code yX4_isAmong cX4_isAmong 2 (some .boolean) :: kW
def X4_isAmong_f (p0 : Int32) (p1 : Int32) : Bool :=
  if ((p1 >>> (p0 &&& 31)) &&& 1) = 0 then false
  else true
set_option maxHeartbeats 4000000 in
set_option maxRecDepth 100000 in
theorem X4_isAmong_c (l : Launch) (g : kG) (p0 : Int32) (p1 : Int32) : kR l yX4_isAmong wX4_isAmong 0 0 g [.int p0, .int p1] [] (b2i (X4_isAmong_f p0 p1)) := by
  refine kR_of (cc := cX4_isAmong) (nL := 2) (ret := (some .boolean)) (lv := [(0, .int p0), (1, .int p1)]) (by decide) rfl (Nat.le_of_ble_eq_true rfl) rfl ?_
  intro p e s m args below meth c ls C hP hE hl
  have hS : va_S (fun _ => False) s.heap s.heap [] := va_S.rf
  have C : kC p c cX4_isAmong s m args meth RX4 g 2 (some .boolean) := C
  have hx := C.1.1
  have hb := C.1.2.1
  have hts := C.1.2.2.2.2
  refine lv_iload_n hx hb dX4_isAmong_0 rfl (lv_at hl 1 rfl) ?_
  refine lv_iload_n hx hb dX4_isAmong_1 rfl (lv_at hl 0 rfl) ?_
  refine lv_ishr hx hb dX4_isAmong_2 ?_
  refine lv_iconst (v := 1) hx hb dX4_isAmong_3 (by decide) ?_
  refine lv_iand hx hb dX4_isAmong_4 ?_
  refine lv_if_eq (tgt := 12) hx hb dX4_isAmong_5 (by decide) (fun c1 => ?_) (fun c1 => ?_)
  · refine lv_iconst (v := 0) hx hb dX4_isAmong_12 (by decide) ?_
    exact kR_zret (x := b2i false) C (b2i_nar _) (congrArg b2i (show X4_isAmong_f p0 p1 = false from (if_pos c1).trans (rfl)).symm) dX4_isAmong_13
  refine lv_iconst (v := 1) hx hb dX4_isAmong_8 (by decide) ?_
  refine lv_goto (tgt := 13) hx hb dX4_isAmong_9 (by decide) ?_
  exact kR_zret (x := b2i true) C (b2i_nar _) (congrArg b2i (show X4_isAmong_f p0 p1 = true from (if_neg c1).trans (rfl)).symm) dX4_isAmong_13

abbrev wX4_priceOf : List Cond := Cond.code yX4_priceOf cX4_priceOf 2 (some .int) :: kW
def X4_priceOf_f (p0 : Int32) (p1 : Int32) : Int32 :=
  (2 + (((3 * p1) + (5 * p0)) - ((3 * p1) + (5 * p0)) / 7 * 7))
set_option maxHeartbeats 4000000 in
set_option maxRecDepth 100000 in
theorem X4_priceOf_c (l : Launch) (g : kG) (p0 : Int32) (p1 : Int32) : kR l yX4_priceOf wX4_priceOf 0 0 g [.int p0, .int p1] [] ((X4_priceOf_f p0 p1)) := by
  refine kR_of (cc := cX4_priceOf) (nL := 2) (ret := (some .int)) (lv := [(0, .int p0), (1, .int p1)]) (by decide) rfl (Nat.le_of_ble_eq_true rfl) rfl ?_
  intro p e s m args below meth c ls C hP hE hl
  have hS : va_S (fun _ => False) s.heap s.heap [] := va_S.rf
  have C : kC p c cX4_priceOf s m args meth RX4 g 2 (some .int) := C
  have hx := C.1.1
  have hb := C.1.2.1
  have hts := C.1.2.2.2.2
  refine lv_iconst (v := 2) hx hb dX4_priceOf_0 (by decide) ?_
  refine lv_iconst (v := 3) hx hb dX4_priceOf_1 (by decide) ?_
  refine lv_iload_n hx hb dX4_priceOf_2 rfl (lv_at hl 1 rfl) ?_
  refine lv_imul hx hb dX4_priceOf_3 ?_
  refine lv_iconst (v := 5) hx hb dX4_priceOf_4 (by decide) ?_
  refine lv_iload_n hx hb dX4_priceOf_5 rfl (lv_at hl 0 rfl) ?_
  refine lv_imul hx hb dX4_priceOf_6 ?_
  refine lv_iadd hx hb dX4_priceOf_7 ?_
  refine lv_bipush (v := 7) hx hb dX4_priceOf_8 (by decide) ?_
  refine lv_irem hx hb dX4_priceOf_10 (by decide) ?_
  refine lv_iadd hx hb dX4_priceOf_11 ?_
  exact kR_ret C ((show X4_priceOf_f p0 p1 = (2 + (((3 * p1) + (5 * p0)) - ((3 * p1) + (5 * p0)) / 7 * 7)) from rfl)).symm dX4_priceOf_12

abbrev wX4_isMarket : List Cond := Cond.code yX4_isMarket cX4_isMarket 1 (some .boolean) :: kW
def X4_isMarket_f (p0 : Int32) : Bool :=
  if p0 < 0 then false
  else if 4 ≤ p0 then false
  else true
set_option maxHeartbeats 4000000 in
set_option maxRecDepth 100000 in
theorem X4_isMarket_c (l : Launch) (g : kG) (p0 : Int32) : kR l yX4_isMarket wX4_isMarket 0 0 g [.int p0] [] (b2i (X4_isMarket_f p0)) := by
  refine kR_of (cc := cX4_isMarket) (nL := 1) (ret := (some .boolean)) (lv := [(0, .int p0)]) (by decide) rfl (Nat.le_of_ble_eq_true rfl) rfl ?_
  intro p e s m args below meth c ls C hP hE hl
  have hS : va_S (fun _ => False) s.heap s.heap [] := va_S.rf
  have C : kC p c cX4_isMarket s m args meth RX4 g 1 (some .boolean) := C
  have hx := C.1.1
  have hb := C.1.2.1
  have hts := C.1.2.2.2.2
  refine lv_iload_n hx hb dX4_isMarket_0 rfl (lv_at hl 0 rfl) ?_
  refine lv_if_lt (tgt := 13) hx hb dX4_isMarket_1 (by decide) (fun c1 => ?_) (fun c1 => ?_)
  · refine lv_iconst (v := 0) hx hb dX4_isMarket_13 (by decide) ?_
    exact kR_zret (x := b2i false) C (b2i_nar _) (congrArg b2i (show X4_isMarket_f p0 = false from (if_pos c1).trans (rfl)).symm) dX4_isMarket_14
  refine lv_iload_n hx hb dX4_isMarket_4 rfl (lv_at hl 0 rfl) ?_
  refine lv_iconst (v := 4) hx hb dX4_isMarket_5 (by decide) ?_
  refine lv_icmp_ge (tgt := 13) hx hb dX4_isMarket_6 (by decide) (fun c2 => ?_) (fun c2 => ?_)
  · refine lv_iconst (v := 0) hx hb dX4_isMarket_13 (by decide) ?_
    exact kR_zret (x := b2i false) C (b2i_nar _) (congrArg b2i (show X4_isMarket_f p0 = false from (if_neg c1).trans ((if_pos c2).trans (rfl))).symm) dX4_isMarket_14
  refine lv_iconst (v := 1) hx hb dX4_isMarket_9 (by decide) ?_
  refine lv_goto (tgt := 14) hx hb dX4_isMarket_10 (by decide) ?_
  exact kR_zret (x := b2i true) C (b2i_nar _) (congrArg b2i (show X4_isMarket_f p0 = true from (if_neg c1).trans ((if_neg c2).trans (rfl))).symm) dX4_isMarket_14

abbrev wX4_isSpice : List Cond := Cond.code yX4_isSpice cX4_isSpice 1 (some .boolean) :: kW
def X4_isSpice_f (p0 : Int32) : Bool :=
  if p0 < 0 then false
  else if 5 ≤ p0 then false
  else true
set_option maxHeartbeats 4000000 in
set_option maxRecDepth 100000 in
theorem X4_isSpice_c (l : Launch) (g : kG) (p0 : Int32) : kR l yX4_isSpice wX4_isSpice 0 0 g [.int p0] [] (b2i (X4_isSpice_f p0)) := by
  refine kR_of (cc := cX4_isSpice) (nL := 1) (ret := (some .boolean)) (lv := [(0, .int p0)]) (by decide) rfl (Nat.le_of_ble_eq_true rfl) rfl ?_
  intro p e s m args below meth c ls C hP hE hl
  have hS : va_S (fun _ => False) s.heap s.heap [] := va_S.rf
  have C : kC p c cX4_isSpice s m args meth RX4 g 1 (some .boolean) := C
  have hx := C.1.1
  have hb := C.1.2.1
  have hts := C.1.2.2.2.2
  refine lv_iload_n hx hb dX4_isSpice_0 rfl (lv_at hl 0 rfl) ?_
  refine lv_if_lt (tgt := 13) hx hb dX4_isSpice_1 (by decide) (fun c1 => ?_) (fun c1 => ?_)
  · refine lv_iconst (v := 0) hx hb dX4_isSpice_13 (by decide) ?_
    exact kR_zret (x := b2i false) C (b2i_nar _) (congrArg b2i (show X4_isSpice_f p0 = false from (if_pos c1).trans (rfl)).symm) dX4_isSpice_14
  refine lv_iload_n hx hb dX4_isSpice_4 rfl (lv_at hl 0 rfl) ?_
  refine lv_iconst (v := 5) hx hb dX4_isSpice_5 (by decide) ?_
  refine lv_icmp_ge (tgt := 13) hx hb dX4_isSpice_6 (by decide) (fun c2 => ?_) (fun c2 => ?_)
  · refine lv_iconst (v := 0) hx hb dX4_isSpice_13 (by decide) ?_
    exact kR_zret (x := b2i false) C (b2i_nar _) (congrArg b2i (show X4_isSpice_f p0 = false from (if_neg c1).trans ((if_pos c2).trans (rfl))).symm) dX4_isSpice_14
  refine lv_iconst (v := 1) hx hb dX4_isSpice_9 (by decide) ?_
  refine lv_goto (tgt := 14) hx hb dX4_isSpice_10 (by decide) ?_
  exact kR_zret (x := b2i true) C (b2i_nar _) (congrArg b2i (show X4_isSpice_f p0 = true from (if_neg c1).trans ((if_neg c2).trans (rfl))).symm) dX4_isSpice_14

abbrev wX4_isWeight : List Cond := Cond.code yX4_isWeight cX4_isWeight 1 (some .boolean) :: kW
def X4_isWeight_f (p0 : Int32) : Bool :=
  if p0 < 0 then false
  else if 8 ≤ p0 then false
  else true
set_option maxHeartbeats 4000000 in
set_option maxRecDepth 100000 in
theorem X4_isWeight_c (l : Launch) (g : kG) (p0 : Int32) : kR l yX4_isWeight wX4_isWeight 0 0 g [.int p0] [] (b2i (X4_isWeight_f p0)) := by
  refine kR_of (cc := cX4_isWeight) (nL := 1) (ret := (some .boolean)) (lv := [(0, .int p0)]) (by decide) rfl (Nat.le_of_ble_eq_true rfl) rfl ?_
  intro p e s m args below meth c ls C hP hE hl
  have hS : va_S (fun _ => False) s.heap s.heap [] := va_S.rf
  have C : kC p c cX4_isWeight s m args meth RX4 g 1 (some .boolean) := C
  have hx := C.1.1
  have hb := C.1.2.1
  have hts := C.1.2.2.2.2
  refine lv_iload_n hx hb dX4_isWeight_0 rfl (lv_at hl 0 rfl) ?_
  refine lv_if_lt (tgt := 14) hx hb dX4_isWeight_1 (by decide) (fun c1 => ?_) (fun c1 => ?_)
  · refine lv_iconst (v := 0) hx hb dX4_isWeight_14 (by decide) ?_
    exact kR_zret (x := b2i false) C (b2i_nar _) (congrArg b2i (show X4_isWeight_f p0 = false from (if_pos c1).trans (rfl)).symm) dX4_isWeight_15
  refine lv_iload_n hx hb dX4_isWeight_4 rfl (lv_at hl 0 rfl) ?_
  refine lv_bipush (v := 8) hx hb dX4_isWeight_5 (by decide) ?_
  refine lv_icmp_ge (tgt := 14) hx hb dX4_isWeight_7 (by decide) (fun c2 => ?_) (fun c2 => ?_)
  · refine lv_iconst (v := 0) hx hb dX4_isWeight_14 (by decide) ?_
    exact kR_zret (x := b2i false) C (b2i_nar _) (congrArg b2i (show X4_isWeight_f p0 = false from (if_neg c1).trans ((if_pos c2).trans (rfl))).symm) dX4_isWeight_15
  refine lv_iconst (v := 1) hx hb dX4_isWeight_10 (by decide) ?_
  refine lv_goto (tgt := 15) hx hb dX4_isWeight_11 (by decide) ?_
  exact kR_zret (x := b2i true) C (b2i_nar _) (congrArg b2i (show X4_isWeight_f p0 = true from (if_neg c1).trans ((if_neg c2).trans (rfl))).symm) dX4_isWeight_15

theorem pnX4_isAmong : yX4_isAmong.cls ≠ "java/lang/invoke/MethodHandle" ∧ yX4_isAmong.cls ≠ "java/lang/invoke/VarHandle" ∧ (parseMethodDescriptor yX4_isAmong.desc).map (fun d => d.parameters.length) = some 2 := by decide +kernel
theorem cs_X4_isAmong : kCst yX4_isAmong (Cond.code yX4_isAmong cX4_isAmong 2 (some .boolean)) := ⟨k_w 3 140 rfl rfl, k_w 2 1 rfl rfl, k_w 3 141 rfl rfl⟩

abbrev wX4_toldBy : List Cond := Cond.code yX4_toldBy cX4_toldBy 3 (some .int) :: kW
def X4_toldBy_lp4b (p0 : Int32) (rec : Int32 → Int32 → Int32) (x1_4 x2_4 : Int32) : Int32 :=
  if 8 ≤ x2_4 then x1_4
  else if (X4_isAmong_f x2_4 p0) = true then rec (x1_4 + (k_tab 2 x2_4.toNatClampNeg)) (x2_4 + 1)
  else rec x1_4 (x2_4 + 1)
def X4_toldBy_lp4 (p0 : Int32) : Nat → Int32 → Int32 → Int32
  | 0 => fun x1_4 x2_4 => 0
  | n + 1 => X4_toldBy_lp4b p0 (X4_toldBy_lp4 p0 n)
theorem X4_toldBy_lp4_s (p0 : Int32) (n : Nat) (x1_4 x2_4 : Int32) : X4_toldBy_lp4 p0 (n + 1) x1_4 x2_4 = X4_toldBy_lp4b p0 (X4_toldBy_lp4 p0 n) x1_4 x2_4 := rfl
def X4_toldBy_f (p0 : Int32) : Int32 :=
  X4_toldBy_lp4 p0 9 0 0
set_option maxHeartbeats 4000000 in
set_option maxRecDepth 100000 in
theorem X4_toldBy_c (l : Launch) (g : kG) (p0 : Int32) : kR l yX4_toldBy wX4_toldBy 1 21 g [.int p0] [] ((X4_toldBy_f p0)) := by
  refine kR_of (cc := cX4_toldBy) (nL := 3) (ret := (some .int)) (lv := [(0, .int p0)]) (by decide) rfl (Nat.le_of_ble_eq_true rfl) rfl ?_
  intro p e s m args below meth c ls C hP hE hl
  have hS : va_S (fun _ => False) s.heap s.heap [] := va_S.rf
  have C : kC p c cX4_toldBy s m args meth RX4 g 3 (some .int) := C
  have hx := C.1.1
  have hb := C.1.2.1
  have hts := C.1.2.2.2.2
  have loop4 : ∀ (n : Nat) (j4 : Nat) (x1_4 x2_4 : Int32) (ls : Array Slot), j4 ≤ 8 → 8 < j4 + n → x2_4 = nI j4 → X4_toldBy_f p0 = X4_toldBy_lp4 p0 n x1_4 x2_4 → lv_has ls 3 [(2, .int x2_4), (1, .int x1_4), (0, .int p0)] → W p l e (kRm 1 0 0 21) s m args below meth c s.heap [] 0 0 (MQ below (vp_Si (fun r => r = (X4_toldBy_f p0))) args s 0 0 (fun _ => False)) (F0 m 4 ls []) := by
    intro n
    induction n with
    | zero =>
      intro j4 x1_4 x2_4 ls hi4 hn4 hx4 hF4 hl
      exact absurd hn4 (by omega)
    | succ n ih4 =>
      intro j4 x1_4 x2_4 ls hi4 hn4 hx4 hF4 hl
      refine lv_iload_n hx hb dX4_toldBy_4 rfl (lv_at hl 0 rfl) ?_
      refine lv_bipush (v := 8) hx hb dX4_toldBy_5 (by decide) ?_
      refine lv_icmp_ge (tgt := 32) hx hb dX4_toldBy_7 (by decide) (fun c1 => ?_) (fun c1 => ?_)
      · refine lv_iload_n hx hb dX4_toldBy_32 rfl (lv_at hl 1 rfl) ?_
        exact kR_ret C ((show X4_toldBy_f p0 = x1_4 from hF4.trans ((X4_toldBy_lp4_s p0 n x1_4 x2_4).trans ((if_pos c1).trans (rfl))))).symm dX4_toldBy_33
      have hj4 := k_asc hx4 (y := 8) (N := 8) rfl hi4 (by omega) c1
      refine lv_iload_n hx hb dX4_toldBy_10 rfl (lv_at hl 0 rfl) ?_
      refine lv_iload_n hx hb dX4_toldBy_11 rfl (lv_at hl 2 rfl) ?_
      refine kR_S (As := [.int x2_4, .int p0]) (rest := []) C (X4_isAmong_c l g x2_4 p0) (va_cwS 2 hts (k_gS kw447 cs_X4_isAmong) rfl rfl rfl pnX4_isAmong ⟨Nat.le_of_ble_eq_true rfl, Nat.le_of_ble_eq_true rfl⟩) hE hS (hP.pick [] rfl) rfl hl.1 rfl rfl dX4_toldBy_12 ⟨Nat.le_of_ble_eq_true rfl, Nat.le_of_ble_eq_true rfl⟩ ?_
      refine lv_if_eq (tgt := 26) hx hb dX4_toldBy_15 (by decide) (fun c2 => ?_) (fun c2 => ?_)
      · have c2 := b2i_eq0 c2
        refine lv_iinc (v := (x2_4 + 1)) (lv' := [(2, .int (x2_4 + 1)), (1, .int x1_4), (0, .int p0)]) hx hb dX4_toldBy_26 hl (k := 0) rfl rfl (by decide) rfl (fun ls hl => ?_)
        refine lv_goto (tgt := 4) hx hb dX4_toldBy_29 (by decide) ?_
        exact ih4 (j4 + 1) x1_4 (x2_4 + 1) ls hj4 (by omega) (k_up hx4) (show X4_toldBy_f p0 = X4_toldBy_lp4 p0 n x1_4 (x2_4 + 1) from hF4.trans ((X4_toldBy_lp4_s p0 n x1_4 x2_4).trans ((if_neg c1).trans ((if_neg c2).trans (rfl))))) (lv_sub hl [0, 1, 2] rfl)
      have c2 := b2i_ne0 c2
      refine lv_iload_n hx hb dX4_toldBy_18 rfl (lv_at hl 1 rfl) ?_
      refine kg_tab C 2 (by decide) hE hS kw450 dX4_toldBy_19 ?_
      refine lv_iload_n hx hb dX4_toldBy_22 rfl (lv_at hl 0 rfl) ?_
      refine kg_tald C 2 (by decide) hE hS (by first | assumption | exact k_vin (M := 8) hx4 (by omega) (by decide)) dX4_toldBy_23 ?_
      refine lv_iadd hx hb dX4_toldBy_24 ?_
      refine lv_istore_n (lv' := [(1, .int (x1_4 + (k_tab 2 x2_4.toNatClampNeg))), (2, .int x2_4), (0, .int p0)]) hx hb dX4_toldBy_25 rfl hl (by decide) rfl (fun ls hl => ?_)
      refine lv_iinc (v := (x2_4 + 1)) (lv' := [(2, .int (x2_4 + 1)), (1, .int (x1_4 + (k_tab 2 x2_4.toNatClampNeg))), (0, .int p0)]) hx hb dX4_toldBy_26 hl (k := 1) rfl rfl (by decide) rfl (fun ls hl => ?_)
      refine lv_goto (tgt := 4) hx hb dX4_toldBy_29 (by decide) ?_
      exact ih4 (j4 + 1) (x1_4 + (k_tab 2 x2_4.toNatClampNeg)) (x2_4 + 1) ls hj4 (by omega) (k_up hx4) (show X4_toldBy_f p0 = X4_toldBy_lp4 p0 n (x1_4 + (k_tab 2 x2_4.toNatClampNeg)) (x2_4 + 1) from hF4.trans ((X4_toldBy_lp4_s p0 n x1_4 x2_4).trans ((if_neg c1).trans ((if_pos c2).trans (rfl))))) (lv_sub hl [0, 1, 2] rfl)
  refine lv_iconst (v := 0) hx hb dX4_toldBy_0 (by decide) ?_
  refine lv_istore_n (lv' := [(1, .int 0), (0, .int p0)]) hx hb dX4_toldBy_1 rfl hl (by decide) rfl (fun ls hl => ?_)
  refine lv_iconst (v := 0) hx hb dX4_toldBy_2 (by decide) ?_
  refine lv_istore_n (lv' := [(2, .int 0), (1, .int 0), (0, .int p0)]) hx hb dX4_toldBy_3 rfl hl (by decide) rfl (fun ls hl => ?_)
  exact loop4 9 0 0 0 ls (by omega) (by omega) rfl (show X4_toldBy_f p0 = X4_toldBy_lp4 p0 9 0 0 from rfl) (lv_sub hl [0, 1, 2] rfl)

abbrev wX4_sumOf : List Cond := Cond.code yX4_sumOf cX4_sumOf 4 (some .int) :: kW
def X4_sumOf_lp4b (nA : Nat) (fA : Nat → Int32) (p1 : Int32) (rec : Int32 → Int32 → Int32) (x2_4 x3_4 : Int32) : Int32 :=
  if p1 ≤ x3_4 then x2_4
  else if Int32.ofNat nA ≤ x3_4 then x2_4
  else rec (x2_4 + (fA x3_4.toNatClampNeg)) (x3_4 + 1)
def X4_sumOf_lp4 (nA : Nat) (fA : Nat → Int32) (p1 : Int32) : Nat → Int32 → Int32 → Int32
  | 0 => fun x2_4 x3_4 => 0
  | n + 1 => X4_sumOf_lp4b nA fA p1 (X4_sumOf_lp4 nA fA p1 n)
theorem X4_sumOf_lp4_s (nA : Nat) (fA : Nat → Int32) (p1 : Int32) (n : Nat) (x2_4 x3_4 : Int32) : X4_sumOf_lp4 nA fA p1 (n + 1) x2_4 x3_4 = X4_sumOf_lp4b nA fA p1 (X4_sumOf_lp4 nA fA p1 n) x2_4 x3_4 := rfl
def X4_sumOf_f (nA : Nat) (fA : Nat → Int32) (p1 : Int32) : Int32 :=
  X4_sumOf_lp4 nA fA p1 7 0 0
set_option maxHeartbeats 4000000 in
set_option maxRecDepth 100000 in
theorem X4_sumOf_c (l : Launch) (g : kG) (qA nA : Nat) (fA : Nat → Int32) (p1 : Int32) (nb : Nat) (hnb : nb ≤ 6) (hv : p1 = nI nb) (hA6 : 6 ≤ nA ∧ nA < 100) : kR l yX4_sumOf wX4_sumOf 0 0 g [.ref qA, .int p1] [[(qA, .inl (g.2.1 2, nA, .inl fA))]] ((X4_sumOf_f nA fA p1)) := by
  refine kR_of (cc := cX4_sumOf) (nL := 4) (ret := (some .int)) (lv := [(0, .ref qA), (1, .int p1)]) (by decide) rfl (Nat.le_of_ble_eq_true rfl) rfl ?_
  intro p e s m args below meth c ls C hP hE hl
  have hS : va_S (fun _ => False) s.heap s.heap [] := va_S.rf
  have C : kC p c cX4_sumOf s m args meth RX4 g 4 (some .int) := C
  have hx := C.1.1
  have hb := C.1.2.1
  have hts := C.1.2.2.2.2
  have loop4 : ∀ (n : Nat) (j4 : Nat) (x2_4 x3_4 : Int32) (ls : Array Slot), j4 ≤ nb → nb < j4 + n → x3_4 = nI j4 → X4_sumOf_f nA fA p1 = X4_sumOf_lp4 nA fA p1 n x2_4 x3_4 → lv_has ls 4 [(3, .int x3_4), (2, .int x2_4), (0, .ref qA), (1, .int p1)] → W p l e (kRm 0 0 0 0) s m args below meth c s.heap [] 0 0 (MQ below (vp_Si (fun r => r = (X4_sumOf_f nA fA p1))) args s 0 0 (fun _ => False)) (F0 m 4 ls []) := by
    intro n
    induction n with
    | zero =>
      intro j4 x2_4 x3_4 ls hi4 hn4 hx4 hF4 hl
      exact absurd hn4 (by omega)
    | succ n ih4 =>
      intro j4 x2_4 x3_4 ls hi4 hn4 hx4 hF4 hl
      refine lv_iload_n hx hb dX4_sumOf_4 rfl (lv_at hl 0 rfl) ?_
      refine lv_iload_n hx hb dX4_sumOf_5 rfl (lv_at hl 3 rfl) ?_
      refine lv_icmp_ge (tgt := 27) hx hb dX4_sumOf_6 (by decide) (fun c1 => ?_) (fun c1 => ?_)
      · refine lv_iload_n hx hb dX4_sumOf_27 rfl (lv_at hl 1 rfl) ?_
        exact kR_ret C ((show X4_sumOf_f nA fA p1 = x2_4 from hF4.trans ((X4_sumOf_lp4_s nA fA p1 n x2_4 x3_4).trans ((if_pos c1).trans (rfl))))).symm dX4_sumOf_28
      have hj4 := k_asc hx4 (y := p1) (N := nb) hv hi4 (by omega) c1
      refine lv_iload_n hx hb dX4_sumOf_9 rfl (lv_at hl 0 rfl) ?_
      refine lv_aload_n hx hb dX4_sumOf_10 rfl (lv_at hl 2 rfl) ?_
      refine kg_alen C hP (i := 0) (q := 0) rfl rfl (v := Int32.ofNat nA) rfl dX4_sumOf_11 ?_
      refine lv_icmp_ge (tgt := 27) hx hb dX4_sumOf_12 (by decide) (fun c2 => ?_) (fun c2 => ?_)
      · refine lv_iload_n hx hb dX4_sumOf_27 rfl (lv_at hl 1 rfl) ?_
        exact kR_ret C ((show X4_sumOf_f nA fA p1 = x2_4 from hF4.trans ((X4_sumOf_lp4_s nA fA p1 n x2_4 x3_4).trans ((if_neg c1).trans ((if_pos c2).trans (rfl)))))).symm dX4_sumOf_28
      refine lv_iload_n hx hb dX4_sumOf_15 rfl (lv_at hl 1 rfl) ?_
      refine lv_aload_n hx hb dX4_sumOf_16 rfl (lv_at hl 2 rfl) ?_
      refine lv_iload_n hx hb dX4_sumOf_17 rfl (lv_at hl 0 rfl) ?_
      refine kg_iald C hP (i := 0) (q := 0) rfl rfl (k_vin hx4 (by omega) (by omega)) dX4_sumOf_18 ?_
      refine lv_iadd hx hb dX4_sumOf_19 ?_
      refine lv_istore_n (lv' := [(2, .int (x2_4 + (fA x3_4.toNatClampNeg))), (3, .int x3_4), (0, .ref qA), (1, .int p1)]) hx hb dX4_sumOf_20 rfl hl (by decide) rfl (fun ls hl => ?_)
      refine lv_iinc (v := (x3_4 + 1)) (lv' := [(3, .int (x3_4 + 1)), (2, .int (x2_4 + (fA x3_4.toNatClampNeg))), (0, .ref qA), (1, .int p1)]) hx hb dX4_sumOf_21 hl (k := 1) rfl rfl (by decide) rfl (fun ls hl => ?_)
      refine lv_goto (tgt := 4) hx hb dX4_sumOf_24 (by decide) ?_
      exact ih4 (j4 + 1) (x2_4 + (fA x3_4.toNatClampNeg)) (x3_4 + 1) ls hj4 (by omega) (k_up hx4) (show X4_sumOf_f nA fA p1 = X4_sumOf_lp4 nA fA p1 n (x2_4 + (fA x3_4.toNatClampNeg)) (x3_4 + 1) from hF4.trans ((X4_sumOf_lp4_s nA fA p1 n x2_4 x3_4).trans ((if_neg c1).trans ((if_neg c2).trans (rfl))))) (lv_sub hl [0, 1, 2, 3] rfl)
  refine lv_iconst (v := 0) hx hb dX4_sumOf_0 (by decide) ?_
  refine lv_istore_n (lv' := [(2, .int 0), (0, .ref qA), (1, .int p1)]) hx hb dX4_sumOf_1 rfl hl (by decide) rfl (fun ls hl => ?_)
  refine lv_iconst (v := 0) hx hb dX4_sumOf_2 (by decide) ?_
  refine lv_istore_n (lv' := [(3, .int 0), (2, .int 0), (0, .ref qA), (1, .int p1)]) hx hb dX4_sumOf_3 rfl hl (by decide) rfl (fun ls hl => ?_)
  exact loop4 7 0 0 0 ls (by omega) (by omega) rfl (show X4_sumOf_f nA fA p1 = X4_sumOf_lp4 nA fA p1 7 0 0 from rfl) (lv_sub hl [0, 1, 2, 3] rfl)

abbrev wX0_hasJar : List Cond := Cond.code yX0_hasJar cX0_hasJar 2 (some .boolean) :: kW
def X0_hasJar_f (vC : Nat → Int32) (aC : Nat → Nat → Int32) (p0 : Int32) : Bool :=
  if p0 < 0 then false
  else if (vC 4) ≤ p0 then false
  else true
set_option maxHeartbeats 4000000 in
set_option maxRecDepth 100000 in
theorem X0_hasJar_c (l : Launch) (g : kG) (oC : Nat) (rC : Nat → Nat) (vC : Nat → Int32) (aC : Nat → Nat → Int32) (p0 : Int32) : kR l yX0_hasJar wX0_hasJar 0 0 g [.ref oC, .int p0] [X0W g oC rC vC aC] (b2i (X0_hasJar_f vC aC p0)) := by
  refine kR_of (cc := cX0_hasJar) (nL := 2) (ret := (some .boolean)) (lv := [(0, .ref oC), (1, .int p0)]) (by decide) rfl (Nat.le_of_ble_eq_true rfl) rfl ?_
  intro p e s m args below meth c ls C hP hE hl
  have hS : va_S (fun _ => False) s.heap s.heap [] := va_S.rf
  have C : kC p c cX0_hasJar s m args meth RX0 g 2 (some .boolean) := C
  have hx := C.1.1
  have hb := C.1.2.1
  have hts := C.1.2.2.2.2
  refine lv_iload_n hx hb dX0_hasJar_0 rfl (lv_at hl 1 rfl) ?_
  refine lv_if_lt (tgt := 16) hx hb dX0_hasJar_1 (by decide) (fun c1 => ?_) (fun c1 => ?_)
  · refine lv_iconst (v := 0) hx hb dX0_hasJar_16 (by decide) ?_
    exact kR_zret (x := b2i false) C (b2i_nar _) (congrArg b2i (show X0_hasJar_f vC aC p0 = false from (if_pos c1).trans (rfl)).symm) dX0_hasJar_17
  refine lv_iload_n hx hb dX0_hasJar_4 rfl (lv_at hl 1 rfl) ?_
  refine lv_aload_n hx hb dX0_hasJar_5 rfl (lv_at hl 0 rfl) ?_
  refine kg_get C kFX0 (k := 4) kw124 hP (i := 0) (q := 0) rfl rfl (by decide) rfl dX0_hasJar_6 ?_
  refine lv_icmp_ge (tgt := 16) hx hb dX0_hasJar_9 (by decide) (fun c2 => ?_) (fun c2 => ?_)
  · refine lv_iconst (v := 0) hx hb dX0_hasJar_16 (by decide) ?_
    exact kR_zret (x := b2i false) C (b2i_nar _) (congrArg b2i (show X0_hasJar_f vC aC p0 = false from (if_neg c1).trans ((if_pos c2).trans (rfl))).symm) dX0_hasJar_17
  refine lv_iconst (v := 1) hx hb dX0_hasJar_12 (by decide) ?_
  refine lv_goto (tgt := 17) hx hb dX0_hasJar_13 (by decide) ?_
  exact kR_zret (x := b2i true) C (b2i_nar _) (congrArg b2i (show X0_hasJar_f vC aC p0 = true from (if_neg c1).trans ((if_neg c2).trans (rfl))).symm) dX0_hasJar_17

abbrev wX0_hasBag : List Cond := Cond.code yX0_hasBag cX0_hasBag 2 (some .boolean) :: kW
def X0_hasBag_f (vC : Nat → Int32) (aC : Nat → Nat → Int32) (p0 : Int32) : Bool :=
  if p0 < 0 then false
  else if (vC 7) ≤ p0 then false
  else true
set_option maxHeartbeats 4000000 in
set_option maxRecDepth 100000 in
theorem X0_hasBag_c (l : Launch) (g : kG) (oC : Nat) (rC : Nat → Nat) (vC : Nat → Int32) (aC : Nat → Nat → Int32) (p0 : Int32) : kR l yX0_hasBag wX0_hasBag 0 0 g [.ref oC, .int p0] [X0W g oC rC vC aC] (b2i (X0_hasBag_f vC aC p0)) := by
  refine kR_of (cc := cX0_hasBag) (nL := 2) (ret := (some .boolean)) (lv := [(0, .ref oC), (1, .int p0)]) (by decide) rfl (Nat.le_of_ble_eq_true rfl) rfl ?_
  intro p e s m args below meth c ls C hP hE hl
  have hS : va_S (fun _ => False) s.heap s.heap [] := va_S.rf
  have C : kC p c cX0_hasBag s m args meth RX0 g 2 (some .boolean) := C
  have hx := C.1.1
  have hb := C.1.2.1
  have hts := C.1.2.2.2.2
  refine lv_iload_n hx hb dX0_hasBag_0 rfl (lv_at hl 1 rfl) ?_
  refine lv_if_lt (tgt := 16) hx hb dX0_hasBag_1 (by decide) (fun c1 => ?_) (fun c1 => ?_)
  · refine lv_iconst (v := 0) hx hb dX0_hasBag_16 (by decide) ?_
    exact kR_zret (x := b2i false) C (b2i_nar _) (congrArg b2i (show X0_hasBag_f vC aC p0 = false from (if_pos c1).trans (rfl)).symm) dX0_hasBag_17
  refine lv_iload_n hx hb dX0_hasBag_4 rfl (lv_at hl 1 rfl) ?_
  refine lv_aload_n hx hb dX0_hasBag_5 rfl (lv_at hl 0 rfl) ?_
  refine kg_get C kFX0 (k := 7) kw133 hP (i := 0) (q := 0) rfl rfl (by decide) rfl dX0_hasBag_6 ?_
  refine lv_icmp_ge (tgt := 16) hx hb dX0_hasBag_9 (by decide) (fun c2 => ?_) (fun c2 => ?_)
  · refine lv_iconst (v := 0) hx hb dX0_hasBag_16 (by decide) ?_
    exact kR_zret (x := b2i false) C (b2i_nar _) (congrArg b2i (show X0_hasBag_f vC aC p0 = false from (if_neg c1).trans ((if_pos c2).trans (rfl))).symm) dX0_hasBag_17
  refine lv_iconst (v := 1) hx hb dX0_hasBag_12 (by decide) ?_
  refine lv_goto (tgt := 17) hx hb dX0_hasBag_13 (by decide) ?_
  exact kR_zret (x := b2i true) C (b2i_nar _) (congrArg b2i (show X0_hasBag_f vC aC p0 = true from (if_neg c1).trans ((if_neg c2).trans (rfl))).symm) dX0_hasBag_17

abbrev wX0_loadOf : List Cond := Cond.code yX0_loadOf cX0_loadOf 2 (some .int) :: kW
def X0_loadOf_f (vC : Nat → Int32) (aC : Nat → Nat → Int32) (p0 : Int32) : Int32 :=
  (((((aC 8) p0.toNatClampNeg) + ((aC 9) p0.toNatClampNeg)) + ((aC 11) p0.toNatClampNeg)) + (vC 3))
set_option maxHeartbeats 4000000 in
set_option maxRecDepth 100000 in
theorem X0_loadOf_c (l : Launch) (g : kG) (oC : Nat) (rC : Nat → Nat) (vC : Nat → Int32) (aC : Nat → Nat → Int32) (p0 : Int32) (hb : vp_in p0 6) : kR l yX0_loadOf wX0_loadOf 0 0 g [.ref oC, .int p0] [X0W g oC rC vC aC] ((X0_loadOf_f vC aC p0)) := by
  refine kR_of (cc := cX0_loadOf) (nL := 2) (ret := (some .int)) (lv := [(0, .ref oC), (1, .int p0)]) (by decide) rfl (Nat.le_of_ble_eq_true rfl) rfl ?_
  intro p e s m args below meth c ls C hP hE hl
  have hS : va_S (fun _ => False) s.heap s.heap [] := va_S.rf
  have C : kC p c cX0_loadOf s m args meth RX0 g 2 (some .int) := C
  have hx := C.1.1
  have hb := C.1.2.1
  have hts := C.1.2.2.2.2
  refine lv_aload_n hx hb dX0_loadOf_0 rfl (lv_at hl 0 rfl) ?_
  refine kg_get C kFX0 (k := 8) kw136 hP (i := 0) (q := 0) rfl rfl (by decide) rfl dX0_loadOf_1 ?_
  refine lv_iload_n hx hb dX0_loadOf_4 rfl (lv_at hl 1 rfl) ?_
  refine kg_iald C hP (i := 0) (q := 3) rfl rfl (by first | assumption) dX0_loadOf_5 ?_
  refine lv_aload_n hx hb dX0_loadOf_6 rfl (lv_at hl 0 rfl) ?_
  refine kg_get C kFX0 (k := 9) kw139 hP (i := 0) (q := 0) rfl rfl (by decide) rfl dX0_loadOf_7 ?_
  refine lv_iload_n hx hb dX0_loadOf_10 rfl (lv_at hl 1 rfl) ?_
  refine kg_iald C hP (i := 0) (q := 4) rfl rfl (by first | assumption) dX0_loadOf_11 ?_
  refine lv_iadd hx hb dX0_loadOf_12 ?_
  refine lv_aload_n hx hb dX0_loadOf_13 rfl (lv_at hl 0 rfl) ?_
  refine kg_get C kFX0 (k := 11) kw144 hP (i := 0) (q := 0) rfl rfl (by decide) rfl dX0_loadOf_14 ?_
  refine lv_iload_n hx hb dX0_loadOf_17 rfl (lv_at hl 1 rfl) ?_
  refine kg_iald C hP (i := 0) (q := 6) rfl rfl (by first | assumption) dX0_loadOf_18 ?_
  refine lv_iadd hx hb dX0_loadOf_19 ?_
  refine lv_aload_n hx hb dX0_loadOf_20 rfl (lv_at hl 0 rfl) ?_
  refine kg_get C kFX0 (k := 3) kw121 hP (i := 0) (q := 0) rfl rfl (by decide) rfl dX0_loadOf_21 ?_
  refine lv_iadd hx hb dX0_loadOf_24 ?_
  exact kR_ret C ((show X0_loadOf_f vC aC p0 = (((((aC 8) p0.toNatClampNeg) + ((aC 9) p0.toNatClampNeg)) + ((aC 11) p0.toNatClampNeg)) + (vC 3)) from rfl)).symm dX0_loadOf_25

abbrev wX0_isOathInForce : List Cond := Cond.code yX0_isOathInForce cX0_isOathInForce 2 (some .boolean) :: kW
def X0_isOathInForce_f (vC : Nat → Int32) (aC : Nat → Nat → Int32) (p0 : Int32) : Bool :=
  if ((aC 14) p0.toNatClampNeg) < (vC 0) then false
  else true
set_option maxHeartbeats 4000000 in
set_option maxRecDepth 100000 in
theorem X0_isOathInForce_c (l : Launch) (g : kG) (oC : Nat) (rC : Nat → Nat) (vC : Nat → Int32) (aC : Nat → Nat → Int32) (p0 : Int32) (hm : vp_in p0 4) : kR l yX0_isOathInForce wX0_isOathInForce 0 0 g [.ref oC, .int p0] [X0W g oC rC vC aC] (b2i (X0_isOathInForce_f vC aC p0)) := by
  refine kR_of (cc := cX0_isOathInForce) (nL := 2) (ret := (some .boolean)) (lv := [(0, .ref oC), (1, .int p0)]) (by decide) rfl (Nat.le_of_ble_eq_true rfl) rfl ?_
  intro p e s m args below meth c ls C hP hE hl
  have hS : va_S (fun _ => False) s.heap s.heap [] := va_S.rf
  have C : kC p c cX0_isOathInForce s m args meth RX0 g 2 (some .boolean) := C
  have hx := C.1.1
  have hb := C.1.2.1
  have hts := C.1.2.2.2.2
  refine lv_aload_n hx hb dX0_isOathInForce_0 rfl (lv_at hl 0 rfl) ?_
  refine kg_get C kFX0 (k := 0) kw113 hP (i := 0) (q := 0) rfl rfl (by decide) rfl dX0_isOathInForce_1 ?_
  refine lv_aload_n hx hb dX0_isOathInForce_4 rfl (lv_at hl 0 rfl) ?_
  refine kg_get C kFX0 (k := 14) kw151 hP (i := 0) (q := 0) rfl rfl (by decide) rfl dX0_isOathInForce_5 ?_
  refine lv_iload_n hx hb dX0_isOathInForce_8 rfl (lv_at hl 1 rfl) ?_
  refine kg_iald C hP (i := 0) (q := 9) rfl rfl (by first | assumption) dX0_isOathInForce_9 ?_
  refine lv_icmp_gt (tgt := 17) hx hb dX0_isOathInForce_10 (by decide) (fun c1 => ?_) (fun c1 => ?_)
  · refine lv_iconst (v := 0) hx hb dX0_isOathInForce_17 (by decide) ?_
    exact kR_zret (x := b2i false) C (b2i_nar _) (congrArg b2i (show X0_isOathInForce_f vC aC p0 = false from (if_pos c1).trans (rfl)).symm) dX0_isOathInForce_18
  refine lv_iconst (v := 1) hx hb dX0_isOathInForce_13 (by decide) ?_
  refine lv_goto (tgt := 18) hx hb dX0_isOathInForce_14 (by decide) ?_
  exact kR_zret (x := b2i true) C (b2i_nar _) (congrArg b2i (show X0_isOathInForce_f vC aC p0 = true from (if_neg c1).trans (rfl)).symm) dX0_isOathInForce_18

abbrev wX0_shortnessOf : List Cond := Cond.code yX0_shortnessOf cX0_shortnessOf 3 (some .int) :: kW
def X0_shortnessOf_f (vC : Nat → Int32) (aC : Nat → Nat → Int32) (p0 : Int32) : Int32 :=
  if (k_tab 3 p0.toNatClampNeg) ≤ (((aC 13) p0.toNatClampNeg) / 8) then (k_tab 3 p0.toNatClampNeg)
  else (((aC 13) p0.toNatClampNeg) / 8)
set_option maxHeartbeats 4000000 in
set_option maxRecDepth 100000 in
theorem X0_shortnessOf_c (l : Launch) (g : kG) (oC : Nat) (rC : Nat → Nat) (vC : Nat → Int32) (aC : Nat → Nat → Int32) (p0 : Int32) (hw : vp_in p0 8) : kR l yX0_shortnessOf wX0_shortnessOf 0 0 g [.ref oC, .int p0] [X0W g oC rC vC aC] ((X0_shortnessOf_f vC aC p0)) := by
  refine kR_of (cc := cX0_shortnessOf) (nL := 3) (ret := (some .int)) (lv := [(0, .ref oC), (1, .int p0)]) (by decide) rfl (Nat.le_of_ble_eq_true rfl) rfl ?_
  intro p e s m args below meth c ls C hP hE hl
  have hS : va_S (fun _ => False) s.heap s.heap [] := va_S.rf
  have C : kC p c cX0_shortnessOf s m args meth RX0 g 3 (some .int) := C
  have hx := C.1.1
  have hb := C.1.2.1
  have hts := C.1.2.2.2.2
  refine lv_aload_n hx hb dX0_shortnessOf_0 rfl (lv_at hl 0 rfl) ?_
  refine kg_get C kFX0 (k := 13) kw149 hP (i := 0) (q := 0) rfl rfl (by decide) rfl dX0_shortnessOf_1 ?_
  refine lv_iload_n hx hb dX0_shortnessOf_4 rfl (lv_at hl 1 rfl) ?_
  refine kg_iald C hP (i := 0) (q := 8) rfl rfl (by first | assumption) dX0_shortnessOf_5 ?_
  refine lv_bipush (v := 8) hx hb dX0_shortnessOf_6 (by decide) ?_
  refine lv_idiv hx hb dX0_shortnessOf_8 (by decide) ?_
  refine lv_istore_n (lv' := [(2, .int (((aC 13) p0.toNatClampNeg) / 8)), (0, .ref oC), (1, .int p0)]) hx hb dX0_shortnessOf_9 rfl hl (by decide) rfl (fun ls hl => ?_)
  refine lv_iload_n hx hb dX0_shortnessOf_10 rfl (lv_at hl 0 rfl) ?_
  refine kg_tabN C 3 (by decide) hE hS (List.mem_of_getElem? (i := 53) rfl) dX0_shortnessOf_11 ?_
  refine lv_iload_n hx hb dX0_shortnessOf_14 rfl (lv_at hl 2 rfl) ?_
  refine kg_tald C 3 (by decide) hE hS (by first | assumption) dX0_shortnessOf_15 ?_
  refine lv_icmp_ge (tgt := 23) hx hb dX0_shortnessOf_16 (by decide) (fun c1 => ?_) (fun c1 => ?_)
  · refine kg_tabN C 3 (by decide) hE hS (List.mem_of_getElem? (i := 53) rfl) dX0_shortnessOf_23 ?_
    refine lv_iload_n hx hb dX0_shortnessOf_26 rfl (lv_at hl 2 rfl) ?_
    refine kg_tald C 3 (by decide) hE hS (by first | assumption) dX0_shortnessOf_27 ?_
    exact kR_ret C ((show X0_shortnessOf_f vC aC p0 = (k_tab 3 p0.toNatClampNeg) from (if_pos c1).trans (rfl))).symm dX0_shortnessOf_28
  refine lv_iload_n hx hb dX0_shortnessOf_19 rfl (lv_at hl 0 rfl) ?_
  refine lv_goto (tgt := 28) hx hb dX0_shortnessOf_20 (by decide) ?_
  exact kR_ret C ((show X0_shortnessOf_f vC aC p0 = (((aC 13) p0.toNatClampNeg) / 8) from (if_neg c1).trans (rfl))).symm dX0_shortnessOf_28

theorem pnX0_shortnessOf : yX0_shortnessOf.cls ≠ "java/lang/invoke/MethodHandle" ∧ yX0_shortnessOf.cls ≠ "java/lang/invoke/VarHandle" ∧ (parseMethodDescriptor yX0_shortnessOf.desc).map (fun d => d.parameters.length) = some 1 := by decide +kernel
theorem ca_X0_shortnessOf : kCal yX0_shortnessOf (Cond.code yX0_shortnessOf cX0_shortnessOf 3 (some .int)) := ⟨k_w 3 132 rfl rfl, k_w 1 20 rfl rfl, k_w 2 2 rfl rfl, k_w 3 133 rfl rfl⟩

abbrev wX0_usesToBeShorter : List Cond := Cond.code yX0_usesToBeShorter cX0_usesToBeShorter 2 (some .int) :: kW
def X0_usesToBeShorter_f (vC : Nat → Int32) (aC : Nat → Nat → Int32) (p0 : Int32) : Int32 :=
  if (X0_shortnessOf_f vC aC p0) < (k_tab 3 p0.toNatClampNeg) then (8 - (((aC 13) p0.toNatClampNeg) - ((aC 13) p0.toNatClampNeg) / 8 * 8))
  else (-1)
set_option maxHeartbeats 4000000 in
set_option maxRecDepth 100000 in
theorem X0_usesToBeShorter_c (l : Launch) (g : kG) (oC : Nat) (rC : Nat → Nat) (vC : Nat → Int32) (aC : Nat → Nat → Int32) (p0 : Int32) (hw : vp_in p0 8) : kR l yX0_usesToBeShorter wX0_usesToBeShorter 1 22 g [.ref oC, .int p0] [X0W g oC rC vC aC] ((X0_usesToBeShorter_f vC aC p0)) := by
  refine kR_of (cc := cX0_usesToBeShorter) (nL := 2) (ret := (some .int)) (lv := [(0, .ref oC), (1, .int p0)]) (by decide) rfl (Nat.le_of_ble_eq_true rfl) rfl ?_
  intro p e s m args below meth c ls C hP hE hl
  have hS : va_S (fun _ => False) s.heap s.heap [] := va_S.rf
  have C : kC p c cX0_usesToBeShorter s m args meth RX0 g 2 (some .int) := C
  have hx := C.1.1
  have hb := C.1.2.1
  have hts := C.1.2.2.2.2
  refine lv_aload_n hx hb dX0_usesToBeShorter_0 rfl (lv_at hl 0 rfl) ?_
  refine lv_iload_n hx hb dX0_usesToBeShorter_1 rfl (lv_at hl 1 rfl) ?_
  refine kR_V (As := [.int p0]) (rest := []) C (X0_shortnessOf_c l g oC rC vC aC p0 (by first | assumption)) (cwV 1 hts (k_gV kw438 ca_X0_shortnessOf) rfl rfl rfl ⟨rfl, pnX0_shortnessOf⟩ ⟨Nat.le_of_ble_eq_true rfl, Nat.le_of_ble_eq_true rfl⟩) hE hS (hP.pick [0] rfl) (k_recv C kFX0 hP (i := 0) (q := 0) rfl rfl) rfl hl.1 rfl rfl dX0_usesToBeShorter_2 ⟨Nat.le_of_ble_eq_true rfl, Nat.le_of_ble_eq_true rfl⟩ ?_
  refine kg_tabN C 3 (by decide) hE hS (List.mem_of_getElem? (i := 53) rfl) dX0_usesToBeShorter_5 ?_
  refine lv_iload_n hx hb dX0_usesToBeShorter_8 rfl (lv_at hl 1 rfl) ?_
  refine kg_tald C 3 (by decide) hE hS (by first | assumption) dX0_usesToBeShorter_9 ?_
  refine lv_icmp_lt (tgt := 15) hx hb dX0_usesToBeShorter_10 (by decide) (fun c1 => ?_) (fun c1 => ?_)
  · refine lv_bipush (v := 8) hx hb dX0_usesToBeShorter_15 (by decide) ?_
    refine lv_aload_n hx hb dX0_usesToBeShorter_17 rfl (lv_at hl 0 rfl) ?_
    refine kg_get C kFX0 (k := 13) kw149 hP (i := 0) (q := 0) rfl rfl (by decide) rfl dX0_usesToBeShorter_18 ?_
    refine lv_iload_n hx hb dX0_usesToBeShorter_21 rfl (lv_at hl 1 rfl) ?_
    refine kg_iald C hP (i := 0) (q := 8) rfl rfl (by first | assumption) dX0_usesToBeShorter_22 ?_
    refine lv_bipush (v := 8) hx hb dX0_usesToBeShorter_23 (by decide) ?_
    refine lv_irem hx hb dX0_usesToBeShorter_25 (by decide) ?_
    refine lv_isub hx hb dX0_usesToBeShorter_26 ?_
    exact kR_ret C ((show X0_usesToBeShorter_f vC aC p0 = (8 - (((aC 13) p0.toNatClampNeg) - ((aC 13) p0.toNatClampNeg) / 8 * 8)) from (if_pos c1).trans (rfl))).symm dX0_usesToBeShorter_27
  refine lv_iconst (v := (-1)) hx hb dX0_usesToBeShorter_13 (by decide) ?_
  exact kR_ret C ((show X0_usesToBeShorter_f vC aC p0 = (-1) from (if_neg c1).trans (rfl))).symm dX0_usesToBeShorter_14

abbrev wX0_weightsFor : List Cond := Cond.code yX0_weightsFor cX0_weightsFor 6 (some .int) :: kW
def X0_weightsFor_lp8b (vC : Nat → Int32) (aC : Nat → Nat → Int32) (p0 : Int32) (rec : Int32 → Int32 → Int32 → Int32) (x2_8 x3_8 x4_8 : Int32) : Int32 :=
  if x4_8 < 0 then x2_8
  else if p0 < (x3_8 + ((k_tab 2 x4_8.toNatClampNeg) - (X0_shortnessOf_f vC aC x4_8))) then rec x2_8 x3_8 (x4_8 + (-1))
  else rec (x2_8 ||| (1 <<< (x4_8 &&& 31))) (x3_8 + ((k_tab 2 x4_8.toNatClampNeg) - (X0_shortnessOf_f vC aC x4_8))) (x4_8 + (-1))
def X0_weightsFor_lp8 (vC : Nat → Int32) (aC : Nat → Nat → Int32) (p0 : Int32) : Nat → Int32 → Int32 → Int32 → Int32
  | 0 => fun x2_8 x3_8 x4_8 => 0
  | n + 1 => X0_weightsFor_lp8b vC aC p0 (X0_weightsFor_lp8 vC aC p0 n)
theorem X0_weightsFor_lp8_s (vC : Nat → Int32) (aC : Nat → Nat → Int32) (p0 : Int32) (n : Nat) (x2_8 x3_8 x4_8 : Int32) : X0_weightsFor_lp8 vC aC p0 (n + 1) x2_8 x3_8 x4_8 = X0_weightsFor_lp8b vC aC p0 (X0_weightsFor_lp8 vC aC p0 n) x2_8 x3_8 x4_8 := rfl
def X0_weightsFor_f (vC : Nat → Int32) (aC : Nat → Nat → Int32) (p0 : Int32) : Int32 :=
  X0_weightsFor_lp8 vC aC p0 9 0 0 7
set_option maxHeartbeats 4000000 in
set_option maxRecDepth 100000 in
theorem X0_weightsFor_c (l : Launch) (g : kG) (oC : Nat) (rC : Nat → Nat) (vC : Nat → Int32) (aC : Nat → Nat → Int32) (p0 : Int32) : kR l yX0_weightsFor wX0_weightsFor 1 22 g [.ref oC, .int p0] [X0W g oC rC vC aC] ((X0_weightsFor_f vC aC p0)) := by
  refine kR_of (cc := cX0_weightsFor) (nL := 6) (ret := (some .int)) (lv := [(0, .ref oC), (1, .int p0)]) (by decide) rfl (Nat.le_of_ble_eq_true rfl) rfl ?_
  intro p e s m args below meth c ls C hP hE hl
  have hS : va_S (fun _ => False) s.heap s.heap [] := va_S.rf
  have C : kC p c cX0_weightsFor s m args meth RX0 g 6 (some .int) := C
  have hx := C.1.1
  have hb := C.1.2.1
  have hts := C.1.2.2.2.2
  have loop8 : ∀ (n : Nat) (j8 : Nat) (x2_8 x3_8 x4_8 : Int32) (ls : Array Slot), j8 ≤ 8 → j8 < n → x4_8 + 1 = nI j8 → X0_weightsFor_f vC aC p0 = X0_weightsFor_lp8 vC aC p0 n x2_8 x3_8 x4_8 → lv_has ls 6 [(4, .int x4_8), (3, .int x3_8), (2, .int x2_8), (0, .ref oC), (1, .int p0)] → W p l e (kRm 1 0 0 22) s m args below meth c s.heap [] 0 0 (MQ below (vp_Si (fun r => r = (X0_weightsFor_f vC aC p0))) args s 0 0 (fun _ => False)) (F0 m 8 ls []) := by
    intro n
    induction n with
    | zero =>
      intro j8 x2_8 x3_8 x4_8 ls hi8 hn8 hx8 hF8 hl
      exact absurd hn8 (by omega)
    | succ n ih8 =>
      intro j8 x2_8 x3_8 x4_8 ls hi8 hn8 hx8 hF8 hl
      refine lv_iload hx hb dX0_weightsFor_8 (lv_at hl 0 rfl) ?_
      refine lv_if_lt (tgt := 54) hx hb dX0_weightsFor_10 (by decide) (fun c1 => ?_) (fun c1 => ?_)
      · refine lv_iload_n hx hb dX0_weightsFor_54 rfl (lv_at hl 2 rfl) ?_
        exact kR_ret C ((show X0_weightsFor_f vC aC p0 = x2_8 from hF8.trans ((X0_weightsFor_lp8_s vC aC p0 n x2_8 x3_8 x4_8).trans ((if_pos c1).trans (rfl))))).symm dX0_weightsFor_55
      obtain ⟨j8, rfl, hj8, hx8⟩ := k_desc hx8 hi8 (by omega) c1
      refine kg_tabN C 2 (by decide) hE hS (List.mem_of_getElem? (i := 52) rfl) dX0_weightsFor_13 ?_
      refine lv_iload hx hb dX0_weightsFor_16 (lv_at hl 0 rfl) ?_
      refine kg_tald C 2 (by decide) hE hS (by first | assumption | exact k_vin (M := 8) hx8 (by omega) (by decide)) dX0_weightsFor_18 ?_
      refine lv_aload_n hx hb dX0_weightsFor_19 rfl (lv_at hl 3 rfl) ?_
      refine lv_iload hx hb dX0_weightsFor_20 (lv_at hl 0 rfl) ?_
      refine kR_V (As := [.int x4_8]) (rest := [.int (k_tab 2 x4_8.toNatClampNeg)]) C (X0_shortnessOf_c l g oC rC vC aC x4_8 (by first | assumption | exact k_vin hx8 (by omega) (by decide))) (cwV 1 hts (k_gV kw438 ca_X0_shortnessOf) rfl rfl rfl ⟨rfl, pnX0_shortnessOf⟩ ⟨Nat.le_of_ble_eq_true rfl, Nat.le_of_ble_eq_true rfl⟩) hE hS (hP.pick [0] rfl) (k_recv C kFX0 hP (i := 0) (q := 0) rfl rfl) rfl hl.1 rfl rfl dX0_weightsFor_22 ⟨Nat.le_of_ble_eq_true rfl, Nat.le_of_ble_eq_true rfl⟩ ?_
      refine lv_isub hx hb dX0_weightsFor_25 ?_
      refine lv_istore (lv' := [(5, .int ((k_tab 2 x4_8.toNatClampNeg) - (X0_shortnessOf_f vC aC x4_8))), (4, .int x4_8), (3, .int x3_8), (2, .int x2_8), (0, .ref oC), (1, .int p0)]) hx hb dX0_weightsFor_26 hl (by decide) rfl (fun ls hl => ?_)
      refine lv_iload_n hx hb dX0_weightsFor_28 rfl (lv_at hl 2 rfl) ?_
      refine lv_iload hx hb dX0_weightsFor_29 (lv_at hl 0 rfl) ?_
      refine lv_iadd hx hb dX0_weightsFor_31 ?_
      refine lv_iload_n hx hb dX0_weightsFor_32 rfl (lv_at hl 5 rfl) ?_
      refine lv_icmp_gt (tgt := 48) hx hb dX0_weightsFor_33 (by decide) (fun c2 => ?_) (fun c2 => ?_)
      · refine lv_iinc (v := (x4_8 + (-1))) (lv' := [(4, .int (x4_8 + (-1))), (5, .int ((k_tab 2 x4_8.toNatClampNeg) - (X0_shortnessOf_f vC aC x4_8))), (3, .int x3_8), (2, .int x2_8), (0, .ref oC), (1, .int p0)]) hx hb dX0_weightsFor_48 hl (k := 1) rfl rfl (by decide) rfl (fun ls hl => ?_)
        refine lv_goto (tgt := 8) hx hb dX0_weightsFor_51 (by decide) ?_
        exact ih8 j8 x2_8 x3_8 (x4_8 + (-1)) ls (by omega) (by omega) (k_down hx8) (show X0_weightsFor_f vC aC p0 = X0_weightsFor_lp8 vC aC p0 n x2_8 x3_8 (x4_8 + (-1)) from hF8.trans ((X0_weightsFor_lp8_s vC aC p0 n x2_8 x3_8 x4_8).trans ((if_neg c1).trans ((if_pos c2).trans (rfl))))) (lv_sub hl [0, 2, 3, 4, 5] rfl)
      refine lv_iload_n hx hb dX0_weightsFor_36 rfl (lv_at hl 2 rfl) ?_
      refine lv_iload hx hb dX0_weightsFor_37 (lv_at hl 0 rfl) ?_
      refine lv_iadd hx hb dX0_weightsFor_39 ?_
      refine lv_istore_n (lv' := [(3, .int (x3_8 + ((k_tab 2 x4_8.toNatClampNeg) - (X0_shortnessOf_f vC aC x4_8)))), (5, .int ((k_tab 2 x4_8.toNatClampNeg) - (X0_shortnessOf_f vC aC x4_8))), (4, .int x4_8), (2, .int x2_8), (0, .ref oC), (1, .int p0)]) hx hb dX0_weightsFor_40 rfl hl (by decide) rfl (fun ls hl => ?_)
      refine lv_iload_n hx hb dX0_weightsFor_41 rfl (lv_at hl 3 rfl) ?_
      refine lv_iconst (v := 1) hx hb dX0_weightsFor_42 (by decide) ?_
      refine lv_iload hx hb dX0_weightsFor_43 (lv_at hl 2 rfl) ?_
      refine lv_ishl hx hb dX0_weightsFor_45 ?_
      refine lv_ior hx hb dX0_weightsFor_46 ?_
      refine lv_istore_n (lv' := [(2, .int (x2_8 ||| (1 <<< (x4_8 &&& 31)))), (3, .int (x3_8 + ((k_tab 2 x4_8.toNatClampNeg) - (X0_shortnessOf_f vC aC x4_8)))), (5, .int ((k_tab 2 x4_8.toNatClampNeg) - (X0_shortnessOf_f vC aC x4_8))), (4, .int x4_8), (0, .ref oC), (1, .int p0)]) hx hb dX0_weightsFor_47 rfl hl (by decide) rfl (fun ls hl => ?_)
      refine lv_iinc (v := (x4_8 + (-1))) (lv' := [(4, .int (x4_8 + (-1))), (2, .int (x2_8 ||| (1 <<< (x4_8 &&& 31)))), (3, .int (x3_8 + ((k_tab 2 x4_8.toNatClampNeg) - (X0_shortnessOf_f vC aC x4_8)))), (5, .int ((k_tab 2 x4_8.toNatClampNeg) - (X0_shortnessOf_f vC aC x4_8))), (0, .ref oC), (1, .int p0)]) hx hb dX0_weightsFor_48 hl (k := 3) rfl rfl (by decide) rfl (fun ls hl => ?_)
      refine lv_goto (tgt := 8) hx hb dX0_weightsFor_51 (by decide) ?_
      exact ih8 j8 (x2_8 ||| (1 <<< (x4_8 &&& 31))) (x3_8 + ((k_tab 2 x4_8.toNatClampNeg) - (X0_shortnessOf_f vC aC x4_8))) (x4_8 + (-1)) ls (by omega) (by omega) (k_down hx8) (show X0_weightsFor_f vC aC p0 = X0_weightsFor_lp8 vC aC p0 n (x2_8 ||| (1 <<< (x4_8 &&& 31))) (x3_8 + ((k_tab 2 x4_8.toNatClampNeg) - (X0_shortnessOf_f vC aC x4_8))) (x4_8 + (-1)) from hF8.trans ((X0_weightsFor_lp8_s vC aC p0 n x2_8 x3_8 x4_8).trans ((if_neg c1).trans ((if_neg c2).trans (rfl))))) (lv_sub hl [0, 2, 1, 4, 5] rfl)
  refine lv_iconst (v := 0) hx hb dX0_weightsFor_0 (by decide) ?_
  refine lv_istore_n (lv' := [(2, .int 0), (0, .ref oC), (1, .int p0)]) hx hb dX0_weightsFor_1 rfl hl (by decide) rfl (fun ls hl => ?_)
  refine lv_iconst (v := 0) hx hb dX0_weightsFor_2 (by decide) ?_
  refine lv_istore_n (lv' := [(3, .int 0), (2, .int 0), (0, .ref oC), (1, .int p0)]) hx hb dX0_weightsFor_3 rfl hl (by decide) rfl (fun ls hl => ?_)
  refine lv_bipush (v := 7) hx hb dX0_weightsFor_4 (by decide) ?_
  refine lv_istore (lv' := [(4, .int 7), (3, .int 0), (2, .int 0), (0, .ref oC), (1, .int p0)]) hx hb dX0_weightsFor_6 hl (by decide) rfl (fun ls hl => ?_)
  exact loop8 9 8 0 0 7 ls (by omega) (by omega) rfl (show X0_weightsFor_f vC aC p0 = X0_weightsFor_lp8 vC aC p0 9 0 0 7 from rfl) (lv_sub hl [0, 1, 2, 3, 4] rfl)
