
theorem kw227 : Cond.fieldLink RX3 120 "SpiceScale$Refusal" "reason" "I" ∈ kW := k_w 2 159 rfl rfl
theorem kw229 : Cond.fieldLink RX3 123 "SpiceScale$Refusal" "detail" "I" ∈ kW := k_w 2 161 rfl rfl
theorem kw231 : Cond.fieldLink RX3 126 "SpiceScale$Refusal" "command" "I" ∈ kW := k_w 2 163 rfl rfl
theorem kw363 : Cond.methodLink RX3 9 yX3_ofJar ∈ kW := k_w 3 55 rfl rfl
theorem kw370 : Cond.methodLink RX3 52 yX3_keepIf ∈ kW := k_w 3 62 rfl rfl
theorem kw374 : Cond.methodLink RX3 15 yX3_ofBag ∈ kW := k_w 3 66 rfl rfl
theorem kw378 : Cond.methodLink RX3 19 yX3_ofFilling ∈ kW := k_w 3 70 rfl rfl
theorem kw386 : Cond.methodLink RX3 32 yX3_ofMissing ∈ kW := k_w 3 78 rfl rfl
theorem kw394 : Cond.methodLink RX3 73 yX3_ofOtherSpice ∈ kW := k_w 3 86 rfl rfl
theorem kw398 : Cond.methodLink RX3 23 yX3_ofEmptying ∈ kW := k_w 3 90 rfl rfl
theorem kw402 : Cond.methodLink RX3 36 yX3_ofThumb ∈ kW := k_w 3 94 rfl rfl
theorem kw406 : Cond.methodLink RX3 85 yX3_ofOathHere ∈ kW := k_w 3 98 rfl rfl
theorem kw418 : Cond.methodLink RX3 39 yX3_ofSelling ∈ kW := k_w 3 110 rfl rfl
theorem kw451 : Cond.methodLink RX3 42 yX3_ofOath ∈ kW := k_w 3 143 rfl rfl
theorem kw455 : Cond.methodLink RX3 46 yX3_ofGoing ∈ kW := k_w 3 147 rfl rfl
theorem kw462 : Cond.methodLink RX3 49 yX3_ofSealing ∈ kW := k_w 3 154 rfl rfl
abbrev wX3_keepIf : List Cond := Cond.code yX3_keepIf cX3_keepIf 4 (some .boolean) :: kW
def X3_keepIf_f (vR : Nat → Int32) (aR : Nat → Nat → Int32) (p0 : Bool) (p1 : Int32) (p2 : Int32) : Bool × (Nat → Int32) :=
  if p0 = true then (p0, upd (upd (upd vR 0 p1) 1 p2) 2 0)
  else (p0, vR)
set_option maxHeartbeats 4000000 in
set_option maxRecDepth 100000 in
theorem X3_keepIf_c (l : Launch) (g : kG) (oR : Nat) (rR : Nat → Nat) (vR : Nat → Int32) (aR : Nat → Nat → Int32) (p0 : Bool) (p1 : Int32) (p2 : Int32) : kM l yX3_keepIf wX3_keepIf 0 0 0 0 g [.ref oR, .int (b2i p0), .int p1, .int p2] [X3W g oR rR vR aR] (fun x u => x = b2i (X3_keepIf_f vR aR p0 p1 p2).1 ∧ u = [X3W g oR rR ((X3_keepIf_f vR aR p0 p1 p2).2) aR]) := by
  refine kM_of (cc := cX3_keepIf) (nL := 4) (ret := (some .boolean)) (lv := [(0, .ref oR), (1, .int (b2i p0)), (2, .int p1), (3, .int p2)]) (by decide) rfl (Nat.le_of_ble_eq_true rfl) rfl ?_
  intro p e s m args below meth c ls A C hP hD hE hA hS hl
  have C : kC p c cX3_keepIf s m args meth RX3 g 4 (some .boolean) := C
  have hx := C.1.1
  have hb := C.1.2.1
  have hts := C.1.2.2.2.2
  refine lv_iload_n hx hb dX3_keepIf_0 rfl (lv_at hl 1 rfl) ?_
  refine lv_if_eq (tgt := 19) hx hb dX3_keepIf_1 (by decide) (fun c1 => ?_) (fun c1 => ?_)
  · have c1 := b2i_eq0 c1
    refine lv_iload_n hx hb dX3_keepIf_19 rfl (lv_at hl 1 rfl) ?_
    have hF := (show X3_keepIf_f vR aR p0 p1 p2 = (p0, vR) from (if_neg c1).trans (rfl))
    exact kM_zret (x := b2i p0) C (b2i_nar _) hP hD hS ⟨by rw [hF], by rw [hF]⟩ dX3_keepIf_20
  have c1 := b2i_ne0 c1
  refine lv_aload_n hx hb dX3_keepIf_4 rfl (lv_at hl 0 rfl) ?_
  refine lv_iload_n hx hb dX3_keepIf_5 rfl (lv_at hl 2 rfl) ?_
  refine kg_put C kFX3 (k := 0) kw227 hP hD hS (i := 0) (q := 0) rfl rfl (by decide) rfl rfl rfl (Nat.le_of_ble_eq_true rfl) X3s_0 rfl dX3_keepIf_6 (fun H locs hP hD hS => ?_)
  have hP : kp g [X3W g oR rR (upd vR 0 p1) aR] H := hP
  have hD : kd A [X3W g oR rR (upd vR 0 p1) aR] := hD
  refine lv_aload_n hx hb dX3_keepIf_9 rfl (lv_at hl 0 rfl) ?_
  refine lv_iload_n hx hb dX3_keepIf_10 rfl (lv_at hl 3 rfl) ?_
  refine kg_put C kFX3 (k := 1) kw229 hP hD hS (i := 0) (q := 0) rfl rfl (by decide) rfl rfl rfl (Nat.le_of_ble_eq_true rfl) X3s_1 rfl dX3_keepIf_11 (fun H locs hP hD hS => ?_)
  have hP : kp g [X3W g oR rR (upd (upd vR 0 p1) 1 p2) aR] H := hP
  have hD : kd A [X3W g oR rR (upd (upd vR 0 p1) 1 p2) aR] := hD
  refine lv_aload_n hx hb dX3_keepIf_14 rfl (lv_at hl 0 rfl) ?_
  refine lv_iconst (v := 0) hx hb dX3_keepIf_15 (by decide) ?_
  refine kg_put C kFX3 (k := 2) kw231 hP hD hS (i := 0) (q := 0) rfl rfl (by decide) rfl rfl rfl (Nat.le_of_ble_eq_true rfl) X3s_2 rfl dX3_keepIf_16 (fun H locs hP hD hS => ?_)
  have hP : kp g [X3W g oR rR (upd (upd (upd vR 0 p1) 1 p2) 2 0) aR] H := hP
  have hD : kd A [X3W g oR rR (upd (upd (upd vR 0 p1) 1 p2) 2 0) aR] := hD
  refine lv_iload_n hx hb dX3_keepIf_19 rfl (lv_at hl 1 rfl) ?_
  have hF := (show X3_keepIf_f vR aR p0 p1 p2 = (p0, upd (upd (upd vR 0 p1) 1 p2) 2 0) from (if_pos c1).trans (rfl))
  exact kM_zret (x := b2i p0) C (b2i_nar _) hP hD hS ⟨by rw [hF], by rw [hF]⟩ dX3_keepIf_20
theorem X3_keepIf_v {vR : Nat → Int32} {aR : Nat → Nat → Int32} {b : Bool} {x y : Int32} : (X3_keepIf_f vR aR b x y).1 = b := by cases b <;> rfl

theorem pnX3_keepIf : yX3_keepIf.cls ≠ "java/lang/invoke/MethodHandle" ∧ yX3_keepIf.cls ≠ "java/lang/invoke/VarHandle" ∧ (parseMethodDescriptor yX3_keepIf.desc).map (fun d => d.parameters.length) = some 3 := by decide +kernel
theorem ca_X3_keepIf : kCal yX3_keepIf (Cond.code yX3_keepIf cX3_keepIf 4 (some .boolean)) := ⟨k_w 3 64 rfl rfl, k_w 1 4 rfl rfl, k_w 2 4 rfl rfl, k_w 3 65 rfl rfl⟩

abbrev wX3_ofMissing : List Cond := Cond.code yX3_ofMissing cX3_ofMissing 3 (some .boolean) :: kW
def X3_ofMissing_f (vR : Nat → Int32) (aR : Nat → Nat → Int32) (p0 : Bool) (p1 : Int32) : Bool × (Nat → Int32) :=
  if p0 = true then (false, vR)
  else (true, upd (upd (upd vR 0 3) 1 p1) 2 0)
set_option maxHeartbeats 4000000 in
set_option maxRecDepth 100000 in
theorem X3_ofMissing_c (l : Launch) (g : kG) (oR : Nat) (rR : Nat → Nat) (vR : Nat → Int32) (aR : Nat → Nat → Int32) (p0 : Bool) (p1 : Int32) : kM l yX3_ofMissing wX3_ofMissing 1 23 0 0 g [.ref oR, .int (b2i p0), .int p1] [X3W g oR rR vR aR] (fun x u => x = b2i (X3_ofMissing_f vR aR p0 p1).1 ∧ u = [X3W g oR rR ((X3_ofMissing_f vR aR p0 p1).2) aR]) := by
  refine kM_of (cc := cX3_ofMissing) (nL := 3) (ret := (some .boolean)) (lv := [(0, .ref oR), (1, .int (b2i p0)), (2, .int p1)]) (by decide) rfl (Nat.le_of_ble_eq_true rfl) rfl ?_
  intro p e s m args below meth c ls A C hP hD hE hA hS hl
  have C : kC p c cX3_ofMissing s m args meth RX3 g 3 (some .boolean) := C
  have hx := C.1.1
  have hb := C.1.2.1
  have hts := C.1.2.2.2.2
  refine lv_aload_n hx hb dX3_ofMissing_0 rfl (lv_at hl 0 rfl) ?_
  refine lv_iload_n hx hb dX3_ofMissing_1 rfl (lv_at hl 1 rfl) ?_
  refine lv_if_ne (tgt := 9) hx hb dX3_ofMissing_2 (by decide) (fun c1 => ?_) (fun c1 => ?_)
  · have c1 := b2i_ne0 c1
    refine lv_iconst (v := 0) hx hb dX3_ofMissing_9 (by decide) ?_
    refine lv_iconst (v := 3) hx hb dX3_ofMissing_10 (by decide) ?_
    refine lv_iload_n hx hb dX3_ofMissing_11 rfl (lv_at hl 2 rfl) ?_
    refine kM_V (As := [.int 0, .int 3, .int p1]) (rest := []) (wr := []) C (X3_keepIf_c l g oR rR vR aR false 3 p1) (cwV 3 hts (k_gV kw370 ca_X3_keepIf) rfl rfl rfl ⟨rfl, pnX3_keepIf⟩ ⟨Nat.le_of_ble_eq_true rfl, Nat.le_of_ble_eq_true rfl⟩) hE hS hA hP hD [0] [] rfl rfl ⟨rfl, rfl, by decide⟩ (k_recv C kFX3 hP (i := 0) (q := 0) rfl rfl) rfl hl.1 rfl rfl dX3_ofMissing_12 ⟨Nat.le_of_ble_eq_true rfl, Nat.le_of_ble_eq_true rfl⟩ (fun r2 u2 H locs hp2 hP hD hS => ?_)
    obtain ⟨er2, eu2⟩ := hp2
    have er2 : r2 = 0 := er2
    have eu2 : u2 = [X3W g oR rR vR aR] := eu2
    subst er2 eu2
    have hP : kp g [X3W g oR rR vR aR] H := hP
    have hD : kd A [X3W g oR rR vR aR] := hD
    have hF := (show X3_ofMissing_f vR aR p0 p1 = (false, vR) from (if_pos c1).trans (rfl))
    exact kM_zret (x := b2i false) C (b2i_nar _) hP hD hS ⟨by rw [hF], by rw [hF]⟩ dX3_ofMissing_15
  have c1 := b2i_eq0 c1
  refine lv_iconst (v := 1) hx hb dX3_ofMissing_5 (by decide) ?_
  refine lv_goto (tgt := 10) hx hb dX3_ofMissing_6 (by decide) ?_
  refine lv_iconst (v := 3) hx hb dX3_ofMissing_10 (by decide) ?_
  refine lv_iload_n hx hb dX3_ofMissing_11 rfl (lv_at hl 2 rfl) ?_
  refine kM_V (As := [.int 1, .int 3, .int p1]) (rest := []) (wr := []) C (X3_keepIf_c l g oR rR vR aR true 3 p1) (cwV 3 hts (k_gV kw370 ca_X3_keepIf) rfl rfl rfl ⟨rfl, pnX3_keepIf⟩ ⟨Nat.le_of_ble_eq_true rfl, Nat.le_of_ble_eq_true rfl⟩) hE hS hA hP hD [0] [] rfl rfl ⟨rfl, rfl, by decide⟩ (k_recv C kFX3 hP (i := 0) (q := 0) rfl rfl) rfl hl.1 rfl rfl dX3_ofMissing_12 ⟨Nat.le_of_ble_eq_true rfl, Nat.le_of_ble_eq_true rfl⟩ (fun r3 u3 H locs hp3 hP hD hS => ?_)
  obtain ⟨er3, eu3⟩ := hp3
  have er3 : r3 = 1 := er3
  have eu3 : u3 = [X3W g oR rR (upd (upd (upd vR 0 3) 1 p1) 2 0) aR] := eu3
  subst er3 eu3
  have hP : kp g [X3W g oR rR (upd (upd (upd vR 0 3) 1 p1) 2 0) aR] H := hP
  have hD : kd A [X3W g oR rR (upd (upd (upd vR 0 3) 1 p1) 2 0) aR] := hD
  have hF := (show X3_ofMissing_f vR aR p0 p1 = (true, upd (upd (upd vR 0 3) 1 p1) 2 0) from (if_neg c1).trans (rfl))
  exact kM_zret (x := b2i true) C (b2i_nar _) hP hD hS ⟨by rw [hF], by rw [hF]⟩ dX3_ofMissing_15
theorem X3_ofMissing_v {vR : Nat → Int32} {aR : Nat → Nat → Int32} {b : Bool} {n : Int32} : (X3_ofMissing_f vR aR b n).1 = !b := by cases b <;> rfl
theorem X3_miss {vR : Nat → Int32} {aR : Nat → Nat → Int32} {b : Bool} {n : Int32} (h : ¬ (X3_ofMissing_f vR aR b n).1 = true) : b = true := by
  rw [X3_ofMissing_v] at h; cases b <;> simp at h ⊢
theorem k_hasIn {x y : Int32} {n : Nat} (h1 : ¬ x < 0) (h2 : ¬ y ≤ x) (hy : y = nI n) (hn : n ≤ 6) : vp_in x 6 := by
  rw [Int32.lt_iff_toInt_lt] at h1
  rw [hy, Int32.le_iff_toInt_le, nI_toInt (by omega)] at h2
  refine vp_in_iff.mpr ⟨?_, ?_⟩
  · have : (0 : Int32).toInt = 0 := by decide
    omega
  · omega
theorem k_hasBag {vC : Nat → Int32} {aC : Nat → Nat → Int32} {x : Int32} {n : Nat} (h : X0_hasBag_f vC aC x = true) (hy : vC 7 = nI n) (hn : n ≤ 6) : vp_in x 6 := by
  unfold X0_hasBag_f at h
  split at h
  · cases h
  · split at h
    · cases h
    · exact k_hasIn (by assumption) (by assumption) hy hn
theorem k_hasJar {vC : Nat → Int32} {aC : Nat → Nat → Int32} {x : Int32} {n : Nat} (h : X0_hasJar_f vC aC x = true) (hy : vC 4 = nI n) (hn : n ≤ 6) : vp_in x 6 := by
  unfold X0_hasJar_f at h
  split at h
  · cases h
  · split at h
    · cases h
    · exact k_hasIn (by assumption) (by assumption) hy hn
theorem k_isMarket {x : Int32} (h : X4_isMarket_f x = true) : vp_in x 4 := by
  unfold X4_isMarket_f at h
  split at h
  · cases h
  · rename_i h1
    split at h
    · cases h
    · rename_i h2
      rw [Int32.lt_iff_toInt_lt] at h1
      rw [Int32.le_iff_toInt_le] at h2
      have e0 : (0 : Int32).toInt = 0 := by decide
      have e4 : (4 : Int32).toInt = 4 := by decide
      exact vp_in_iff.mpr ⟨by omega, by omega⟩
theorem k_isWeight {x : Int32} (h : X4_isWeight_f x = true) : vp_in x 8 := by
  unfold X4_isWeight_f at h
  split at h
  · cases h
  · rename_i h1
    split at h
    · cases h
    · rename_i h2
      rw [Int32.lt_iff_toInt_lt] at h1
      rw [Int32.le_iff_toInt_le] at h2
      have e0 : (0 : Int32).toInt = 0 := by decide
      have e4 : (8 : Int32).toInt = 8 := by decide
      exact vp_in_iff.mpr ⟨by omega, by omega⟩

theorem pnX4_isSpice : yX4_isSpice.cls ≠ "java/lang/invoke/MethodHandle" ∧ yX4_isSpice.cls ≠ "java/lang/invoke/VarHandle" ∧ (parseMethodDescriptor yX4_isSpice.desc).map (fun d => d.parameters.length) = some 1 := by decide +kernel
theorem cs_X4_isSpice : kCst yX4_isSpice (Cond.code yX4_isSpice cX4_isSpice 1 (some .boolean)) := ⟨k_w 3 60 rfl rfl, k_w 2 1 rfl rfl, k_w 3 61 rfl rfl⟩

abbrev wX3_ofJar : List Cond := Cond.code yX3_ofJar cX3_ofJar 4 (some .boolean) :: kW
def X3_ofJar_f (vC : Nat → Int32) (aC : Nat → Nat → Int32) (vR : Nat → Int32) (aR : Nat → Nat → Int32) (p1 : Int32) (p2 : Int32) : Bool × (Nat → Int32) :=
  if (X4_isSpice_f p1) = true then (if p2 < 0 then (true, upd (upd (upd vR 0 1) 1 0) 2 0)
    else if p2 ≤ 900 then (if (vC 4) < 6 then (false, vR)
      else (true, upd (upd (upd vR 0 2) 1 6) 2 0))
    else (true, upd (upd (upd vR 0 1) 1 0) 2 0))
  else (true, upd (upd (upd vR 0 1) 1 0) 2 0)
set_option maxHeartbeats 4000000 in
set_option maxRecDepth 100000 in
theorem X3_ofJar_c (l : Launch) (g : kG) (oC : Nat) (rC : Nat → Nat) (vC : Nat → Int32) (aC : Nat → Nat → Int32) (oR : Nat) (rR : Nat → Nat) (vR : Nat → Int32) (aR : Nat → Nat → Int32) (p1 : Int32) (p2 : Int32) : kM l yX3_ofJar wX3_ofJar 1 23 0 0 g [.ref oR, .ref oC, .int p1, .int p2] [X0W g oC rC vC aC, X3W g oR rR vR aR] (fun x u => x = b2i (X3_ofJar_f vC aC vR aR p1 p2).1 ∧ u = [X0W g oC rC vC aC, X3W g oR rR ((X3_ofJar_f vC aC vR aR p1 p2).2) aR]) := by
  refine kM_of (cc := cX3_ofJar) (nL := 4) (ret := (some .boolean)) (lv := [(0, .ref oR), (1, .ref oC), (2, .int p1), (3, .int p2)]) (by decide) rfl (Nat.le_of_ble_eq_true rfl) rfl ?_
  intro p e s m args below meth c ls A C hP hD hE hA hS hl
  have C : kC p c cX3_ofJar s m args meth RX3 g 4 (some .boolean) := C
  have hx := C.1.1
  have hb := C.1.2.1
  have hts := C.1.2.2.2.2
  refine lv_aload_n hx hb dX3_ofJar_0 rfl (lv_at hl 0 rfl) ?_
  refine lv_iload_n hx hb dX3_ofJar_1 rfl (lv_at hl 2 rfl) ?_
  refine kR_SN (As := [.int p1]) (rest := [.ref oR]) C (X4_isSpice_c l g p1) ⟨va_cnB (host := "SpiceScale") 1 hts (k_gI cs_X4_isSpice.2.2) rfl rfl rfl (C.2.1.2 _ (List.mem_of_getElem? (i := 45) rfl)) (hts _ cs_X4_isSpice.2.1) pnX4_isSpice ⟨Nat.le_of_ble_eq_true rfl, Nat.le_of_ble_eq_true rfl⟩, hts _ cs_X4_isSpice.1, trivial⟩ hE hS (hP.pick [] rfl) rfl hl.1 rfl rfl dX3_ofJar_2 ⟨Nat.le_of_ble_eq_true rfl, Nat.le_of_ble_eq_true rfl⟩ ?_
  refine lv_if_eq (tgt := 19) hx hb dX3_ofJar_5 (by decide) (fun c1 => ?_) (fun c1 => ?_)
  · have c1 := b2i_eq0 c1
    refine lv_iconst (v := 1) hx hb dX3_ofJar_19 (by decide) ?_
    refine lv_goto (tgt := 24) hx hb dX3_ofJar_20 (by decide) ?_
    refine lv_iconst (v := 1) hx hb dX3_ofJar_24 (by decide) ?_
    refine lv_iconst (v := 0) hx hb dX3_ofJar_25 (by decide) ?_
    refine kM_V (As := [.int 1, .int 1, .int 0]) (rest := []) (wr := [X0W g oC rC vC aC]) C (X3_keepIf_c l g oR rR vR aR true 1 0) (cwV 3 hts (k_gV kw370 ca_X3_keepIf) rfl rfl rfl ⟨rfl, pnX3_keepIf⟩ ⟨Nat.le_of_ble_eq_true rfl, Nat.le_of_ble_eq_true rfl⟩) hE hS hA hP hD [1] [0] rfl rfl ⟨rfl, rfl, by decide⟩ (k_recv C kFX3 hP (i := 1) (q := 0) rfl rfl) rfl hl.1 rfl rfl dX3_ofJar_26 ⟨Nat.le_of_ble_eq_true rfl, Nat.le_of_ble_eq_true rfl⟩ (fun r2 u2 H locs hp2 hP hD hS => ?_)
    obtain ⟨er2, eu2⟩ := hp2
    have er2 : r2 = 1 := er2
    have eu2 : u2 = [X3W g oR rR (upd (upd (upd vR 0 1) 1 0) 2 0) aR] := eu2
    subst er2 eu2
    have hP : kp g [X0W g oC rC vC aC, X3W g oR rR (upd (upd (upd vR 0 1) 1 0) 2 0) aR] H := hP
    have hD : kd A [X0W g oC rC vC aC, X3W g oR rR (upd (upd (upd vR 0 1) 1 0) 2 0) aR] := hD
    refine lv_if_ne (tgt := 56) hx hb dX3_ofJar_29 (by decide) (fun _ => ?_) (fun z => absurd z (show ¬ ((1 : Int32) = 0) by decide))
    refine lv_iconst (v := 1) hx hb dX3_ofJar_56 (by decide) ?_
    refine lv_goto (tgt := 61) hx hb dX3_ofJar_57 (by decide) ?_
    have hF := (show X3_ofJar_f vC aC vR aR p1 p2 = (true, upd (upd (upd vR 0 1) 1 0) 2 0) from (if_neg c1).trans (rfl))
    exact kM_zret (x := b2i true) C (b2i_nar _) hP hD hS ⟨by rw [hF], by rw [hF]⟩ dX3_ofJar_61
  have c1 := b2i_ne0 c1
  refine lv_iload_n hx hb dX3_ofJar_8 rfl (lv_at hl 3 rfl) ?_
  refine lv_if_lt (tgt := 19) hx hb dX3_ofJar_9 (by decide) (fun c4 => ?_) (fun c4 => ?_)
  · refine lv_iconst (v := 1) hx hb dX3_ofJar_19 (by decide) ?_
    refine lv_goto (tgt := 24) hx hb dX3_ofJar_20 (by decide) ?_
    refine lv_iconst (v := 1) hx hb dX3_ofJar_24 (by decide) ?_
    refine lv_iconst (v := 0) hx hb dX3_ofJar_25 (by decide) ?_
    refine kM_V (As := [.int 1, .int 1, .int 0]) (rest := []) (wr := [X0W g oC rC vC aC]) C (X3_keepIf_c l g oR rR vR aR true 1 0) (cwV 3 hts (k_gV kw370 ca_X3_keepIf) rfl rfl rfl ⟨rfl, pnX3_keepIf⟩ ⟨Nat.le_of_ble_eq_true rfl, Nat.le_of_ble_eq_true rfl⟩) hE hS hA hP hD [1] [0] rfl rfl ⟨rfl, rfl, by decide⟩ (k_recv C kFX3 hP (i := 1) (q := 0) rfl rfl) rfl hl.1 rfl rfl dX3_ofJar_26 ⟨Nat.le_of_ble_eq_true rfl, Nat.le_of_ble_eq_true rfl⟩ (fun r5 u5 H locs hp5 hP hD hS => ?_)
    obtain ⟨er5, eu5⟩ := hp5
    have er5 : r5 = 1 := er5
    have eu5 : u5 = [X3W g oR rR (upd (upd (upd vR 0 1) 1 0) 2 0) aR] := eu5
    subst er5 eu5
    have hP : kp g [X0W g oC rC vC aC, X3W g oR rR (upd (upd (upd vR 0 1) 1 0) 2 0) aR] H := hP
    have hD : kd A [X0W g oC rC vC aC, X3W g oR rR (upd (upd (upd vR 0 1) 1 0) 2 0) aR] := hD
    refine lv_if_ne (tgt := 56) hx hb dX3_ofJar_29 (by decide) (fun _ => ?_) (fun z => absurd z (show ¬ ((1 : Int32) = 0) by decide))
    refine lv_iconst (v := 1) hx hb dX3_ofJar_56 (by decide) ?_
    refine lv_goto (tgt := 61) hx hb dX3_ofJar_57 (by decide) ?_
    have hF := (show X3_ofJar_f vC aC vR aR p1 p2 = (true, upd (upd (upd vR 0 1) 1 0) 2 0) from (if_pos c1).trans ((if_pos c4).trans (rfl)))
    exact kM_zret (x := b2i true) C (b2i_nar _) hP hD hS ⟨by rw [hF], by rw [hF]⟩ dX3_ofJar_61
  refine lv_iload_n hx hb dX3_ofJar_12 rfl (lv_at hl 3 rfl) ?_
  refine lv_sipush (v := 900) hx hb dX3_ofJar_13 (by decide) ?_
  refine lv_icmp_le (tgt := 23) hx hb dX3_ofJar_16 (by decide) (fun c7 => ?_) (fun c7 => ?_)
  · refine lv_iconst (v := 0) hx hb dX3_ofJar_23 (by decide) ?_
    refine lv_iconst (v := 1) hx hb dX3_ofJar_24 (by decide) ?_
    refine lv_iconst (v := 0) hx hb dX3_ofJar_25 (by decide) ?_
    refine kM_V (As := [.int 0, .int 1, .int 0]) (rest := []) (wr := [X0W g oC rC vC aC]) C (X3_keepIf_c l g oR rR vR aR false 1 0) (cwV 3 hts (k_gV kw370 ca_X3_keepIf) rfl rfl rfl ⟨rfl, pnX3_keepIf⟩ ⟨Nat.le_of_ble_eq_true rfl, Nat.le_of_ble_eq_true rfl⟩) hE hS hA hP hD [1] [0] rfl rfl ⟨rfl, rfl, by decide⟩ (k_recv C kFX3 hP (i := 1) (q := 0) rfl rfl) rfl hl.1 rfl rfl dX3_ofJar_26 ⟨Nat.le_of_ble_eq_true rfl, Nat.le_of_ble_eq_true rfl⟩ (fun r8 u8 H locs hp8 hP hD hS => ?_)
    obtain ⟨er8, eu8⟩ := hp8
    have er8 : r8 = 0 := er8
    have eu8 : u8 = [X3W g oR rR vR aR] := eu8
    subst er8 eu8
    have hP : kp g [X0W g oC rC vC aC, X3W g oR rR vR aR] H := hP
    have hD : kd A [X0W g oC rC vC aC, X3W g oR rR vR aR] := hD
    refine lv_if_ne (tgt := 56) hx hb dX3_ofJar_29 (by decide) (fun z => absurd (show ((0 : Int32) = 0) by decide) z) (fun _ => ?_)
    refine lv_aload_n hx hb dX3_ofJar_32 rfl (lv_at hl 0 rfl) ?_
    refine lv_aload_n hx hb dX3_ofJar_33 rfl (lv_at hl 1 rfl) ?_
    refine kg_getN C kFX0 (k := 4) (List.mem_of_getElem? (i := 8) rfl) hP (i := 0) (q := 0) rfl rfl (by decide) rfl dX3_ofJar_34 ?_
    refine lv_bipush (v := 6) hx hb dX3_ofJar_37 (by decide) ?_
    refine lv_icmp_lt (tgt := 46) hx hb dX3_ofJar_39 (by decide) (fun c10 => ?_) (fun c10 => ?_)
    · refine lv_iconst (v := 0) hx hb dX3_ofJar_46 (by decide) ?_
      refine lv_iconst (v := 2) hx hb dX3_ofJar_47 (by decide) ?_
      refine lv_bipush (v := 6) hx hb dX3_ofJar_48 (by decide) ?_
      refine kM_V (As := [.int 0, .int 2, .int 6]) (rest := []) (wr := [X0W g oC rC vC aC]) C (X3_keepIf_c l g oR rR vR aR false 2 6) (cwV 3 hts (k_gV kw370 ca_X3_keepIf) rfl rfl rfl ⟨rfl, pnX3_keepIf⟩ ⟨Nat.le_of_ble_eq_true rfl, Nat.le_of_ble_eq_true rfl⟩) hE hS hA hP hD [1] [0] rfl rfl ⟨rfl, rfl, by decide⟩ (k_recv C kFX3 hP (i := 1) (q := 0) rfl rfl) rfl hl.1 rfl rfl dX3_ofJar_50 ⟨Nat.le_of_ble_eq_true rfl, Nat.le_of_ble_eq_true rfl⟩ (fun r11 u11 H locs hp11 hP hD hS => ?_)
      obtain ⟨er11, eu11⟩ := hp11
      have er11 : r11 = 0 := er11
      have eu11 : u11 = [X3W g oR rR vR aR] := eu11
      subst er11 eu11
      have hP : kp g [X0W g oC rC vC aC, X3W g oR rR vR aR] H := hP
      have hD : kd A [X0W g oC rC vC aC, X3W g oR rR vR aR] := hD
      refine lv_if_eq (tgt := 60) hx hb dX3_ofJar_53 (by decide) (fun _ => ?_) (fun z => absurd (show ((0 : Int32) = 0) by decide) z)
      refine lv_iconst (v := 0) hx hb dX3_ofJar_60 (by decide) ?_
      have hF := (show X3_ofJar_f vC aC vR aR p1 p2 = (false, vR) from (if_pos c1).trans ((if_neg c4).trans ((if_pos c7).trans ((if_pos c10).trans (rfl)))))
      exact kM_zret (x := b2i false) C (b2i_nar _) hP hD hS ⟨by rw [hF], by rw [hF]⟩ dX3_ofJar_61
    refine lv_iconst (v := 1) hx hb dX3_ofJar_42 (by decide) ?_
    refine lv_goto (tgt := 47) hx hb dX3_ofJar_43 (by decide) ?_
    refine lv_iconst (v := 2) hx hb dX3_ofJar_47 (by decide) ?_
    refine lv_bipush (v := 6) hx hb dX3_ofJar_48 (by decide) ?_
    refine kM_V (As := [.int 1, .int 2, .int 6]) (rest := []) (wr := [X0W g oC rC vC aC]) C (X3_keepIf_c l g oR rR vR aR true 2 6) (cwV 3 hts (k_gV kw370 ca_X3_keepIf) rfl rfl rfl ⟨rfl, pnX3_keepIf⟩ ⟨Nat.le_of_ble_eq_true rfl, Nat.le_of_ble_eq_true rfl⟩) hE hS hA hP hD [1] [0] rfl rfl ⟨rfl, rfl, by decide⟩ (k_recv C kFX3 hP (i := 1) (q := 0) rfl rfl) rfl hl.1 rfl rfl dX3_ofJar_50 ⟨Nat.le_of_ble_eq_true rfl, Nat.le_of_ble_eq_true rfl⟩ (fun r13 u13 H locs hp13 hP hD hS => ?_)
    obtain ⟨er13, eu13⟩ := hp13
    have er13 : r13 = 1 := er13
    have eu13 : u13 = [X3W g oR rR (upd (upd (upd vR 0 2) 1 6) 2 0) aR] := eu13
    subst er13 eu13
    have hP : kp g [X0W g oC rC vC aC, X3W g oR rR (upd (upd (upd vR 0 2) 1 6) 2 0) aR] H := hP
    have hD : kd A [X0W g oC rC vC aC, X3W g oR rR (upd (upd (upd vR 0 2) 1 6) 2 0) aR] := hD
    refine lv_if_eq (tgt := 60) hx hb dX3_ofJar_53 (by decide) (fun z => absurd z (show ¬ ((1 : Int32) = 0) by decide)) (fun _ => ?_)
    refine lv_iconst (v := 1) hx hb dX3_ofJar_56 (by decide) ?_
    refine lv_goto (tgt := 61) hx hb dX3_ofJar_57 (by decide) ?_
    have hF := (show X3_ofJar_f vC aC vR aR p1 p2 = (true, upd (upd (upd vR 0 2) 1 6) 2 0) from (if_pos c1).trans ((if_neg c4).trans ((if_pos c7).trans ((if_neg c10).trans (rfl)))))
    exact kM_zret (x := b2i true) C (b2i_nar _) hP hD hS ⟨by rw [hF], by rw [hF]⟩ dX3_ofJar_61
  refine lv_iconst (v := 1) hx hb dX3_ofJar_19 (by decide) ?_
  refine lv_goto (tgt := 24) hx hb dX3_ofJar_20 (by decide) ?_
  refine lv_iconst (v := 1) hx hb dX3_ofJar_24 (by decide) ?_
  refine lv_iconst (v := 0) hx hb dX3_ofJar_25 (by decide) ?_
  refine kM_V (As := [.int 1, .int 1, .int 0]) (rest := []) (wr := [X0W g oC rC vC aC]) C (X3_keepIf_c l g oR rR vR aR true 1 0) (cwV 3 hts (k_gV kw370 ca_X3_keepIf) rfl rfl rfl ⟨rfl, pnX3_keepIf⟩ ⟨Nat.le_of_ble_eq_true rfl, Nat.le_of_ble_eq_true rfl⟩) hE hS hA hP hD [1] [0] rfl rfl ⟨rfl, rfl, by decide⟩ (k_recv C kFX3 hP (i := 1) (q := 0) rfl rfl) rfl hl.1 rfl rfl dX3_ofJar_26 ⟨Nat.le_of_ble_eq_true rfl, Nat.le_of_ble_eq_true rfl⟩ (fun r15 u15 H locs hp15 hP hD hS => ?_)
  obtain ⟨er15, eu15⟩ := hp15
  have er15 : r15 = 1 := er15
  have eu15 : u15 = [X3W g oR rR (upd (upd (upd vR 0 1) 1 0) 2 0) aR] := eu15
  subst er15 eu15
  have hP : kp g [X0W g oC rC vC aC, X3W g oR rR (upd (upd (upd vR 0 1) 1 0) 2 0) aR] H := hP
  have hD : kd A [X0W g oC rC vC aC, X3W g oR rR (upd (upd (upd vR 0 1) 1 0) 2 0) aR] := hD
  refine lv_if_ne (tgt := 56) hx hb dX3_ofJar_29 (by decide) (fun _ => ?_) (fun z => absurd z (show ¬ ((1 : Int32) = 0) by decide))
  refine lv_iconst (v := 1) hx hb dX3_ofJar_56 (by decide) ?_
  refine lv_goto (tgt := 61) hx hb dX3_ofJar_57 (by decide) ?_
  have hF := (show X3_ofJar_f vC aC vR aR p1 p2 = (true, upd (upd (upd vR 0 1) 1 0) 2 0) from (if_pos c1).trans ((if_neg c4).trans ((if_neg c7).trans (rfl))))
  exact kM_zret (x := b2i true) C (b2i_nar _) hP hD hS ⟨by rw [hF], by rw [hF]⟩ dX3_ofJar_61

abbrev wX3_ofBag : List Cond := Cond.code yX3_ofBag cX3_ofBag 3 (some .boolean) :: kW
def X3_ofBag_f (vC : Nat → Int32) (aC : Nat → Nat → Int32) (vR : Nat → Int32) (aR : Nat → Nat → Int32) (p1 : Int32) : Bool × (Nat → Int32) :=
  if p1 < 5 then (true, upd (upd (upd vR 0 1) 1 0) 2 0)
  else if p1 ≤ 50 then (if (vC 7) < 6 then (false, vR)
    else (true, upd (upd (upd vR 0 2) 1 6) 2 0))
  else (true, upd (upd (upd vR 0 1) 1 0) 2 0)
set_option maxHeartbeats 4000000 in
set_option maxRecDepth 100000 in
theorem X3_ofBag_c (l : Launch) (g : kG) (oC : Nat) (rC : Nat → Nat) (vC : Nat → Int32) (aC : Nat → Nat → Int32) (oR : Nat) (rR : Nat → Nat) (vR : Nat → Int32) (aR : Nat → Nat → Int32) (p1 : Int32) : kM l yX3_ofBag wX3_ofBag 1 23 0 0 g [.ref oR, .ref oC, .int p1] [X0W g oC rC vC aC, X3W g oR rR vR aR] (fun x u => x = b2i (X3_ofBag_f vC aC vR aR p1).1 ∧ u = [X0W g oC rC vC aC, X3W g oR rR ((X3_ofBag_f vC aC vR aR p1).2) aR]) := by
  refine kM_of (cc := cX3_ofBag) (nL := 3) (ret := (some .boolean)) (lv := [(0, .ref oR), (1, .ref oC), (2, .int p1)]) (by decide) rfl (Nat.le_of_ble_eq_true rfl) rfl ?_
  intro p e s m args below meth c ls A C hP hD hE hA hS hl
  have C : kC p c cX3_ofBag s m args meth RX3 g 3 (some .boolean) := C
  have hx := C.1.1
  have hb := C.1.2.1
  have hts := C.1.2.2.2.2
  refine lv_aload_n hx hb dX3_ofBag_0 rfl (lv_at hl 0 rfl) ?_
  refine lv_iload_n hx hb dX3_ofBag_1 rfl (lv_at hl 2 rfl) ?_
  refine lv_iconst (v := 5) hx hb dX3_ofBag_2 (by decide) ?_
  refine lv_icmp_lt (tgt := 12) hx hb dX3_ofBag_3 (by decide) (fun c1 => ?_) (fun c1 => ?_)
  · refine lv_iconst (v := 1) hx hb dX3_ofBag_12 (by decide) ?_
    refine lv_goto (tgt := 17) hx hb dX3_ofBag_13 (by decide) ?_
    refine lv_iconst (v := 1) hx hb dX3_ofBag_17 (by decide) ?_
    refine lv_iconst (v := 0) hx hb dX3_ofBag_18 (by decide) ?_
    refine kM_V (As := [.int 1, .int 1, .int 0]) (rest := []) (wr := [X0W g oC rC vC aC]) C (X3_keepIf_c l g oR rR vR aR true 1 0) (cwV 3 hts (k_gV kw370 ca_X3_keepIf) rfl rfl rfl ⟨rfl, pnX3_keepIf⟩ ⟨Nat.le_of_ble_eq_true rfl, Nat.le_of_ble_eq_true rfl⟩) hE hS hA hP hD [1] [0] rfl rfl ⟨rfl, rfl, by decide⟩ (k_recv C kFX3 hP (i := 1) (q := 0) rfl rfl) rfl hl.1 rfl rfl dX3_ofBag_19 ⟨Nat.le_of_ble_eq_true rfl, Nat.le_of_ble_eq_true rfl⟩ (fun r2 u2 H locs hp2 hP hD hS => ?_)
    obtain ⟨er2, eu2⟩ := hp2
    have er2 : r2 = 1 := er2
    have eu2 : u2 = [X3W g oR rR (upd (upd (upd vR 0 1) 1 0) 2 0) aR] := eu2
    subst er2 eu2
    have hP : kp g [X0W g oC rC vC aC, X3W g oR rR (upd (upd (upd vR 0 1) 1 0) 2 0) aR] H := hP
    have hD : kd A [X0W g oC rC vC aC, X3W g oR rR (upd (upd (upd vR 0 1) 1 0) 2 0) aR] := hD
    refine lv_if_ne (tgt := 49) hx hb dX3_ofBag_22 (by decide) (fun _ => ?_) (fun z => absurd z (show ¬ ((1 : Int32) = 0) by decide))
    refine lv_iconst (v := 1) hx hb dX3_ofBag_49 (by decide) ?_
    refine lv_goto (tgt := 54) hx hb dX3_ofBag_50 (by decide) ?_
    have hF := (show X3_ofBag_f vC aC vR aR p1 = (true, upd (upd (upd vR 0 1) 1 0) 2 0) from (if_pos c1).trans (rfl))
    exact kM_zret (x := b2i true) C (b2i_nar _) hP hD hS ⟨by rw [hF], by rw [hF]⟩ dX3_ofBag_54
  refine lv_iload_n hx hb dX3_ofBag_6 rfl (lv_at hl 2 rfl) ?_
  refine lv_bipush (v := 50) hx hb dX3_ofBag_7 (by decide) ?_
  refine lv_icmp_le (tgt := 16) hx hb dX3_ofBag_9 (by decide) (fun c4 => ?_) (fun c4 => ?_)
  · refine lv_iconst (v := 0) hx hb dX3_ofBag_16 (by decide) ?_
    refine lv_iconst (v := 1) hx hb dX3_ofBag_17 (by decide) ?_
    refine lv_iconst (v := 0) hx hb dX3_ofBag_18 (by decide) ?_
    refine kM_V (As := [.int 0, .int 1, .int 0]) (rest := []) (wr := [X0W g oC rC vC aC]) C (X3_keepIf_c l g oR rR vR aR false 1 0) (cwV 3 hts (k_gV kw370 ca_X3_keepIf) rfl rfl rfl ⟨rfl, pnX3_keepIf⟩ ⟨Nat.le_of_ble_eq_true rfl, Nat.le_of_ble_eq_true rfl⟩) hE hS hA hP hD [1] [0] rfl rfl ⟨rfl, rfl, by decide⟩ (k_recv C kFX3 hP (i := 1) (q := 0) rfl rfl) rfl hl.1 rfl rfl dX3_ofBag_19 ⟨Nat.le_of_ble_eq_true rfl, Nat.le_of_ble_eq_true rfl⟩ (fun r5 u5 H locs hp5 hP hD hS => ?_)
    obtain ⟨er5, eu5⟩ := hp5
    have er5 : r5 = 0 := er5
    have eu5 : u5 = [X3W g oR rR vR aR] := eu5
    subst er5 eu5
    have hP : kp g [X0W g oC rC vC aC, X3W g oR rR vR aR] H := hP
    have hD : kd A [X0W g oC rC vC aC, X3W g oR rR vR aR] := hD
    refine lv_if_ne (tgt := 49) hx hb dX3_ofBag_22 (by decide) (fun z => absurd (show ((0 : Int32) = 0) by decide) z) (fun _ => ?_)
    refine lv_aload_n hx hb dX3_ofBag_25 rfl (lv_at hl 0 rfl) ?_
    refine lv_aload_n hx hb dX3_ofBag_26 rfl (lv_at hl 1 rfl) ?_
    refine kg_getN C kFX0 (k := 7) (List.mem_of_getElem? (i := 14) rfl) hP (i := 0) (q := 0) rfl rfl (by decide) rfl dX3_ofBag_27 ?_
    refine lv_bipush (v := 6) hx hb dX3_ofBag_30 (by decide) ?_
    refine lv_icmp_lt (tgt := 39) hx hb dX3_ofBag_32 (by decide) (fun c7 => ?_) (fun c7 => ?_)
    · refine lv_iconst (v := 0) hx hb dX3_ofBag_39 (by decide) ?_
      refine lv_iconst (v := 2) hx hb dX3_ofBag_40 (by decide) ?_
      refine lv_bipush (v := 6) hx hb dX3_ofBag_41 (by decide) ?_
      refine kM_V (As := [.int 0, .int 2, .int 6]) (rest := []) (wr := [X0W g oC rC vC aC]) C (X3_keepIf_c l g oR rR vR aR false 2 6) (cwV 3 hts (k_gV kw370 ca_X3_keepIf) rfl rfl rfl ⟨rfl, pnX3_keepIf⟩ ⟨Nat.le_of_ble_eq_true rfl, Nat.le_of_ble_eq_true rfl⟩) hE hS hA hP hD [1] [0] rfl rfl ⟨rfl, rfl, by decide⟩ (k_recv C kFX3 hP (i := 1) (q := 0) rfl rfl) rfl hl.1 rfl rfl dX3_ofBag_43 ⟨Nat.le_of_ble_eq_true rfl, Nat.le_of_ble_eq_true rfl⟩ (fun r8 u8 H locs hp8 hP hD hS => ?_)
      obtain ⟨er8, eu8⟩ := hp8
      have er8 : r8 = 0 := er8
      have eu8 : u8 = [X3W g oR rR vR aR] := eu8
      subst er8 eu8
      have hP : kp g [X0W g oC rC vC aC, X3W g oR rR vR aR] H := hP
      have hD : kd A [X0W g oC rC vC aC, X3W g oR rR vR aR] := hD
      refine lv_if_eq (tgt := 53) hx hb dX3_ofBag_46 (by decide) (fun _ => ?_) (fun z => absurd (show ((0 : Int32) = 0) by decide) z)
      refine lv_iconst (v := 0) hx hb dX3_ofBag_53 (by decide) ?_
      have hF := (show X3_ofBag_f vC aC vR aR p1 = (false, vR) from (if_neg c1).trans ((if_pos c4).trans ((if_pos c7).trans (rfl))))
      exact kM_zret (x := b2i false) C (b2i_nar _) hP hD hS ⟨by rw [hF], by rw [hF]⟩ dX3_ofBag_54
    refine lv_iconst (v := 1) hx hb dX3_ofBag_35 (by decide) ?_
    refine lv_goto (tgt := 40) hx hb dX3_ofBag_36 (by decide) ?_
    refine lv_iconst (v := 2) hx hb dX3_ofBag_40 (by decide) ?_
    refine lv_bipush (v := 6) hx hb dX3_ofBag_41 (by decide) ?_
    refine kM_V (As := [.int 1, .int 2, .int 6]) (rest := []) (wr := [X0W g oC rC vC aC]) C (X3_keepIf_c l g oR rR vR aR true 2 6) (cwV 3 hts (k_gV kw370 ca_X3_keepIf) rfl rfl rfl ⟨rfl, pnX3_keepIf⟩ ⟨Nat.le_of_ble_eq_true rfl, Nat.le_of_ble_eq_true rfl⟩) hE hS hA hP hD [1] [0] rfl rfl ⟨rfl, rfl, by decide⟩ (k_recv C kFX3 hP (i := 1) (q := 0) rfl rfl) rfl hl.1 rfl rfl dX3_ofBag_43 ⟨Nat.le_of_ble_eq_true rfl, Nat.le_of_ble_eq_true rfl⟩ (fun r10 u10 H locs hp10 hP hD hS => ?_)
    obtain ⟨er10, eu10⟩ := hp10
    have er10 : r10 = 1 := er10
    have eu10 : u10 = [X3W g oR rR (upd (upd (upd vR 0 2) 1 6) 2 0) aR] := eu10
    subst er10 eu10
    have hP : kp g [X0W g oC rC vC aC, X3W g oR rR (upd (upd (upd vR 0 2) 1 6) 2 0) aR] H := hP
    have hD : kd A [X0W g oC rC vC aC, X3W g oR rR (upd (upd (upd vR 0 2) 1 6) 2 0) aR] := hD
    refine lv_if_eq (tgt := 53) hx hb dX3_ofBag_46 (by decide) (fun z => absurd z (show ¬ ((1 : Int32) = 0) by decide)) (fun _ => ?_)
    refine lv_iconst (v := 1) hx hb dX3_ofBag_49 (by decide) ?_
    refine lv_goto (tgt := 54) hx hb dX3_ofBag_50 (by decide) ?_
    have hF := (show X3_ofBag_f vC aC vR aR p1 = (true, upd (upd (upd vR 0 2) 1 6) 2 0) from (if_neg c1).trans ((if_pos c4).trans ((if_neg c7).trans (rfl))))
    exact kM_zret (x := b2i true) C (b2i_nar _) hP hD hS ⟨by rw [hF], by rw [hF]⟩ dX3_ofBag_54
  refine lv_iconst (v := 1) hx hb dX3_ofBag_12 (by decide) ?_
  refine lv_goto (tgt := 17) hx hb dX3_ofBag_13 (by decide) ?_
  refine lv_iconst (v := 1) hx hb dX3_ofBag_17 (by decide) ?_
  refine lv_iconst (v := 0) hx hb dX3_ofBag_18 (by decide) ?_
  refine kM_V (As := [.int 1, .int 1, .int 0]) (rest := []) (wr := [X0W g oC rC vC aC]) C (X3_keepIf_c l g oR rR vR aR true 1 0) (cwV 3 hts (k_gV kw370 ca_X3_keepIf) rfl rfl rfl ⟨rfl, pnX3_keepIf⟩ ⟨Nat.le_of_ble_eq_true rfl, Nat.le_of_ble_eq_true rfl⟩) hE hS hA hP hD [1] [0] rfl rfl ⟨rfl, rfl, by decide⟩ (k_recv C kFX3 hP (i := 1) (q := 0) rfl rfl) rfl hl.1 rfl rfl dX3_ofBag_19 ⟨Nat.le_of_ble_eq_true rfl, Nat.le_of_ble_eq_true rfl⟩ (fun r12 u12 H locs hp12 hP hD hS => ?_)
  obtain ⟨er12, eu12⟩ := hp12
  have er12 : r12 = 1 := er12
  have eu12 : u12 = [X3W g oR rR (upd (upd (upd vR 0 1) 1 0) 2 0) aR] := eu12
  subst er12 eu12
  have hP : kp g [X0W g oC rC vC aC, X3W g oR rR (upd (upd (upd vR 0 1) 1 0) 2 0) aR] H := hP
  have hD : kd A [X0W g oC rC vC aC, X3W g oR rR (upd (upd (upd vR 0 1) 1 0) 2 0) aR] := hD
  refine lv_if_ne (tgt := 49) hx hb dX3_ofBag_22 (by decide) (fun _ => ?_) (fun z => absurd z (show ¬ ((1 : Int32) = 0) by decide))
  refine lv_iconst (v := 1) hx hb dX3_ofBag_49 (by decide) ?_
  refine lv_goto (tgt := 54) hx hb dX3_ofBag_50 (by decide) ?_
  have hF := (show X3_ofBag_f vC aC vR aR p1 = (true, upd (upd (upd vR 0 1) 1 0) 2 0) from (if_neg c1).trans ((if_neg c4).trans (rfl)))
  exact kM_zret (x := b2i true) C (b2i_nar _) hP hD hS ⟨by rw [hF], by rw [hF]⟩ dX3_ofBag_54

abbrev wX3_ofOtherSpice : List Cond := Cond.code yX3_ofOtherSpice cX3_ofOtherSpice 4 (some .boolean) :: kW
def X3_ofOtherSpice_f (vC : Nat → Int32) (aC : Nat → Nat → Int32) (vR : Nat → Int32) (aR : Nat → Nat → Int32) (p1 : Int32) (p2 : Int32) : Bool × (Nat → Int32) :=
  if ((aC 10) p1.toNatClampNeg) = ((aC 5) p2.toNatClampNeg) then (false, vR)
  else (true, upd (upd (upd vR 0 4) 1 ((aC 10) p1.toNatClampNeg)) 2 0)
set_option maxHeartbeats 4000000 in
set_option maxRecDepth 100000 in
theorem X3_ofOtherSpice_c (l : Launch) (g : kG) (oC : Nat) (rC : Nat → Nat) (vC : Nat → Int32) (aC : Nat → Nat → Int32) (oR : Nat) (rR : Nat → Nat) (vR : Nat → Int32) (aR : Nat → Nat → Int32) (p1 : Int32) (p2 : Int32) (hb : vp_in p1 6) (hj : vp_in p2 6) : kM l yX3_ofOtherSpice wX3_ofOtherSpice 1 23 0 0 g [.ref oR, .ref oC, .int p1, .int p2] [X0W g oC rC vC aC, X3W g oR rR vR aR] (fun x u => x = b2i (X3_ofOtherSpice_f vC aC vR aR p1 p2).1 ∧ u = [X0W g oC rC vC aC, X3W g oR rR ((X3_ofOtherSpice_f vC aC vR aR p1 p2).2) aR]) := by
  refine kM_of (cc := cX3_ofOtherSpice) (nL := 4) (ret := (some .boolean)) (lv := [(0, .ref oR), (1, .ref oC), (2, .int p1), (3, .int p2)]) (by decide) rfl (Nat.le_of_ble_eq_true rfl) rfl ?_
  intro p e s m args below meth c ls A C hP hD hE hA hS hl
  have C : kC p c cX3_ofOtherSpice s m args meth RX3 g 4 (some .boolean) := C
  have hx := C.1.1
  have hb := C.1.2.1
  have hts := C.1.2.2.2.2
  refine lv_aload_n hx hb dX3_ofOtherSpice_0 rfl (lv_at hl 0 rfl) ?_
  refine lv_aload_n hx hb dX3_ofOtherSpice_1 rfl (lv_at hl 1 rfl) ?_
  refine kg_getN C kFX0 (k := 10) (List.mem_of_getElem? (i := 19) rfl) hP (i := 0) (q := 0) rfl rfl (by decide) rfl dX3_ofOtherSpice_2 ?_
  refine lv_iload_n hx hb dX3_ofOtherSpice_5 rfl (lv_at hl 2 rfl) ?_
  refine kg_iald C hP (i := 0) (q := 5) rfl rfl (by first | assumption) dX3_ofOtherSpice_6 ?_
  refine lv_aload_n hx hb dX3_ofOtherSpice_7 rfl (lv_at hl 1 rfl) ?_
  refine kg_getN C kFX0 (k := 5) (List.mem_of_getElem? (i := 10) rfl) hP (i := 0) (q := 0) rfl rfl (by decide) rfl dX3_ofOtherSpice_8 ?_
  refine lv_iload_n hx hb dX3_ofOtherSpice_11 rfl (lv_at hl 3 rfl) ?_
  refine kg_iald C hP (i := 0) (q := 1) rfl rfl (by first | assumption) dX3_ofOtherSpice_12 ?_
  refine lv_icmp_eq (tgt := 20) hx hb dX3_ofOtherSpice_13 (by decide) (fun c1 => ?_) (fun c1 => ?_)
  · refine lv_iconst (v := 0) hx hb dX3_ofOtherSpice_20 (by decide) ?_
    refine lv_iconst (v := 4) hx hb dX3_ofOtherSpice_21 (by decide) ?_
    refine lv_aload_n hx hb dX3_ofOtherSpice_22 rfl (lv_at hl 1 rfl) ?_
    refine kg_getN C kFX0 (k := 10) (List.mem_of_getElem? (i := 19) rfl) hP (i := 0) (q := 0) rfl rfl (by decide) rfl dX3_ofOtherSpice_23 ?_
    refine lv_iload_n hx hb dX3_ofOtherSpice_26 rfl (lv_at hl 2 rfl) ?_
    refine kg_iald C hP (i := 0) (q := 5) rfl rfl (by first | assumption) dX3_ofOtherSpice_27 ?_
    refine kM_V (As := [.int 0, .int 4, .int ((aC 10) p1.toNatClampNeg)]) (rest := []) (wr := [X0W g oC rC vC aC]) C (X3_keepIf_c l g oR rR vR aR false 4 ((aC 10) p1.toNatClampNeg)) (cwV 3 hts (k_gV kw370 ca_X3_keepIf) rfl rfl rfl ⟨rfl, pnX3_keepIf⟩ ⟨Nat.le_of_ble_eq_true rfl, Nat.le_of_ble_eq_true rfl⟩) hE hS hA hP hD [1] [0] rfl rfl ⟨rfl, rfl, by decide⟩ (k_recv C kFX3 hP (i := 1) (q := 0) rfl rfl) rfl hl.1 rfl rfl dX3_ofOtherSpice_28 ⟨Nat.le_of_ble_eq_true rfl, Nat.le_of_ble_eq_true rfl⟩ (fun r2 u2 H locs hp2 hP hD hS => ?_)
    obtain ⟨er2, eu2⟩ := hp2
    have er2 : r2 = 0 := er2
    have eu2 : u2 = [X3W g oR rR vR aR] := eu2
    subst er2 eu2
    have hP : kp g [X0W g oC rC vC aC, X3W g oR rR vR aR] H := hP
    have hD : kd A [X0W g oC rC vC aC, X3W g oR rR vR aR] := hD
    have hF := (show X3_ofOtherSpice_f vC aC vR aR p1 p2 = (false, vR) from (if_pos c1).trans (rfl))
    exact kM_zret (x := b2i false) C (b2i_nar _) hP hD hS ⟨by rw [hF], by rw [hF]⟩ dX3_ofOtherSpice_31
  refine lv_iconst (v := 1) hx hb dX3_ofOtherSpice_16 (by decide) ?_
  refine lv_goto (tgt := 21) hx hb dX3_ofOtherSpice_17 (by decide) ?_
  refine lv_iconst (v := 4) hx hb dX3_ofOtherSpice_21 (by decide) ?_
  refine lv_aload_n hx hb dX3_ofOtherSpice_22 rfl (lv_at hl 1 rfl) ?_
  refine kg_getN C kFX0 (k := 10) (List.mem_of_getElem? (i := 19) rfl) hP (i := 0) (q := 0) rfl rfl (by decide) rfl dX3_ofOtherSpice_23 ?_
  refine lv_iload_n hx hb dX3_ofOtherSpice_26 rfl (lv_at hl 2 rfl) ?_
  refine kg_iald C hP (i := 0) (q := 5) rfl rfl (by first | assumption) dX3_ofOtherSpice_27 ?_
  refine kM_V (As := [.int 1, .int 4, .int ((aC 10) p1.toNatClampNeg)]) (rest := []) (wr := [X0W g oC rC vC aC]) C (X3_keepIf_c l g oR rR vR aR true 4 ((aC 10) p1.toNatClampNeg)) (cwV 3 hts (k_gV kw370 ca_X3_keepIf) rfl rfl rfl ⟨rfl, pnX3_keepIf⟩ ⟨Nat.le_of_ble_eq_true rfl, Nat.le_of_ble_eq_true rfl⟩) hE hS hA hP hD [1] [0] rfl rfl ⟨rfl, rfl, by decide⟩ (k_recv C kFX3 hP (i := 1) (q := 0) rfl rfl) rfl hl.1 rfl rfl dX3_ofOtherSpice_28 ⟨Nat.le_of_ble_eq_true rfl, Nat.le_of_ble_eq_true rfl⟩ (fun r3 u3 H locs hp3 hP hD hS => ?_)
  obtain ⟨er3, eu3⟩ := hp3
  have er3 : r3 = 1 := er3
  have eu3 : u3 = [X3W g oR rR (upd (upd (upd vR 0 4) 1 ((aC 10) p1.toNatClampNeg)) 2 0) aR] := eu3
  subst er3 eu3
  have hP : kp g [X0W g oC rC vC aC, X3W g oR rR (upd (upd (upd vR 0 4) 1 ((aC 10) p1.toNatClampNeg)) 2 0) aR] H := hP
  have hD : kd A [X0W g oC rC vC aC, X3W g oR rR (upd (upd (upd vR 0 4) 1 ((aC 10) p1.toNatClampNeg)) 2 0) aR] := hD
  have hF := (show X3_ofOtherSpice_f vC aC vR aR p1 p2 = (true, upd (upd (upd vR 0 4) 1 ((aC 10) p1.toNatClampNeg)) 2 0) from (if_neg c1).trans (rfl))
  exact kM_zret (x := b2i true) C (b2i_nar _) hP hD hS ⟨by rw [hF], by rw [hF]⟩ dX3_ofOtherSpice_31

theorem pnX0_hasBag : yX0_hasBag.cls ≠ "java/lang/invoke/MethodHandle" ∧ yX0_hasBag.cls ≠ "java/lang/invoke/VarHandle" ∧ (parseMethodDescriptor yX0_hasBag.desc).map (fun d => d.parameters.length) = some 1 := by decide +kernel
theorem ca_X0_hasBag : kCal yX0_hasBag (Cond.code yX0_hasBag cX0_hasBag 2 (some .boolean)) := ⟨k_w 3 76 rfl rfl, k_w 1 7 rfl rfl, k_w 2 2 rfl rfl, k_w 3 77 rfl rfl⟩

theorem pnX0_hasJar : yX0_hasJar.cls ≠ "java/lang/invoke/MethodHandle" ∧ yX0_hasJar.cls ≠ "java/lang/invoke/VarHandle" ∧ (parseMethodDescriptor yX0_hasJar.desc).map (fun d => d.parameters.length) = some 1 := by decide +kernel
theorem ca_X0_hasJar : kCal yX0_hasJar (Cond.code yX0_hasJar cX0_hasJar 2 (some .boolean)) := ⟨k_w 3 84 rfl rfl, k_w 1 9 rfl rfl, k_w 2 2 rfl rfl, k_w 3 85 rfl rfl⟩

theorem pnX3_ofMissing : yX3_ofMissing.cls ≠ "java/lang/invoke/MethodHandle" ∧ yX3_ofMissing.cls ≠ "java/lang/invoke/VarHandle" ∧ (parseMethodDescriptor yX3_ofMissing.desc).map (fun d => d.parameters.length) = some 2 := by decide +kernel
theorem ca_X3_ofMissing : kCal yX3_ofMissing (Cond.code yX3_ofMissing cX3_ofMissing 3 (some .boolean)) := ⟨k_w 3 80 rfl rfl, k_w 1 8 rfl rfl, k_w 2 4 rfl rfl, k_w 3 81 rfl rfl⟩

theorem pnX3_ofOtherSpice : yX3_ofOtherSpice.cls ≠ "java/lang/invoke/MethodHandle" ∧ yX3_ofOtherSpice.cls ≠ "java/lang/invoke/VarHandle" ∧ (parseMethodDescriptor yX3_ofOtherSpice.desc).map (fun d => d.parameters.length) = some 3 := by decide +kernel
theorem ca_X3_ofOtherSpice : kCal yX3_ofOtherSpice (Cond.code yX3_ofOtherSpice cX3_ofOtherSpice 4 (some .boolean)) := ⟨k_w 3 88 rfl rfl, k_w 1 10 rfl rfl, k_w 2 4 rfl rfl, k_w 3 89 rfl rfl⟩

abbrev wX3_ofFilling : List Cond := Cond.code yX3_ofFilling cX3_ofFilling 6 (some .boolean) :: kW
def X3_ofFilling_f (vC : Nat → Int32) (aC : Nat → Nat → Int32) (vR : Nat → Int32) (aR : Nat → Nat → Int32) (p1 : Int32) (p2 : Int32) (p3 : Int32) : Bool × (Nat → Int32) :=
  if (X3_ofMissing_f vR aR (X0_hasBag_f vC aC p1) p1).1 = true then (true, (X3_ofMissing_f vR aR (X0_hasBag_f vC aC p1) p1).2)
  else if (X3_ofMissing_f ((X3_ofMissing_f vR aR (X0_hasBag_f vC aC p1) p1).2) aR (X0_hasJar_f vC aC p2) p2).1 = true then (true, (X3_ofMissing_f ((X3_ofMissing_f vR aR (X0_hasBag_f vC aC p1) p1).2) aR (X0_hasJar_f vC aC p2) p2).2)
  else if p3 < 1 then (true, upd (upd (upd ((X3_ofMissing_f ((X3_ofMissing_f vR aR (X0_hasBag_f vC aC p1) p1).2) aR (X0_hasJar_f vC aC p2) p2).2) 0 1) 1 0) 2 0)
  else if p3 ≤ 400 then (if ((aC 11) p1.toNatClampNeg) ≤ 0 then (if p3 ≤ ((aC 6) p2.toNatClampNeg) then (if p3 ≤ (400 - ((aC 11) p1.toNatClampNeg)) then (false, (X3_ofMissing_f ((X3_ofMissing_f vR aR (X0_hasBag_f vC aC p1) p1).2) aR (X0_hasJar_f vC aC p2) p2).2)
        else (true, upd (upd (upd ((X3_ofMissing_f ((X3_ofMissing_f vR aR (X0_hasBag_f vC aC p1) p1).2) aR (X0_hasJar_f vC aC p2) p2).2) 0 7) 1 (400 - ((aC 11) p1.toNatClampNeg))) 2 0))
      else (true, upd (upd (upd ((X3_ofMissing_f ((X3_ofMissing_f vR aR (X0_hasBag_f vC aC p1) p1).2) aR (X0_hasJar_f vC aC p2) p2).2) 0 5) 1 ((aC 6) p2.toNatClampNeg)) 2 0))
    else if (X3_ofOtherSpice_f vC aC ((X3_ofMissing_f ((X3_ofMissing_f vR aR (X0_hasBag_f vC aC p1) p1).2) aR (X0_hasJar_f vC aC p2) p2).2) aR p1 p2).1 = true then (true, (X3_ofOtherSpice_f vC aC ((X3_ofMissing_f ((X3_ofMissing_f vR aR (X0_hasBag_f vC aC p1) p1).2) aR (X0_hasJar_f vC aC p2) p2).2) aR p1 p2).2)
    else if p3 ≤ ((aC 6) p2.toNatClampNeg) then (if p3 ≤ (400 - ((aC 11) p1.toNatClampNeg)) then (false, (X3_ofOtherSpice_f vC aC ((X3_ofMissing_f ((X3_ofMissing_f vR aR (X0_hasBag_f vC aC p1) p1).2) aR (X0_hasJar_f vC aC p2) p2).2) aR p1 p2).2)
      else (true, upd (upd (upd ((X3_ofOtherSpice_f vC aC ((X3_ofMissing_f ((X3_ofMissing_f vR aR (X0_hasBag_f vC aC p1) p1).2) aR (X0_hasJar_f vC aC p2) p2).2) aR p1 p2).2) 0 7) 1 (400 - ((aC 11) p1.toNatClampNeg))) 2 0))
    else (true, upd (upd (upd ((X3_ofOtherSpice_f vC aC ((X3_ofMissing_f ((X3_ofMissing_f vR aR (X0_hasBag_f vC aC p1) p1).2) aR (X0_hasJar_f vC aC p2) p2).2) aR p1 p2).2) 0 5) 1 ((aC 6) p2.toNatClampNeg)) 2 0))
  else (true, upd (upd (upd ((X3_ofMissing_f ((X3_ofMissing_f vR aR (X0_hasBag_f vC aC p1) p1).2) aR (X0_hasJar_f vC aC p2) p2).2) 0 1) 1 0) 2 0)
set_option maxHeartbeats 4000000 in
set_option maxRecDepth 100000 in
theorem X3_ofFilling_c (l : Launch) (g : kG) (oC : Nat) (rC : Nat → Nat) (vC : Nat → Int32) (aC : Nat → Nat → Int32) (oR : Nat) (rR : Nat → Nat) (vR : Nat → Int32) (aR : Nat → Nat → Int32) (p1 : Int32) (p2 : Int32) (p3 : Int32) (nb : Nat) (nj : Nat) (hnb : nb ≤ 6) (hv7 : vC 7 = nI nb) (hnj : nj ≤ 6) (hv4 : vC 4 = nI nj) : kM l yX3_ofFilling wX3_ofFilling 2 46 0 0 g [.ref oR, .ref oC, .int p1, .int p2, .int p3] [X0W g oC rC vC aC, X3W g oR rR vR aR] (fun x u => x = b2i (X3_ofFilling_f vC aC vR aR p1 p2 p3).1 ∧ u = [X0W g oC rC vC aC, X3W g oR rR ((X3_ofFilling_f vC aC vR aR p1 p2 p3).2) aR]) := by
  refine kM_of (cc := cX3_ofFilling) (nL := 6) (ret := (some .boolean)) (lv := [(0, .ref oR), (1, .ref oC), (2, .int p1), (3, .int p2), (4, .int p3)]) (by decide) rfl (Nat.le_of_ble_eq_true rfl) rfl ?_
  intro p e s m args below meth c ls A C hP hD hE hA hS hl
  have C : kC p c cX3_ofFilling s m args meth RX3 g 6 (some .boolean) := C
  have hx := C.1.1
  have hb := C.1.2.1
  have hts := C.1.2.2.2.2
  refine lv_aload_n hx hb dX3_ofFilling_0 rfl (lv_at hl 0 rfl) ?_
  refine lv_aload_n hx hb dX3_ofFilling_1 rfl (lv_at hl 1 rfl) ?_
  refine lv_iload_n hx hb dX3_ofFilling_2 rfl (lv_at hl 2 rfl) ?_
  refine kR_VN (As := [.int p1]) (rest := [.ref oR]) C (X0_hasBag_c l g oC rC vC aC p1) ⟨va_cnB (host := "SpiceScale") 1 hts (k_gI ca_X0_hasBag.2.2.2) rfl rfl rfl (C.2.1.2 _ (List.mem_of_getElem? (i := 46) rfl)) (hts _ ca_X0_hasBag.2.2.1) pnX0_hasBag ⟨Nat.le_of_ble_eq_true rfl, Nat.le_of_ble_eq_true rfl⟩, hts _ ca_X0_hasBag.1, hts _ ca_X0_hasBag.2.1⟩ hE hS (hP.pick [0] rfl) (k_recv C kFX0 hP (i := 0) (q := 0) rfl rfl) rfl hl.1 rfl rfl dX3_ofFilling_3 ⟨Nat.le_of_ble_eq_true rfl, Nat.le_of_ble_eq_true rfl⟩ ?_
  refine lv_iload_n hx hb dX3_ofFilling_6 rfl (lv_at hl 2 rfl) ?_
  refine kM_V (As := [.int (b2i (X0_hasBag_f vC aC p1)), .int p1]) (rest := []) (wr := [X0W g oC rC vC aC]) C (X3_ofMissing_c l g oR rR vR aR (X0_hasBag_f vC aC p1) p1) (cwV 2 hts (k_gV kw386 ca_X3_ofMissing) rfl rfl rfl ⟨rfl, pnX3_ofMissing⟩ ⟨Nat.le_of_ble_eq_true rfl, Nat.le_of_ble_eq_true rfl⟩) hE hS hA hP hD [1] [0] rfl rfl ⟨rfl, rfl, by decide⟩ (k_recv C kFX3 hP (i := 1) (q := 0) rfl rfl) rfl hl.1 rfl rfl dX3_ofFilling_7 ⟨Nat.le_of_ble_eq_true rfl, Nat.le_of_ble_eq_true rfl⟩ (fun r1 u1 H locs hp1 hP hD hS => ?_)
  obtain ⟨rfl, rfl⟩ := hp1
  have hP : kp g [X0W g oC rC vC aC, X3W g oR rR ((X3_ofMissing_f vR aR (X0_hasBag_f vC aC p1) p1).2) aR] H := hP
  have hD : kd A [X0W g oC rC vC aC, X3W g oR rR ((X3_ofMissing_f vR aR (X0_hasBag_f vC aC p1) p1).2) aR] := hD
  refine lv_if_ne (tgt := 26) hx hb dX3_ofFilling_10 (by decide) (fun c2 => ?_) (fun c2 => ?_)
  · have c2 := b2i_ne0 c2
    refine lv_iconst (v := 1) hx hb dX3_ofFilling_26 (by decide) ?_
    have hF := (show X3_ofFilling_f vC aC vR aR p1 p2 p3 = (true, (X3_ofMissing_f vR aR (X0_hasBag_f vC aC p1) p1).2) from (if_pos c2).trans (rfl))
    exact kM_zret (x := b2i true) C (b2i_nar _) hP hD hS ⟨by rw [hF], by rw [hF]⟩ dX3_ofFilling_27
  have c2 := b2i_eq0 c2
  have z1 : vp_in p1 6 := k_hasBag (X3_miss c2) hv7 hnb
  refine lv_aload_n hx hb dX3_ofFilling_13 rfl (lv_at hl 0 rfl) ?_
  refine lv_aload_n hx hb dX3_ofFilling_14 rfl (lv_at hl 1 rfl) ?_
  refine lv_iload_n hx hb dX3_ofFilling_15 rfl (lv_at hl 3 rfl) ?_
  refine kR_VN (As := [.int p2]) (rest := [.ref oR]) C (X0_hasJar_c l g oC rC vC aC p2) ⟨va_cnB (host := "SpiceScale") 1 hts (k_gI ca_X0_hasJar.2.2.2) rfl rfl rfl (C.2.1.2 _ (List.mem_of_getElem? (i := 47) rfl)) (hts _ ca_X0_hasJar.2.2.1) pnX0_hasJar ⟨Nat.le_of_ble_eq_true rfl, Nat.le_of_ble_eq_true rfl⟩, hts _ ca_X0_hasJar.1, hts _ ca_X0_hasJar.2.1⟩ hE hS (hP.pick [0] rfl) (k_recv C kFX0 hP (i := 0) (q := 0) rfl rfl) rfl hl.1 rfl rfl dX3_ofFilling_16 ⟨Nat.le_of_ble_eq_true rfl, Nat.le_of_ble_eq_true rfl⟩ ?_
  refine lv_iload_n hx hb dX3_ofFilling_19 rfl (lv_at hl 3 rfl) ?_
  refine kM_V (As := [.int (b2i (X0_hasJar_f vC aC p2)), .int p2]) (rest := []) (wr := [X0W g oC rC vC aC]) C (X3_ofMissing_c l g oR rR ((X3_ofMissing_f vR aR (X0_hasBag_f vC aC p1) p1).2) aR (X0_hasJar_f vC aC p2) p2) (cwV 2 hts (k_gV kw386 ca_X3_ofMissing) rfl rfl rfl ⟨rfl, pnX3_ofMissing⟩ ⟨Nat.le_of_ble_eq_true rfl, Nat.le_of_ble_eq_true rfl⟩) hE hS hA hP hD [1] [0] rfl rfl ⟨rfl, rfl, by decide⟩ (k_recv C kFX3 hP (i := 1) (q := 0) rfl rfl) rfl hl.1 rfl rfl dX3_ofFilling_20 ⟨Nat.le_of_ble_eq_true rfl, Nat.le_of_ble_eq_true rfl⟩ (fun r3 u3 H locs hp3 hP hD hS => ?_)
  obtain ⟨rfl, rfl⟩ := hp3
  have hP : kp g [X0W g oC rC vC aC, X3W g oR rR ((X3_ofMissing_f ((X3_ofMissing_f vR aR (X0_hasBag_f vC aC p1) p1).2) aR (X0_hasJar_f vC aC p2) p2).2) aR] H := hP
  have hD : kd A [X0W g oC rC vC aC, X3W g oR rR ((X3_ofMissing_f ((X3_ofMissing_f vR aR (X0_hasBag_f vC aC p1) p1).2) aR (X0_hasJar_f vC aC p2) p2).2) aR] := hD
  refine lv_if_eq (tgt := 28) hx hb dX3_ofFilling_23 (by decide) (fun c4 => ?_) (fun c4 => ?_)
  · have c4 := b2i_eq0 c4
    have z2 : vp_in p2 6 := k_hasJar (X3_miss c4) hv4 hnj
    refine lv_sipush (v := 400) hx hb dX3_ofFilling_28 (by decide) ?_
    refine lv_aload_n hx hb dX3_ofFilling_31 rfl (lv_at hl 1 rfl) ?_
    refine kg_getN C kFX0 (k := 11) (List.mem_of_getElem? (i := 21) rfl) hP (i := 0) (q := 0) rfl rfl (by decide) rfl dX3_ofFilling_32 ?_
    refine lv_iload_n hx hb dX3_ofFilling_35 rfl (lv_at hl 2 rfl) ?_
    refine kg_iald C hP (i := 0) (q := 6) rfl rfl (by first | assumption) dX3_ofFilling_36 ?_
    refine lv_isub hx hb dX3_ofFilling_37 ?_
    refine lv_istore (lv' := [(5, .int (400 - ((aC 11) p1.toNatClampNeg))), (0, .ref oR), (1, .ref oC), (2, .int p1), (3, .int p2), (4, .int p3)]) hx hb dX3_ofFilling_38 hl (by decide) rfl (fun ls hl => ?_)
    refine lv_aload_n hx hb dX3_ofFilling_40 rfl (lv_at hl 1 rfl) ?_
    refine lv_iload hx hb dX3_ofFilling_41 (lv_at hl 5 rfl) ?_
    refine lv_iconst (v := 1) hx hb dX3_ofFilling_43 (by decide) ?_
    refine lv_icmp_lt (tgt := 55) hx hb dX3_ofFilling_44 (by decide) (fun c5 => ?_) (fun c5 => ?_)
    · refine lv_iconst (v := 1) hx hb dX3_ofFilling_55 (by decide) ?_
      refine lv_goto (tgt := 60) hx hb dX3_ofFilling_56 (by decide) ?_
      refine lv_iconst (v := 1) hx hb dX3_ofFilling_60 (by decide) ?_
      refine lv_iconst (v := 0) hx hb dX3_ofFilling_61 (by decide) ?_
      refine kM_V (As := [.int 1, .int 1, .int 0]) (rest := []) (wr := [X0W g oC rC vC aC]) C (X3_keepIf_c l g oR rR ((X3_ofMissing_f ((X3_ofMissing_f vR aR (X0_hasBag_f vC aC p1) p1).2) aR (X0_hasJar_f vC aC p2) p2).2) aR true 1 0) (cwV 3 hts (k_gV kw370 ca_X3_keepIf) rfl rfl rfl ⟨rfl, pnX3_keepIf⟩ ⟨Nat.le_of_ble_eq_true rfl, Nat.le_of_ble_eq_true rfl⟩) hE hS hA hP hD [1] [0] rfl rfl ⟨rfl, rfl, by decide⟩ (k_recv C kFX3 hP (i := 1) (q := 0) rfl rfl) rfl hl.1 rfl rfl dX3_ofFilling_62 ⟨Nat.le_of_ble_eq_true rfl, Nat.le_of_ble_eq_true rfl⟩ (fun r6 u6 H locs hp6 hP hD hS => ?_)
      obtain ⟨er6, eu6⟩ := hp6
      have er6 : r6 = 1 := er6
      have eu6 : u6 = [X3W g oR rR (upd (upd (upd ((X3_ofMissing_f ((X3_ofMissing_f vR aR (X0_hasBag_f vC aC p1) p1).2) aR (X0_hasJar_f vC aC p2) p2).2) 0 1) 1 0) 2 0) aR] := eu6
      subst er6 eu6
      have hP : kp g [X0W g oC rC vC aC, X3W g oR rR (upd (upd (upd ((X3_ofMissing_f ((X3_ofMissing_f vR aR (X0_hasBag_f vC aC p1) p1).2) aR (X0_hasJar_f vC aC p2) p2).2) 0 1) 1 0) 2 0) aR] H := hP
      have hD : kd A [X0W g oC rC vC aC, X3W g oR rR (upd (upd (upd ((X3_ofMissing_f ((X3_ofMissing_f vR aR (X0_hasBag_f vC aC p1) p1).2) aR (X0_hasJar_f vC aC p2) p2).2) 0 1) 1 0) 2 0) aR] := hD
      refine lv_if_ne (tgt := 140) hx hb dX3_ofFilling_65 (by decide) (fun _ => ?_) (fun z => absurd z (show ¬ ((1 : Int32) = 0) by decide))
      refine lv_iconst (v := 1) hx hb dX3_ofFilling_140 (by decide) ?_
      refine lv_goto (tgt := 145) hx hb dX3_ofFilling_141 (by decide) ?_
      have hF := (show X3_ofFilling_f vC aC vR aR p1 p2 p3 = (true, upd (upd (upd ((X3_ofMissing_f ((X3_ofMissing_f vR aR (X0_hasBag_f vC aC p1) p1).2) aR (X0_hasJar_f vC aC p2) p2).2) 0 1) 1 0) 2 0) from (if_neg c2).trans ((if_neg c4).trans ((if_pos c5).trans (rfl))))
      exact kM_zret (x := b2i true) C (b2i_nar _) hP hD hS ⟨by rw [hF], by rw [hF]⟩ dX3_ofFilling_145
    refine lv_iload hx hb dX3_ofFilling_47 (lv_at hl 5 rfl) ?_
    refine lv_sipush (v := 400) hx hb dX3_ofFilling_49 (by decide) ?_
    refine lv_icmp_le (tgt := 59) hx hb dX3_ofFilling_52 (by decide) (fun c8 => ?_) (fun c8 => ?_)
    · refine lv_iconst (v := 0) hx hb dX3_ofFilling_59 (by decide) ?_
      refine lv_iconst (v := 1) hx hb dX3_ofFilling_60 (by decide) ?_
      refine lv_iconst (v := 0) hx hb dX3_ofFilling_61 (by decide) ?_
      refine kM_V (As := [.int 0, .int 1, .int 0]) (rest := []) (wr := [X0W g oC rC vC aC]) C (X3_keepIf_c l g oR rR ((X3_ofMissing_f ((X3_ofMissing_f vR aR (X0_hasBag_f vC aC p1) p1).2) aR (X0_hasJar_f vC aC p2) p2).2) aR false 1 0) (cwV 3 hts (k_gV kw370 ca_X3_keepIf) rfl rfl rfl ⟨rfl, pnX3_keepIf⟩ ⟨Nat.le_of_ble_eq_true rfl, Nat.le_of_ble_eq_true rfl⟩) hE hS hA hP hD [1] [0] rfl rfl ⟨rfl, rfl, by decide⟩ (k_recv C kFX3 hP (i := 1) (q := 0) rfl rfl) rfl hl.1 rfl rfl dX3_ofFilling_62 ⟨Nat.le_of_ble_eq_true rfl, Nat.le_of_ble_eq_true rfl⟩ (fun r9 u9 H locs hp9 hP hD hS => ?_)
      obtain ⟨er9, eu9⟩ := hp9
      have er9 : r9 = 0 := er9
      have eu9 : u9 = [X3W g oR rR ((X3_ofMissing_f ((X3_ofMissing_f vR aR (X0_hasBag_f vC aC p1) p1).2) aR (X0_hasJar_f vC aC p2) p2).2) aR] := eu9
      subst er9 eu9
      have hP : kp g [X0W g oC rC vC aC, X3W g oR rR ((X3_ofMissing_f ((X3_ofMissing_f vR aR (X0_hasBag_f vC aC p1) p1).2) aR (X0_hasJar_f vC aC p2) p2).2) aR] H := hP
      have hD : kd A [X0W g oC rC vC aC, X3W g oR rR ((X3_ofMissing_f ((X3_ofMissing_f vR aR (X0_hasBag_f vC aC p1) p1).2) aR (X0_hasJar_f vC aC p2) p2).2) aR] := hD
      refine lv_if_ne (tgt := 140) hx hb dX3_ofFilling_65 (by decide) (fun z => absurd (show ((0 : Int32) = 0) by decide) z) (fun _ => ?_)
      refine lv_aload_n hx hb dX3_ofFilling_68 rfl (lv_at hl 2 rfl) ?_
      refine kg_getN C kFX0 (k := 11) (List.mem_of_getElem? (i := 21) rfl) hP (i := 0) (q := 0) rfl rfl (by decide) rfl dX3_ofFilling_69 ?_
      refine lv_iload_n hx hb dX3_ofFilling_72 rfl (lv_at hl 3 rfl) ?_
      refine kg_iald C hP (i := 0) (q := 6) rfl rfl (by first | assumption) dX3_ofFilling_73 ?_
      refine lv_if_le (tgt := 87) hx hb dX3_ofFilling_74 (by decide) (fun c11 => ?_) (fun c11 => ?_)
      · refine lv_aload_n hx hb dX3_ofFilling_87 rfl (lv_at hl 1 rfl) ?_
        refine lv_iload hx hb dX3_ofFilling_88 (lv_at hl 5 rfl) ?_
        refine lv_aload_n hx hb dX3_ofFilling_90 rfl (lv_at hl 2 rfl) ?_
        refine kg_getN C kFX0 (k := 6) (List.mem_of_getElem? (i := 12) rfl) hP (i := 0) (q := 0) rfl rfl (by decide) rfl dX3_ofFilling_91 ?_
        refine lv_iload_n hx hb dX3_ofFilling_94 rfl (lv_at hl 4 rfl) ?_
        refine kg_iald C hP (i := 0) (q := 2) rfl rfl (by first | assumption) dX3_ofFilling_95 ?_
        refine lv_icmp_le (tgt := 103) hx hb dX3_ofFilling_96 (by decide) (fun c12 => ?_) (fun c12 => ?_)
        · refine lv_iconst (v := 0) hx hb dX3_ofFilling_103 (by decide) ?_
          refine lv_iconst (v := 5) hx hb dX3_ofFilling_104 (by decide) ?_
          refine lv_aload_n hx hb dX3_ofFilling_105 rfl (lv_at hl 2 rfl) ?_
          refine kg_getN C kFX0 (k := 6) (List.mem_of_getElem? (i := 12) rfl) hP (i := 0) (q := 0) rfl rfl (by decide) rfl dX3_ofFilling_106 ?_
          refine lv_iload_n hx hb dX3_ofFilling_109 rfl (lv_at hl 4 rfl) ?_
          refine kg_iald C hP (i := 0) (q := 2) rfl rfl (by first | assumption) dX3_ofFilling_110 ?_
          refine kM_V (As := [.int 0, .int 5, .int ((aC 6) p2.toNatClampNeg)]) (rest := []) (wr := [X0W g oC rC vC aC]) C (X3_keepIf_c l g oR rR ((X3_ofMissing_f ((X3_ofMissing_f vR aR (X0_hasBag_f vC aC p1) p1).2) aR (X0_hasJar_f vC aC p2) p2).2) aR false 5 ((aC 6) p2.toNatClampNeg)) (cwV 3 hts (k_gV kw370 ca_X3_keepIf) rfl rfl rfl ⟨rfl, pnX3_keepIf⟩ ⟨Nat.le_of_ble_eq_true rfl, Nat.le_of_ble_eq_true rfl⟩) hE hS hA hP hD [1] [0] rfl rfl ⟨rfl, rfl, by decide⟩ (k_recv C kFX3 hP (i := 1) (q := 0) rfl rfl) rfl hl.1 rfl rfl dX3_ofFilling_111 ⟨Nat.le_of_ble_eq_true rfl, Nat.le_of_ble_eq_true rfl⟩ (fun r13 u13 H locs hp13 hP hD hS => ?_)
          obtain ⟨er13, eu13⟩ := hp13
          have er13 : r13 = 0 := er13
          have eu13 : u13 = [X3W g oR rR ((X3_ofMissing_f ((X3_ofMissing_f vR aR (X0_hasBag_f vC aC p1) p1).2) aR (X0_hasJar_f vC aC p2) p2).2) aR] := eu13
          subst er13 eu13
          have hP : kp g [X0W g oC rC vC aC, X3W g oR rR ((X3_ofMissing_f ((X3_ofMissing_f vR aR (X0_hasBag_f vC aC p1) p1).2) aR (X0_hasJar_f vC aC p2) p2).2) aR] H := hP
          have hD : kd A [X0W g oC rC vC aC, X3W g oR rR ((X3_ofMissing_f ((X3_ofMissing_f vR aR (X0_hasBag_f vC aC p1) p1).2) aR (X0_hasJar_f vC aC p2) p2).2) aR] := hD
          refine lv_if_ne (tgt := 140) hx hb dX3_ofFilling_114 (by decide) (fun z => absurd (show ((0 : Int32) = 0) by decide) z) (fun _ => ?_)
          refine lv_aload_n hx hb dX3_ofFilling_117 rfl (lv_at hl 1 rfl) ?_
          refine lv_iload hx hb dX3_ofFilling_118 (lv_at hl 5 rfl) ?_
          refine lv_iload hx hb dX3_ofFilling_120 (lv_at hl 0 rfl) ?_
          refine lv_icmp_le (tgt := 129) hx hb dX3_ofFilling_122 (by decide) (fun c15 => ?_) (fun c15 => ?_)
          · refine lv_iconst (v := 0) hx hb dX3_ofFilling_129 (by decide) ?_
            refine lv_bipush (v := 7) hx hb dX3_ofFilling_130 (by decide) ?_
            refine lv_iload hx hb dX3_ofFilling_132 (lv_at hl 0 rfl) ?_
            refine kM_V (As := [.int 0, .int 7, .int (400 - ((aC 11) p1.toNatClampNeg))]) (rest := []) (wr := [X0W g oC rC vC aC]) C (X3_keepIf_c l g oR rR ((X3_ofMissing_f ((X3_ofMissing_f vR aR (X0_hasBag_f vC aC p1) p1).2) aR (X0_hasJar_f vC aC p2) p2).2) aR false 7 (400 - ((aC 11) p1.toNatClampNeg))) (cwV 3 hts (k_gV kw370 ca_X3_keepIf) rfl rfl rfl ⟨rfl, pnX3_keepIf⟩ ⟨Nat.le_of_ble_eq_true rfl, Nat.le_of_ble_eq_true rfl⟩) hE hS hA hP hD [1] [0] rfl rfl ⟨rfl, rfl, by decide⟩ (k_recv C kFX3 hP (i := 1) (q := 0) rfl rfl) rfl hl.1 rfl rfl dX3_ofFilling_134 ⟨Nat.le_of_ble_eq_true rfl, Nat.le_of_ble_eq_true rfl⟩ (fun r16 u16 H locs hp16 hP hD hS => ?_)
            obtain ⟨er16, eu16⟩ := hp16
            have er16 : r16 = 0 := er16
            have eu16 : u16 = [X3W g oR rR ((X3_ofMissing_f ((X3_ofMissing_f vR aR (X0_hasBag_f vC aC p1) p1).2) aR (X0_hasJar_f vC aC p2) p2).2) aR] := eu16
            subst er16 eu16
            have hP : kp g [X0W g oC rC vC aC, X3W g oR rR ((X3_ofMissing_f ((X3_ofMissing_f vR aR (X0_hasBag_f vC aC p1) p1).2) aR (X0_hasJar_f vC aC p2) p2).2) aR] H := hP
            have hD : kd A [X0W g oC rC vC aC, X3W g oR rR ((X3_ofMissing_f ((X3_ofMissing_f vR aR (X0_hasBag_f vC aC p1) p1).2) aR (X0_hasJar_f vC aC p2) p2).2) aR] := hD
            refine lv_if_eq (tgt := 144) hx hb dX3_ofFilling_137 (by decide) (fun _ => ?_) (fun z => absurd (show ((0 : Int32) = 0) by decide) z)
            refine lv_iconst (v := 0) hx hb dX3_ofFilling_144 (by decide) ?_
            have hF := (show X3_ofFilling_f vC aC vR aR p1 p2 p3 = (false, (X3_ofMissing_f ((X3_ofMissing_f vR aR (X0_hasBag_f vC aC p1) p1).2) aR (X0_hasJar_f vC aC p2) p2).2) from (if_neg c2).trans ((if_neg c4).trans ((if_neg c5).trans ((if_pos c8).trans ((if_pos c11).trans ((if_pos c12).trans ((if_pos c15).trans (rfl))))))))
            exact kM_zret (x := b2i false) C (b2i_nar _) hP hD hS ⟨by rw [hF], by rw [hF]⟩ dX3_ofFilling_145
          refine lv_iconst (v := 1) hx hb dX3_ofFilling_125 (by decide) ?_
          refine lv_goto (tgt := 130) hx hb dX3_ofFilling_126 (by decide) ?_
          refine lv_bipush (v := 7) hx hb dX3_ofFilling_130 (by decide) ?_
          refine lv_iload hx hb dX3_ofFilling_132 (lv_at hl 0 rfl) ?_
          refine kM_V (As := [.int 1, .int 7, .int (400 - ((aC 11) p1.toNatClampNeg))]) (rest := []) (wr := [X0W g oC rC vC aC]) C (X3_keepIf_c l g oR rR ((X3_ofMissing_f ((X3_ofMissing_f vR aR (X0_hasBag_f vC aC p1) p1).2) aR (X0_hasJar_f vC aC p2) p2).2) aR true 7 (400 - ((aC 11) p1.toNatClampNeg))) (cwV 3 hts (k_gV kw370 ca_X3_keepIf) rfl rfl rfl ⟨rfl, pnX3_keepIf⟩ ⟨Nat.le_of_ble_eq_true rfl, Nat.le_of_ble_eq_true rfl⟩) hE hS hA hP hD [1] [0] rfl rfl ⟨rfl, rfl, by decide⟩ (k_recv C kFX3 hP (i := 1) (q := 0) rfl rfl) rfl hl.1 rfl rfl dX3_ofFilling_134 ⟨Nat.le_of_ble_eq_true rfl, Nat.le_of_ble_eq_true rfl⟩ (fun r18 u18 H locs hp18 hP hD hS => ?_)
          obtain ⟨er18, eu18⟩ := hp18
          have er18 : r18 = 1 := er18
          have eu18 : u18 = [X3W g oR rR (upd (upd (upd ((X3_ofMissing_f ((X3_ofMissing_f vR aR (X0_hasBag_f vC aC p1) p1).2) aR (X0_hasJar_f vC aC p2) p2).2) 0 7) 1 (400 - ((aC 11) p1.toNatClampNeg))) 2 0) aR] := eu18
          subst er18 eu18
          have hP : kp g [X0W g oC rC vC aC, X3W g oR rR (upd (upd (upd ((X3_ofMissing_f ((X3_ofMissing_f vR aR (X0_hasBag_f vC aC p1) p1).2) aR (X0_hasJar_f vC aC p2) p2).2) 0 7) 1 (400 - ((aC 11) p1.toNatClampNeg))) 2 0) aR] H := hP
          have hD : kd A [X0W g oC rC vC aC, X3W g oR rR (upd (upd (upd ((X3_ofMissing_f ((X3_ofMissing_f vR aR (X0_hasBag_f vC aC p1) p1).2) aR (X0_hasJar_f vC aC p2) p2).2) 0 7) 1 (400 - ((aC 11) p1.toNatClampNeg))) 2 0) aR] := hD
          refine lv_if_eq (tgt := 144) hx hb dX3_ofFilling_137 (by decide) (fun z => absurd z (show ¬ ((1 : Int32) = 0) by decide)) (fun _ => ?_)
          refine lv_iconst (v := 1) hx hb dX3_ofFilling_140 (by decide) ?_
          refine lv_goto (tgt := 145) hx hb dX3_ofFilling_141 (by decide) ?_
          have hF := (show X3_ofFilling_f vC aC vR aR p1 p2 p3 = (true, upd (upd (upd ((X3_ofMissing_f ((X3_ofMissing_f vR aR (X0_hasBag_f vC aC p1) p1).2) aR (X0_hasJar_f vC aC p2) p2).2) 0 7) 1 (400 - ((aC 11) p1.toNatClampNeg))) 2 0) from (if_neg c2).trans ((if_neg c4).trans ((if_neg c5).trans ((if_pos c8).trans ((if_pos c11).trans ((if_pos c12).trans ((if_neg c15).trans (rfl))))))))
          exact kM_zret (x := b2i true) C (b2i_nar _) hP hD hS ⟨by rw [hF], by rw [hF]⟩ dX3_ofFilling_145
        refine lv_iconst (v := 1) hx hb dX3_ofFilling_99 (by decide) ?_
        refine lv_goto (tgt := 104) hx hb dX3_ofFilling_100 (by decide) ?_
        refine lv_iconst (v := 5) hx hb dX3_ofFilling_104 (by decide) ?_
        refine lv_aload_n hx hb dX3_ofFilling_105 rfl (lv_at hl 2 rfl) ?_
        refine kg_getN C kFX0 (k := 6) (List.mem_of_getElem? (i := 12) rfl) hP (i := 0) (q := 0) rfl rfl (by decide) rfl dX3_ofFilling_106 ?_
        refine lv_iload_n hx hb dX3_ofFilling_109 rfl (lv_at hl 4 rfl) ?_
        refine kg_iald C hP (i := 0) (q := 2) rfl rfl (by first | assumption) dX3_ofFilling_110 ?_
        refine kM_V (As := [.int 1, .int 5, .int ((aC 6) p2.toNatClampNeg)]) (rest := []) (wr := [X0W g oC rC vC aC]) C (X3_keepIf_c l g oR rR ((X3_ofMissing_f ((X3_ofMissing_f vR aR (X0_hasBag_f vC aC p1) p1).2) aR (X0_hasJar_f vC aC p2) p2).2) aR true 5 ((aC 6) p2.toNatClampNeg)) (cwV 3 hts (k_gV kw370 ca_X3_keepIf) rfl rfl rfl ⟨rfl, pnX3_keepIf⟩ ⟨Nat.le_of_ble_eq_true rfl, Nat.le_of_ble_eq_true rfl⟩) hE hS hA hP hD [1] [0] rfl rfl ⟨rfl, rfl, by decide⟩ (k_recv C kFX3 hP (i := 1) (q := 0) rfl rfl) rfl hl.1 rfl rfl dX3_ofFilling_111 ⟨Nat.le_of_ble_eq_true rfl, Nat.le_of_ble_eq_true rfl⟩ (fun r20 u20 H locs hp20 hP hD hS => ?_)
        obtain ⟨er20, eu20⟩ := hp20
        have er20 : r20 = 1 := er20
        have eu20 : u20 = [X3W g oR rR (upd (upd (upd ((X3_ofMissing_f ((X3_ofMissing_f vR aR (X0_hasBag_f vC aC p1) p1).2) aR (X0_hasJar_f vC aC p2) p2).2) 0 5) 1 ((aC 6) p2.toNatClampNeg)) 2 0) aR] := eu20
        subst er20 eu20
        have hP : kp g [X0W g oC rC vC aC, X3W g oR rR (upd (upd (upd ((X3_ofMissing_f ((X3_ofMissing_f vR aR (X0_hasBag_f vC aC p1) p1).2) aR (X0_hasJar_f vC aC p2) p2).2) 0 5) 1 ((aC 6) p2.toNatClampNeg)) 2 0) aR] H := hP
        have hD : kd A [X0W g oC rC vC aC, X3W g oR rR (upd (upd (upd ((X3_ofMissing_f ((X3_ofMissing_f vR aR (X0_hasBag_f vC aC p1) p1).2) aR (X0_hasJar_f vC aC p2) p2).2) 0 5) 1 ((aC 6) p2.toNatClampNeg)) 2 0) aR] := hD
        refine lv_if_ne (tgt := 140) hx hb dX3_ofFilling_114 (by decide) (fun _ => ?_) (fun z => absurd z (show ¬ ((1 : Int32) = 0) by decide))
        refine lv_iconst (v := 1) hx hb dX3_ofFilling_140 (by decide) ?_
        refine lv_goto (tgt := 145) hx hb dX3_ofFilling_141 (by decide) ?_
        have hF := (show X3_ofFilling_f vC aC vR aR p1 p2 p3 = (true, upd (upd (upd ((X3_ofMissing_f ((X3_ofMissing_f vR aR (X0_hasBag_f vC aC p1) p1).2) aR (X0_hasJar_f vC aC p2) p2).2) 0 5) 1 ((aC 6) p2.toNatClampNeg)) 2 0) from (if_neg c2).trans ((if_neg c4).trans ((if_neg c5).trans ((if_pos c8).trans ((if_pos c11).trans ((if_neg c12).trans (rfl)))))))
        exact kM_zret (x := b2i true) C (b2i_nar _) hP hD hS ⟨by rw [hF], by rw [hF]⟩ dX3_ofFilling_145
      refine lv_aload_n hx hb dX3_ofFilling_77 rfl (lv_at hl 1 rfl) ?_
      refine lv_aload_n hx hb dX3_ofFilling_78 rfl (lv_at hl 2 rfl) ?_
      refine lv_iload_n hx hb dX3_ofFilling_79 rfl (lv_at hl 3 rfl) ?_
      refine lv_iload_n hx hb dX3_ofFilling_80 rfl (lv_at hl 4 rfl) ?_
      refine kM_V (As := [.ref oC, .int p1, .int p2]) (rest := []) (wr := []) C (X3_ofOtherSpice_c l g oC rC vC aC oR rR ((X3_ofMissing_f ((X3_ofMissing_f vR aR (X0_hasBag_f vC aC p1) p1).2) aR (X0_hasJar_f vC aC p2) p2).2) aR p1 p2 (by first | assumption) (by first | assumption)) (cwV 3 hts (k_gV kw394 ca_X3_ofOtherSpice) rfl rfl rfl ⟨rfl, pnX3_ofOtherSpice⟩ ⟨Nat.le_of_ble_eq_true rfl, Nat.le_of_ble_eq_true rfl⟩) hE hS hA hP hD [0, 1] [] rfl rfl ⟨rfl, rfl, by decide⟩ (k_recv C kFX3 hP (i := 1) (q := 0) rfl rfl) rfl hl.1 rfl rfl dX3_ofFilling_81 ⟨Nat.le_of_ble_eq_true rfl, Nat.le_of_ble_eq_true rfl⟩ (fun r22 u22 H locs hp22 hP hD hS => ?_)
      obtain ⟨rfl, rfl⟩ := hp22
      have hP : kp g [X0W g oC rC vC aC, X3W g oR rR ((X3_ofOtherSpice_f vC aC ((X3_ofMissing_f ((X3_ofMissing_f vR aR (X0_hasBag_f vC aC p1) p1).2) aR (X0_hasJar_f vC aC p2) p2).2) aR p1 p2).2) aR] H := hP
      have hD : kd A [X0W g oC rC vC aC, X3W g oR rR ((X3_ofOtherSpice_f vC aC ((X3_ofMissing_f ((X3_ofMissing_f vR aR (X0_hasBag_f vC aC p1) p1).2) aR (X0_hasJar_f vC aC p2) p2).2) aR p1 p2).2) aR] := hD
      refine lv_if_ne (tgt := 140) hx hb dX3_ofFilling_84 (by decide) (fun c23 => ?_) (fun c23 => ?_)
      · have c23 := b2i_ne0 c23
        refine lv_iconst (v := 1) hx hb dX3_ofFilling_140 (by decide) ?_
        refine lv_goto (tgt := 145) hx hb dX3_ofFilling_141 (by decide) ?_
        have hF := (show X3_ofFilling_f vC aC vR aR p1 p2 p3 = (true, (X3_ofOtherSpice_f vC aC ((X3_ofMissing_f ((X3_ofMissing_f vR aR (X0_hasBag_f vC aC p1) p1).2) aR (X0_hasJar_f vC aC p2) p2).2) aR p1 p2).2) from (if_neg c2).trans ((if_neg c4).trans ((if_neg c5).trans ((if_pos c8).trans ((if_neg c11).trans ((if_pos c23).trans (rfl)))))))
        exact kM_zret (x := b2i true) C (b2i_nar _) hP hD hS ⟨by rw [hF], by rw [hF]⟩ dX3_ofFilling_145
      have c23 := b2i_eq0 c23
      refine lv_aload_n hx hb dX3_ofFilling_87 rfl (lv_at hl 1 rfl) ?_
      refine lv_iload hx hb dX3_ofFilling_88 (lv_at hl 5 rfl) ?_
      refine lv_aload_n hx hb dX3_ofFilling_90 rfl (lv_at hl 2 rfl) ?_
      refine kg_getN C kFX0 (k := 6) (List.mem_of_getElem? (i := 12) rfl) hP (i := 0) (q := 0) rfl rfl (by decide) rfl dX3_ofFilling_91 ?_
      refine lv_iload_n hx hb dX3_ofFilling_94 rfl (lv_at hl 4 rfl) ?_
      refine kg_iald C hP (i := 0) (q := 2) rfl rfl (by first | assumption) dX3_ofFilling_95 ?_
      refine lv_icmp_le (tgt := 103) hx hb dX3_ofFilling_96 (by decide) (fun c24 => ?_) (fun c24 => ?_)
      · refine lv_iconst (v := 0) hx hb dX3_ofFilling_103 (by decide) ?_
        refine lv_iconst (v := 5) hx hb dX3_ofFilling_104 (by decide) ?_
        refine lv_aload_n hx hb dX3_ofFilling_105 rfl (lv_at hl 2 rfl) ?_
        refine kg_getN C kFX0 (k := 6) (List.mem_of_getElem? (i := 12) rfl) hP (i := 0) (q := 0) rfl rfl (by decide) rfl dX3_ofFilling_106 ?_
        refine lv_iload_n hx hb dX3_ofFilling_109 rfl (lv_at hl 4 rfl) ?_
        refine kg_iald C hP (i := 0) (q := 2) rfl rfl (by first | assumption) dX3_ofFilling_110 ?_
        refine kM_V (As := [.int 0, .int 5, .int ((aC 6) p2.toNatClampNeg)]) (rest := []) (wr := [X0W g oC rC vC aC]) C (X3_keepIf_c l g oR rR ((X3_ofOtherSpice_f vC aC ((X3_ofMissing_f ((X3_ofMissing_f vR aR (X0_hasBag_f vC aC p1) p1).2) aR (X0_hasJar_f vC aC p2) p2).2) aR p1 p2).2) aR false 5 ((aC 6) p2.toNatClampNeg)) (cwV 3 hts (k_gV kw370 ca_X3_keepIf) rfl rfl rfl ⟨rfl, pnX3_keepIf⟩ ⟨Nat.le_of_ble_eq_true rfl, Nat.le_of_ble_eq_true rfl⟩) hE hS hA hP hD [1] [0] rfl rfl ⟨rfl, rfl, by decide⟩ (k_recv C kFX3 hP (i := 1) (q := 0) rfl rfl) rfl hl.1 rfl rfl dX3_ofFilling_111 ⟨Nat.le_of_ble_eq_true rfl, Nat.le_of_ble_eq_true rfl⟩ (fun r25 u25 H locs hp25 hP hD hS => ?_)
        obtain ⟨er25, eu25⟩ := hp25
        have er25 : r25 = 0 := er25
        have eu25 : u25 = [X3W g oR rR ((X3_ofOtherSpice_f vC aC ((X3_ofMissing_f ((X3_ofMissing_f vR aR (X0_hasBag_f vC aC p1) p1).2) aR (X0_hasJar_f vC aC p2) p2).2) aR p1 p2).2) aR] := eu25
        subst er25 eu25
        have hP : kp g [X0W g oC rC vC aC, X3W g oR rR ((X3_ofOtherSpice_f vC aC ((X3_ofMissing_f ((X3_ofMissing_f vR aR (X0_hasBag_f vC aC p1) p1).2) aR (X0_hasJar_f vC aC p2) p2).2) aR p1 p2).2) aR] H := hP
        have hD : kd A [X0W g oC rC vC aC, X3W g oR rR ((X3_ofOtherSpice_f vC aC ((X3_ofMissing_f ((X3_ofMissing_f vR aR (X0_hasBag_f vC aC p1) p1).2) aR (X0_hasJar_f vC aC p2) p2).2) aR p1 p2).2) aR] := hD
        refine lv_if_ne (tgt := 140) hx hb dX3_ofFilling_114 (by decide) (fun z => absurd (show ((0 : Int32) = 0) by decide) z) (fun _ => ?_)
        refine lv_aload_n hx hb dX3_ofFilling_117 rfl (lv_at hl 1 rfl) ?_
        refine lv_iload hx hb dX3_ofFilling_118 (lv_at hl 5 rfl) ?_
        refine lv_iload hx hb dX3_ofFilling_120 (lv_at hl 0 rfl) ?_
        refine lv_icmp_le (tgt := 129) hx hb dX3_ofFilling_122 (by decide) (fun c27 => ?_) (fun c27 => ?_)
        · refine lv_iconst (v := 0) hx hb dX3_ofFilling_129 (by decide) ?_
          refine lv_bipush (v := 7) hx hb dX3_ofFilling_130 (by decide) ?_
          refine lv_iload hx hb dX3_ofFilling_132 (lv_at hl 0 rfl) ?_
          refine kM_V (As := [.int 0, .int 7, .int (400 - ((aC 11) p1.toNatClampNeg))]) (rest := []) (wr := [X0W g oC rC vC aC]) C (X3_keepIf_c l g oR rR ((X3_ofOtherSpice_f vC aC ((X3_ofMissing_f ((X3_ofMissing_f vR aR (X0_hasBag_f vC aC p1) p1).2) aR (X0_hasJar_f vC aC p2) p2).2) aR p1 p2).2) aR false 7 (400 - ((aC 11) p1.toNatClampNeg))) (cwV 3 hts (k_gV kw370 ca_X3_keepIf) rfl rfl rfl ⟨rfl, pnX3_keepIf⟩ ⟨Nat.le_of_ble_eq_true rfl, Nat.le_of_ble_eq_true rfl⟩) hE hS hA hP hD [1] [0] rfl rfl ⟨rfl, rfl, by decide⟩ (k_recv C kFX3 hP (i := 1) (q := 0) rfl rfl) rfl hl.1 rfl rfl dX3_ofFilling_134 ⟨Nat.le_of_ble_eq_true rfl, Nat.le_of_ble_eq_true rfl⟩ (fun r28 u28 H locs hp28 hP hD hS => ?_)
          obtain ⟨er28, eu28⟩ := hp28
          have er28 : r28 = 0 := er28
          have eu28 : u28 = [X3W g oR rR ((X3_ofOtherSpice_f vC aC ((X3_ofMissing_f ((X3_ofMissing_f vR aR (X0_hasBag_f vC aC p1) p1).2) aR (X0_hasJar_f vC aC p2) p2).2) aR p1 p2).2) aR] := eu28
          subst er28 eu28
          have hP : kp g [X0W g oC rC vC aC, X3W g oR rR ((X3_ofOtherSpice_f vC aC ((X3_ofMissing_f ((X3_ofMissing_f vR aR (X0_hasBag_f vC aC p1) p1).2) aR (X0_hasJar_f vC aC p2) p2).2) aR p1 p2).2) aR] H := hP
          have hD : kd A [X0W g oC rC vC aC, X3W g oR rR ((X3_ofOtherSpice_f vC aC ((X3_ofMissing_f ((X3_ofMissing_f vR aR (X0_hasBag_f vC aC p1) p1).2) aR (X0_hasJar_f vC aC p2) p2).2) aR p1 p2).2) aR] := hD
          refine lv_if_eq (tgt := 144) hx hb dX3_ofFilling_137 (by decide) (fun _ => ?_) (fun z => absurd (show ((0 : Int32) = 0) by decide) z)
          refine lv_iconst (v := 0) hx hb dX3_ofFilling_144 (by decide) ?_
          have hF := (show X3_ofFilling_f vC aC vR aR p1 p2 p3 = (false, (X3_ofOtherSpice_f vC aC ((X3_ofMissing_f ((X3_ofMissing_f vR aR (X0_hasBag_f vC aC p1) p1).2) aR (X0_hasJar_f vC aC p2) p2).2) aR p1 p2).2) from (if_neg c2).trans ((if_neg c4).trans ((if_neg c5).trans ((if_pos c8).trans ((if_neg c11).trans ((if_neg c23).trans ((if_pos c24).trans ((if_pos c27).trans (rfl)))))))))
          exact kM_zret (x := b2i false) C (b2i_nar _) hP hD hS ⟨by rw [hF], by rw [hF]⟩ dX3_ofFilling_145
        refine lv_iconst (v := 1) hx hb dX3_ofFilling_125 (by decide) ?_
        refine lv_goto (tgt := 130) hx hb dX3_ofFilling_126 (by decide) ?_
        refine lv_bipush (v := 7) hx hb dX3_ofFilling_130 (by decide) ?_
        refine lv_iload hx hb dX3_ofFilling_132 (lv_at hl 0 rfl) ?_
        refine kM_V (As := [.int 1, .int 7, .int (400 - ((aC 11) p1.toNatClampNeg))]) (rest := []) (wr := [X0W g oC rC vC aC]) C (X3_keepIf_c l g oR rR ((X3_ofOtherSpice_f vC aC ((X3_ofMissing_f ((X3_ofMissing_f vR aR (X0_hasBag_f vC aC p1) p1).2) aR (X0_hasJar_f vC aC p2) p2).2) aR p1 p2).2) aR true 7 (400 - ((aC 11) p1.toNatClampNeg))) (cwV 3 hts (k_gV kw370 ca_X3_keepIf) rfl rfl rfl ⟨rfl, pnX3_keepIf⟩ ⟨Nat.le_of_ble_eq_true rfl, Nat.le_of_ble_eq_true rfl⟩) hE hS hA hP hD [1] [0] rfl rfl ⟨rfl, rfl, by decide⟩ (k_recv C kFX3 hP (i := 1) (q := 0) rfl rfl) rfl hl.1 rfl rfl dX3_ofFilling_134 ⟨Nat.le_of_ble_eq_true rfl, Nat.le_of_ble_eq_true rfl⟩ (fun r30 u30 H locs hp30 hP hD hS => ?_)
        obtain ⟨er30, eu30⟩ := hp30
        have er30 : r30 = 1 := er30
        have eu30 : u30 = [X3W g oR rR (upd (upd (upd ((X3_ofOtherSpice_f vC aC ((X3_ofMissing_f ((X3_ofMissing_f vR aR (X0_hasBag_f vC aC p1) p1).2) aR (X0_hasJar_f vC aC p2) p2).2) aR p1 p2).2) 0 7) 1 (400 - ((aC 11) p1.toNatClampNeg))) 2 0) aR] := eu30
        subst er30 eu30
        have hP : kp g [X0W g oC rC vC aC, X3W g oR rR (upd (upd (upd ((X3_ofOtherSpice_f vC aC ((X3_ofMissing_f ((X3_ofMissing_f vR aR (X0_hasBag_f vC aC p1) p1).2) aR (X0_hasJar_f vC aC p2) p2).2) aR p1 p2).2) 0 7) 1 (400 - ((aC 11) p1.toNatClampNeg))) 2 0) aR] H := hP
        have hD : kd A [X0W g oC rC vC aC, X3W g oR rR (upd (upd (upd ((X3_ofOtherSpice_f vC aC ((X3_ofMissing_f ((X3_ofMissing_f vR aR (X0_hasBag_f vC aC p1) p1).2) aR (X0_hasJar_f vC aC p2) p2).2) aR p1 p2).2) 0 7) 1 (400 - ((aC 11) p1.toNatClampNeg))) 2 0) aR] := hD
        refine lv_if_eq (tgt := 144) hx hb dX3_ofFilling_137 (by decide) (fun z => absurd z (show ¬ ((1 : Int32) = 0) by decide)) (fun _ => ?_)
        refine lv_iconst (v := 1) hx hb dX3_ofFilling_140 (by decide) ?_
        refine lv_goto (tgt := 145) hx hb dX3_ofFilling_141 (by decide) ?_
        have hF := (show X3_ofFilling_f vC aC vR aR p1 p2 p3 = (true, upd (upd (upd ((X3_ofOtherSpice_f vC aC ((X3_ofMissing_f ((X3_ofMissing_f vR aR (X0_hasBag_f vC aC p1) p1).2) aR (X0_hasJar_f vC aC p2) p2).2) aR p1 p2).2) 0 7) 1 (400 - ((aC 11) p1.toNatClampNeg))) 2 0) from (if_neg c2).trans ((if_neg c4).trans ((if_neg c5).trans ((if_pos c8).trans ((if_neg c11).trans ((if_neg c23).trans ((if_pos c24).trans ((if_neg c27).trans (rfl)))))))))
        exact kM_zret (x := b2i true) C (b2i_nar _) hP hD hS ⟨by rw [hF], by rw [hF]⟩ dX3_ofFilling_145
      refine lv_iconst (v := 1) hx hb dX3_ofFilling_99 (by decide) ?_
      refine lv_goto (tgt := 104) hx hb dX3_ofFilling_100 (by decide) ?_
      refine lv_iconst (v := 5) hx hb dX3_ofFilling_104 (by decide) ?_
      refine lv_aload_n hx hb dX3_ofFilling_105 rfl (lv_at hl 2 rfl) ?_
      refine kg_getN C kFX0 (k := 6) (List.mem_of_getElem? (i := 12) rfl) hP (i := 0) (q := 0) rfl rfl (by decide) rfl dX3_ofFilling_106 ?_
      refine lv_iload_n hx hb dX3_ofFilling_109 rfl (lv_at hl 4 rfl) ?_
      refine kg_iald C hP (i := 0) (q := 2) rfl rfl (by first | assumption) dX3_ofFilling_110 ?_
      refine kM_V (As := [.int 1, .int 5, .int ((aC 6) p2.toNatClampNeg)]) (rest := []) (wr := [X0W g oC rC vC aC]) C (X3_keepIf_c l g oR rR ((X3_ofOtherSpice_f vC aC ((X3_ofMissing_f ((X3_ofMissing_f vR aR (X0_hasBag_f vC aC p1) p1).2) aR (X0_hasJar_f vC aC p2) p2).2) aR p1 p2).2) aR true 5 ((aC 6) p2.toNatClampNeg)) (cwV 3 hts (k_gV kw370 ca_X3_keepIf) rfl rfl rfl ⟨rfl, pnX3_keepIf⟩ ⟨Nat.le_of_ble_eq_true rfl, Nat.le_of_ble_eq_true rfl⟩) hE hS hA hP hD [1] [0] rfl rfl ⟨rfl, rfl, by decide⟩ (k_recv C kFX3 hP (i := 1) (q := 0) rfl rfl) rfl hl.1 rfl rfl dX3_ofFilling_111 ⟨Nat.le_of_ble_eq_true rfl, Nat.le_of_ble_eq_true rfl⟩ (fun r32 u32 H locs hp32 hP hD hS => ?_)
      obtain ⟨er32, eu32⟩ := hp32
      have er32 : r32 = 1 := er32
      have eu32 : u32 = [X3W g oR rR (upd (upd (upd ((X3_ofOtherSpice_f vC aC ((X3_ofMissing_f ((X3_ofMissing_f vR aR (X0_hasBag_f vC aC p1) p1).2) aR (X0_hasJar_f vC aC p2) p2).2) aR p1 p2).2) 0 5) 1 ((aC 6) p2.toNatClampNeg)) 2 0) aR] := eu32
      subst er32 eu32
      have hP : kp g [X0W g oC rC vC aC, X3W g oR rR (upd (upd (upd ((X3_ofOtherSpice_f vC aC ((X3_ofMissing_f ((X3_ofMissing_f vR aR (X0_hasBag_f vC aC p1) p1).2) aR (X0_hasJar_f vC aC p2) p2).2) aR p1 p2).2) 0 5) 1 ((aC 6) p2.toNatClampNeg)) 2 0) aR] H := hP
      have hD : kd A [X0W g oC rC vC aC, X3W g oR rR (upd (upd (upd ((X3_ofOtherSpice_f vC aC ((X3_ofMissing_f ((X3_ofMissing_f vR aR (X0_hasBag_f vC aC p1) p1).2) aR (X0_hasJar_f vC aC p2) p2).2) aR p1 p2).2) 0 5) 1 ((aC 6) p2.toNatClampNeg)) 2 0) aR] := hD
      refine lv_if_ne (tgt := 140) hx hb dX3_ofFilling_114 (by decide) (fun _ => ?_) (fun z => absurd z (show ¬ ((1 : Int32) = 0) by decide))
      refine lv_iconst (v := 1) hx hb dX3_ofFilling_140 (by decide) ?_
      refine lv_goto (tgt := 145) hx hb dX3_ofFilling_141 (by decide) ?_
      have hF := (show X3_ofFilling_f vC aC vR aR p1 p2 p3 = (true, upd (upd (upd ((X3_ofOtherSpice_f vC aC ((X3_ofMissing_f ((X3_ofMissing_f vR aR (X0_hasBag_f vC aC p1) p1).2) aR (X0_hasJar_f vC aC p2) p2).2) aR p1 p2).2) 0 5) 1 ((aC 6) p2.toNatClampNeg)) 2 0) from (if_neg c2).trans ((if_neg c4).trans ((if_neg c5).trans ((if_pos c8).trans ((if_neg c11).trans ((if_neg c23).trans ((if_neg c24).trans (rfl))))))))
      exact kM_zret (x := b2i true) C (b2i_nar _) hP hD hS ⟨by rw [hF], by rw [hF]⟩ dX3_ofFilling_145
    refine lv_iconst (v := 1) hx hb dX3_ofFilling_55 (by decide) ?_
    refine lv_goto (tgt := 60) hx hb dX3_ofFilling_56 (by decide) ?_
    refine lv_iconst (v := 1) hx hb dX3_ofFilling_60 (by decide) ?_
    refine lv_iconst (v := 0) hx hb dX3_ofFilling_61 (by decide) ?_
    refine kM_V (As := [.int 1, .int 1, .int 0]) (rest := []) (wr := [X0W g oC rC vC aC]) C (X3_keepIf_c l g oR rR ((X3_ofMissing_f ((X3_ofMissing_f vR aR (X0_hasBag_f vC aC p1) p1).2) aR (X0_hasJar_f vC aC p2) p2).2) aR true 1 0) (cwV 3 hts (k_gV kw370 ca_X3_keepIf) rfl rfl rfl ⟨rfl, pnX3_keepIf⟩ ⟨Nat.le_of_ble_eq_true rfl, Nat.le_of_ble_eq_true rfl⟩) hE hS hA hP hD [1] [0] rfl rfl ⟨rfl, rfl, by decide⟩ (k_recv C kFX3 hP (i := 1) (q := 0) rfl rfl) rfl hl.1 rfl rfl dX3_ofFilling_62 ⟨Nat.le_of_ble_eq_true rfl, Nat.le_of_ble_eq_true rfl⟩ (fun r34 u34 H locs hp34 hP hD hS => ?_)
    obtain ⟨er34, eu34⟩ := hp34
    have er34 : r34 = 1 := er34
    have eu34 : u34 = [X3W g oR rR (upd (upd (upd ((X3_ofMissing_f ((X3_ofMissing_f vR aR (X0_hasBag_f vC aC p1) p1).2) aR (X0_hasJar_f vC aC p2) p2).2) 0 1) 1 0) 2 0) aR] := eu34
    subst er34 eu34
    have hP : kp g [X0W g oC rC vC aC, X3W g oR rR (upd (upd (upd ((X3_ofMissing_f ((X3_ofMissing_f vR aR (X0_hasBag_f vC aC p1) p1).2) aR (X0_hasJar_f vC aC p2) p2).2) 0 1) 1 0) 2 0) aR] H := hP
    have hD : kd A [X0W g oC rC vC aC, X3W g oR rR (upd (upd (upd ((X3_ofMissing_f ((X3_ofMissing_f vR aR (X0_hasBag_f vC aC p1) p1).2) aR (X0_hasJar_f vC aC p2) p2).2) 0 1) 1 0) 2 0) aR] := hD
    refine lv_if_ne (tgt := 140) hx hb dX3_ofFilling_65 (by decide) (fun _ => ?_) (fun z => absurd z (show ¬ ((1 : Int32) = 0) by decide))
    refine lv_iconst (v := 1) hx hb dX3_ofFilling_140 (by decide) ?_
    refine lv_goto (tgt := 145) hx hb dX3_ofFilling_141 (by decide) ?_
    have hF := (show X3_ofFilling_f vC aC vR aR p1 p2 p3 = (true, upd (upd (upd ((X3_ofMissing_f ((X3_ofMissing_f vR aR (X0_hasBag_f vC aC p1) p1).2) aR (X0_hasJar_f vC aC p2) p2).2) 0 1) 1 0) 2 0) from (if_neg c2).trans ((if_neg c4).trans ((if_neg c5).trans ((if_neg c8).trans (rfl)))))
    exact kM_zret (x := b2i true) C (b2i_nar _) hP hD hS ⟨by rw [hF], by rw [hF]⟩ dX3_ofFilling_145
  have c4 := b2i_ne0 c4
  refine lv_iconst (v := 1) hx hb dX3_ofFilling_26 (by decide) ?_
  have hF := (show X3_ofFilling_f vC aC vR aR p1 p2 p3 = (true, (X3_ofMissing_f ((X3_ofMissing_f vR aR (X0_hasBag_f vC aC p1) p1).2) aR (X0_hasJar_f vC aC p2) p2).2) from (if_neg c2).trans ((if_pos c4).trans (rfl)))
  exact kM_zret (x := b2i true) C (b2i_nar _) hP hD hS ⟨by rw [hF], by rw [hF]⟩ dX3_ofFilling_27

abbrev wX3_ofEmptying : List Cond := Cond.code yX3_ofEmptying cX3_ofEmptying 5 (some .boolean) :: kW
def X3_ofEmptying_f (vC : Nat → Int32) (aC : Nat → Nat → Int32) (vR : Nat → Int32) (aR : Nat → Nat → Int32) (p1 : Int32) (p2 : Int32) : Bool × (Nat → Int32) :=
  if (X3_ofMissing_f vR aR (X0_hasBag_f vC aC p1) p1).1 = true then (true, (X3_ofMissing_f vR aR (X0_hasBag_f vC aC p1) p1).2)
  else if (X3_ofMissing_f ((X3_ofMissing_f vR aR (X0_hasBag_f vC aC p1) p1).2) aR (X0_hasJar_f vC aC p2) p2).1 = true then (true, (X3_ofMissing_f ((X3_ofMissing_f vR aR (X0_hasBag_f vC aC p1) p1).2) aR (X0_hasJar_f vC aC p2) p2).2)
  else if ((aC 11) p1.toNatClampNeg) = 0 then (true, upd (upd (upd ((X3_ofMissing_f ((X3_ofMissing_f vR aR (X0_hasBag_f vC aC p1) p1).2) aR (X0_hasJar_f vC aC p2) p2).2) 0 6) 1 p1) 2 0)
  else if (X3_ofOtherSpice_f vC aC ((X3_ofMissing_f ((X3_ofMissing_f vR aR (X0_hasBag_f vC aC p1) p1).2) aR (X0_hasJar_f vC aC p2) p2).2) aR p1 p2).1 = true then (true, (X3_ofOtherSpice_f vC aC ((X3_ofMissing_f ((X3_ofMissing_f vR aR (X0_hasBag_f vC aC p1) p1).2) aR (X0_hasJar_f vC aC p2) p2).2) aR p1 p2).2)
  else if ((aC 11) p1.toNatClampNeg) ≤ (900 - ((aC 6) p2.toNatClampNeg)) then (false, (X3_ofOtherSpice_f vC aC ((X3_ofMissing_f ((X3_ofMissing_f vR aR (X0_hasBag_f vC aC p1) p1).2) aR (X0_hasJar_f vC aC p2) p2).2) aR p1 p2).2)
  else (true, upd (upd (upd ((X3_ofOtherSpice_f vC aC ((X3_ofMissing_f ((X3_ofMissing_f vR aR (X0_hasBag_f vC aC p1) p1).2) aR (X0_hasJar_f vC aC p2) p2).2) aR p1 p2).2) 0 7) 1 (900 - ((aC 6) p2.toNatClampNeg))) 2 0)
set_option maxHeartbeats 4000000 in
set_option maxRecDepth 100000 in
theorem X3_ofEmptying_c (l : Launch) (g : kG) (oC : Nat) (rC : Nat → Nat) (vC : Nat → Int32) (aC : Nat → Nat → Int32) (oR : Nat) (rR : Nat → Nat) (vR : Nat → Int32) (aR : Nat → Nat → Int32) (p1 : Int32) (p2 : Int32) (nb : Nat) (nj : Nat) (hnb : nb ≤ 6) (hv7 : vC 7 = nI nb) (hnj : nj ≤ 6) (hv4 : vC 4 = nI nj) : kM l yX3_ofEmptying wX3_ofEmptying 2 46 0 0 g [.ref oR, .ref oC, .int p1, .int p2] [X0W g oC rC vC aC, X3W g oR rR vR aR] (fun x u => x = b2i (X3_ofEmptying_f vC aC vR aR p1 p2).1 ∧ u = [X0W g oC rC vC aC, X3W g oR rR ((X3_ofEmptying_f vC aC vR aR p1 p2).2) aR]) := by
  refine kM_of (cc := cX3_ofEmptying) (nL := 5) (ret := (some .boolean)) (lv := [(0, .ref oR), (1, .ref oC), (2, .int p1), (3, .int p2)]) (by decide) rfl (Nat.le_of_ble_eq_true rfl) rfl ?_
  intro p e s m args below meth c ls A C hP hD hE hA hS hl
  have C : kC p c cX3_ofEmptying s m args meth RX3 g 5 (some .boolean) := C
  have hx := C.1.1
  have hb := C.1.2.1
  have hts := C.1.2.2.2.2
  refine lv_aload_n hx hb dX3_ofEmptying_0 rfl (lv_at hl 0 rfl) ?_
  refine lv_aload_n hx hb dX3_ofEmptying_1 rfl (lv_at hl 1 rfl) ?_
  refine lv_iload_n hx hb dX3_ofEmptying_2 rfl (lv_at hl 2 rfl) ?_
  refine kR_VN (As := [.int p1]) (rest := [.ref oR]) C (X0_hasBag_c l g oC rC vC aC p1) ⟨va_cnB (host := "SpiceScale") 1 hts (k_gI ca_X0_hasBag.2.2.2) rfl rfl rfl (C.2.1.2 _ (List.mem_of_getElem? (i := 46) rfl)) (hts _ ca_X0_hasBag.2.2.1) pnX0_hasBag ⟨Nat.le_of_ble_eq_true rfl, Nat.le_of_ble_eq_true rfl⟩, hts _ ca_X0_hasBag.1, hts _ ca_X0_hasBag.2.1⟩ hE hS (hP.pick [0] rfl) (k_recv C kFX0 hP (i := 0) (q := 0) rfl rfl) rfl hl.1 rfl rfl dX3_ofEmptying_3 ⟨Nat.le_of_ble_eq_true rfl, Nat.le_of_ble_eq_true rfl⟩ ?_
  refine lv_iload_n hx hb dX3_ofEmptying_6 rfl (lv_at hl 2 rfl) ?_
  refine kM_V (As := [.int (b2i (X0_hasBag_f vC aC p1)), .int p1]) (rest := []) (wr := [X0W g oC rC vC aC]) C (X3_ofMissing_c l g oR rR vR aR (X0_hasBag_f vC aC p1) p1) (cwV 2 hts (k_gV kw386 ca_X3_ofMissing) rfl rfl rfl ⟨rfl, pnX3_ofMissing⟩ ⟨Nat.le_of_ble_eq_true rfl, Nat.le_of_ble_eq_true rfl⟩) hE hS hA hP hD [1] [0] rfl rfl ⟨rfl, rfl, by decide⟩ (k_recv C kFX3 hP (i := 1) (q := 0) rfl rfl) rfl hl.1 rfl rfl dX3_ofEmptying_7 ⟨Nat.le_of_ble_eq_true rfl, Nat.le_of_ble_eq_true rfl⟩ (fun r1 u1 H locs hp1 hP hD hS => ?_)
  obtain ⟨rfl, rfl⟩ := hp1
  have hP : kp g [X0W g oC rC vC aC, X3W g oR rR ((X3_ofMissing_f vR aR (X0_hasBag_f vC aC p1) p1).2) aR] H := hP
  have hD : kd A [X0W g oC rC vC aC, X3W g oR rR ((X3_ofMissing_f vR aR (X0_hasBag_f vC aC p1) p1).2) aR] := hD
  refine lv_if_ne (tgt := 26) hx hb dX3_ofEmptying_10 (by decide) (fun c2 => ?_) (fun c2 => ?_)
  · have c2 := b2i_ne0 c2
    refine lv_iconst (v := 1) hx hb dX3_ofEmptying_26 (by decide) ?_
    have hF := (show X3_ofEmptying_f vC aC vR aR p1 p2 = (true, (X3_ofMissing_f vR aR (X0_hasBag_f vC aC p1) p1).2) from (if_pos c2).trans (rfl))
    exact kM_zret (x := b2i true) C (b2i_nar _) hP hD hS ⟨by rw [hF], by rw [hF]⟩ dX3_ofEmptying_27
  have c2 := b2i_eq0 c2
  have z1 : vp_in p1 6 := k_hasBag (X3_miss c2) hv7 hnb
  refine lv_aload_n hx hb dX3_ofEmptying_13 rfl (lv_at hl 0 rfl) ?_
  refine lv_aload_n hx hb dX3_ofEmptying_14 rfl (lv_at hl 1 rfl) ?_
  refine lv_iload_n hx hb dX3_ofEmptying_15 rfl (lv_at hl 3 rfl) ?_
  refine kR_VN (As := [.int p2]) (rest := [.ref oR]) C (X0_hasJar_c l g oC rC vC aC p2) ⟨va_cnB (host := "SpiceScale") 1 hts (k_gI ca_X0_hasJar.2.2.2) rfl rfl rfl (C.2.1.2 _ (List.mem_of_getElem? (i := 47) rfl)) (hts _ ca_X0_hasJar.2.2.1) pnX0_hasJar ⟨Nat.le_of_ble_eq_true rfl, Nat.le_of_ble_eq_true rfl⟩, hts _ ca_X0_hasJar.1, hts _ ca_X0_hasJar.2.1⟩ hE hS (hP.pick [0] rfl) (k_recv C kFX0 hP (i := 0) (q := 0) rfl rfl) rfl hl.1 rfl rfl dX3_ofEmptying_16 ⟨Nat.le_of_ble_eq_true rfl, Nat.le_of_ble_eq_true rfl⟩ ?_
  refine lv_iload_n hx hb dX3_ofEmptying_19 rfl (lv_at hl 3 rfl) ?_
  refine kM_V (As := [.int (b2i (X0_hasJar_f vC aC p2)), .int p2]) (rest := []) (wr := [X0W g oC rC vC aC]) C (X3_ofMissing_c l g oR rR ((X3_ofMissing_f vR aR (X0_hasBag_f vC aC p1) p1).2) aR (X0_hasJar_f vC aC p2) p2) (cwV 2 hts (k_gV kw386 ca_X3_ofMissing) rfl rfl rfl ⟨rfl, pnX3_ofMissing⟩ ⟨Nat.le_of_ble_eq_true rfl, Nat.le_of_ble_eq_true rfl⟩) hE hS hA hP hD [1] [0] rfl rfl ⟨rfl, rfl, by decide⟩ (k_recv C kFX3 hP (i := 1) (q := 0) rfl rfl) rfl hl.1 rfl rfl dX3_ofEmptying_20 ⟨Nat.le_of_ble_eq_true rfl, Nat.le_of_ble_eq_true rfl⟩ (fun r3 u3 H locs hp3 hP hD hS => ?_)
  obtain ⟨rfl, rfl⟩ := hp3
  have hP : kp g [X0W g oC rC vC aC, X3W g oR rR ((X3_ofMissing_f ((X3_ofMissing_f vR aR (X0_hasBag_f vC aC p1) p1).2) aR (X0_hasJar_f vC aC p2) p2).2) aR] H := hP
  have hD : kd A [X0W g oC rC vC aC, X3W g oR rR ((X3_ofMissing_f ((X3_ofMissing_f vR aR (X0_hasBag_f vC aC p1) p1).2) aR (X0_hasJar_f vC aC p2) p2).2) aR] := hD
  refine lv_if_eq (tgt := 28) hx hb dX3_ofEmptying_23 (by decide) (fun c4 => ?_) (fun c4 => ?_)
  · have c4 := b2i_eq0 c4
    have z2 : vp_in p2 6 := k_hasJar (X3_miss c4) hv4 hnj
    refine lv_sipush (v := 900) hx hb dX3_ofEmptying_28 (by decide) ?_
    refine lv_aload_n hx hb dX3_ofEmptying_31 rfl (lv_at hl 1 rfl) ?_
    refine kg_getN C kFX0 (k := 6) (List.mem_of_getElem? (i := 12) rfl) hP (i := 0) (q := 0) rfl rfl (by decide) rfl dX3_ofEmptying_32 ?_
    refine lv_iload_n hx hb dX3_ofEmptying_35 rfl (lv_at hl 3 rfl) ?_
    refine kg_iald C hP (i := 0) (q := 2) rfl rfl (by first | assumption) dX3_ofEmptying_36 ?_
    refine lv_isub hx hb dX3_ofEmptying_37 ?_
    refine lv_istore (lv' := [(4, .int (900 - ((aC 6) p2.toNatClampNeg))), (0, .ref oR), (1, .ref oC), (2, .int p1), (3, .int p2)]) hx hb dX3_ofEmptying_38 hl (by decide) rfl (fun ls hl => ?_)
    refine lv_aload_n hx hb dX3_ofEmptying_40 rfl (lv_at hl 1 rfl) ?_
    refine lv_aload_n hx hb dX3_ofEmptying_41 rfl (lv_at hl 2 rfl) ?_
    refine kg_getN C kFX0 (k := 11) (List.mem_of_getElem? (i := 21) rfl) hP (i := 0) (q := 0) rfl rfl (by decide) rfl dX3_ofEmptying_42 ?_
    refine lv_iload_n hx hb dX3_ofEmptying_45 rfl (lv_at hl 3 rfl) ?_
    refine kg_iald C hP (i := 0) (q := 6) rfl rfl (by first | assumption) dX3_ofEmptying_46 ?_
    refine lv_if_ne (tgt := 54) hx hb dX3_ofEmptying_47 (by decide) (fun c5 => ?_) (fun c5 => ?_)
    · refine lv_iconst (v := 0) hx hb dX3_ofEmptying_54 (by decide) ?_
      refine lv_bipush (v := 6) hx hb dX3_ofEmptying_55 (by decide) ?_
      refine lv_iload_n hx hb dX3_ofEmptying_57 rfl (lv_at hl 3 rfl) ?_
      refine kM_V (As := [.int 0, .int 6, .int p1]) (rest := []) (wr := [X0W g oC rC vC aC]) C (X3_keepIf_c l g oR rR ((X3_ofMissing_f ((X3_ofMissing_f vR aR (X0_hasBag_f vC aC p1) p1).2) aR (X0_hasJar_f vC aC p2) p2).2) aR false 6 p1) (cwV 3 hts (k_gV kw370 ca_X3_keepIf) rfl rfl rfl ⟨rfl, pnX3_keepIf⟩ ⟨Nat.le_of_ble_eq_true rfl, Nat.le_of_ble_eq_true rfl⟩) hE hS hA hP hD [1] [0] rfl rfl ⟨rfl, rfl, by decide⟩ (k_recv C kFX3 hP (i := 1) (q := 0) rfl rfl) rfl hl.1 rfl rfl dX3_ofEmptying_58 ⟨Nat.le_of_ble_eq_true rfl, Nat.le_of_ble_eq_true rfl⟩ (fun r6 u6 H locs hp6 hP hD hS => ?_)
      obtain ⟨er6, eu6⟩ := hp6
      have er6 : r6 = 0 := er6
      have eu6 : u6 = [X3W g oR rR ((X3_ofMissing_f ((X3_ofMissing_f vR aR (X0_hasBag_f vC aC p1) p1).2) aR (X0_hasJar_f vC aC p2) p2).2) aR] := eu6
      subst er6 eu6
      have hP : kp g [X0W g oC rC vC aC, X3W g oR rR ((X3_ofMissing_f ((X3_ofMissing_f vR aR (X0_hasBag_f vC aC p1) p1).2) aR (X0_hasJar_f vC aC p2) p2).2) aR] H := hP
      have hD : kd A [X0W g oC rC vC aC, X3W g oR rR ((X3_ofMissing_f ((X3_ofMissing_f vR aR (X0_hasBag_f vC aC p1) p1).2) aR (X0_hasJar_f vC aC p2) p2).2) aR] := hD
      refine lv_if_ne (tgt := 101) hx hb dX3_ofEmptying_61 (by decide) (fun z => absurd (show ((0 : Int32) = 0) by decide) z) (fun _ => ?_)
      refine lv_aload_n hx hb dX3_ofEmptying_64 rfl (lv_at hl 1 rfl) ?_
      refine lv_aload_n hx hb dX3_ofEmptying_65 rfl (lv_at hl 2 rfl) ?_
      refine lv_iload_n hx hb dX3_ofEmptying_66 rfl (lv_at hl 3 rfl) ?_
      refine lv_iload_n hx hb dX3_ofEmptying_67 rfl (lv_at hl 4 rfl) ?_
      refine kM_V (As := [.ref oC, .int p1, .int p2]) (rest := []) (wr := []) C (X3_ofOtherSpice_c l g oC rC vC aC oR rR ((X3_ofMissing_f ((X3_ofMissing_f vR aR (X0_hasBag_f vC aC p1) p1).2) aR (X0_hasJar_f vC aC p2) p2).2) aR p1 p2 (by first | assumption) (by first | assumption)) (cwV 3 hts (k_gV kw394 ca_X3_ofOtherSpice) rfl rfl rfl ⟨rfl, pnX3_ofOtherSpice⟩ ⟨Nat.le_of_ble_eq_true rfl, Nat.le_of_ble_eq_true rfl⟩) hE hS hA hP hD [0, 1] [] rfl rfl ⟨rfl, rfl, by decide⟩ (k_recv C kFX3 hP (i := 1) (q := 0) rfl rfl) rfl hl.1 rfl rfl dX3_ofEmptying_68 ⟨Nat.le_of_ble_eq_true rfl, Nat.le_of_ble_eq_true rfl⟩ (fun r8 u8 H locs hp8 hP hD hS => ?_)
      obtain ⟨rfl, rfl⟩ := hp8
      have hP : kp g [X0W g oC rC vC aC, X3W g oR rR ((X3_ofOtherSpice_f vC aC ((X3_ofMissing_f ((X3_ofMissing_f vR aR (X0_hasBag_f vC aC p1) p1).2) aR (X0_hasJar_f vC aC p2) p2).2) aR p1 p2).2) aR] H := hP
      have hD : kd A [X0W g oC rC vC aC, X3W g oR rR ((X3_ofOtherSpice_f vC aC ((X3_ofMissing_f ((X3_ofMissing_f vR aR (X0_hasBag_f vC aC p1) p1).2) aR (X0_hasJar_f vC aC p2) p2).2) aR p1 p2).2) aR] := hD
      refine lv_if_ne (tgt := 101) hx hb dX3_ofEmptying_71 (by decide) (fun c9 => ?_) (fun c9 => ?_)
      · have c9 := b2i_ne0 c9
        refine lv_iconst (v := 1) hx hb dX3_ofEmptying_101 (by decide) ?_
        refine lv_goto (tgt := 106) hx hb dX3_ofEmptying_102 (by decide) ?_
        have hF := (show X3_ofEmptying_f vC aC vR aR p1 p2 = (true, (X3_ofOtherSpice_f vC aC ((X3_ofMissing_f ((X3_ofMissing_f vR aR (X0_hasBag_f vC aC p1) p1).2) aR (X0_hasJar_f vC aC p2) p2).2) aR p1 p2).2) from (if_neg c2).trans ((if_neg c4).trans ((if_neg c5).trans ((if_pos c9).trans (rfl)))))
        exact kM_zret (x := b2i true) C (b2i_nar _) hP hD hS ⟨by rw [hF], by rw [hF]⟩ dX3_ofEmptying_106
      have c9 := b2i_eq0 c9
      refine lv_aload_n hx hb dX3_ofEmptying_74 rfl (lv_at hl 1 rfl) ?_
      refine lv_aload_n hx hb dX3_ofEmptying_75 rfl (lv_at hl 2 rfl) ?_
      refine kg_getN C kFX0 (k := 11) (List.mem_of_getElem? (i := 21) rfl) hP (i := 0) (q := 0) rfl rfl (by decide) rfl dX3_ofEmptying_76 ?_
      refine lv_iload_n hx hb dX3_ofEmptying_79 rfl (lv_at hl 3 rfl) ?_
      refine kg_iald C hP (i := 0) (q := 6) rfl rfl (by first | assumption) dX3_ofEmptying_80 ?_
      refine lv_iload hx hb dX3_ofEmptying_81 (lv_at hl 0 rfl) ?_
      refine lv_icmp_le (tgt := 90) hx hb dX3_ofEmptying_83 (by decide) (fun c10 => ?_) (fun c10 => ?_)
      · refine lv_iconst (v := 0) hx hb dX3_ofEmptying_90 (by decide) ?_
        refine lv_bipush (v := 7) hx hb dX3_ofEmptying_91 (by decide) ?_
        refine lv_iload hx hb dX3_ofEmptying_93 (lv_at hl 0 rfl) ?_
        refine kM_V (As := [.int 0, .int 7, .int (900 - ((aC 6) p2.toNatClampNeg))]) (rest := []) (wr := [X0W g oC rC vC aC]) C (X3_keepIf_c l g oR rR ((X3_ofOtherSpice_f vC aC ((X3_ofMissing_f ((X3_ofMissing_f vR aR (X0_hasBag_f vC aC p1) p1).2) aR (X0_hasJar_f vC aC p2) p2).2) aR p1 p2).2) aR false 7 (900 - ((aC 6) p2.toNatClampNeg))) (cwV 3 hts (k_gV kw370 ca_X3_keepIf) rfl rfl rfl ⟨rfl, pnX3_keepIf⟩ ⟨Nat.le_of_ble_eq_true rfl, Nat.le_of_ble_eq_true rfl⟩) hE hS hA hP hD [1] [0] rfl rfl ⟨rfl, rfl, by decide⟩ (k_recv C kFX3 hP (i := 1) (q := 0) rfl rfl) rfl hl.1 rfl rfl dX3_ofEmptying_95 ⟨Nat.le_of_ble_eq_true rfl, Nat.le_of_ble_eq_true rfl⟩ (fun r11 u11 H locs hp11 hP hD hS => ?_)
        obtain ⟨er11, eu11⟩ := hp11
        have er11 : r11 = 0 := er11
        have eu11 : u11 = [X3W g oR rR ((X3_ofOtherSpice_f vC aC ((X3_ofMissing_f ((X3_ofMissing_f vR aR (X0_hasBag_f vC aC p1) p1).2) aR (X0_hasJar_f vC aC p2) p2).2) aR p1 p2).2) aR] := eu11
        subst er11 eu11
        have hP : kp g [X0W g oC rC vC aC, X3W g oR rR ((X3_ofOtherSpice_f vC aC ((X3_ofMissing_f ((X3_ofMissing_f vR aR (X0_hasBag_f vC aC p1) p1).2) aR (X0_hasJar_f vC aC p2) p2).2) aR p1 p2).2) aR] H := hP
        have hD : kd A [X0W g oC rC vC aC, X3W g oR rR ((X3_ofOtherSpice_f vC aC ((X3_ofMissing_f ((X3_ofMissing_f vR aR (X0_hasBag_f vC aC p1) p1).2) aR (X0_hasJar_f vC aC p2) p2).2) aR p1 p2).2) aR] := hD
        refine lv_if_eq (tgt := 105) hx hb dX3_ofEmptying_98 (by decide) (fun _ => ?_) (fun z => absurd (show ((0 : Int32) = 0) by decide) z)
        refine lv_iconst (v := 0) hx hb dX3_ofEmptying_105 (by decide) ?_
        have hF := (show X3_ofEmptying_f vC aC vR aR p1 p2 = (false, (X3_ofOtherSpice_f vC aC ((X3_ofMissing_f ((X3_ofMissing_f vR aR (X0_hasBag_f vC aC p1) p1).2) aR (X0_hasJar_f vC aC p2) p2).2) aR p1 p2).2) from (if_neg c2).trans ((if_neg c4).trans ((if_neg c5).trans ((if_neg c9).trans ((if_pos c10).trans (rfl))))))
        exact kM_zret (x := b2i false) C (b2i_nar _) hP hD hS ⟨by rw [hF], by rw [hF]⟩ dX3_ofEmptying_106
      refine lv_iconst (v := 1) hx hb dX3_ofEmptying_86 (by decide) ?_
      refine lv_goto (tgt := 91) hx hb dX3_ofEmptying_87 (by decide) ?_
      refine lv_bipush (v := 7) hx hb dX3_ofEmptying_91 (by decide) ?_
      refine lv_iload hx hb dX3_ofEmptying_93 (lv_at hl 0 rfl) ?_
      refine kM_V (As := [.int 1, .int 7, .int (900 - ((aC 6) p2.toNatClampNeg))]) (rest := []) (wr := [X0W g oC rC vC aC]) C (X3_keepIf_c l g oR rR ((X3_ofOtherSpice_f vC aC ((X3_ofMissing_f ((X3_ofMissing_f vR aR (X0_hasBag_f vC aC p1) p1).2) aR (X0_hasJar_f vC aC p2) p2).2) aR p1 p2).2) aR true 7 (900 - ((aC 6) p2.toNatClampNeg))) (cwV 3 hts (k_gV kw370 ca_X3_keepIf) rfl rfl rfl ⟨rfl, pnX3_keepIf⟩ ⟨Nat.le_of_ble_eq_true rfl, Nat.le_of_ble_eq_true rfl⟩) hE hS hA hP hD [1] [0] rfl rfl ⟨rfl, rfl, by decide⟩ (k_recv C kFX3 hP (i := 1) (q := 0) rfl rfl) rfl hl.1 rfl rfl dX3_ofEmptying_95 ⟨Nat.le_of_ble_eq_true rfl, Nat.le_of_ble_eq_true rfl⟩ (fun r13 u13 H locs hp13 hP hD hS => ?_)
      obtain ⟨er13, eu13⟩ := hp13
      have er13 : r13 = 1 := er13
      have eu13 : u13 = [X3W g oR rR (upd (upd (upd ((X3_ofOtherSpice_f vC aC ((X3_ofMissing_f ((X3_ofMissing_f vR aR (X0_hasBag_f vC aC p1) p1).2) aR (X0_hasJar_f vC aC p2) p2).2) aR p1 p2).2) 0 7) 1 (900 - ((aC 6) p2.toNatClampNeg))) 2 0) aR] := eu13
      subst er13 eu13
      have hP : kp g [X0W g oC rC vC aC, X3W g oR rR (upd (upd (upd ((X3_ofOtherSpice_f vC aC ((X3_ofMissing_f ((X3_ofMissing_f vR aR (X0_hasBag_f vC aC p1) p1).2) aR (X0_hasJar_f vC aC p2) p2).2) aR p1 p2).2) 0 7) 1 (900 - ((aC 6) p2.toNatClampNeg))) 2 0) aR] H := hP
      have hD : kd A [X0W g oC rC vC aC, X3W g oR rR (upd (upd (upd ((X3_ofOtherSpice_f vC aC ((X3_ofMissing_f ((X3_ofMissing_f vR aR (X0_hasBag_f vC aC p1) p1).2) aR (X0_hasJar_f vC aC p2) p2).2) aR p1 p2).2) 0 7) 1 (900 - ((aC 6) p2.toNatClampNeg))) 2 0) aR] := hD
      refine lv_if_eq (tgt := 105) hx hb dX3_ofEmptying_98 (by decide) (fun z => absurd z (show ¬ ((1 : Int32) = 0) by decide)) (fun _ => ?_)
      refine lv_iconst (v := 1) hx hb dX3_ofEmptying_101 (by decide) ?_
      refine lv_goto (tgt := 106) hx hb dX3_ofEmptying_102 (by decide) ?_
      have hF := (show X3_ofEmptying_f vC aC vR aR p1 p2 = (true, upd (upd (upd ((X3_ofOtherSpice_f vC aC ((X3_ofMissing_f ((X3_ofMissing_f vR aR (X0_hasBag_f vC aC p1) p1).2) aR (X0_hasJar_f vC aC p2) p2).2) aR p1 p2).2) 0 7) 1 (900 - ((aC 6) p2.toNatClampNeg))) 2 0) from (if_neg c2).trans ((if_neg c4).trans ((if_neg c5).trans ((if_neg c9).trans ((if_neg c10).trans (rfl))))))
      exact kM_zret (x := b2i true) C (b2i_nar _) hP hD hS ⟨by rw [hF], by rw [hF]⟩ dX3_ofEmptying_106
    refine lv_iconst (v := 1) hx hb dX3_ofEmptying_50 (by decide) ?_
    refine lv_goto (tgt := 55) hx hb dX3_ofEmptying_51 (by decide) ?_
    refine lv_bipush (v := 6) hx hb dX3_ofEmptying_55 (by decide) ?_
    refine lv_iload_n hx hb dX3_ofEmptying_57 rfl (lv_at hl 3 rfl) ?_
    refine kM_V (As := [.int 1, .int 6, .int p1]) (rest := []) (wr := [X0W g oC rC vC aC]) C (X3_keepIf_c l g oR rR ((X3_ofMissing_f ((X3_ofMissing_f vR aR (X0_hasBag_f vC aC p1) p1).2) aR (X0_hasJar_f vC aC p2) p2).2) aR true 6 p1) (cwV 3 hts (k_gV kw370 ca_X3_keepIf) rfl rfl rfl ⟨rfl, pnX3_keepIf⟩ ⟨Nat.le_of_ble_eq_true rfl, Nat.le_of_ble_eq_true rfl⟩) hE hS hA hP hD [1] [0] rfl rfl ⟨rfl, rfl, by decide⟩ (k_recv C kFX3 hP (i := 1) (q := 0) rfl rfl) rfl hl.1 rfl rfl dX3_ofEmptying_58 ⟨Nat.le_of_ble_eq_true rfl, Nat.le_of_ble_eq_true rfl⟩ (fun r15 u15 H locs hp15 hP hD hS => ?_)
    obtain ⟨er15, eu15⟩ := hp15
    have er15 : r15 = 1 := er15
    have eu15 : u15 = [X3W g oR rR (upd (upd (upd ((X3_ofMissing_f ((X3_ofMissing_f vR aR (X0_hasBag_f vC aC p1) p1).2) aR (X0_hasJar_f vC aC p2) p2).2) 0 6) 1 p1) 2 0) aR] := eu15
    subst er15 eu15
    have hP : kp g [X0W g oC rC vC aC, X3W g oR rR (upd (upd (upd ((X3_ofMissing_f ((X3_ofMissing_f vR aR (X0_hasBag_f vC aC p1) p1).2) aR (X0_hasJar_f vC aC p2) p2).2) 0 6) 1 p1) 2 0) aR] H := hP
    have hD : kd A [X0W g oC rC vC aC, X3W g oR rR (upd (upd (upd ((X3_ofMissing_f ((X3_ofMissing_f vR aR (X0_hasBag_f vC aC p1) p1).2) aR (X0_hasJar_f vC aC p2) p2).2) 0 6) 1 p1) 2 0) aR] := hD
    refine lv_if_ne (tgt := 101) hx hb dX3_ofEmptying_61 (by decide) (fun _ => ?_) (fun z => absurd z (show ¬ ((1 : Int32) = 0) by decide))
    refine lv_iconst (v := 1) hx hb dX3_ofEmptying_101 (by decide) ?_
    refine lv_goto (tgt := 106) hx hb dX3_ofEmptying_102 (by decide) ?_
    have hF := (show X3_ofEmptying_f vC aC vR aR p1 p2 = (true, upd (upd (upd ((X3_ofMissing_f ((X3_ofMissing_f vR aR (X0_hasBag_f vC aC p1) p1).2) aR (X0_hasJar_f vC aC p2) p2).2) 0 6) 1 p1) 2 0) from (if_neg c2).trans ((if_neg c4).trans ((if_pos c5).trans (rfl))))
    exact kM_zret (x := b2i true) C (b2i_nar _) hP hD hS ⟨by rw [hF], by rw [hF]⟩ dX3_ofEmptying_106
  have c4 := b2i_ne0 c4
  refine lv_iconst (v := 1) hx hb dX3_ofEmptying_26 (by decide) ?_
  have hF := (show X3_ofEmptying_f vC aC vR aR p1 p2 = (true, (X3_ofMissing_f ((X3_ofMissing_f vR aR (X0_hasBag_f vC aC p1) p1).2) aR (X0_hasJar_f vC aC p2) p2).2) from (if_neg c2).trans ((if_pos c4).trans (rfl)))
  exact kM_zret (x := b2i true) C (b2i_nar _) hP hD hS ⟨by rw [hF], by rw [hF]⟩ dX3_ofEmptying_27

theorem pnX0_oathDaysLeft : yX0_oathDaysLeft.cls ≠ "java/lang/invoke/MethodHandle" ∧ yX0_oathDaysLeft.cls ≠ "java/lang/invoke/VarHandle" ∧ (parseMethodDescriptor yX0_oathDaysLeft.desc).map (fun d => d.parameters.length) = some 0 := by decide +kernel
theorem ca_X0_oathDaysLeft : kCal yX0_oathDaysLeft (Cond.code yX0_oathDaysLeft cX0_oathDaysLeft 1 (some .int)) := ⟨k_w 3 108 rfl rfl, k_w 1 15 rfl rfl, k_w 2 2 rfl rfl, k_w 3 109 rfl rfl⟩

abbrev wX3_ofOathHere : List Cond := Cond.code yX3_ofOathHere cX3_ofOathHere 2 (some .boolean) :: kW
def X3_ofOathHere_f (vC : Nat → Int32) (aC : Nat → Nat → Int32) (vR : Nat → Int32) (aR : Nat → Nat → Int32) : Bool × (Nat → Int32) :=
  ((X3_keepIf_f vR aR (X0_isOathInForce_f vC aC (vC 1)) 8 (X0_oathDaysLeft_f vC aC)).1, (X3_keepIf_f vR aR (X0_isOathInForce_f vC aC (vC 1)) 8 (X0_oathDaysLeft_f vC aC)).2)
set_option maxHeartbeats 4000000 in
set_option maxRecDepth 100000 in
theorem X3_ofOathHere_c (l : Launch) (g : kG) (oC : Nat) (rC : Nat → Nat) (vC : Nat → Int32) (aC : Nat → Nat → Int32) (oR : Nat) (rR : Nat → Nat) (vR : Nat → Int32) (aR : Nat → Nat → Int32) (hM : vp_in (vC 1) 4) : kM l yX3_ofOathHere wX3_ofOathHere 1 23 0 0 g [.ref oR, .ref oC] [X0W g oC rC vC aC, X3W g oR rR vR aR] (fun x u => x = b2i (X3_ofOathHere_f vC aC vR aR).1 ∧ u = [X0W g oC rC vC aC, X3W g oR rR ((X3_ofOathHere_f vC aC vR aR).2) aR]) := by
  refine kM_of (cc := cX3_ofOathHere) (nL := 2) (ret := (some .boolean)) (lv := [(0, .ref oR), (1, .ref oC)]) (by decide) rfl (Nat.le_of_ble_eq_true rfl) rfl ?_
  intro p e s m args below meth c ls A C hP hD hE hA hS hl
  have C : kC p c cX3_ofOathHere s m args meth RX3 g 2 (some .boolean) := C
  have hx := C.1.1
  have hb := C.1.2.1
  have hts := C.1.2.2.2.2
  refine lv_aload_n hx hb dX3_ofOathHere_0 rfl (lv_at hl 0 rfl) ?_
  refine lv_aload_n hx hb dX3_ofOathHere_1 rfl (lv_at hl 1 rfl) ?_
  refine lv_aload_n hx hb dX3_ofOathHere_2 rfl (lv_at hl 1 rfl) ?_
  refine kg_getN C kFX0 (k := 1) (List.mem_of_getElem? (i := 2) rfl) hP (i := 0) (q := 0) rfl rfl (by decide) rfl dX3_ofOathHere_3 ?_
  refine kR_VN (As := [.int (vC 1)]) (rest := [.ref oR]) C (X0_isOathInForce_c l g oC rC vC aC (vC 1) (by first | assumption)) ⟨va_cnB (host := "SpiceScale") 1 hts (k_gI ca_X0_isOathInForce.2.2.2) rfl rfl rfl (C.2.1.2 _ (List.mem_of_getElem? (i := 48) rfl)) (hts _ ca_X0_isOathInForce.2.2.1) pnX0_isOathInForce ⟨Nat.le_of_ble_eq_true rfl, Nat.le_of_ble_eq_true rfl⟩, hts _ ca_X0_isOathInForce.1, hts _ ca_X0_isOathInForce.2.1⟩ hE hS (hP.pick [0] rfl) (k_recv C kFX0 hP (i := 0) (q := 0) rfl rfl) rfl hl.1 rfl rfl dX3_ofOathHere_6 ⟨Nat.le_of_ble_eq_true rfl, Nat.le_of_ble_eq_true rfl⟩ ?_
  refine lv_bipush (v := 8) hx hb dX3_ofOathHere_9 (by decide) ?_
  refine lv_aload_n hx hb dX3_ofOathHere_11 rfl (lv_at hl 1 rfl) ?_
  refine kR_VN (As := []) (rest := [.int 8, .int (b2i (X0_isOathInForce_f vC aC (vC 1))), .ref oR]) C (X0_oathDaysLeft_c l g oC rC vC aC (by first | assumption)) ⟨va_cnB (host := "SpiceScale") 0 hts (k_gI ca_X0_oathDaysLeft.2.2.2) rfl rfl rfl (C.2.1.2 _ (List.mem_of_getElem? (i := 49) rfl)) (hts _ ca_X0_oathDaysLeft.2.2.1) pnX0_oathDaysLeft ⟨Nat.le_of_ble_eq_true rfl, Nat.le_of_ble_eq_true rfl⟩, hts _ ca_X0_oathDaysLeft.1, hts _ ca_X0_oathDaysLeft.2.1⟩ hE hS (hP.pick [0] rfl) (k_recv C kFX0 hP (i := 0) (q := 0) rfl rfl) rfl hl.1 rfl rfl dX3_ofOathHere_12 ⟨Nat.le_of_ble_eq_true rfl, Nat.le_of_ble_eq_true rfl⟩ ?_
  refine kM_V (As := [.int (b2i (X0_isOathInForce_f vC aC (vC 1))), .int 8, .int (X0_oathDaysLeft_f vC aC)]) (rest := []) (wr := [X0W g oC rC vC aC]) C (X3_keepIf_c l g oR rR vR aR (X0_isOathInForce_f vC aC (vC 1)) 8 (X0_oathDaysLeft_f vC aC)) (cwV 3 hts (k_gV kw370 ca_X3_keepIf) rfl rfl rfl ⟨rfl, pnX3_keepIf⟩ ⟨Nat.le_of_ble_eq_true rfl, Nat.le_of_ble_eq_true rfl⟩) hE hS hA hP hD [1] [0] rfl rfl ⟨rfl, rfl, by decide⟩ (k_recv C kFX3 hP (i := 1) (q := 0) rfl rfl) rfl hl.1 rfl rfl dX3_ofOathHere_15 ⟨Nat.le_of_ble_eq_true rfl, Nat.le_of_ble_eq_true rfl⟩ (fun r1 u1 H locs hp1 hP hD hS => ?_)
  obtain ⟨rfl, rfl⟩ := hp1
  have hP : kp g [X0W g oC rC vC aC, X3W g oR rR ((X3_keepIf_f vR aR (X0_isOathInForce_f vC aC (vC 1)) 8 (X0_oathDaysLeft_f vC aC)).2) aR] H := hP
  have hD : kd A [X0W g oC rC vC aC, X3W g oR rR ((X3_keepIf_f vR aR (X0_isOathInForce_f vC aC (vC 1)) 8 (X0_oathDaysLeft_f vC aC)).2) aR] := hD
  have hF := (show X3_ofOathHere_f vC aC vR aR = ((X3_keepIf_f vR aR (X0_isOathInForce_f vC aC (vC 1)) 8 (X0_oathDaysLeft_f vC aC)).1, (X3_keepIf_f vR aR (X0_isOathInForce_f vC aC (vC 1)) 8 (X0_oathDaysLeft_f vC aC)).2) from rfl)
  exact kM_zret (x := b2i ((X3_keepIf_f vR aR (X0_isOathInForce_f vC aC (vC 1)) 8 (X0_oathDaysLeft_f vC aC)).1)) C (b2i_nar _) hP hD hS ⟨by rw [hF], by rw [hF]⟩ dX3_ofOathHere_18

theorem pnX3_ofOathHere : yX3_ofOathHere.cls ≠ "java/lang/invoke/MethodHandle" ∧ yX3_ofOathHere.cls ≠ "java/lang/invoke/VarHandle" ∧ (parseMethodDescriptor yX3_ofOathHere.desc).map (fun d => d.parameters.length) = some 1 := by decide +kernel
theorem ca_X3_ofOathHere : kCal yX3_ofOathHere (Cond.code yX3_ofOathHere cX3_ofOathHere 2 (some .boolean)) := ⟨k_w 3 100 rfl rfl, k_w 1 13 rfl rfl, k_w 2 4 rfl rfl, k_w 3 101 rfl rfl⟩

abbrev wX3_ofThumb : List Cond := Cond.code yX3_ofThumb cX3_ofThumb 3 (some .boolean) :: kW
def X3_ofThumb_f (vC : Nat → Int32) (aC : Nat → Nat → Int32) (vR : Nat → Int32) (aR : Nat → Nat → Int32) (p1 : Int32) : Bool × (Nat → Int32) :=
  if p1 < 0 then (true, upd (upd (upd vR 0 1) 1 0) 2 0)
  else if p1 ≤ 30 then (if (X3_ofOathHere_f vC aC vR aR).1 = true then (true, (X3_ofOathHere_f vC aC vR aR).2)
    else (false, (X3_ofOathHere_f vC aC vR aR).2))
  else (true, upd (upd (upd vR 0 1) 1 0) 2 0)
set_option maxHeartbeats 4000000 in
set_option maxRecDepth 100000 in
theorem X3_ofThumb_c (l : Launch) (g : kG) (oC : Nat) (rC : Nat → Nat) (vC : Nat → Int32) (aC : Nat → Nat → Int32) (oR : Nat) (rR : Nat → Nat) (vR : Nat → Int32) (aR : Nat → Nat → Int32) (p1 : Int32) (hM : vp_in (vC 1) 4) : kM l yX3_ofThumb wX3_ofThumb 2 44 0 0 g [.ref oR, .ref oC, .int p1] [X0W g oC rC vC aC, X3W g oR rR vR aR] (fun x u => x = b2i (X3_ofThumb_f vC aC vR aR p1).1 ∧ u = [X0W g oC rC vC aC, X3W g oR rR ((X3_ofThumb_f vC aC vR aR p1).2) aR]) := by
  refine kM_of (cc := cX3_ofThumb) (nL := 3) (ret := (some .boolean)) (lv := [(0, .ref oR), (1, .ref oC), (2, .int p1)]) (by decide) rfl (Nat.le_of_ble_eq_true rfl) rfl ?_
  intro p e s m args below meth c ls A C hP hD hE hA hS hl
  have C : kC p c cX3_ofThumb s m args meth RX3 g 3 (some .boolean) := C
  have hx := C.1.1
  have hb := C.1.2.1
  have hts := C.1.2.2.2.2
  refine lv_aload_n hx hb dX3_ofThumb_0 rfl (lv_at hl 0 rfl) ?_
  refine lv_iload_n hx hb dX3_ofThumb_1 rfl (lv_at hl 2 rfl) ?_
  refine lv_if_lt (tgt := 11) hx hb dX3_ofThumb_2 (by decide) (fun c1 => ?_) (fun c1 => ?_)
  · refine lv_iconst (v := 1) hx hb dX3_ofThumb_11 (by decide) ?_
    refine lv_goto (tgt := 16) hx hb dX3_ofThumb_12 (by decide) ?_
    refine lv_iconst (v := 1) hx hb dX3_ofThumb_16 (by decide) ?_
    refine lv_iconst (v := 0) hx hb dX3_ofThumb_17 (by decide) ?_
    refine kM_V (As := [.int 1, .int 1, .int 0]) (rest := []) (wr := [X0W g oC rC vC aC]) C (X3_keepIf_c l g oR rR vR aR true 1 0) (cwV 3 hts (k_gV kw370 ca_X3_keepIf) rfl rfl rfl ⟨rfl, pnX3_keepIf⟩ ⟨Nat.le_of_ble_eq_true rfl, Nat.le_of_ble_eq_true rfl⟩) hE hS hA hP hD [1] [0] rfl rfl ⟨rfl, rfl, by decide⟩ (k_recv C kFX3 hP (i := 1) (q := 0) rfl rfl) rfl hl.1 rfl rfl dX3_ofThumb_18 ⟨Nat.le_of_ble_eq_true rfl, Nat.le_of_ble_eq_true rfl⟩ (fun r2 u2 H locs hp2 hP hD hS => ?_)
    obtain ⟨er2, eu2⟩ := hp2
    have er2 : r2 = 1 := er2
    have eu2 : u2 = [X3W g oR rR (upd (upd (upd vR 0 1) 1 0) 2 0) aR] := eu2
    subst er2 eu2
    have hP : kp g [X0W g oC rC vC aC, X3W g oR rR (upd (upd (upd vR 0 1) 1 0) 2 0) aR] H := hP
    have hD : kd A [X0W g oC rC vC aC, X3W g oR rR (upd (upd (upd vR 0 1) 1 0) 2 0) aR] := hD
    refine lv_if_ne (tgt := 32) hx hb dX3_ofThumb_21 (by decide) (fun _ => ?_) (fun z => absurd z (show ¬ ((1 : Int32) = 0) by decide))
    refine lv_iconst (v := 1) hx hb dX3_ofThumb_32 (by decide) ?_
    refine lv_goto (tgt := 37) hx hb dX3_ofThumb_33 (by decide) ?_
    have hF := (show X3_ofThumb_f vC aC vR aR p1 = (true, upd (upd (upd vR 0 1) 1 0) 2 0) from (if_pos c1).trans (rfl))
    exact kM_zret (x := b2i true) C (b2i_nar _) hP hD hS ⟨by rw [hF], by rw [hF]⟩ dX3_ofThumb_37
  refine lv_iload_n hx hb dX3_ofThumb_5 rfl (lv_at hl 2 rfl) ?_
  refine lv_bipush (v := 30) hx hb dX3_ofThumb_6 (by decide) ?_
  refine lv_icmp_le (tgt := 15) hx hb dX3_ofThumb_8 (by decide) (fun c4 => ?_) (fun c4 => ?_)
  · refine lv_iconst (v := 0) hx hb dX3_ofThumb_15 (by decide) ?_
    refine lv_iconst (v := 1) hx hb dX3_ofThumb_16 (by decide) ?_
    refine lv_iconst (v := 0) hx hb dX3_ofThumb_17 (by decide) ?_
    refine kM_V (As := [.int 0, .int 1, .int 0]) (rest := []) (wr := [X0W g oC rC vC aC]) C (X3_keepIf_c l g oR rR vR aR false 1 0) (cwV 3 hts (k_gV kw370 ca_X3_keepIf) rfl rfl rfl ⟨rfl, pnX3_keepIf⟩ ⟨Nat.le_of_ble_eq_true rfl, Nat.le_of_ble_eq_true rfl⟩) hE hS hA hP hD [1] [0] rfl rfl ⟨rfl, rfl, by decide⟩ (k_recv C kFX3 hP (i := 1) (q := 0) rfl rfl) rfl hl.1 rfl rfl dX3_ofThumb_18 ⟨Nat.le_of_ble_eq_true rfl, Nat.le_of_ble_eq_true rfl⟩ (fun r5 u5 H locs hp5 hP hD hS => ?_)
    obtain ⟨er5, eu5⟩ := hp5
    have er5 : r5 = 0 := er5
    have eu5 : u5 = [X3W g oR rR vR aR] := eu5
    subst er5 eu5
    have hP : kp g [X0W g oC rC vC aC, X3W g oR rR vR aR] H := hP
    have hD : kd A [X0W g oC rC vC aC, X3W g oR rR vR aR] := hD
    refine lv_if_ne (tgt := 32) hx hb dX3_ofThumb_21 (by decide) (fun z => absurd (show ((0 : Int32) = 0) by decide) z) (fun _ => ?_)
    refine lv_aload_n hx hb dX3_ofThumb_24 rfl (lv_at hl 0 rfl) ?_
    refine lv_aload_n hx hb dX3_ofThumb_25 rfl (lv_at hl 1 rfl) ?_
    refine kM_V (As := [.ref oC]) (rest := []) (wr := []) C (X3_ofOathHere_c l g oC rC vC aC oR rR vR aR (by first | assumption)) (cwV 1 hts (k_gV kw406 ca_X3_ofOathHere) rfl rfl rfl ⟨rfl, pnX3_ofOathHere⟩ ⟨Nat.le_of_ble_eq_true rfl, Nat.le_of_ble_eq_true rfl⟩) hE hS hA hP hD [0, 1] [] rfl rfl ⟨rfl, rfl, by decide⟩ (k_recv C kFX3 hP (i := 1) (q := 0) rfl rfl) rfl hl.1 rfl rfl dX3_ofThumb_26 ⟨Nat.le_of_ble_eq_true rfl, Nat.le_of_ble_eq_true rfl⟩ (fun r7 u7 H locs hp7 hP hD hS => ?_)
    obtain ⟨rfl, rfl⟩ := hp7
    have hP : kp g [X0W g oC rC vC aC, X3W g oR rR ((X3_ofOathHere_f vC aC vR aR).2) aR] H := hP
    have hD : kd A [X0W g oC rC vC aC, X3W g oR rR ((X3_ofOathHere_f vC aC vR aR).2) aR] := hD
    refine lv_if_eq (tgt := 36) hx hb dX3_ofThumb_29 (by decide) (fun c8 => ?_) (fun c8 => ?_)
    · have c8 := b2i_eq0 c8
      refine lv_iconst (v := 0) hx hb dX3_ofThumb_36 (by decide) ?_
      have hF := (show X3_ofThumb_f vC aC vR aR p1 = (false, (X3_ofOathHere_f vC aC vR aR).2) from (if_neg c1).trans ((if_pos c4).trans ((if_neg c8).trans (rfl))))
      exact kM_zret (x := b2i false) C (b2i_nar _) hP hD hS ⟨by rw [hF], by rw [hF]⟩ dX3_ofThumb_37
    have c8 := b2i_ne0 c8
    refine lv_iconst (v := 1) hx hb dX3_ofThumb_32 (by decide) ?_
    refine lv_goto (tgt := 37) hx hb dX3_ofThumb_33 (by decide) ?_
    have hF := (show X3_ofThumb_f vC aC vR aR p1 = (true, (X3_ofOathHere_f vC aC vR aR).2) from (if_neg c1).trans ((if_pos c4).trans ((if_pos c8).trans (rfl))))
    exact kM_zret (x := b2i true) C (b2i_nar _) hP hD hS ⟨by rw [hF], by rw [hF]⟩ dX3_ofThumb_37
  refine lv_iconst (v := 1) hx hb dX3_ofThumb_11 (by decide) ?_
  refine lv_goto (tgt := 16) hx hb dX3_ofThumb_12 (by decide) ?_
  refine lv_iconst (v := 1) hx hb dX3_ofThumb_16 (by decide) ?_
  refine lv_iconst (v := 0) hx hb dX3_ofThumb_17 (by decide) ?_
  refine kM_V (As := [.int 1, .int 1, .int 0]) (rest := []) (wr := [X0W g oC rC vC aC]) C (X3_keepIf_c l g oR rR vR aR true 1 0) (cwV 3 hts (k_gV kw370 ca_X3_keepIf) rfl rfl rfl ⟨rfl, pnX3_keepIf⟩ ⟨Nat.le_of_ble_eq_true rfl, Nat.le_of_ble_eq_true rfl⟩) hE hS hA hP hD [1] [0] rfl rfl ⟨rfl, rfl, by decide⟩ (k_recv C kFX3 hP (i := 1) (q := 0) rfl rfl) rfl hl.1 rfl rfl dX3_ofThumb_18 ⟨Nat.le_of_ble_eq_true rfl, Nat.le_of_ble_eq_true rfl⟩ (fun r9 u9 H locs hp9 hP hD hS => ?_)
  obtain ⟨er9, eu9⟩ := hp9
  have er9 : r9 = 1 := er9
  have eu9 : u9 = [X3W g oR rR (upd (upd (upd vR 0 1) 1 0) 2 0) aR] := eu9
  subst er9 eu9
  have hP : kp g [X0W g oC rC vC aC, X3W g oR rR (upd (upd (upd vR 0 1) 1 0) 2 0) aR] H := hP
  have hD : kd A [X0W g oC rC vC aC, X3W g oR rR (upd (upd (upd vR 0 1) 1 0) 2 0) aR] := hD
  refine lv_if_ne (tgt := 32) hx hb dX3_ofThumb_21 (by decide) (fun _ => ?_) (fun z => absurd z (show ¬ ((1 : Int32) = 0) by decide))
  refine lv_iconst (v := 1) hx hb dX3_ofThumb_32 (by decide) ?_
  refine lv_goto (tgt := 37) hx hb dX3_ofThumb_33 (by decide) ?_
  have hF := (show X3_ofThumb_f vC aC vR aR p1 = (true, upd (upd (upd vR 0 1) 1 0) 2 0) from (if_neg c1).trans ((if_neg c4).trans (rfl)))
  exact kM_zret (x := b2i true) C (b2i_nar _) hP hD hS ⟨by rw [hF], by rw [hF]⟩ dX3_ofThumb_37

abbrev wX3_ofSelling : List Cond := Cond.code yX3_ofSelling cX3_ofSelling 5 (some .boolean) :: kW
def X3_ofSelling_f (vC : Nat → Int32) (aC : Nat → Nat → Int32) (vR : Nat → Int32) (aR : Nat → Nat → Int32) (p1 : Int32) : Bool × (Nat → Int32) :=
  if (X3_ofMissing_f vR aR (X0_hasBag_f vC aC p1) p1).1 = true then (true, (X3_ofMissing_f vR aR (X0_hasBag_f vC aC p1) p1).2)
  else if ((aC 11) p1.toNatClampNeg) = 0 then (true, upd (upd (upd ((X3_ofMissing_f vR aR (X0_hasBag_f vC aC p1) p1).2) 0 6) 1 p1) 2 0)
  else if (vC 3) ≤ (k_tab 1 (vC 1).toNatClampNeg) then (if 0 < (X0_netOf_f vC aC p1) then (false, (X3_ofMissing_f vR aR (X0_hasBag_f vC aC p1) p1).2)
    else (true, upd (upd (upd ((X3_ofMissing_f vR aR (X0_hasBag_f vC aC p1) p1).2) 0 11) 1 ((X0_netOf_f vC aC p1) + ((aC 8) p1.toNatClampNeg))) 2 0))
  else (true, upd (upd (upd ((X3_ofMissing_f vR aR (X0_hasBag_f vC aC p1) p1).2) 0 10) 1 (k_tab 1 (vC 1).toNatClampNeg)) 2 0)
set_option maxHeartbeats 4000000 in
set_option maxRecDepth 100000 in
theorem X3_ofSelling_c (l : Launch) (g : kG) (oC : Nat) (rC : Nat → Nat) (vC : Nat → Int32) (aC : Nat → Nat → Int32) (oR : Nat) (rR : Nat → Nat) (vR : Nat → Int32) (aR : Nat → Nat → Int32) (p1 : Int32) (nb : Nat) (nj : Nat) (hnb : nb ≤ 6) (hv7 : vC 7 = nI nb) (hnj : nj ≤ 6) (hv4 : vC 4 = nI nj) (hM : vp_in (vC 1) 4) : kM l yX3_ofSelling wX3_ofSelling 3 68 0 0 g [.ref oR, .ref oC, .int p1] [X0W g oC rC vC aC, X3W g oR rR vR aR] (fun x u => x = b2i (X3_ofSelling_f vC aC vR aR p1).1 ∧ u = [X0W g oC rC vC aC, X3W g oR rR ((X3_ofSelling_f vC aC vR aR p1).2) aR]) := by
  refine kM_of (cc := cX3_ofSelling) (nL := 5) (ret := (some .boolean)) (lv := [(0, .ref oR), (1, .ref oC), (2, .int p1)]) (by decide) rfl (Nat.le_of_ble_eq_true rfl) rfl ?_
  intro p e s m args below meth c ls A C hP hD hE hA hS hl
  have C : kC p c cX3_ofSelling s m args meth RX3 g 5 (some .boolean) := C
  have hx := C.1.1
  have hb := C.1.2.1
  have hts := C.1.2.2.2.2
  refine lv_aload_n hx hb dX3_ofSelling_0 rfl (lv_at hl 0 rfl) ?_
  refine lv_aload_n hx hb dX3_ofSelling_1 rfl (lv_at hl 1 rfl) ?_
  refine lv_iload_n hx hb dX3_ofSelling_2 rfl (lv_at hl 2 rfl) ?_
  refine kR_VN (As := [.int p1]) (rest := [.ref oR]) C (X0_hasBag_c l g oC rC vC aC p1) ⟨va_cnB (host := "SpiceScale") 1 hts (k_gI ca_X0_hasBag.2.2.2) rfl rfl rfl (C.2.1.2 _ (List.mem_of_getElem? (i := 46) rfl)) (hts _ ca_X0_hasBag.2.2.1) pnX0_hasBag ⟨Nat.le_of_ble_eq_true rfl, Nat.le_of_ble_eq_true rfl⟩, hts _ ca_X0_hasBag.1, hts _ ca_X0_hasBag.2.1⟩ hE hS (hP.pick [0] rfl) (k_recv C kFX0 hP (i := 0) (q := 0) rfl rfl) rfl hl.1 rfl rfl dX3_ofSelling_3 ⟨Nat.le_of_ble_eq_true rfl, Nat.le_of_ble_eq_true rfl⟩ ?_
  refine lv_iload_n hx hb dX3_ofSelling_6 rfl (lv_at hl 2 rfl) ?_
  refine kM_V (As := [.int (b2i (X0_hasBag_f vC aC p1)), .int p1]) (rest := []) (wr := [X0W g oC rC vC aC]) C (X3_ofMissing_c l g oR rR vR aR (X0_hasBag_f vC aC p1) p1) (cwV 2 hts (k_gV kw386 ca_X3_ofMissing) rfl rfl rfl ⟨rfl, pnX3_ofMissing⟩ ⟨Nat.le_of_ble_eq_true rfl, Nat.le_of_ble_eq_true rfl⟩) hE hS hA hP hD [1] [0] rfl rfl ⟨rfl, rfl, by decide⟩ (k_recv C kFX3 hP (i := 1) (q := 0) rfl rfl) rfl hl.1 rfl rfl dX3_ofSelling_7 ⟨Nat.le_of_ble_eq_true rfl, Nat.le_of_ble_eq_true rfl⟩ (fun r1 u1 H locs hp1 hP hD hS => ?_)
  obtain ⟨rfl, rfl⟩ := hp1
  have hP : kp g [X0W g oC rC vC aC, X3W g oR rR ((X3_ofMissing_f vR aR (X0_hasBag_f vC aC p1) p1).2) aR] H := hP
  have hD : kd A [X0W g oC rC vC aC, X3W g oR rR ((X3_ofMissing_f vR aR (X0_hasBag_f vC aC p1) p1).2) aR] := hD
  refine lv_if_eq (tgt := 15) hx hb dX3_ofSelling_10 (by decide) (fun c2 => ?_) (fun c2 => ?_)
  · have c2 := b2i_eq0 c2
    have z1 : vp_in p1 6 := k_hasBag (X3_miss c2) hv7 hnb
    refine kg_tabN C 1 (by decide) hE hS (List.mem_of_getElem? (i := 50) rfl) dX3_ofSelling_15 ?_
    refine lv_aload_n hx hb dX3_ofSelling_18 rfl (lv_at hl 1 rfl) ?_
    refine kg_getN C kFX0 (k := 1) (List.mem_of_getElem? (i := 2) rfl) hP (i := 0) (q := 0) rfl rfl (by decide) rfl dX3_ofSelling_19 ?_
    refine kg_tald C 1 (by decide) hE hS (by first | assumption) dX3_ofSelling_22 ?_
    refine lv_istore_n (lv' := [(3, .int (k_tab 1 (vC 1).toNatClampNeg)), (0, .ref oR), (1, .ref oC), (2, .int p1)]) hx hb dX3_ofSelling_23 rfl hl (by decide) rfl (fun ls hl => ?_)
    refine lv_aload_n hx hb dX3_ofSelling_24 rfl (lv_at hl 2 rfl) ?_
    refine lv_iload_n hx hb dX3_ofSelling_25 rfl (lv_at hl 3 rfl) ?_
    refine kR_VN (As := [.int p1]) (rest := []) C (X0_netOf_c l g oC rC vC aC p1 (by first | assumption)) ⟨va_cnB (host := "SpiceScale") 1 hts (k_gI ca_X0_netOf.2.2.2) rfl rfl rfl (C.2.1.2 _ (List.mem_of_getElem? (i := 51) rfl)) (hts _ ca_X0_netOf.2.2.1) pnX0_netOf ⟨Nat.le_of_ble_eq_true rfl, Nat.le_of_ble_eq_true rfl⟩, hts _ ca_X0_netOf.1, hts _ ca_X0_netOf.2.1⟩ hE hS (hP.pick [0] rfl) (k_recv C kFX0 hP (i := 0) (q := 0) rfl rfl) rfl hl.1 rfl rfl dX3_ofSelling_26 ⟨Nat.le_of_ble_eq_true rfl, Nat.le_of_ble_eq_true rfl⟩ ?_
    refine lv_istore (lv' := [(4, .int (X0_netOf_f vC aC p1)), (3, .int (k_tab 1 (vC 1).toNatClampNeg)), (0, .ref oR), (1, .ref oC), (2, .int p1)]) hx hb dX3_ofSelling_29 hl (by decide) rfl (fun ls hl => ?_)
    refine lv_aload_n hx hb dX3_ofSelling_31 rfl (lv_at hl 2 rfl) ?_
    refine lv_aload_n hx hb dX3_ofSelling_32 rfl (lv_at hl 3 rfl) ?_
    refine kg_getN C kFX0 (k := 11) (List.mem_of_getElem? (i := 21) rfl) hP (i := 0) (q := 0) rfl rfl (by decide) rfl dX3_ofSelling_33 ?_
    refine lv_iload_n hx hb dX3_ofSelling_36 rfl (lv_at hl 4 rfl) ?_
    refine kg_iald C hP (i := 0) (q := 6) rfl rfl (by first | assumption) dX3_ofSelling_37 ?_
    refine lv_if_ne (tgt := 45) hx hb dX3_ofSelling_38 (by decide) (fun c3 => ?_) (fun c3 => ?_)
    · refine lv_iconst (v := 0) hx hb dX3_ofSelling_45 (by decide) ?_
      refine lv_bipush (v := 6) hx hb dX3_ofSelling_46 (by decide) ?_
      refine lv_iload_n hx hb dX3_ofSelling_48 rfl (lv_at hl 4 rfl) ?_
      refine kM_V (As := [.int 0, .int 6, .int p1]) (rest := []) (wr := [X0W g oC rC vC aC]) C (X3_keepIf_c l g oR rR ((X3_ofMissing_f vR aR (X0_hasBag_f vC aC p1) p1).2) aR false 6 p1) (cwV 3 hts (k_gV kw370 ca_X3_keepIf) rfl rfl rfl ⟨rfl, pnX3_keepIf⟩ ⟨Nat.le_of_ble_eq_true rfl, Nat.le_of_ble_eq_true rfl⟩) hE hS hA hP hD [1] [0] rfl rfl ⟨rfl, rfl, by decide⟩ (k_recv C kFX3 hP (i := 1) (q := 0) rfl rfl) rfl hl.1 rfl rfl dX3_ofSelling_49 ⟨Nat.le_of_ble_eq_true rfl, Nat.le_of_ble_eq_true rfl⟩ (fun r4 u4 H locs hp4 hP hD hS => ?_)
      obtain ⟨er4, eu4⟩ := hp4
      have er4 : r4 = 0 := er4
      have eu4 : u4 = [X3W g oR rR ((X3_ofMissing_f vR aR (X0_hasBag_f vC aC p1) p1).2) aR] := eu4
      subst er4 eu4
      have hP : kp g [X0W g oC rC vC aC, X3W g oR rR ((X3_ofMissing_f vR aR (X0_hasBag_f vC aC p1) p1).2) aR] H := hP
      have hD : kd A [X0W g oC rC vC aC, X3W g oR rR ((X3_ofMissing_f vR aR (X0_hasBag_f vC aC p1) p1).2) aR] := hD
      refine lv_if_ne (tgt := 106) hx hb dX3_ofSelling_52 (by decide) (fun z => absurd (show ((0 : Int32) = 0) by decide) z) (fun _ => ?_)
      refine lv_aload_n hx hb dX3_ofSelling_55 rfl (lv_at hl 2 rfl) ?_
      refine lv_aload_n hx hb dX3_ofSelling_56 rfl (lv_at hl 3 rfl) ?_
      refine kg_getN C kFX0 (k := 3) (List.mem_of_getElem? (i := 6) rfl) hP (i := 0) (q := 0) rfl rfl (by decide) rfl dX3_ofSelling_57 ?_
      refine lv_iload_n hx hb dX3_ofSelling_60 rfl (lv_at hl 1 rfl) ?_
      refine lv_icmp_le (tgt := 68) hx hb dX3_ofSelling_61 (by decide) (fun c6 => ?_) (fun c6 => ?_)
      · refine lv_iconst (v := 0) hx hb dX3_ofSelling_68 (by decide) ?_
        refine lv_bipush (v := 10) hx hb dX3_ofSelling_69 (by decide) ?_
        refine lv_iload_n hx hb dX3_ofSelling_71 rfl (lv_at hl 1 rfl) ?_
        refine kM_V (As := [.int 0, .int 10, .int (k_tab 1 (vC 1).toNatClampNeg)]) (rest := []) (wr := [X0W g oC rC vC aC]) C (X3_keepIf_c l g oR rR ((X3_ofMissing_f vR aR (X0_hasBag_f vC aC p1) p1).2) aR false 10 (k_tab 1 (vC 1).toNatClampNeg)) (cwV 3 hts (k_gV kw370 ca_X3_keepIf) rfl rfl rfl ⟨rfl, pnX3_keepIf⟩ ⟨Nat.le_of_ble_eq_true rfl, Nat.le_of_ble_eq_true rfl⟩) hE hS hA hP hD [1] [0] rfl rfl ⟨rfl, rfl, by decide⟩ (k_recv C kFX3 hP (i := 1) (q := 0) rfl rfl) rfl hl.1 rfl rfl dX3_ofSelling_72 ⟨Nat.le_of_ble_eq_true rfl, Nat.le_of_ble_eq_true rfl⟩ (fun r7 u7 H locs hp7 hP hD hS => ?_)
        obtain ⟨er7, eu7⟩ := hp7
        have er7 : r7 = 0 := er7
        have eu7 : u7 = [X3W g oR rR ((X3_ofMissing_f vR aR (X0_hasBag_f vC aC p1) p1).2) aR] := eu7
        subst er7 eu7
        have hP : kp g [X0W g oC rC vC aC, X3W g oR rR ((X3_ofMissing_f vR aR (X0_hasBag_f vC aC p1) p1).2) aR] H := hP
        have hD : kd A [X0W g oC rC vC aC, X3W g oR rR ((X3_ofMissing_f vR aR (X0_hasBag_f vC aC p1) p1).2) aR] := hD
        refine lv_if_ne (tgt := 106) hx hb dX3_ofSelling_75 (by decide) (fun z => absurd (show ((0 : Int32) = 0) by decide) z) (fun _ => ?_)
        refine lv_aload_n hx hb dX3_ofSelling_78 rfl (lv_at hl 2 rfl) ?_
        refine lv_iload hx hb dX3_ofSelling_79 (lv_at hl 0 rfl) ?_
        refine lv_if_gt (tgt := 88) hx hb dX3_ofSelling_81 (by decide) (fun c9 => ?_) (fun c9 => ?_)
        · refine lv_iconst (v := 0) hx hb dX3_ofSelling_88 (by decide) ?_
          refine lv_bipush (v := 11) hx hb dX3_ofSelling_89 (by decide) ?_
          refine lv_iload hx hb dX3_ofSelling_91 (lv_at hl 0 rfl) ?_
          refine lv_aload_n hx hb dX3_ofSelling_93 rfl (lv_at hl 3 rfl) ?_
          refine kg_getN C kFX0 (k := 8) (List.mem_of_getElem? (i := 16) rfl) hP (i := 0) (q := 0) rfl rfl (by decide) rfl dX3_ofSelling_94 ?_
          refine lv_iload_n hx hb dX3_ofSelling_97 rfl (lv_at hl 4 rfl) ?_
          refine kg_iald C hP (i := 0) (q := 3) rfl rfl (by first | assumption) dX3_ofSelling_98 ?_
          refine lv_iadd hx hb dX3_ofSelling_99 ?_
          refine kM_V (As := [.int 0, .int 11, .int ((X0_netOf_f vC aC p1) + ((aC 8) p1.toNatClampNeg))]) (rest := []) (wr := [X0W g oC rC vC aC]) C (X3_keepIf_c l g oR rR ((X3_ofMissing_f vR aR (X0_hasBag_f vC aC p1) p1).2) aR false 11 ((X0_netOf_f vC aC p1) + ((aC 8) p1.toNatClampNeg))) (cwV 3 hts (k_gV kw370 ca_X3_keepIf) rfl rfl rfl ⟨rfl, pnX3_keepIf⟩ ⟨Nat.le_of_ble_eq_true rfl, Nat.le_of_ble_eq_true rfl⟩) hE hS hA hP hD [1] [0] rfl rfl ⟨rfl, rfl, by decide⟩ (k_recv C kFX3 hP (i := 1) (q := 0) rfl rfl) rfl hl.1 rfl rfl dX3_ofSelling_100 ⟨Nat.le_of_ble_eq_true rfl, Nat.le_of_ble_eq_true rfl⟩ (fun r10 u10 H locs hp10 hP hD hS => ?_)
          obtain ⟨er10, eu10⟩ := hp10
          have er10 : r10 = 0 := er10
          have eu10 : u10 = [X3W g oR rR ((X3_ofMissing_f vR aR (X0_hasBag_f vC aC p1) p1).2) aR] := eu10
          subst er10 eu10
          have hP : kp g [X0W g oC rC vC aC, X3W g oR rR ((X3_ofMissing_f vR aR (X0_hasBag_f vC aC p1) p1).2) aR] H := hP
          have hD : kd A [X0W g oC rC vC aC, X3W g oR rR ((X3_ofMissing_f vR aR (X0_hasBag_f vC aC p1) p1).2) aR] := hD
          refine lv_if_eq (tgt := 110) hx hb dX3_ofSelling_103 (by decide) (fun _ => ?_) (fun z => absurd (show ((0 : Int32) = 0) by decide) z)
          refine lv_iconst (v := 0) hx hb dX3_ofSelling_110 (by decide) ?_
          have hF := (show X3_ofSelling_f vC aC vR aR p1 = (false, (X3_ofMissing_f vR aR (X0_hasBag_f vC aC p1) p1).2) from (if_neg c2).trans ((if_neg c3).trans ((if_pos c6).trans ((if_pos c9).trans (rfl)))))
          exact kM_zret (x := b2i false) C (b2i_nar _) hP hD hS ⟨by rw [hF], by rw [hF]⟩ dX3_ofSelling_111
        refine lv_iconst (v := 1) hx hb dX3_ofSelling_84 (by decide) ?_
        refine lv_goto (tgt := 89) hx hb dX3_ofSelling_85 (by decide) ?_
        refine lv_bipush (v := 11) hx hb dX3_ofSelling_89 (by decide) ?_
        refine lv_iload hx hb dX3_ofSelling_91 (lv_at hl 0 rfl) ?_
        refine lv_aload_n hx hb dX3_ofSelling_93 rfl (lv_at hl 3 rfl) ?_
        refine kg_getN C kFX0 (k := 8) (List.mem_of_getElem? (i := 16) rfl) hP (i := 0) (q := 0) rfl rfl (by decide) rfl dX3_ofSelling_94 ?_
        refine lv_iload_n hx hb dX3_ofSelling_97 rfl (lv_at hl 4 rfl) ?_
        refine kg_iald C hP (i := 0) (q := 3) rfl rfl (by first | assumption) dX3_ofSelling_98 ?_
        refine lv_iadd hx hb dX3_ofSelling_99 ?_
        refine kM_V (As := [.int 1, .int 11, .int ((X0_netOf_f vC aC p1) + ((aC 8) p1.toNatClampNeg))]) (rest := []) (wr := [X0W g oC rC vC aC]) C (X3_keepIf_c l g oR rR ((X3_ofMissing_f vR aR (X0_hasBag_f vC aC p1) p1).2) aR true 11 ((X0_netOf_f vC aC p1) + ((aC 8) p1.toNatClampNeg))) (cwV 3 hts (k_gV kw370 ca_X3_keepIf) rfl rfl rfl ⟨rfl, pnX3_keepIf⟩ ⟨Nat.le_of_ble_eq_true rfl, Nat.le_of_ble_eq_true rfl⟩) hE hS hA hP hD [1] [0] rfl rfl ⟨rfl, rfl, by decide⟩ (k_recv C kFX3 hP (i := 1) (q := 0) rfl rfl) rfl hl.1 rfl rfl dX3_ofSelling_100 ⟨Nat.le_of_ble_eq_true rfl, Nat.le_of_ble_eq_true rfl⟩ (fun r12 u12 H locs hp12 hP hD hS => ?_)
        obtain ⟨er12, eu12⟩ := hp12
        have er12 : r12 = 1 := er12
        have eu12 : u12 = [X3W g oR rR (upd (upd (upd ((X3_ofMissing_f vR aR (X0_hasBag_f vC aC p1) p1).2) 0 11) 1 ((X0_netOf_f vC aC p1) + ((aC 8) p1.toNatClampNeg))) 2 0) aR] := eu12
        subst er12 eu12
        have hP : kp g [X0W g oC rC vC aC, X3W g oR rR (upd (upd (upd ((X3_ofMissing_f vR aR (X0_hasBag_f vC aC p1) p1).2) 0 11) 1 ((X0_netOf_f vC aC p1) + ((aC 8) p1.toNatClampNeg))) 2 0) aR] H := hP
        have hD : kd A [X0W g oC rC vC aC, X3W g oR rR (upd (upd (upd ((X3_ofMissing_f vR aR (X0_hasBag_f vC aC p1) p1).2) 0 11) 1 ((X0_netOf_f vC aC p1) + ((aC 8) p1.toNatClampNeg))) 2 0) aR] := hD
        refine lv_if_eq (tgt := 110) hx hb dX3_ofSelling_103 (by decide) (fun z => absurd z (show ¬ ((1 : Int32) = 0) by decide)) (fun _ => ?_)
        refine lv_iconst (v := 1) hx hb dX3_ofSelling_106 (by decide) ?_
        refine lv_goto (tgt := 111) hx hb dX3_ofSelling_107 (by decide) ?_
        have hF := (show X3_ofSelling_f vC aC vR aR p1 = (true, upd (upd (upd ((X3_ofMissing_f vR aR (X0_hasBag_f vC aC p1) p1).2) 0 11) 1 ((X0_netOf_f vC aC p1) + ((aC 8) p1.toNatClampNeg))) 2 0) from (if_neg c2).trans ((if_neg c3).trans ((if_pos c6).trans ((if_neg c9).trans (rfl)))))
        exact kM_zret (x := b2i true) C (b2i_nar _) hP hD hS ⟨by rw [hF], by rw [hF]⟩ dX3_ofSelling_111
      refine lv_iconst (v := 1) hx hb dX3_ofSelling_64 (by decide) ?_
      refine lv_goto (tgt := 69) hx hb dX3_ofSelling_65 (by decide) ?_
      refine lv_bipush (v := 10) hx hb dX3_ofSelling_69 (by decide) ?_
      refine lv_iload_n hx hb dX3_ofSelling_71 rfl (lv_at hl 1 rfl) ?_
      refine kM_V (As := [.int 1, .int 10, .int (k_tab 1 (vC 1).toNatClampNeg)]) (rest := []) (wr := [X0W g oC rC vC aC]) C (X3_keepIf_c l g oR rR ((X3_ofMissing_f vR aR (X0_hasBag_f vC aC p1) p1).2) aR true 10 (k_tab 1 (vC 1).toNatClampNeg)) (cwV 3 hts (k_gV kw370 ca_X3_keepIf) rfl rfl rfl ⟨rfl, pnX3_keepIf⟩ ⟨Nat.le_of_ble_eq_true rfl, Nat.le_of_ble_eq_true rfl⟩) hE hS hA hP hD [1] [0] rfl rfl ⟨rfl, rfl, by decide⟩ (k_recv C kFX3 hP (i := 1) (q := 0) rfl rfl) rfl hl.1 rfl rfl dX3_ofSelling_72 ⟨Nat.le_of_ble_eq_true rfl, Nat.le_of_ble_eq_true rfl⟩ (fun r14 u14 H locs hp14 hP hD hS => ?_)
      obtain ⟨er14, eu14⟩ := hp14
      have er14 : r14 = 1 := er14
      have eu14 : u14 = [X3W g oR rR (upd (upd (upd ((X3_ofMissing_f vR aR (X0_hasBag_f vC aC p1) p1).2) 0 10) 1 (k_tab 1 (vC 1).toNatClampNeg)) 2 0) aR] := eu14
      subst er14 eu14
      have hP : kp g [X0W g oC rC vC aC, X3W g oR rR (upd (upd (upd ((X3_ofMissing_f vR aR (X0_hasBag_f vC aC p1) p1).2) 0 10) 1 (k_tab 1 (vC 1).toNatClampNeg)) 2 0) aR] H := hP
      have hD : kd A [X0W g oC rC vC aC, X3W g oR rR (upd (upd (upd ((X3_ofMissing_f vR aR (X0_hasBag_f vC aC p1) p1).2) 0 10) 1 (k_tab 1 (vC 1).toNatClampNeg)) 2 0) aR] := hD
      refine lv_if_ne (tgt := 106) hx hb dX3_ofSelling_75 (by decide) (fun _ => ?_) (fun z => absurd z (show ¬ ((1 : Int32) = 0) by decide))
      refine lv_iconst (v := 1) hx hb dX3_ofSelling_106 (by decide) ?_
      refine lv_goto (tgt := 111) hx hb dX3_ofSelling_107 (by decide) ?_
      have hF := (show X3_ofSelling_f vC aC vR aR p1 = (true, upd (upd (upd ((X3_ofMissing_f vR aR (X0_hasBag_f vC aC p1) p1).2) 0 10) 1 (k_tab 1 (vC 1).toNatClampNeg)) 2 0) from (if_neg c2).trans ((if_neg c3).trans ((if_neg c6).trans (rfl))))
      exact kM_zret (x := b2i true) C (b2i_nar _) hP hD hS ⟨by rw [hF], by rw [hF]⟩ dX3_ofSelling_111
    refine lv_iconst (v := 1) hx hb dX3_ofSelling_41 (by decide) ?_
    refine lv_goto (tgt := 46) hx hb dX3_ofSelling_42 (by decide) ?_
    refine lv_bipush (v := 6) hx hb dX3_ofSelling_46 (by decide) ?_
    refine lv_iload_n hx hb dX3_ofSelling_48 rfl (lv_at hl 4 rfl) ?_
    refine kM_V (As := [.int 1, .int 6, .int p1]) (rest := []) (wr := [X0W g oC rC vC aC]) C (X3_keepIf_c l g oR rR ((X3_ofMissing_f vR aR (X0_hasBag_f vC aC p1) p1).2) aR true 6 p1) (cwV 3 hts (k_gV kw370 ca_X3_keepIf) rfl rfl rfl ⟨rfl, pnX3_keepIf⟩ ⟨Nat.le_of_ble_eq_true rfl, Nat.le_of_ble_eq_true rfl⟩) hE hS hA hP hD [1] [0] rfl rfl ⟨rfl, rfl, by decide⟩ (k_recv C kFX3 hP (i := 1) (q := 0) rfl rfl) rfl hl.1 rfl rfl dX3_ofSelling_49 ⟨Nat.le_of_ble_eq_true rfl, Nat.le_of_ble_eq_true rfl⟩ (fun r16 u16 H locs hp16 hP hD hS => ?_)
    obtain ⟨er16, eu16⟩ := hp16
    have er16 : r16 = 1 := er16
    have eu16 : u16 = [X3W g oR rR (upd (upd (upd ((X3_ofMissing_f vR aR (X0_hasBag_f vC aC p1) p1).2) 0 6) 1 p1) 2 0) aR] := eu16
    subst er16 eu16
    have hP : kp g [X0W g oC rC vC aC, X3W g oR rR (upd (upd (upd ((X3_ofMissing_f vR aR (X0_hasBag_f vC aC p1) p1).2) 0 6) 1 p1) 2 0) aR] H := hP
    have hD : kd A [X0W g oC rC vC aC, X3W g oR rR (upd (upd (upd ((X3_ofMissing_f vR aR (X0_hasBag_f vC aC p1) p1).2) 0 6) 1 p1) 2 0) aR] := hD
    refine lv_if_ne (tgt := 106) hx hb dX3_ofSelling_52 (by decide) (fun _ => ?_) (fun z => absurd z (show ¬ ((1 : Int32) = 0) by decide))
    refine lv_iconst (v := 1) hx hb dX3_ofSelling_106 (by decide) ?_
    refine lv_goto (tgt := 111) hx hb dX3_ofSelling_107 (by decide) ?_
    have hF := (show X3_ofSelling_f vC aC vR aR p1 = (true, upd (upd (upd ((X3_ofMissing_f vR aR (X0_hasBag_f vC aC p1) p1).2) 0 6) 1 p1) 2 0) from (if_neg c2).trans ((if_pos c3).trans (rfl)))
    exact kM_zret (x := b2i true) C (b2i_nar _) hP hD hS ⟨by rw [hF], by rw [hF]⟩ dX3_ofSelling_111
  have c2 := b2i_ne0 c2
  refine lv_iconst (v := 1) hx hb dX3_ofSelling_13 (by decide) ?_
  have hF := (show X3_ofSelling_f vC aC vR aR p1 = (true, (X3_ofMissing_f vR aR (X0_hasBag_f vC aC p1) p1).2) from (if_pos c2).trans (rfl))
  exact kM_zret (x := b2i true) C (b2i_nar _) hP hD hS ⟨by rw [hF], by rw [hF]⟩ dX3_ofSelling_14

abbrev wX3_ofOath : List Cond := Cond.code yX3_ofOath cX3_ofOath 2 (some .boolean) :: kW
def X3_ofOath_f (vC : Nat → Int32) (aC : Nat → Nat → Int32) (vR : Nat → Int32) (aR : Nat → Nat → Int32) : Bool × (Nat → Int32) :=
  if (X3_ofOathHere_f vC aC vR aR).1 = true then (true, (X3_ofOathHere_f vC aC vR aR).2)
  else if (vC 3) ≤ 0 then (false, (X3_ofOathHere_f vC aC vR aR).2)
  else (true, upd (upd (upd ((X3_ofOathHere_f vC aC vR aR).2) 0 9) 1 (vC 3)) 2 0)
set_option maxHeartbeats 4000000 in
set_option maxRecDepth 100000 in
theorem X3_ofOath_c (l : Launch) (g : kG) (oC : Nat) (rC : Nat → Nat) (vC : Nat → Int32) (aC : Nat → Nat → Int32) (oR : Nat) (rR : Nat → Nat) (vR : Nat → Int32) (aR : Nat → Nat → Int32) (hM : vp_in (vC 1) 4) : kM l yX3_ofOath wX3_ofOath 2 44 0 0 g [.ref oR, .ref oC] [X0W g oC rC vC aC, X3W g oR rR vR aR] (fun x u => x = b2i (X3_ofOath_f vC aC vR aR).1 ∧ u = [X0W g oC rC vC aC, X3W g oR rR ((X3_ofOath_f vC aC vR aR).2) aR]) := by
  refine kM_of (cc := cX3_ofOath) (nL := 2) (ret := (some .boolean)) (lv := [(0, .ref oR), (1, .ref oC)]) (by decide) rfl (Nat.le_of_ble_eq_true rfl) rfl ?_
  intro p e s m args below meth c ls A C hP hD hE hA hS hl
  have C : kC p c cX3_ofOath s m args meth RX3 g 2 (some .boolean) := C
  have hx := C.1.1
  have hb := C.1.2.1
  have hts := C.1.2.2.2.2
  refine lv_aload_n hx hb dX3_ofOath_0 rfl (lv_at hl 0 rfl) ?_
  refine lv_aload_n hx hb dX3_ofOath_1 rfl (lv_at hl 1 rfl) ?_
  refine kM_V (As := [.ref oC]) (rest := []) (wr := []) C (X3_ofOathHere_c l g oC rC vC aC oR rR vR aR (by first | assumption)) (cwV 1 hts (k_gV kw406 ca_X3_ofOathHere) rfl rfl rfl ⟨rfl, pnX3_ofOathHere⟩ ⟨Nat.le_of_ble_eq_true rfl, Nat.le_of_ble_eq_true rfl⟩) hE hS hA hP hD [0, 1] [] rfl rfl ⟨rfl, rfl, by decide⟩ (k_recv C kFX3 hP (i := 1) (q := 0) rfl rfl) rfl hl.1 rfl rfl dX3_ofOath_2 ⟨Nat.le_of_ble_eq_true rfl, Nat.le_of_ble_eq_true rfl⟩ (fun r1 u1 H locs hp1 hP hD hS => ?_)
  obtain ⟨rfl, rfl⟩ := hp1
  have hP : kp g [X0W g oC rC vC aC, X3W g oR rR ((X3_ofOathHere_f vC aC vR aR).2) aR] H := hP
  have hD : kd A [X0W g oC rC vC aC, X3W g oR rR ((X3_ofOathHere_f vC aC vR aR).2) aR] := hD
  refine lv_if_ne (tgt := 33) hx hb dX3_ofOath_5 (by decide) (fun c2 => ?_) (fun c2 => ?_)
  · have c2 := b2i_ne0 c2
    refine lv_iconst (v := 1) hx hb dX3_ofOath_33 (by decide) ?_
    refine lv_goto (tgt := 38) hx hb dX3_ofOath_34 (by decide) ?_
    have hF := (show X3_ofOath_f vC aC vR aR = (true, (X3_ofOathHere_f vC aC vR aR).2) from (if_pos c2).trans (rfl))
    exact kM_zret (x := b2i true) C (b2i_nar _) hP hD hS ⟨by rw [hF], by rw [hF]⟩ dX3_ofOath_38
  have c2 := b2i_eq0 c2
  refine lv_aload_n hx hb dX3_ofOath_8 rfl (lv_at hl 0 rfl) ?_
  refine lv_aload_n hx hb dX3_ofOath_9 rfl (lv_at hl 1 rfl) ?_
  refine kg_getN C kFX0 (k := 3) (List.mem_of_getElem? (i := 6) rfl) hP (i := 0) (q := 0) rfl rfl (by decide) rfl dX3_ofOath_10 ?_
  refine lv_if_le (tgt := 20) hx hb dX3_ofOath_13 (by decide) (fun c3 => ?_) (fun c3 => ?_)
  · refine lv_iconst (v := 0) hx hb dX3_ofOath_20 (by decide) ?_
    refine lv_bipush (v := 9) hx hb dX3_ofOath_21 (by decide) ?_
    refine lv_aload_n hx hb dX3_ofOath_23 rfl (lv_at hl 1 rfl) ?_
    refine kg_getN C kFX0 (k := 3) (List.mem_of_getElem? (i := 6) rfl) hP (i := 0) (q := 0) rfl rfl (by decide) rfl dX3_ofOath_24 ?_
    refine kM_V (As := [.int 0, .int 9, .int (vC 3)]) (rest := []) (wr := [X0W g oC rC vC aC]) C (X3_keepIf_c l g oR rR ((X3_ofOathHere_f vC aC vR aR).2) aR false 9 (vC 3)) (cwV 3 hts (k_gV kw370 ca_X3_keepIf) rfl rfl rfl ⟨rfl, pnX3_keepIf⟩ ⟨Nat.le_of_ble_eq_true rfl, Nat.le_of_ble_eq_true rfl⟩) hE hS hA hP hD [1] [0] rfl rfl ⟨rfl, rfl, by decide⟩ (k_recv C kFX3 hP (i := 1) (q := 0) rfl rfl) rfl hl.1 rfl rfl dX3_ofOath_27 ⟨Nat.le_of_ble_eq_true rfl, Nat.le_of_ble_eq_true rfl⟩ (fun r4 u4 H locs hp4 hP hD hS => ?_)
    obtain ⟨er4, eu4⟩ := hp4
    have er4 : r4 = 0 := er4
    have eu4 : u4 = [X3W g oR rR ((X3_ofOathHere_f vC aC vR aR).2) aR] := eu4
    subst er4 eu4
    have hP : kp g [X0W g oC rC vC aC, X3W g oR rR ((X3_ofOathHere_f vC aC vR aR).2) aR] H := hP
    have hD : kd A [X0W g oC rC vC aC, X3W g oR rR ((X3_ofOathHere_f vC aC vR aR).2) aR] := hD
    refine lv_if_eq (tgt := 37) hx hb dX3_ofOath_30 (by decide) (fun _ => ?_) (fun z => absurd (show ((0 : Int32) = 0) by decide) z)
    refine lv_iconst (v := 0) hx hb dX3_ofOath_37 (by decide) ?_
    have hF := (show X3_ofOath_f vC aC vR aR = (false, (X3_ofOathHere_f vC aC vR aR).2) from (if_neg c2).trans ((if_pos c3).trans (rfl)))
    exact kM_zret (x := b2i false) C (b2i_nar _) hP hD hS ⟨by rw [hF], by rw [hF]⟩ dX3_ofOath_38
  refine lv_iconst (v := 1) hx hb dX3_ofOath_16 (by decide) ?_
  refine lv_goto (tgt := 21) hx hb dX3_ofOath_17 (by decide) ?_
  refine lv_bipush (v := 9) hx hb dX3_ofOath_21 (by decide) ?_
  refine lv_aload_n hx hb dX3_ofOath_23 rfl (lv_at hl 1 rfl) ?_
  refine kg_getN C kFX0 (k := 3) (List.mem_of_getElem? (i := 6) rfl) hP (i := 0) (q := 0) rfl rfl (by decide) rfl dX3_ofOath_24 ?_
  refine kM_V (As := [.int 1, .int 9, .int (vC 3)]) (rest := []) (wr := [X0W g oC rC vC aC]) C (X3_keepIf_c l g oR rR ((X3_ofOathHere_f vC aC vR aR).2) aR true 9 (vC 3)) (cwV 3 hts (k_gV kw370 ca_X3_keepIf) rfl rfl rfl ⟨rfl, pnX3_keepIf⟩ ⟨Nat.le_of_ble_eq_true rfl, Nat.le_of_ble_eq_true rfl⟩) hE hS hA hP hD [1] [0] rfl rfl ⟨rfl, rfl, by decide⟩ (k_recv C kFX3 hP (i := 1) (q := 0) rfl rfl) rfl hl.1 rfl rfl dX3_ofOath_27 ⟨Nat.le_of_ble_eq_true rfl, Nat.le_of_ble_eq_true rfl⟩ (fun r6 u6 H locs hp6 hP hD hS => ?_)
  obtain ⟨er6, eu6⟩ := hp6
  have er6 : r6 = 1 := er6
  have eu6 : u6 = [X3W g oR rR (upd (upd (upd ((X3_ofOathHere_f vC aC vR aR).2) 0 9) 1 (vC 3)) 2 0) aR] := eu6
  subst er6 eu6
  have hP : kp g [X0W g oC rC vC aC, X3W g oR rR (upd (upd (upd ((X3_ofOathHere_f vC aC vR aR).2) 0 9) 1 (vC 3)) 2 0) aR] H := hP
  have hD : kd A [X0W g oC rC vC aC, X3W g oR rR (upd (upd (upd ((X3_ofOathHere_f vC aC vR aR).2) 0 9) 1 (vC 3)) 2 0) aR] := hD
  refine lv_if_eq (tgt := 37) hx hb dX3_ofOath_30 (by decide) (fun z => absurd z (show ¬ ((1 : Int32) = 0) by decide)) (fun _ => ?_)
  refine lv_iconst (v := 1) hx hb dX3_ofOath_33 (by decide) ?_
  refine lv_goto (tgt := 38) hx hb dX3_ofOath_34 (by decide) ?_
  have hF := (show X3_ofOath_f vC aC vR aR = (true, upd (upd (upd ((X3_ofOathHere_f vC aC vR aR).2) 0 9) 1 (vC 3)) 2 0) from (if_neg c2).trans ((if_neg c3).trans (rfl)))
  exact kM_zret (x := b2i true) C (b2i_nar _) hP hD hS ⟨by rw [hF], by rw [hF]⟩ dX3_ofOath_38

theorem pnX4_isMarket : yX4_isMarket.cls ≠ "java/lang/invoke/MethodHandle" ∧ yX4_isMarket.cls ≠ "java/lang/invoke/VarHandle" ∧ (parseMethodDescriptor yX4_isMarket.desc).map (fun d => d.parameters.length) = some 1 := by decide +kernel
theorem cs_X4_isMarket : kCst yX4_isMarket (Cond.code yX4_isMarket cX4_isMarket 1 (some .boolean)) := ⟨k_w 3 152 rfl rfl, k_w 2 1 rfl rfl, k_w 3 153 rfl rfl⟩

abbrev wX3_ofGoing : List Cond := Cond.code yX3_ofGoing cX3_ofGoing 3 (some .boolean) :: kW
def X3_ofGoing_f (vC : Nat → Int32) (aC : Nat → Nat → Int32) (vR : Nat → Int32) (aR : Nat → Nat → Int32) (p1 : Int32) : Bool × (Nat → Int32) :=
  if (X3_ofMissing_f vR aR (X4_isMarket_f p1) p1).1 = true then (true, (X3_ofMissing_f vR aR (X4_isMarket_f p1) p1).2)
  else if p1 = (vC 1) then (true, upd (upd (upd ((X3_ofMissing_f vR aR (X4_isMarket_f p1) p1).2) 0 13) 1 p1) 2 0)
  else (false, (X3_ofMissing_f vR aR (X4_isMarket_f p1) p1).2)
set_option maxHeartbeats 4000000 in
set_option maxRecDepth 100000 in
theorem X3_ofGoing_c (l : Launch) (g : kG) (oC : Nat) (rC : Nat → Nat) (vC : Nat → Int32) (aC : Nat → Nat → Int32) (oR : Nat) (rR : Nat → Nat) (vR : Nat → Int32) (aR : Nat → Nat → Int32) (p1 : Int32) : kM l yX3_ofGoing wX3_ofGoing 2 45 0 0 g [.ref oR, .ref oC, .int p1] [X0W g oC rC vC aC, X3W g oR rR vR aR] (fun x u => x = b2i (X3_ofGoing_f vC aC vR aR p1).1 ∧ u = [X0W g oC rC vC aC, X3W g oR rR ((X3_ofGoing_f vC aC vR aR p1).2) aR]) := by
  refine kM_of (cc := cX3_ofGoing) (nL := 3) (ret := (some .boolean)) (lv := [(0, .ref oR), (1, .ref oC), (2, .int p1)]) (by decide) rfl (Nat.le_of_ble_eq_true rfl) rfl ?_
  intro p e s m args below meth c ls A C hP hD hE hA hS hl
  have C : kC p c cX3_ofGoing s m args meth RX3 g 3 (some .boolean) := C
  have hx := C.1.1
  have hb := C.1.2.1
  have hts := C.1.2.2.2.2
  refine lv_aload_n hx hb dX3_ofGoing_0 rfl (lv_at hl 0 rfl) ?_
  refine lv_iload_n hx hb dX3_ofGoing_1 rfl (lv_at hl 2 rfl) ?_
  refine kR_SN (As := [.int p1]) (rest := [.ref oR]) C (X4_isMarket_c l g p1) ⟨va_cnB (host := "SpiceScale") 1 hts (k_gI cs_X4_isMarket.2.2) rfl rfl rfl (C.2.1.2 _ (List.mem_of_getElem? (i := 55) rfl)) (hts _ cs_X4_isMarket.2.1) pnX4_isMarket ⟨Nat.le_of_ble_eq_true rfl, Nat.le_of_ble_eq_true rfl⟩, hts _ cs_X4_isMarket.1, trivial⟩ hE hS (hP.pick [] rfl) rfl hl.1 rfl rfl dX3_ofGoing_2 ⟨Nat.le_of_ble_eq_true rfl, Nat.le_of_ble_eq_true rfl⟩ ?_
  refine lv_iload_n hx hb dX3_ofGoing_5 rfl (lv_at hl 2 rfl) ?_
  refine kM_V (As := [.int (b2i (X4_isMarket_f p1)), .int p1]) (rest := []) (wr := [X0W g oC rC vC aC]) C (X3_ofMissing_c l g oR rR vR aR (X4_isMarket_f p1) p1) (cwV 2 hts (k_gV kw386 ca_X3_ofMissing) rfl rfl rfl ⟨rfl, pnX3_ofMissing⟩ ⟨Nat.le_of_ble_eq_true rfl, Nat.le_of_ble_eq_true rfl⟩) hE hS hA hP hD [1] [0] rfl rfl ⟨rfl, rfl, by decide⟩ (k_recv C kFX3 hP (i := 1) (q := 0) rfl rfl) rfl hl.1 rfl rfl dX3_ofGoing_6 ⟨Nat.le_of_ble_eq_true rfl, Nat.le_of_ble_eq_true rfl⟩ (fun r1 u1 H locs hp1 hP hD hS => ?_)
  obtain ⟨rfl, rfl⟩ := hp1
  have hP : kp g [X0W g oC rC vC aC, X3W g oR rR ((X3_ofMissing_f vR aR (X4_isMarket_f p1) p1).2) aR] H := hP
  have hD : kd A [X0W g oC rC vC aC, X3W g oR rR ((X3_ofMissing_f vR aR (X4_isMarket_f p1) p1).2) aR] := hD
  refine lv_if_ne (tgt := 35) hx hb dX3_ofGoing_9 (by decide) (fun c2 => ?_) (fun c2 => ?_)
  · have c2 := b2i_ne0 c2
    refine lv_iconst (v := 1) hx hb dX3_ofGoing_35 (by decide) ?_
    refine lv_goto (tgt := 40) hx hb dX3_ofGoing_36 (by decide) ?_
    have hF := (show X3_ofGoing_f vC aC vR aR p1 = (true, (X3_ofMissing_f vR aR (X4_isMarket_f p1) p1).2) from (if_pos c2).trans (rfl))
    exact kM_zret (x := b2i true) C (b2i_nar _) hP hD hS ⟨by rw [hF], by rw [hF]⟩ dX3_ofGoing_40
  have c2 := b2i_eq0 c2
  refine lv_aload_n hx hb dX3_ofGoing_12 rfl (lv_at hl 0 rfl) ?_
  refine lv_iload_n hx hb dX3_ofGoing_13 rfl (lv_at hl 2 rfl) ?_
  refine lv_aload_n hx hb dX3_ofGoing_14 rfl (lv_at hl 1 rfl) ?_
  refine kg_getN C kFX0 (k := 1) (List.mem_of_getElem? (i := 2) rfl) hP (i := 0) (q := 0) rfl rfl (by decide) rfl dX3_ofGoing_15 ?_
  refine lv_icmp_ne (tgt := 25) hx hb dX3_ofGoing_18 (by decide) (fun c3 => ?_) (fun c3 => ?_)
  · refine lv_iconst (v := 0) hx hb dX3_ofGoing_25 (by decide) ?_
    refine lv_bipush (v := 13) hx hb dX3_ofGoing_26 (by decide) ?_
    refine lv_iload_n hx hb dX3_ofGoing_28 rfl (lv_at hl 2 rfl) ?_
    refine kM_V (As := [.int 0, .int 13, .int p1]) (rest := []) (wr := [X0W g oC rC vC aC]) C (X3_keepIf_c l g oR rR ((X3_ofMissing_f vR aR (X4_isMarket_f p1) p1).2) aR false 13 p1) (cwV 3 hts (k_gV kw370 ca_X3_keepIf) rfl rfl rfl ⟨rfl, pnX3_keepIf⟩ ⟨Nat.le_of_ble_eq_true rfl, Nat.le_of_ble_eq_true rfl⟩) hE hS hA hP hD [1] [0] rfl rfl ⟨rfl, rfl, by decide⟩ (k_recv C kFX3 hP (i := 1) (q := 0) rfl rfl) rfl hl.1 rfl rfl dX3_ofGoing_29 ⟨Nat.le_of_ble_eq_true rfl, Nat.le_of_ble_eq_true rfl⟩ (fun r4 u4 H locs hp4 hP hD hS => ?_)
    obtain ⟨er4, eu4⟩ := hp4
    have er4 : r4 = 0 := er4
    have eu4 : u4 = [X3W g oR rR ((X3_ofMissing_f vR aR (X4_isMarket_f p1) p1).2) aR] := eu4
    subst er4 eu4
    have hP : kp g [X0W g oC rC vC aC, X3W g oR rR ((X3_ofMissing_f vR aR (X4_isMarket_f p1) p1).2) aR] H := hP
    have hD : kd A [X0W g oC rC vC aC, X3W g oR rR ((X3_ofMissing_f vR aR (X4_isMarket_f p1) p1).2) aR] := hD
    refine lv_if_eq (tgt := 39) hx hb dX3_ofGoing_32 (by decide) (fun _ => ?_) (fun z => absurd (show ((0 : Int32) = 0) by decide) z)
    refine lv_iconst (v := 0) hx hb dX3_ofGoing_39 (by decide) ?_
    have hF := (show X3_ofGoing_f vC aC vR aR p1 = (false, (X3_ofMissing_f vR aR (X4_isMarket_f p1) p1).2) from (if_neg c2).trans ((if_neg c3).trans (rfl)))
    exact kM_zret (x := b2i false) C (b2i_nar _) hP hD hS ⟨by rw [hF], by rw [hF]⟩ dX3_ofGoing_40
  refine lv_iconst (v := 1) hx hb dX3_ofGoing_21 (by decide) ?_
  refine lv_goto (tgt := 26) hx hb dX3_ofGoing_22 (by decide) ?_
  refine lv_bipush (v := 13) hx hb dX3_ofGoing_26 (by decide) ?_
  refine lv_iload_n hx hb dX3_ofGoing_28 rfl (lv_at hl 2 rfl) ?_
  refine kM_V (As := [.int 1, .int 13, .int p1]) (rest := []) (wr := [X0W g oC rC vC aC]) C (X3_keepIf_c l g oR rR ((X3_ofMissing_f vR aR (X4_isMarket_f p1) p1).2) aR true 13 p1) (cwV 3 hts (k_gV kw370 ca_X3_keepIf) rfl rfl rfl ⟨rfl, pnX3_keepIf⟩ ⟨Nat.le_of_ble_eq_true rfl, Nat.le_of_ble_eq_true rfl⟩) hE hS hA hP hD [1] [0] rfl rfl ⟨rfl, rfl, by decide⟩ (k_recv C kFX3 hP (i := 1) (q := 0) rfl rfl) rfl hl.1 rfl rfl dX3_ofGoing_29 ⟨Nat.le_of_ble_eq_true rfl, Nat.le_of_ble_eq_true rfl⟩ (fun r6 u6 H locs hp6 hP hD hS => ?_)
  obtain ⟨er6, eu6⟩ := hp6
  have er6 : r6 = 1 := er6
  have eu6 : u6 = [X3W g oR rR (upd (upd (upd ((X3_ofMissing_f vR aR (X4_isMarket_f p1) p1).2) 0 13) 1 p1) 2 0) aR] := eu6
  subst er6 eu6
  have hP : kp g [X0W g oC rC vC aC, X3W g oR rR (upd (upd (upd ((X3_ofMissing_f vR aR (X4_isMarket_f p1) p1).2) 0 13) 1 p1) 2 0) aR] H := hP
  have hD : kd A [X0W g oC rC vC aC, X3W g oR rR (upd (upd (upd ((X3_ofMissing_f vR aR (X4_isMarket_f p1) p1).2) 0 13) 1 p1) 2 0) aR] := hD
  refine lv_if_eq (tgt := 39) hx hb dX3_ofGoing_32 (by decide) (fun z => absurd z (show ¬ ((1 : Int32) = 0) by decide)) (fun _ => ?_)
  refine lv_iconst (v := 1) hx hb dX3_ofGoing_35 (by decide) ?_
  refine lv_goto (tgt := 40) hx hb dX3_ofGoing_36 (by decide) ?_
  have hF := (show X3_ofGoing_f vC aC vR aR p1 = (true, upd (upd (upd ((X3_ofMissing_f vR aR (X4_isMarket_f p1) p1).2) 0 13) 1 p1) 2 0) from (if_neg c2).trans ((if_pos c3).trans (rfl)))
  exact kM_zret (x := b2i true) C (b2i_nar _) hP hD hS ⟨by rw [hF], by rw [hF]⟩ dX3_ofGoing_40

theorem pnX4_isWeight : yX4_isWeight.cls ≠ "java/lang/invoke/MethodHandle" ∧ yX4_isWeight.cls ≠ "java/lang/invoke/VarHandle" ∧ (parseMethodDescriptor yX4_isWeight.desc).map (fun d => d.parameters.length) = some 1 := by decide +kernel
theorem cs_X4_isWeight : kCst yX4_isWeight (Cond.code yX4_isWeight cX4_isWeight 1 (some .boolean)) := ⟨k_w 3 159 rfl rfl, k_w 2 1 rfl rfl, k_w 3 160 rfl rfl⟩

abbrev wX3_ofSealing : List Cond := Cond.code yX3_ofSealing cX3_ofSealing 3 (some .boolean) :: kW
def X3_ofSealing_f (vC : Nat → Int32) (aC : Nat → Nat → Int32) (vR : Nat → Int32) (aR : Nat → Nat → Int32) (p1 : Int32) : Bool × (Nat → Int32) :=
  if (X3_ofMissing_f vR aR (X4_isWeight_f p1) p1).1 = true then (true, (X3_ofMissing_f vR aR (X4_isWeight_f p1) p1).2)
  else if 2 ≤ (vC 2) then (false, (X3_ofMissing_f vR aR (X4_isWeight_f p1) p1).2)
  else (true, upd (upd (upd ((X3_ofMissing_f vR aR (X4_isWeight_f p1) p1).2) 0 12) 1 (2 - (vC 2))) 2 0)
set_option maxHeartbeats 4000000 in
set_option maxRecDepth 100000 in
theorem X3_ofSealing_c (l : Launch) (g : kG) (oC : Nat) (rC : Nat → Nat) (vC : Nat → Int32) (aC : Nat → Nat → Int32) (oR : Nat) (rR : Nat → Nat) (vR : Nat → Int32) (aR : Nat → Nat → Int32) (p1 : Int32) : kM l yX3_ofSealing wX3_ofSealing 2 45 0 0 g [.ref oR, .ref oC, .int p1] [X0W g oC rC vC aC, X3W g oR rR vR aR] (fun x u => x = b2i (X3_ofSealing_f vC aC vR aR p1).1 ∧ u = [X0W g oC rC vC aC, X3W g oR rR ((X3_ofSealing_f vC aC vR aR p1).2) aR]) := by
  refine kM_of (cc := cX3_ofSealing) (nL := 3) (ret := (some .boolean)) (lv := [(0, .ref oR), (1, .ref oC), (2, .int p1)]) (by decide) rfl (Nat.le_of_ble_eq_true rfl) rfl ?_
  intro p e s m args below meth c ls A C hP hD hE hA hS hl
  have C : kC p c cX3_ofSealing s m args meth RX3 g 3 (some .boolean) := C
  have hx := C.1.1
  have hb := C.1.2.1
  have hts := C.1.2.2.2.2
  refine lv_aload_n hx hb dX3_ofSealing_0 rfl (lv_at hl 0 rfl) ?_
  refine lv_iload_n hx hb dX3_ofSealing_1 rfl (lv_at hl 2 rfl) ?_
  refine kR_SN (As := [.int p1]) (rest := [.ref oR]) C (X4_isWeight_c l g p1) ⟨va_cnB (host := "SpiceScale") 1 hts (k_gI cs_X4_isWeight.2.2) rfl rfl rfl (C.2.1.2 _ (List.mem_of_getElem? (i := 56) rfl)) (hts _ cs_X4_isWeight.2.1) pnX4_isWeight ⟨Nat.le_of_ble_eq_true rfl, Nat.le_of_ble_eq_true rfl⟩, hts _ cs_X4_isWeight.1, trivial⟩ hE hS (hP.pick [] rfl) rfl hl.1 rfl rfl dX3_ofSealing_2 ⟨Nat.le_of_ble_eq_true rfl, Nat.le_of_ble_eq_true rfl⟩ ?_
  refine lv_iload_n hx hb dX3_ofSealing_5 rfl (lv_at hl 2 rfl) ?_
  refine kM_V (As := [.int (b2i (X4_isWeight_f p1)), .int p1]) (rest := []) (wr := [X0W g oC rC vC aC]) C (X3_ofMissing_c l g oR rR vR aR (X4_isWeight_f p1) p1) (cwV 2 hts (k_gV kw386 ca_X3_ofMissing) rfl rfl rfl ⟨rfl, pnX3_ofMissing⟩ ⟨Nat.le_of_ble_eq_true rfl, Nat.le_of_ble_eq_true rfl⟩) hE hS hA hP hD [1] [0] rfl rfl ⟨rfl, rfl, by decide⟩ (k_recv C kFX3 hP (i := 1) (q := 0) rfl rfl) rfl hl.1 rfl rfl dX3_ofSealing_6 ⟨Nat.le_of_ble_eq_true rfl, Nat.le_of_ble_eq_true rfl⟩ (fun r1 u1 H locs hp1 hP hD hS => ?_)
  obtain ⟨rfl, rfl⟩ := hp1
  have hP : kp g [X0W g oC rC vC aC, X3W g oR rR ((X3_ofMissing_f vR aR (X4_isWeight_f p1) p1).2) aR] H := hP
  have hD : kd A [X0W g oC rC vC aC, X3W g oR rR ((X3_ofMissing_f vR aR (X4_isWeight_f p1) p1).2) aR] := hD
  refine lv_if_ne (tgt := 40) hx hb dX3_ofSealing_9 (by decide) (fun c2 => ?_) (fun c2 => ?_)
  · have c2 := b2i_ne0 c2
    refine lv_iconst (v := 1) hx hb dX3_ofSealing_40 (by decide) ?_
    refine lv_goto (tgt := 45) hx hb dX3_ofSealing_41 (by decide) ?_
    have hF := (show X3_ofSealing_f vC aC vR aR p1 = (true, (X3_ofMissing_f vR aR (X4_isWeight_f p1) p1).2) from (if_pos c2).trans (rfl))
    exact kM_zret (x := b2i true) C (b2i_nar _) hP hD hS ⟨by rw [hF], by rw [hF]⟩ dX3_ofSealing_45
  have c2 := b2i_eq0 c2
  refine lv_aload_n hx hb dX3_ofSealing_12 rfl (lv_at hl 0 rfl) ?_
  refine lv_aload_n hx hb dX3_ofSealing_13 rfl (lv_at hl 1 rfl) ?_
  refine kg_getN C kFX0 (k := 2) (List.mem_of_getElem? (i := 4) rfl) hP (i := 0) (q := 0) rfl rfl (by decide) rfl dX3_ofSealing_14 ?_
  refine lv_iconst (v := 2) hx hb dX3_ofSealing_17 (by decide) ?_
  refine lv_icmp_ge (tgt := 25) hx hb dX3_ofSealing_18 (by decide) (fun c3 => ?_) (fun c3 => ?_)
  · refine lv_iconst (v := 0) hx hb dX3_ofSealing_25 (by decide) ?_
    refine lv_bipush (v := 12) hx hb dX3_ofSealing_26 (by decide) ?_
    refine lv_iconst (v := 2) hx hb dX3_ofSealing_28 (by decide) ?_
    refine lv_aload_n hx hb dX3_ofSealing_29 rfl (lv_at hl 1 rfl) ?_
    refine kg_getN C kFX0 (k := 2) (List.mem_of_getElem? (i := 4) rfl) hP (i := 0) (q := 0) rfl rfl (by decide) rfl dX3_ofSealing_30 ?_
    refine lv_isub hx hb dX3_ofSealing_33 ?_
    refine kM_V (As := [.int 0, .int 12, .int (2 - (vC 2))]) (rest := []) (wr := [X0W g oC rC vC aC]) C (X3_keepIf_c l g oR rR ((X3_ofMissing_f vR aR (X4_isWeight_f p1) p1).2) aR false 12 (2 - (vC 2))) (cwV 3 hts (k_gV kw370 ca_X3_keepIf) rfl rfl rfl ⟨rfl, pnX3_keepIf⟩ ⟨Nat.le_of_ble_eq_true rfl, Nat.le_of_ble_eq_true rfl⟩) hE hS hA hP hD [1] [0] rfl rfl ⟨rfl, rfl, by decide⟩ (k_recv C kFX3 hP (i := 1) (q := 0) rfl rfl) rfl hl.1 rfl rfl dX3_ofSealing_34 ⟨Nat.le_of_ble_eq_true rfl, Nat.le_of_ble_eq_true rfl⟩ (fun r4 u4 H locs hp4 hP hD hS => ?_)
    obtain ⟨er4, eu4⟩ := hp4
    have er4 : r4 = 0 := er4
    have eu4 : u4 = [X3W g oR rR ((X3_ofMissing_f vR aR (X4_isWeight_f p1) p1).2) aR] := eu4
    subst er4 eu4
    have hP : kp g [X0W g oC rC vC aC, X3W g oR rR ((X3_ofMissing_f vR aR (X4_isWeight_f p1) p1).2) aR] H := hP
    have hD : kd A [X0W g oC rC vC aC, X3W g oR rR ((X3_ofMissing_f vR aR (X4_isWeight_f p1) p1).2) aR] := hD
    refine lv_if_eq (tgt := 44) hx hb dX3_ofSealing_37 (by decide) (fun _ => ?_) (fun z => absurd (show ((0 : Int32) = 0) by decide) z)
    refine lv_iconst (v := 0) hx hb dX3_ofSealing_44 (by decide) ?_
    have hF := (show X3_ofSealing_f vC aC vR aR p1 = (false, (X3_ofMissing_f vR aR (X4_isWeight_f p1) p1).2) from (if_neg c2).trans ((if_pos c3).trans (rfl)))
    exact kM_zret (x := b2i false) C (b2i_nar _) hP hD hS ⟨by rw [hF], by rw [hF]⟩ dX3_ofSealing_45
  refine lv_iconst (v := 1) hx hb dX3_ofSealing_21 (by decide) ?_
  refine lv_goto (tgt := 26) hx hb dX3_ofSealing_22 (by decide) ?_
  refine lv_bipush (v := 12) hx hb dX3_ofSealing_26 (by decide) ?_
  refine lv_iconst (v := 2) hx hb dX3_ofSealing_28 (by decide) ?_
  refine lv_aload_n hx hb dX3_ofSealing_29 rfl (lv_at hl 1 rfl) ?_
  refine kg_getN C kFX0 (k := 2) (List.mem_of_getElem? (i := 4) rfl) hP (i := 0) (q := 0) rfl rfl (by decide) rfl dX3_ofSealing_30 ?_
  refine lv_isub hx hb dX3_ofSealing_33 ?_
  refine kM_V (As := [.int 1, .int 12, .int (2 - (vC 2))]) (rest := []) (wr := [X0W g oC rC vC aC]) C (X3_keepIf_c l g oR rR ((X3_ofMissing_f vR aR (X4_isWeight_f p1) p1).2) aR true 12 (2 - (vC 2))) (cwV 3 hts (k_gV kw370 ca_X3_keepIf) rfl rfl rfl ⟨rfl, pnX3_keepIf⟩ ⟨Nat.le_of_ble_eq_true rfl, Nat.le_of_ble_eq_true rfl⟩) hE hS hA hP hD [1] [0] rfl rfl ⟨rfl, rfl, by decide⟩ (k_recv C kFX3 hP (i := 1) (q := 0) rfl rfl) rfl hl.1 rfl rfl dX3_ofSealing_34 ⟨Nat.le_of_ble_eq_true rfl, Nat.le_of_ble_eq_true rfl⟩ (fun r6 u6 H locs hp6 hP hD hS => ?_)
  obtain ⟨er6, eu6⟩ := hp6
  have er6 : r6 = 1 := er6
  have eu6 : u6 = [X3W g oR rR (upd (upd (upd ((X3_ofMissing_f vR aR (X4_isWeight_f p1) p1).2) 0 12) 1 (2 - (vC 2))) 2 0) aR] := eu6
  subst er6 eu6
  have hP : kp g [X0W g oC rC vC aC, X3W g oR rR (upd (upd (upd ((X3_ofMissing_f vR aR (X4_isWeight_f p1) p1).2) 0 12) 1 (2 - (vC 2))) 2 0) aR] H := hP
  have hD : kd A [X0W g oC rC vC aC, X3W g oR rR (upd (upd (upd ((X3_ofMissing_f vR aR (X4_isWeight_f p1) p1).2) 0 12) 1 (2 - (vC 2))) 2 0) aR] := hD
  refine lv_if_eq (tgt := 44) hx hb dX3_ofSealing_37 (by decide) (fun z => absurd z (show ¬ ((1 : Int32) = 0) by decide)) (fun _ => ?_)
  refine lv_iconst (v := 1) hx hb dX3_ofSealing_40 (by decide) ?_
  refine lv_goto (tgt := 45) hx hb dX3_ofSealing_41 (by decide) ?_
  have hF := (show X3_ofSealing_f vC aC vR aR p1 = (true, upd (upd (upd ((X3_ofMissing_f vR aR (X4_isWeight_f p1) p1).2) 0 12) 1 (2 - (vC 2))) 2 0) from (if_neg c2).trans ((if_neg c3).trans (rfl)))
  exact kM_zret (x := b2i true) C (b2i_nar _) hP hD hS ⟨by rw [hF], by rw [hF]⟩ dX3_ofSealing_45

theorem pnX3_ofBag : yX3_ofBag.cls ≠ "java/lang/invoke/MethodHandle" ∧ yX3_ofBag.cls ≠ "java/lang/invoke/VarHandle" ∧ (parseMethodDescriptor yX3_ofBag.desc).map (fun d => d.parameters.length) = some 2 := by decide +kernel
theorem ca_X3_ofBag : kCal yX3_ofBag (Cond.code yX3_ofBag cX3_ofBag 3 (some .boolean)) := ⟨k_w 3 68 rfl rfl, k_w 1 5 rfl rfl, k_w 2 4 rfl rfl, k_w 3 69 rfl rfl⟩

theorem pnX3_ofEmptying : yX3_ofEmptying.cls ≠ "java/lang/invoke/MethodHandle" ∧ yX3_ofEmptying.cls ≠ "java/lang/invoke/VarHandle" ∧ (parseMethodDescriptor yX3_ofEmptying.desc).map (fun d => d.parameters.length) = some 3 := by decide +kernel
theorem ca_X3_ofEmptying : kCal yX3_ofEmptying (Cond.code yX3_ofEmptying cX3_ofEmptying 5 (some .boolean)) := ⟨k_w 3 92 rfl rfl, k_w 1 11 rfl rfl, k_w 2 4 rfl rfl, k_w 3 93 rfl rfl⟩

theorem pnX3_ofFilling : yX3_ofFilling.cls ≠ "java/lang/invoke/MethodHandle" ∧ yX3_ofFilling.cls ≠ "java/lang/invoke/VarHandle" ∧ (parseMethodDescriptor yX3_ofFilling.desc).map (fun d => d.parameters.length) = some 4 := by decide +kernel
theorem ca_X3_ofFilling : kCal yX3_ofFilling (Cond.code yX3_ofFilling cX3_ofFilling 6 (some .boolean)) := ⟨k_w 3 72 rfl rfl, k_w 1 6 rfl rfl, k_w 2 4 rfl rfl, k_w 3 73 rfl rfl⟩

theorem pnX3_ofGoing : yX3_ofGoing.cls ≠ "java/lang/invoke/MethodHandle" ∧ yX3_ofGoing.cls ≠ "java/lang/invoke/VarHandle" ∧ (parseMethodDescriptor yX3_ofGoing.desc).map (fun d => d.parameters.length) = some 2 := by decide +kernel
theorem ca_X3_ofGoing : kCal yX3_ofGoing (Cond.code yX3_ofGoing cX3_ofGoing 3 (some .boolean)) := ⟨k_w 3 149 rfl rfl, k_w 1 22 rfl rfl, k_w 2 4 rfl rfl, k_w 3 150 rfl rfl⟩

theorem pnX3_ofJar : yX3_ofJar.cls ≠ "java/lang/invoke/MethodHandle" ∧ yX3_ofJar.cls ≠ "java/lang/invoke/VarHandle" ∧ (parseMethodDescriptor yX3_ofJar.desc).map (fun d => d.parameters.length) = some 3 := by decide +kernel
theorem ca_X3_ofJar : kCal yX3_ofJar (Cond.code yX3_ofJar cX3_ofJar 4 (some .boolean)) := ⟨k_w 3 57 rfl rfl, k_w 1 3 rfl rfl, k_w 2 4 rfl rfl, k_w 3 58 rfl rfl⟩

theorem pnX3_ofOath : yX3_ofOath.cls ≠ "java/lang/invoke/MethodHandle" ∧ yX3_ofOath.cls ≠ "java/lang/invoke/VarHandle" ∧ (parseMethodDescriptor yX3_ofOath.desc).map (fun d => d.parameters.length) = some 1 := by decide +kernel
theorem ca_X3_ofOath : kCal yX3_ofOath (Cond.code yX3_ofOath cX3_ofOath 2 (some .boolean)) := ⟨k_w 3 145 rfl rfl, k_w 1 21 rfl rfl, k_w 2 4 rfl rfl, k_w 3 146 rfl rfl⟩

theorem pnX3_ofSealing : yX3_ofSealing.cls ≠ "java/lang/invoke/MethodHandle" ∧ yX3_ofSealing.cls ≠ "java/lang/invoke/VarHandle" ∧ (parseMethodDescriptor yX3_ofSealing.desc).map (fun d => d.parameters.length) = some 2 := by decide +kernel
theorem ca_X3_ofSealing : kCal yX3_ofSealing (Cond.code yX3_ofSealing cX3_ofSealing 3 (some .boolean)) := ⟨k_w 3 156 rfl rfl, k_w 1 23 rfl rfl, k_w 2 4 rfl rfl, k_w 3 157 rfl rfl⟩

theorem pnX3_ofSelling : yX3_ofSelling.cls ≠ "java/lang/invoke/MethodHandle" ∧ yX3_ofSelling.cls ≠ "java/lang/invoke/VarHandle" ∧ (parseMethodDescriptor yX3_ofSelling.desc).map (fun d => d.parameters.length) = some 2 := by decide +kernel
theorem ca_X3_ofSelling : kCal yX3_ofSelling (Cond.code yX3_ofSelling cX3_ofSelling 5 (some .boolean)) := ⟨k_w 3 112 rfl rfl, k_w 1 16 rfl rfl, k_w 2 4 rfl rfl, k_w 3 113 rfl rfl⟩

theorem pnX3_ofThumb : yX3_ofThumb.cls ≠ "java/lang/invoke/MethodHandle" ∧ yX3_ofThumb.cls ≠ "java/lang/invoke/VarHandle" ∧ (parseMethodDescriptor yX3_ofThumb.desc).map (fun d => d.parameters.length) = some 2 := by decide +kernel
theorem ca_X3_ofThumb : kCal yX3_ofThumb (Cond.code yX3_ofThumb cX3_ofThumb 3 (some .boolean)) := ⟨k_w 3 96 rfl rfl, k_w 1 12 rfl rfl, k_w 2 4 rfl rfl, k_w 3 97 rfl rfl⟩

abbrev wX3_applies : List Cond := Cond.code yX3_applies cX3_applies 6 (some .boolean) :: kW
def X3_applies_f (vC : Nat → Int32) (aC : Nat → Nat → Int32) (vR : Nat → Int32) (aR : Nat → Nat → Int32) (p1 : Int32) (p2 : Int32) (p3 : Int32) (p4 : Int32) : Bool × (Nat → Int32) :=
  if p1 = 66 then ((X3_ofBag_f vC aC vR aR p2).1, (X3_ofBag_f vC aC vR aR p2).2)
  else if p1 = 74 then ((X3_ofJar_f vC aC vR aR p2 p3).1, (X3_ofJar_f vC aC vR aR p2 p3).2)
  else if p1 = 98 then ((X3_ofMissing_f vR aR (X0_hasBag_f vC aC p2) p2).1, (X3_ofMissing_f vR aR (X0_hasBag_f vC aC p2) p2).2)
  else if p1 = 101 then ((X3_ofEmptying_f vC aC vR aR p2 p3).1, (X3_ofEmptying_f vC aC vR aR p2 p3).2)
  else if p1 = 102 then ((X3_ofFilling_f vC aC vR aR p2 p3 p4).1, (X3_ofFilling_f vC aC vR aR p2 p3 p4).2)
  else if p1 = 103 then ((X3_ofGoing_f vC aC vR aR p2).1, (X3_ofGoing_f vC aC vR aR p2).2)
  else if p1 = 110 then (if p2 < 1 then (true, upd (upd (upd vR 0 1) 1 0) 2 0)
    else if p2 ≤ 60 then (false, vR)
    else (true, upd (upd (upd vR 0 1) 1 0) 2 0))
  else if p1 = 111 then ((X3_ofOath_f vC aC vR aR).1, (X3_ofOath_f vC aC vR aR).2)
  else if p1 = 115 then ((X3_ofSelling_f vC aC vR aR p2).1, (X3_ofSelling_f vC aC vR aR p2).2)
  else if p1 = 116 then ((X3_ofThumb_f vC aC vR aR p2).1, (X3_ofThumb_f vC aC vR aR p2).2)
  else if p1 = 119 then ((X3_ofMissing_f vR aR (X0_hasBag_f vC aC p2) p2).1, (X3_ofMissing_f vR aR (X0_hasBag_f vC aC p2) p2).2)
  else if p1 = 120 then ((X3_ofSealing_f vC aC vR aR p2).1, (X3_ofSealing_f vC aC vR aR p2).2)
  else (false, vR)
set_option maxHeartbeats 4000000 in
set_option maxRecDepth 100000 in
theorem X3_applies_c (l : Launch) (g : kG) (oC : Nat) (rC : Nat → Nat) (vC : Nat → Int32) (aC : Nat → Nat → Int32) (oR : Nat) (rR : Nat → Nat) (vR : Nat → Int32) (aR : Nat → Nat → Int32) (p1 : Int32) (p2 : Int32) (p3 : Int32) (p4 : Int32) (nb : Nat) (nj : Nat) (hnb : nb ≤ 6) (hv7 : vC 7 = nI nb) (hnj : nj ≤ 6) (hv4 : vC 4 = nI nj) (hM : vp_in (vC 1) 4) : kM l yX3_applies wX3_applies 4 92 0 0 g [.ref oR, .ref oC, .int p1, .int p2, .int p3, .int p4] [X0W g oC rC vC aC, X3W g oR rR vR aR] (fun x u => x = b2i (X3_applies_f vC aC vR aR p1 p2 p3 p4).1 ∧ u = [X0W g oC rC vC aC, X3W g oR rR ((X3_applies_f vC aC vR aR p1 p2 p3 p4).2) aR]) := by
  refine kM_of (cc := cX3_applies) (nL := 6) (ret := (some .boolean)) (lv := [(0, .ref oR), (1, .ref oC), (2, .int p1), (3, .int p2), (4, .int p3), (5, .int p4)]) (by decide) rfl (Nat.le_of_ble_eq_true rfl) rfl ?_
  intro p e s m args below meth c ls A C hP hD hE hA hS hl
  have C : kC p c cX3_applies s m args meth RX3 g 6 (some .boolean) := C
  have hx := C.1.1
  have hb := C.1.2.1
  have hts := C.1.2.2.2.2
  refine lv_iload_n hx hb dX3_applies_0 rfl (lv_at hl 2 rfl) ?_
  by_cases c1 : p1 = 66
  · refine lv_lookup (off := 116) (tgt := 117) hx hb dX3_applies_1 (by decide) (by rw [c1]; try rfl) (by decide) ?_
    refine lv_aload_n hx hb dX3_applies_117 rfl (lv_at hl 0 rfl) ?_
    refine lv_aload_n hx hb dX3_applies_118 rfl (lv_at hl 1 rfl) ?_
    refine lv_iload_n hx hb dX3_applies_119 rfl (lv_at hl 3 rfl) ?_
    refine kM_V (As := [.ref oC, .int p2]) (rest := []) (wr := []) C (X3_ofBag_c l g oC rC vC aC oR rR vR aR p2) (cwV 2 hts (k_gV kw374 ca_X3_ofBag) rfl rfl rfl ⟨rfl, pnX3_ofBag⟩ ⟨Nat.le_of_ble_eq_true rfl, Nat.le_of_ble_eq_true rfl⟩) hE hS hA hP hD [0, 1] [] rfl rfl ⟨rfl, rfl, by decide⟩ (k_recv C kFX3 hP (i := 1) (q := 0) rfl rfl) rfl hl.1 rfl rfl dX3_applies_120 ⟨Nat.le_of_ble_eq_true rfl, Nat.le_of_ble_eq_true rfl⟩ (fun r2 u2 H locs hp2 hP hD hS => ?_)
    obtain ⟨rfl, rfl⟩ := hp2
    have hP : kp g [X0W g oC rC vC aC, X3W g oR rR ((X3_ofBag_f vC aC vR aR p2).2) aR] H := hP
    have hD : kd A [X0W g oC rC vC aC, X3W g oR rR ((X3_ofBag_f vC aC vR aR p2).2) aR] := hD
    have hF := (show X3_applies_f vC aC vR aR p1 p2 p3 p4 = ((X3_ofBag_f vC aC vR aR p2).1, (X3_ofBag_f vC aC vR aR p2).2) from (if_pos c1).trans (rfl))
    exact kM_zret (x := b2i ((X3_ofBag_f vC aC vR aR p2).1)) C (b2i_nar _) hP hD hS ⟨by rw [hF], by rw [hF]⟩ dX3_applies_123
  by_cases c3 : p1 = 74
  · refine lv_lookup (off := 107) (tgt := 108) hx hb dX3_applies_1 (by decide) (by rw [c3]; try rfl) (by decide) ?_
    refine lv_aload_n hx hb dX3_applies_108 rfl (lv_at hl 0 rfl) ?_
    refine lv_aload_n hx hb dX3_applies_109 rfl (lv_at hl 1 rfl) ?_
    refine lv_iload_n hx hb dX3_applies_110 rfl (lv_at hl 3 rfl) ?_
    refine lv_iload hx hb dX3_applies_111 (lv_at hl 4 rfl) ?_
    refine kM_V (As := [.ref oC, .int p2, .int p3]) (rest := []) (wr := []) C (X3_ofJar_c l g oC rC vC aC oR rR vR aR p2 p3) (cwV 3 hts (k_gV kw363 ca_X3_ofJar) rfl rfl rfl ⟨rfl, pnX3_ofJar⟩ ⟨Nat.le_of_ble_eq_true rfl, Nat.le_of_ble_eq_true rfl⟩) hE hS hA hP hD [0, 1] [] rfl rfl ⟨rfl, rfl, by decide⟩ (k_recv C kFX3 hP (i := 1) (q := 0) rfl rfl) rfl hl.1 rfl rfl dX3_applies_113 ⟨Nat.le_of_ble_eq_true rfl, Nat.le_of_ble_eq_true rfl⟩ (fun r4 u4 H locs hp4 hP hD hS => ?_)
    obtain ⟨rfl, rfl⟩ := hp4
    have hP : kp g [X0W g oC rC vC aC, X3W g oR rR ((X3_ofJar_f vC aC vR aR p2 p3).2) aR] H := hP
    have hD : kd A [X0W g oC rC vC aC, X3W g oR rR ((X3_ofJar_f vC aC vR aR p2 p3).2) aR] := hD
    have hF := (show X3_applies_f vC aC vR aR p1 p2 p3 p4 = ((X3_ofJar_f vC aC vR aR p2 p3).1, (X3_ofJar_f vC aC vR aR p2 p3).2) from (if_neg c1).trans ((if_pos c3).trans (rfl)))
    exact kM_zret (x := b2i ((X3_ofJar_f vC aC vR aR p2 p3).1)) C (b2i_nar _) hP hD hS ⟨by rw [hF], by rw [hF]⟩ dX3_applies_116
  by_cases c5 : p1 = 98
  · refine lv_lookup (off := 143) (tgt := 144) hx hb dX3_applies_1 (by decide) (by rw [c5]; try rfl) (by decide) ?_
    refine lv_aload_n hx hb dX3_applies_144 rfl (lv_at hl 0 rfl) ?_
    refine lv_aload_n hx hb dX3_applies_145 rfl (lv_at hl 1 rfl) ?_
    refine lv_iload_n hx hb dX3_applies_146 rfl (lv_at hl 3 rfl) ?_
    refine kR_VN (As := [.int p2]) (rest := [.ref oR]) C (X0_hasBag_c l g oC rC vC aC p2) ⟨va_cnB (host := "SpiceScale") 1 hts (k_gI ca_X0_hasBag.2.2.2) rfl rfl rfl (C.2.1.2 _ (List.mem_of_getElem? (i := 46) rfl)) (hts _ ca_X0_hasBag.2.2.1) pnX0_hasBag ⟨Nat.le_of_ble_eq_true rfl, Nat.le_of_ble_eq_true rfl⟩, hts _ ca_X0_hasBag.1, hts _ ca_X0_hasBag.2.1⟩ hE hS (hP.pick [0] rfl) (k_recv C kFX0 hP (i := 0) (q := 0) rfl rfl) rfl hl.1 rfl rfl dX3_applies_147 ⟨Nat.le_of_ble_eq_true rfl, Nat.le_of_ble_eq_true rfl⟩ ?_
    refine lv_iload_n hx hb dX3_applies_150 rfl (lv_at hl 3 rfl) ?_
    refine kM_V (As := [.int (b2i (X0_hasBag_f vC aC p2)), .int p2]) (rest := []) (wr := [X0W g oC rC vC aC]) C (X3_ofMissing_c l g oR rR vR aR (X0_hasBag_f vC aC p2) p2) (cwV 2 hts (k_gV kw386 ca_X3_ofMissing) rfl rfl rfl ⟨rfl, pnX3_ofMissing⟩ ⟨Nat.le_of_ble_eq_true rfl, Nat.le_of_ble_eq_true rfl⟩) hE hS hA hP hD [1] [0] rfl rfl ⟨rfl, rfl, by decide⟩ (k_recv C kFX3 hP (i := 1) (q := 0) rfl rfl) rfl hl.1 rfl rfl dX3_applies_151 ⟨Nat.le_of_ble_eq_true rfl, Nat.le_of_ble_eq_true rfl⟩ (fun r6 u6 H locs hp6 hP hD hS => ?_)
    obtain ⟨rfl, rfl⟩ := hp6
    have hP : kp g [X0W g oC rC vC aC, X3W g oR rR ((X3_ofMissing_f vR aR (X0_hasBag_f vC aC p2) p2).2) aR] H := hP
    have hD : kd A [X0W g oC rC vC aC, X3W g oR rR ((X3_ofMissing_f vR aR (X0_hasBag_f vC aC p2) p2).2) aR] := hD
    have hF := (show X3_applies_f vC aC vR aR p1 p2 p3 p4 = ((X3_ofMissing_f vR aR (X0_hasBag_f vC aC p2) p2).1, (X3_ofMissing_f vR aR (X0_hasBag_f vC aC p2) p2).2) from (if_neg c1).trans ((if_neg c3).trans ((if_pos c5).trans (rfl))))
    exact kM_zret (x := b2i ((X3_ofMissing_f vR aR (X0_hasBag_f vC aC p2) p2).1)) C (b2i_nar _) hP hD hS ⟨by rw [hF], by rw [hF]⟩ dX3_applies_154
  by_cases c7 : p1 = 101
  · refine lv_lookup (off := 134) (tgt := 135) hx hb dX3_applies_1 (by decide) (by rw [c7]; try rfl) (by decide) ?_
    refine lv_aload_n hx hb dX3_applies_135 rfl (lv_at hl 0 rfl) ?_
    refine lv_aload_n hx hb dX3_applies_136 rfl (lv_at hl 1 rfl) ?_
    refine lv_iload_n hx hb dX3_applies_137 rfl (lv_at hl 3 rfl) ?_
    refine lv_iload hx hb dX3_applies_138 (lv_at hl 4 rfl) ?_
    refine kM_V (As := [.ref oC, .int p2, .int p3]) (rest := []) (wr := []) C (X3_ofEmptying_c l g oC rC vC aC oR rR vR aR p2 p3 nb nj (by first | assumption) (by first | assumption) (by first | assumption) (by first | assumption)) (cwV 3 hts (k_gV kw398 ca_X3_ofEmptying) rfl rfl rfl ⟨rfl, pnX3_ofEmptying⟩ ⟨Nat.le_of_ble_eq_true rfl, Nat.le_of_ble_eq_true rfl⟩) hE hS hA hP hD [0, 1] [] rfl rfl ⟨rfl, rfl, by decide⟩ (k_recv C kFX3 hP (i := 1) (q := 0) rfl rfl) rfl hl.1 rfl rfl dX3_applies_140 ⟨Nat.le_of_ble_eq_true rfl, Nat.le_of_ble_eq_true rfl⟩ (fun r8 u8 H locs hp8 hP hD hS => ?_)
    obtain ⟨rfl, rfl⟩ := hp8
    have hP : kp g [X0W g oC rC vC aC, X3W g oR rR ((X3_ofEmptying_f vC aC vR aR p2 p3).2) aR] H := hP
    have hD : kd A [X0W g oC rC vC aC, X3W g oR rR ((X3_ofEmptying_f vC aC vR aR p2 p3).2) aR] := hD
    have hF := (show X3_applies_f vC aC vR aR p1 p2 p3 p4 = ((X3_ofEmptying_f vC aC vR aR p2 p3).1, (X3_ofEmptying_f vC aC vR aR p2 p3).2) from (if_neg c1).trans ((if_neg c3).trans ((if_neg c5).trans ((if_pos c7).trans (rfl)))))
    exact kM_zret (x := b2i ((X3_ofEmptying_f vC aC vR aR p2 p3).1)) C (b2i_nar _) hP hD hS ⟨by rw [hF], by rw [hF]⟩ dX3_applies_143
  by_cases c9 : p1 = 102
  · refine lv_lookup (off := 123) (tgt := 124) hx hb dX3_applies_1 (by decide) (by rw [c9]; try rfl) (by decide) ?_
    refine lv_aload_n hx hb dX3_applies_124 rfl (lv_at hl 0 rfl) ?_
    refine lv_aload_n hx hb dX3_applies_125 rfl (lv_at hl 1 rfl) ?_
    refine lv_iload_n hx hb dX3_applies_126 rfl (lv_at hl 3 rfl) ?_
    refine lv_iload hx hb dX3_applies_127 (lv_at hl 4 rfl) ?_
    refine lv_iload hx hb dX3_applies_129 (lv_at hl 5 rfl) ?_
    refine kM_V (As := [.ref oC, .int p2, .int p3, .int p4]) (rest := []) (wr := []) C (X3_ofFilling_c l g oC rC vC aC oR rR vR aR p2 p3 p4 nb nj (by first | assumption) (by first | assumption) (by first | assumption) (by first | assumption)) (cwV 4 hts (k_gV kw378 ca_X3_ofFilling) rfl rfl rfl ⟨rfl, pnX3_ofFilling⟩ ⟨Nat.le_of_ble_eq_true rfl, Nat.le_of_ble_eq_true rfl⟩) hE hS hA hP hD [0, 1] [] rfl rfl ⟨rfl, rfl, by decide⟩ (k_recv C kFX3 hP (i := 1) (q := 0) rfl rfl) rfl hl.1 rfl rfl dX3_applies_131 ⟨Nat.le_of_ble_eq_true rfl, Nat.le_of_ble_eq_true rfl⟩ (fun r10 u10 H locs hp10 hP hD hS => ?_)
    obtain ⟨rfl, rfl⟩ := hp10
    have hP : kp g [X0W g oC rC vC aC, X3W g oR rR ((X3_ofFilling_f vC aC vR aR p2 p3 p4).2) aR] H := hP
    have hD : kd A [X0W g oC rC vC aC, X3W g oR rR ((X3_ofFilling_f vC aC vR aR p2 p3 p4).2) aR] := hD
    have hF := (show X3_applies_f vC aC vR aR p1 p2 p3 p4 = ((X3_ofFilling_f vC aC vR aR p2 p3 p4).1, (X3_ofFilling_f vC aC vR aR p2 p3 p4).2) from (if_neg c1).trans ((if_neg c3).trans ((if_neg c5).trans ((if_neg c7).trans ((if_pos c9).trans (rfl))))))
    exact kM_zret (x := b2i ((X3_ofFilling_f vC aC vR aR p2 p3 p4).1)) C (b2i_nar _) hP hD hS ⟨by rw [hF], by rw [hF]⟩ dX3_applies_134
  by_cases c11 : p1 = 103
  · refine lv_lookup (off := 185) (tgt := 186) hx hb dX3_applies_1 (by decide) (by rw [c11]; try rfl) (by decide) ?_
    refine lv_aload_n hx hb dX3_applies_186 rfl (lv_at hl 0 rfl) ?_
    refine lv_aload_n hx hb dX3_applies_187 rfl (lv_at hl 1 rfl) ?_
    refine lv_iload_n hx hb dX3_applies_188 rfl (lv_at hl 3 rfl) ?_
    refine kM_V (As := [.ref oC, .int p2]) (rest := []) (wr := []) C (X3_ofGoing_c l g oC rC vC aC oR rR vR aR p2) (cwV 2 hts (k_gV kw455 ca_X3_ofGoing) rfl rfl rfl ⟨rfl, pnX3_ofGoing⟩ ⟨Nat.le_of_ble_eq_true rfl, Nat.le_of_ble_eq_true rfl⟩) hE hS hA hP hD [0, 1] [] rfl rfl ⟨rfl, rfl, by decide⟩ (k_recv C kFX3 hP (i := 1) (q := 0) rfl rfl) rfl hl.1 rfl rfl dX3_applies_189 ⟨Nat.le_of_ble_eq_true rfl, Nat.le_of_ble_eq_true rfl⟩ (fun r12 u12 H locs hp12 hP hD hS => ?_)
    obtain ⟨rfl, rfl⟩ := hp12
    have hP : kp g [X0W g oC rC vC aC, X3W g oR rR ((X3_ofGoing_f vC aC vR aR p2).2) aR] H := hP
    have hD : kd A [X0W g oC rC vC aC, X3W g oR rR ((X3_ofGoing_f vC aC vR aR p2).2) aR] := hD
    have hF := (show X3_applies_f vC aC vR aR p1 p2 p3 p4 = ((X3_ofGoing_f vC aC vR aR p2).1, (X3_ofGoing_f vC aC vR aR p2).2) from (if_neg c1).trans ((if_neg c3).trans ((if_neg c5).trans ((if_neg c7).trans ((if_neg c9).trans ((if_pos c11).trans (rfl)))))))
    exact kM_zret (x := b2i ((X3_ofGoing_f vC aC vR aR p2).1)) C (b2i_nar _) hP hD hS ⟨by rw [hF], by rw [hF]⟩ dX3_applies_192
  by_cases c13 : p1 = 110
  · refine lv_lookup (off := 199) (tgt := 200) hx hb dX3_applies_1 (by decide) (by rw [c13]; try rfl) (by decide) ?_
    refine lv_aload_n hx hb dX3_applies_200 rfl (lv_at hl 0 rfl) ?_
    refine lv_iload_n hx hb dX3_applies_201 rfl (lv_at hl 3 rfl) ?_
    refine lv_iconst (v := 1) hx hb dX3_applies_202 (by decide) ?_
    refine lv_icmp_lt (tgt := 212) hx hb dX3_applies_203 (by decide) (fun c14 => ?_) (fun c14 => ?_)
    · refine lv_iconst (v := 1) hx hb dX3_applies_212 (by decide) ?_
      refine lv_goto (tgt := 217) hx hb dX3_applies_213 (by decide) ?_
      refine lv_iconst (v := 1) hx hb dX3_applies_217 (by decide) ?_
      refine lv_iconst (v := 0) hx hb dX3_applies_218 (by decide) ?_
      refine kM_V (As := [.int 1, .int 1, .int 0]) (rest := []) (wr := [X0W g oC rC vC aC]) C (X3_keepIf_c l g oR rR vR aR true 1 0) (cwV 3 hts (k_gV kw370 ca_X3_keepIf) rfl rfl rfl ⟨rfl, pnX3_keepIf⟩ ⟨Nat.le_of_ble_eq_true rfl, Nat.le_of_ble_eq_true rfl⟩) hE hS hA hP hD [1] [0] rfl rfl ⟨rfl, rfl, by decide⟩ (k_recv C kFX3 hP (i := 1) (q := 0) rfl rfl) rfl hl.1 rfl rfl dX3_applies_219 ⟨Nat.le_of_ble_eq_true rfl, Nat.le_of_ble_eq_true rfl⟩ (fun r15 u15 H locs hp15 hP hD hS => ?_)
      obtain ⟨er15, eu15⟩ := hp15
      have er15 : r15 = 1 := er15
      have eu15 : u15 = [X3W g oR rR (upd (upd (upd vR 0 1) 1 0) 2 0) aR] := eu15
      subst er15 eu15
      have hP : kp g [X0W g oC rC vC aC, X3W g oR rR (upd (upd (upd vR 0 1) 1 0) 2 0) aR] H := hP
      have hD : kd A [X0W g oC rC vC aC, X3W g oR rR (upd (upd (upd vR 0 1) 1 0) 2 0) aR] := hD
      have hF := (show X3_applies_f vC aC vR aR p1 p2 p3 p4 = (true, upd (upd (upd vR 0 1) 1 0) 2 0) from (if_neg c1).trans ((if_neg c3).trans ((if_neg c5).trans ((if_neg c7).trans ((if_neg c9).trans ((if_neg c11).trans ((if_pos c13).trans ((if_pos c14).trans (rfl)))))))))
      exact kM_zret (x := b2i true) C (b2i_nar _) hP hD hS ⟨by rw [hF], by rw [hF]⟩ dX3_applies_222
    refine lv_iload_n hx hb dX3_applies_206 rfl (lv_at hl 3 rfl) ?_
    refine lv_bipush (v := 60) hx hb dX3_applies_207 (by decide) ?_
    refine lv_icmp_le (tgt := 216) hx hb dX3_applies_209 (by decide) (fun c16 => ?_) (fun c16 => ?_)
    · refine lv_iconst (v := 0) hx hb dX3_applies_216 (by decide) ?_
      refine lv_iconst (v := 1) hx hb dX3_applies_217 (by decide) ?_
      refine lv_iconst (v := 0) hx hb dX3_applies_218 (by decide) ?_
      refine kM_V (As := [.int 0, .int 1, .int 0]) (rest := []) (wr := [X0W g oC rC vC aC]) C (X3_keepIf_c l g oR rR vR aR false 1 0) (cwV 3 hts (k_gV kw370 ca_X3_keepIf) rfl rfl rfl ⟨rfl, pnX3_keepIf⟩ ⟨Nat.le_of_ble_eq_true rfl, Nat.le_of_ble_eq_true rfl⟩) hE hS hA hP hD [1] [0] rfl rfl ⟨rfl, rfl, by decide⟩ (k_recv C kFX3 hP (i := 1) (q := 0) rfl rfl) rfl hl.1 rfl rfl dX3_applies_219 ⟨Nat.le_of_ble_eq_true rfl, Nat.le_of_ble_eq_true rfl⟩ (fun r17 u17 H locs hp17 hP hD hS => ?_)
      obtain ⟨er17, eu17⟩ := hp17
      have er17 : r17 = 0 := er17
      have eu17 : u17 = [X3W g oR rR vR aR] := eu17
      subst er17 eu17
      have hP : kp g [X0W g oC rC vC aC, X3W g oR rR vR aR] H := hP
      have hD : kd A [X0W g oC rC vC aC, X3W g oR rR vR aR] := hD
      have hF := (show X3_applies_f vC aC vR aR p1 p2 p3 p4 = (false, vR) from (if_neg c1).trans ((if_neg c3).trans ((if_neg c5).trans ((if_neg c7).trans ((if_neg c9).trans ((if_neg c11).trans ((if_pos c13).trans ((if_neg c14).trans ((if_pos c16).trans (rfl))))))))))
      exact kM_zret (x := b2i false) C (b2i_nar _) hP hD hS ⟨by rw [hF], by rw [hF]⟩ dX3_applies_222
    refine lv_iconst (v := 1) hx hb dX3_applies_212 (by decide) ?_
    refine lv_goto (tgt := 217) hx hb dX3_applies_213 (by decide) ?_
    refine lv_iconst (v := 1) hx hb dX3_applies_217 (by decide) ?_
    refine lv_iconst (v := 0) hx hb dX3_applies_218 (by decide) ?_
    refine kM_V (As := [.int 1, .int 1, .int 0]) (rest := []) (wr := [X0W g oC rC vC aC]) C (X3_keepIf_c l g oR rR vR aR true 1 0) (cwV 3 hts (k_gV kw370 ca_X3_keepIf) rfl rfl rfl ⟨rfl, pnX3_keepIf⟩ ⟨Nat.le_of_ble_eq_true rfl, Nat.le_of_ble_eq_true rfl⟩) hE hS hA hP hD [1] [0] rfl rfl ⟨rfl, rfl, by decide⟩ (k_recv C kFX3 hP (i := 1) (q := 0) rfl rfl) rfl hl.1 rfl rfl dX3_applies_219 ⟨Nat.le_of_ble_eq_true rfl, Nat.le_of_ble_eq_true rfl⟩ (fun r18 u18 H locs hp18 hP hD hS => ?_)
    obtain ⟨er18, eu18⟩ := hp18
    have er18 : r18 = 1 := er18
    have eu18 : u18 = [X3W g oR rR (upd (upd (upd vR 0 1) 1 0) 2 0) aR] := eu18
    subst er18 eu18
    have hP : kp g [X0W g oC rC vC aC, X3W g oR rR (upd (upd (upd vR 0 1) 1 0) 2 0) aR] H := hP
    have hD : kd A [X0W g oC rC vC aC, X3W g oR rR (upd (upd (upd vR 0 1) 1 0) 2 0) aR] := hD
    have hF := (show X3_applies_f vC aC vR aR p1 p2 p3 p4 = (true, upd (upd (upd vR 0 1) 1 0) 2 0) from (if_neg c1).trans ((if_neg c3).trans ((if_neg c5).trans ((if_neg c7).trans ((if_neg c9).trans ((if_neg c11).trans ((if_pos c13).trans ((if_neg c14).trans ((if_neg c16).trans (rfl))))))))))
    exact kM_zret (x := b2i true) C (b2i_nar _) hP hD hS ⟨by rw [hF], by rw [hF]⟩ dX3_applies_222
  by_cases c19 : p1 = 111
  · refine lv_lookup (off := 179) (tgt := 180) hx hb dX3_applies_1 (by decide) (by rw [c19]; try rfl) (by decide) ?_
    refine lv_aload_n hx hb dX3_applies_180 rfl (lv_at hl 0 rfl) ?_
    refine lv_aload_n hx hb dX3_applies_181 rfl (lv_at hl 1 rfl) ?_
    refine kM_V (As := [.ref oC]) (rest := []) (wr := []) C (X3_ofOath_c l g oC rC vC aC oR rR vR aR (by first | assumption)) (cwV 1 hts (k_gV kw451 ca_X3_ofOath) rfl rfl rfl ⟨rfl, pnX3_ofOath⟩ ⟨Nat.le_of_ble_eq_true rfl, Nat.le_of_ble_eq_true rfl⟩) hE hS hA hP hD [0, 1] [] rfl rfl ⟨rfl, rfl, by decide⟩ (k_recv C kFX3 hP (i := 1) (q := 0) rfl rfl) rfl hl.1 rfl rfl dX3_applies_182 ⟨Nat.le_of_ble_eq_true rfl, Nat.le_of_ble_eq_true rfl⟩ (fun r20 u20 H locs hp20 hP hD hS => ?_)
    obtain ⟨rfl, rfl⟩ := hp20
    have hP : kp g [X0W g oC rC vC aC, X3W g oR rR ((X3_ofOath_f vC aC vR aR).2) aR] H := hP
    have hD : kd A [X0W g oC rC vC aC, X3W g oR rR ((X3_ofOath_f vC aC vR aR).2) aR] := hD
    have hF := (show X3_applies_f vC aC vR aR p1 p2 p3 p4 = ((X3_ofOath_f vC aC vR aR).1, (X3_ofOath_f vC aC vR aR).2) from (if_neg c1).trans ((if_neg c3).trans ((if_neg c5).trans ((if_neg c7).trans ((if_neg c9).trans ((if_neg c11).trans ((if_neg c13).trans ((if_pos c19).trans (rfl)))))))))
    exact kM_zret (x := b2i ((X3_ofOath_f vC aC vR aR).1)) C (b2i_nar _) hP hD hS ⟨by rw [hF], by rw [hF]⟩ dX3_applies_185
  by_cases c21 : p1 = 115
  · refine lv_lookup (off := 172) (tgt := 173) hx hb dX3_applies_1 (by decide) (by rw [c21]; try rfl) (by decide) ?_
    refine lv_aload_n hx hb dX3_applies_173 rfl (lv_at hl 0 rfl) ?_
    refine lv_aload_n hx hb dX3_applies_174 rfl (lv_at hl 1 rfl) ?_
    refine lv_iload_n hx hb dX3_applies_175 rfl (lv_at hl 3 rfl) ?_
    refine kM_V (As := [.ref oC, .int p2]) (rest := []) (wr := []) C (X3_ofSelling_c l g oC rC vC aC oR rR vR aR p2 nb nj (by first | assumption) (by first | assumption) (by first | assumption) (by first | assumption) (by first | assumption)) (cwV 2 hts (k_gV kw418 ca_X3_ofSelling) rfl rfl rfl ⟨rfl, pnX3_ofSelling⟩ ⟨Nat.le_of_ble_eq_true rfl, Nat.le_of_ble_eq_true rfl⟩) hE hS hA hP hD [0, 1] [] rfl rfl ⟨rfl, rfl, by decide⟩ (k_recv C kFX3 hP (i := 1) (q := 0) rfl rfl) rfl hl.1 rfl rfl dX3_applies_176 ⟨Nat.le_of_ble_eq_true rfl, Nat.le_of_ble_eq_true rfl⟩ (fun r22 u22 H locs hp22 hP hD hS => ?_)
    obtain ⟨rfl, rfl⟩ := hp22
    have hP : kp g [X0W g oC rC vC aC, X3W g oR rR ((X3_ofSelling_f vC aC vR aR p2).2) aR] H := hP
    have hD : kd A [X0W g oC rC vC aC, X3W g oR rR ((X3_ofSelling_f vC aC vR aR p2).2) aR] := hD
    have hF := (show X3_applies_f vC aC vR aR p1 p2 p3 p4 = ((X3_ofSelling_f vC aC vR aR p2).1, (X3_ofSelling_f vC aC vR aR p2).2) from (if_neg c1).trans ((if_neg c3).trans ((if_neg c5).trans ((if_neg c7).trans ((if_neg c9).trans ((if_neg c11).trans ((if_neg c13).trans ((if_neg c19).trans ((if_pos c21).trans (rfl))))))))))
    exact kM_zret (x := b2i ((X3_ofSelling_f vC aC vR aR p2).1)) C (b2i_nar _) hP hD hS ⟨by rw [hF], by rw [hF]⟩ dX3_applies_179
  by_cases c23 : p1 = 116
  · refine lv_lookup (off := 154) (tgt := 155) hx hb dX3_applies_1 (by decide) (by rw [c23]; try rfl) (by decide) ?_
    refine lv_aload_n hx hb dX3_applies_155 rfl (lv_at hl 0 rfl) ?_
    refine lv_aload_n hx hb dX3_applies_156 rfl (lv_at hl 1 rfl) ?_
    refine lv_iload_n hx hb dX3_applies_157 rfl (lv_at hl 3 rfl) ?_
    refine kM_V (As := [.ref oC, .int p2]) (rest := []) (wr := []) C (X3_ofThumb_c l g oC rC vC aC oR rR vR aR p2 (by first | assumption)) (cwV 2 hts (k_gV kw402 ca_X3_ofThumb) rfl rfl rfl ⟨rfl, pnX3_ofThumb⟩ ⟨Nat.le_of_ble_eq_true rfl, Nat.le_of_ble_eq_true rfl⟩) hE hS hA hP hD [0, 1] [] rfl rfl ⟨rfl, rfl, by decide⟩ (k_recv C kFX3 hP (i := 1) (q := 0) rfl rfl) rfl hl.1 rfl rfl dX3_applies_158 ⟨Nat.le_of_ble_eq_true rfl, Nat.le_of_ble_eq_true rfl⟩ (fun r24 u24 H locs hp24 hP hD hS => ?_)
    obtain ⟨rfl, rfl⟩ := hp24
    have hP : kp g [X0W g oC rC vC aC, X3W g oR rR ((X3_ofThumb_f vC aC vR aR p2).2) aR] H := hP
    have hD : kd A [X0W g oC rC vC aC, X3W g oR rR ((X3_ofThumb_f vC aC vR aR p2).2) aR] := hD
    have hF := (show X3_applies_f vC aC vR aR p1 p2 p3 p4 = ((X3_ofThumb_f vC aC vR aR p2).1, (X3_ofThumb_f vC aC vR aR p2).2) from (if_neg c1).trans ((if_neg c3).trans ((if_neg c5).trans ((if_neg c7).trans ((if_neg c9).trans ((if_neg c11).trans ((if_neg c13).trans ((if_neg c19).trans ((if_neg c21).trans ((if_pos c23).trans (rfl)))))))))))
    exact kM_zret (x := b2i ((X3_ofThumb_f vC aC vR aR p2).1)) C (b2i_nar _) hP hD hS ⟨by rw [hF], by rw [hF]⟩ dX3_applies_161
  by_cases c25 : p1 = 119
  · refine lv_lookup (off := 161) (tgt := 162) hx hb dX3_applies_1 (by decide) (by rw [c25]; try rfl) (by decide) ?_
    refine lv_aload_n hx hb dX3_applies_162 rfl (lv_at hl 0 rfl) ?_
    refine lv_aload_n hx hb dX3_applies_163 rfl (lv_at hl 1 rfl) ?_
    refine lv_iload_n hx hb dX3_applies_164 rfl (lv_at hl 3 rfl) ?_
    refine kR_VN (As := [.int p2]) (rest := [.ref oR]) C (X0_hasBag_c l g oC rC vC aC p2) ⟨va_cnB (host := "SpiceScale") 1 hts (k_gI ca_X0_hasBag.2.2.2) rfl rfl rfl (C.2.1.2 _ (List.mem_of_getElem? (i := 46) rfl)) (hts _ ca_X0_hasBag.2.2.1) pnX0_hasBag ⟨Nat.le_of_ble_eq_true rfl, Nat.le_of_ble_eq_true rfl⟩, hts _ ca_X0_hasBag.1, hts _ ca_X0_hasBag.2.1⟩ hE hS (hP.pick [0] rfl) (k_recv C kFX0 hP (i := 0) (q := 0) rfl rfl) rfl hl.1 rfl rfl dX3_applies_165 ⟨Nat.le_of_ble_eq_true rfl, Nat.le_of_ble_eq_true rfl⟩ ?_
    refine lv_iload_n hx hb dX3_applies_168 rfl (lv_at hl 3 rfl) ?_
    refine kM_V (As := [.int (b2i (X0_hasBag_f vC aC p2)), .int p2]) (rest := []) (wr := [X0W g oC rC vC aC]) C (X3_ofMissing_c l g oR rR vR aR (X0_hasBag_f vC aC p2) p2) (cwV 2 hts (k_gV kw386 ca_X3_ofMissing) rfl rfl rfl ⟨rfl, pnX3_ofMissing⟩ ⟨Nat.le_of_ble_eq_true rfl, Nat.le_of_ble_eq_true rfl⟩) hE hS hA hP hD [1] [0] rfl rfl ⟨rfl, rfl, by decide⟩ (k_recv C kFX3 hP (i := 1) (q := 0) rfl rfl) rfl hl.1 rfl rfl dX3_applies_169 ⟨Nat.le_of_ble_eq_true rfl, Nat.le_of_ble_eq_true rfl⟩ (fun r26 u26 H locs hp26 hP hD hS => ?_)
    obtain ⟨rfl, rfl⟩ := hp26
    have hP : kp g [X0W g oC rC vC aC, X3W g oR rR ((X3_ofMissing_f vR aR (X0_hasBag_f vC aC p2) p2).2) aR] H := hP
    have hD : kd A [X0W g oC rC vC aC, X3W g oR rR ((X3_ofMissing_f vR aR (X0_hasBag_f vC aC p2) p2).2) aR] := hD
    have hF := (show X3_applies_f vC aC vR aR p1 p2 p3 p4 = ((X3_ofMissing_f vR aR (X0_hasBag_f vC aC p2) p2).1, (X3_ofMissing_f vR aR (X0_hasBag_f vC aC p2) p2).2) from (if_neg c1).trans ((if_neg c3).trans ((if_neg c5).trans ((if_neg c7).trans ((if_neg c9).trans ((if_neg c11).trans ((if_neg c13).trans ((if_neg c19).trans ((if_neg c21).trans ((if_neg c23).trans ((if_pos c25).trans (rfl))))))))))))
    exact kM_zret (x := b2i ((X3_ofMissing_f vR aR (X0_hasBag_f vC aC p2) p2).1)) C (b2i_nar _) hP hD hS ⟨by rw [hF], by rw [hF]⟩ dX3_applies_172
  by_cases c27 : p1 = 120
  · refine lv_lookup (off := 192) (tgt := 193) hx hb dX3_applies_1 (by decide) (by rw [c27]; try rfl) (by decide) ?_
    refine lv_aload_n hx hb dX3_applies_193 rfl (lv_at hl 0 rfl) ?_
    refine lv_aload_n hx hb dX3_applies_194 rfl (lv_at hl 1 rfl) ?_
    refine lv_iload_n hx hb dX3_applies_195 rfl (lv_at hl 3 rfl) ?_
    refine kM_V (As := [.ref oC, .int p2]) (rest := []) (wr := []) C (X3_ofSealing_c l g oC rC vC aC oR rR vR aR p2) (cwV 2 hts (k_gV kw462 ca_X3_ofSealing) rfl rfl rfl ⟨rfl, pnX3_ofSealing⟩ ⟨Nat.le_of_ble_eq_true rfl, Nat.le_of_ble_eq_true rfl⟩) hE hS hA hP hD [0, 1] [] rfl rfl ⟨rfl, rfl, by decide⟩ (k_recv C kFX3 hP (i := 1) (q := 0) rfl rfl) rfl hl.1 rfl rfl dX3_applies_196 ⟨Nat.le_of_ble_eq_true rfl, Nat.le_of_ble_eq_true rfl⟩ (fun r28 u28 H locs hp28 hP hD hS => ?_)
    obtain ⟨rfl, rfl⟩ := hp28
    have hP : kp g [X0W g oC rC vC aC, X3W g oR rR ((X3_ofSealing_f vC aC vR aR p2).2) aR] H := hP
    have hD : kd A [X0W g oC rC vC aC, X3W g oR rR ((X3_ofSealing_f vC aC vR aR p2).2) aR] := hD
    have hF := (show X3_applies_f vC aC vR aR p1 p2 p3 p4 = ((X3_ofSealing_f vC aC vR aR p2).1, (X3_ofSealing_f vC aC vR aR p2).2) from (if_neg c1).trans ((if_neg c3).trans ((if_neg c5).trans ((if_neg c7).trans ((if_neg c9).trans ((if_neg c11).trans ((if_neg c13).trans ((if_neg c19).trans ((if_neg c21).trans ((if_neg c23).trans ((if_neg c25).trans ((if_pos c27).trans (rfl)))))))))))))
    exact kM_zret (x := b2i ((X3_ofSealing_f vC aC vR aR p2).1)) C (b2i_nar _) hP hD hS ⟨by rw [hF], by rw [hF]⟩ dX3_applies_199
  refine lv_lookup (off := 222) (tgt := 223) hx hb dX3_applies_1 (by decide) (by show Op.lookupswitch.offset [(66, 116), (74, 107), (98, 143), (101, 134), (102, 123), (103, 185), (110, 199), (111, 179), (115, 172), (116, 154), (119, 161), (120, 192)] 222 _ = _; rw [lv_osw (a := 66) c1 (by decide), lv_osw (a := 74) c3 (by decide), lv_osw (a := 98) c5 (by decide), lv_osw (a := 101) c7 (by decide), lv_osw (a := 102) c9 (by decide), lv_osw (a := 103) c11 (by decide), lv_osw (a := 110) c13 (by decide), lv_osw (a := 111) c19 (by decide), lv_osw (a := 115) c21 (by decide), lv_osw (a := 116) c23 (by decide), lv_osw (a := 119) c25 (by decide), lv_osw (a := 120) c27 (by decide)]; try rfl) (by decide) ?_
  refine lv_iconst (v := 0) hx hb dX3_applies_223 (by decide) ?_
  have hF := (show X3_applies_f vC aC vR aR p1 p2 p3 p4 = (false, vR) from (if_neg c1).trans ((if_neg c3).trans ((if_neg c5).trans ((if_neg c7).trans ((if_neg c9).trans ((if_neg c11).trans ((if_neg c13).trans ((if_neg c19).trans ((if_neg c21).trans ((if_neg c23).trans ((if_neg c25).trans ((if_neg c27).trans (rfl)))))))))))))
  exact kM_zret (x := b2i false) C (b2i_nar _) hP hD hS ⟨by rw [hF], by rw [hF]⟩ dX3_applies_224
