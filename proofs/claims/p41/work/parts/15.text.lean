/-- the text: how long, and where it is read -/
def kOK1 (v : Nat → Int32) : Prop := ∃ ln ps : Nat, ps ≤ ln ∧ ln ≤ 60 ∧ v 1 = nI ln ∧ v 2 = nI ps
def kMe1 (v : Nat → Int32) : Nat := (v 1).toNatClampNeg - (v 2).toNatClampNeg
theorem k_lt1 {v : Nat → Int32} (h : kOK1 v) (c : ¬ v 1 ≤ v 2) : ∃ ln ps : Nat, ps < ln ∧ ln ≤ 60 ∧ v 1 = nI ln ∧ v 2 = nI ps := by
  obtain ⟨ln, ps, h1, h2, h3, h4⟩ := h
  refine ⟨ln, ps, ?_, h2, h3, h4⟩
  rw [h3, h4] at c
  rcases Nat.lt_or_ge ps ln with h | h
  · exact h
  · exact absurd ((nI_leI (by omega) (by omega)).mpr h) c
theorem k_in60 {v : Nat → Int32} (h : kOK1 v) (c : ¬ v 1 ≤ v 2) : vp_in (v 2) 60 := by
  obtain ⟨ln, ps, h1, h2, h3, h4⟩ := k_lt1 h c
  rw [h4]; exact vp_in_nI (by omega) (by omega)
theorem k_okUp {v : Nat → Int32} (h : kOK1 v) (c : ¬ v 1 ≤ v 2) : kOK1 (upd v 2 (v 2 + 1)) := by
  obtain ⟨ln, ps, h1, h2, h3, h4⟩ := k_lt1 h c
  exact ⟨ln, ps + 1, h1, h2, h3, by show v 2 + 1 = _; rw [h4]; exact nI_1 ps⟩
theorem k_okRead {v : Nat → Int32} {x : Int32} (h : kOK1 v) (c : ¬ v 1 ≤ v 2) : kOK1 (upd (upd v 3 x) 2 (v 2 + 1)) := by
  obtain ⟨ln, ps, h1, h2, h3, h4⟩ := k_lt1 h c
  exact ⟨ln, ps + 1, h1, h2, h3, by show v 2 + 1 = _; rw [h4]; exact nI_1 ps⟩
theorem k_okAct {v : Nat → Int32} {x : Int32} (h : kOK1 v) : kOK1 (upd v 3 x) := h
theorem k_ok0 {v : Nat → Int32} (h : kOK1 v) : kOK1 (upd v 2 0) := by
  obtain ⟨ln, ps, h1, h2, h3, h4⟩ := h
  exact ⟨ln, 0, by omega, h2, h3, rfl⟩
theorem k_ok0L {v : Nat → Int32} (h : ∃ n : Nat, n ≤ 60 ∧ v 1 = nI n) : kOK1 (upd v 2 0) := by
  obtain ⟨ln, h1, h2⟩ := h
  exact ⟨ln, 0, by omega, h1, h2, rfl⟩
theorem k_meUp {v : Nat → Int32} {n : Nat} (h : kOK1 v) (c : ¬ v 1 ≤ v 2) (hn : kMe1 v < n + 1) : kMe1 (upd v 2 (v 2 + 1)) < n := by
  obtain ⟨ln, ps, h1, h2, h3, h4⟩ := k_lt1 h c
  unfold kMe1 at hn ⊢
  show (v 1).toNatClampNeg - (v 2 + 1).toNatClampNeg < n
  rw [h3, h4] at hn ⊢
  rw [nI_1, nI_clamp (by omega), nI_clamp (by omega)] at *
  omega
theorem k_me61 {v : Nat → Int32} (h : kOK1 v) : kMe1 v < 61 := by
  obtain ⟨ln, ps, h1, h2, h3, h4⟩ := h
  unfold kMe1
  rw [h3, nI_clamp (by omega)]
  omega
theorem k_c3 {x : Int32} (h : ∃ k : Nat, k ≤ 3 ∧ x = nI k) (c : ¬ 3 ≤ x) : vp_in x 3 ∧ ∃ k : Nat, k ≤ 3 ∧ x + 1 = nI k := by
  obtain ⟨k, hk, rfl⟩ := h
  have h1 : k < 3 := by
    rcases Nat.lt_or_ge k 3 with h | h
    · exact h
    · exact absurd ((nI_leI (a := 3) (by omega) (by omega)).mpr h) c
  exact ⟨vp_in_nI h1 (by omega), k + 1, by omega, nI_1 k⟩
theorem k_le60 {x : Int32} {j : Nat} (hx : x = nI j) (hj : j ≤ 61) (c : ¬ 60 < x) : j ≤ 60 := by
  rcases Nat.lt_or_ge 60 j with h | h
  · exact absurd ((nI_ltI (a := 60) (by omega) (by omega)).mpr h) (by rw [hx] at c; exact c)
  · exact h

theorem kw246 : Cond.fieldLink RX1 9 "SpiceScale$CommandText" "characters" "[C" ∈ kW := k_w 2 178 rfl rfl
theorem kw248 : Cond.fieldLink RX1 27 "SpiceScale$CommandText" "length" "I" ∈ kW := k_w 2 180 rfl rfl
theorem kw250 : Cond.fieldLink RX1 19 "SpiceScale$CommandText" "position" "I" ∈ kW := k_w 2 182 rfl rfl
theorem kw252 : Cond.fieldLink RX1 34 "SpiceScale$CommandText" "action" "I" ∈ kW := k_w 2 184 rfl rfl
theorem kw254 : Cond.fieldLink RX1 15 "SpiceScale$CommandText" "numbers" "[I" ∈ kW := k_w 2 186 rfl rfl
theorem kw876 : Cond.methodLink RX1 23 yX1_readCommand ∈ kW := k_w 5 88 rfl rfl
theorem kw880 : Cond.methodLink RX1 30 yX1_readCharacter ∈ kW := k_w 5 92 rfl rfl
theorem kw884 : Cond.methodLink RX1 37 yX1_formBehind ∈ kW := k_w 5 96 rfl rfl
theorem kw892 : Cond.methodLink RX1 41 yX1_readForm ∈ kW := k_w 5 104 rfl rfl
theorem kw896 : Cond.methodLink RX1 55 yJ0_length_8abf5 ∈ kW := k_w 5 108 rfl rfl
theorem kw905 : Cond.methodLink RX1 60 yJ0_charAt_5068e ∈ kW := k_w 5 117 rfl rfl
theorem kw943 : Cond.methodLink RX1 64 yX1_isDigit ∈ kW := k_w 5 155 rfl rfl
theorem kw946 : Cond.methodLink RX1 67 yX1_readNumber ∈ kW := k_w 5 158 rfl rfl
abbrev wX1_isDigit : List Cond := Cond.code yX1_isDigit cX1_isDigit 1 (some .boolean) :: kW
def X1_isDigit_f (p0 : Int32) : Bool :=
  if p0 < 48 then false
  else if 57 < p0 then false
  else true
set_option maxHeartbeats 4000000 in
set_option maxRecDepth 100000 in
theorem X1_isDigit_c (l : Launch) (g : kG) (p0 : Int32) : kR l yX1_isDigit wX1_isDigit 0 0 g [.int p0] [] (b2i (X1_isDigit_f p0)) := by
  refine kR_of (cc := cX1_isDigit) (nL := 1) (ret := (some .boolean)) (lv := [(0, .int p0)]) (by decide) rfl (Nat.le_of_ble_eq_true rfl) rfl ?_
  intro p e s m args below meth c ls C hP hE hl
  have hS : va_S (fun _ => False) s.heap s.heap [] := va_S.rf
  have C : kC p c cX1_isDigit s m args meth RX1 g 1 (some .boolean) := C
  have hx := C.1.1
  have hb := C.1.2.1
  have hts := C.1.2.2.2.2
  refine lv_iload_n hx hb dX1_isDigit_0 rfl (lv_at hl 0 rfl) ?_
  refine lv_bipush (v := 48) hx hb dX1_isDigit_1 (by decide) ?_
  refine lv_icmp_lt (tgt := 16) hx hb dX1_isDigit_3 (by decide) (fun c1 => ?_) (fun c1 => ?_)
  · refine lv_iconst (v := 0) hx hb dX1_isDigit_16 (by decide) ?_
    exact kR_zret (x := b2i false) C (b2i_nar _) (congrArg b2i (show X1_isDigit_f p0 = false from (if_pos c1).trans (rfl)).symm) dX1_isDigit_17
  refine lv_iload_n hx hb dX1_isDigit_6 rfl (lv_at hl 0 rfl) ?_
  refine lv_bipush (v := 57) hx hb dX1_isDigit_7 (by decide) ?_
  refine lv_icmp_gt (tgt := 16) hx hb dX1_isDigit_9 (by decide) (fun c2 => ?_) (fun c2 => ?_)
  · refine lv_iconst (v := 0) hx hb dX1_isDigit_16 (by decide) ?_
    exact kR_zret (x := b2i false) C (b2i_nar _) (congrArg b2i (show X1_isDigit_f p0 = false from (if_neg c1).trans ((if_pos c2).trans (rfl))).symm) dX1_isDigit_17
  refine lv_iconst (v := 1) hx hb dX1_isDigit_12 (by decide) ?_
  refine lv_goto (tgt := 17) hx hb dX1_isDigit_13 (by decide) ?_
  exact kR_zret (x := b2i true) C (b2i_nar _) (congrArg b2i (show X1_isDigit_f p0 = true from (if_neg c1).trans ((if_neg c2).trans (rfl))).symm) dX1_isDigit_17

abbrev wX1_readCharacter : List Cond := Cond.code yX1_readCharacter cX1_readCharacter 2 (some .boolean) :: kW
def X1_readCharacter_f (vT : Nat → Int32) (aT : Nat → Nat → Int32) (p0 : Int32) : Bool × (Nat → Int32) :=
  if (vT 1) ≤ (vT 2) then (false, vT)
  else if ((aT 0) (vT 2).toNatClampNeg) = p0 then (true, upd vT 2 ((vT 2) + 1))
  else (false, vT)
set_option maxHeartbeats 4000000 in
set_option maxRecDepth 100000 in
theorem X1_readCharacter_c (l : Launch) (g : kG) (oT : Nat) (rT : Nat → Nat) (vT : Nat → Int32) (aT : Nat → Nat → Int32) (p0 : Int32) (hok : kOK1 vT) : kM l yX1_readCharacter wX1_readCharacter 0 0 0 0 g [.ref oT, .int p0] [X1W g oT rT vT aT] (fun x u => x = b2i (X1_readCharacter_f vT aT p0).1 ∧ u = [X1W g oT rT ((X1_readCharacter_f vT aT p0).2) aT]) := by
  refine kM_of (cc := cX1_readCharacter) (nL := 2) (ret := (some .boolean)) (lv := [(0, .ref oT), (1, .int p0)]) (by decide) rfl (Nat.le_of_ble_eq_true rfl) rfl ?_
  intro p e s m args below meth c ls A C hP hD hE hA hS hl
  have C : kC p c cX1_readCharacter s m args meth RX1 g 2 (some .boolean) := C
  have hx := C.1.1
  have hb := C.1.2.1
  have hts := C.1.2.2.2.2
  refine lv_aload_n hx hb dX1_readCharacter_0 rfl (lv_at hl 0 rfl) ?_
  refine kg_get C kFX1 (k := 2) kw250 hP (i := 0) (q := 0) rfl rfl (by decide) rfl dX1_readCharacter_1 ?_
  refine lv_aload_n hx hb dX1_readCharacter_4 rfl (lv_at hl 0 rfl) ?_
  refine kg_get C kFX1 (k := 1) kw248 hP (i := 0) (q := 0) rfl rfl (by decide) rfl dX1_readCharacter_5 ?_
  refine lv_icmp_ge (tgt := 24) hx hb dX1_readCharacter_8 (by decide) (fun c1 => ?_) (fun c1 => ?_)
  · refine lv_iconst (v := 0) hx hb dX1_readCharacter_24 (by decide) ?_
    have hF := (show X1_readCharacter_f vT aT p0 = (false, vT) from (if_pos c1).trans (rfl))
    exact kM_zret (x := b2i false) C (b2i_nar _) hP hD hS ⟨by rw [hF], by rw [hF]⟩ dX1_readCharacter_25
  have z1 := k_in60 hok c1
  refine lv_aload_n hx hb dX1_readCharacter_11 rfl (lv_at hl 0 rfl) ?_
  refine kg_get C kFX1 (k := 0) kw246 hP (i := 0) (q := 0) rfl rfl (by decide) rfl dX1_readCharacter_12 ?_
  refine lv_aload_n hx hb dX1_readCharacter_15 rfl (lv_at hl 0 rfl) ?_
  refine kg_get C kFX1 (k := 2) kw250 hP (i := 0) (q := 0) rfl rfl (by decide) rfl dX1_readCharacter_16 ?_
  refine kg_cald C hP (i := 0) (q := 1) rfl rfl (by first | assumption) dX1_readCharacter_19 ?_
  refine lv_iload_n hx hb dX1_readCharacter_20 rfl (lv_at hl 1 rfl) ?_
  refine lv_icmp_eq (tgt := 26) hx hb dX1_readCharacter_21 (by decide) (fun c2 => ?_) (fun c2 => ?_)
  · refine lv_aload_n hx hb dX1_readCharacter_26 rfl (lv_at hl 0 rfl) ?_
    refine lv_dup hx hb dX1_readCharacter_27 rfl ?_
    refine kg_get C kFX1 (k := 2) kw250 hP (i := 0) (q := 0) rfl rfl (by decide) rfl dX1_readCharacter_28 ?_
    refine lv_iconst (v := 1) hx hb dX1_readCharacter_31 (by decide) ?_
    refine lv_iadd hx hb dX1_readCharacter_32 ?_
    refine kg_put C kFX1 (k := 2) kw250 hP hD hS (i := 0) (q := 0) rfl rfl (by decide) rfl rfl rfl (Nat.le_of_ble_eq_true rfl) X1s_2 rfl dX1_readCharacter_33 (fun H locs hP hD hS => ?_)
    have hP : kp g [X1W g oT rT (upd vT 2 ((vT 2) + 1)) aT] H := hP
    have hD : kd A [X1W g oT rT (upd vT 2 ((vT 2) + 1)) aT] := hD
    refine lv_iconst (v := 1) hx hb dX1_readCharacter_36 (by decide) ?_
    have hF := (show X1_readCharacter_f vT aT p0 = (true, upd vT 2 ((vT 2) + 1)) from (if_neg c1).trans ((if_pos c2).trans (rfl)))
    exact kM_zret (x := b2i true) C (b2i_nar _) hP hD hS ⟨by rw [hF], by rw [hF]⟩ dX1_readCharacter_37
  refine lv_iconst (v := 0) hx hb dX1_readCharacter_24 (by decide) ?_
  have hF := (show X1_readCharacter_f vT aT p0 = (false, vT) from (if_neg c1).trans ((if_neg c2).trans (rfl)))
  exact kM_zret (x := b2i false) C (b2i_nar _) hP hD hS ⟨by rw [hF], by rw [hF]⟩ dX1_readCharacter_25
theorem X1_readCharacter_ok {vT : Nat → Int32} {aT : Nat → Nat → Int32} {p0 : Int32} (h : kOK1 vT) : kOK1 (X1_readCharacter_f vT aT p0).2 := by
  unfold X1_readCharacter_f
  split
  · exact h
  · rename_i c
    split
    · exact k_okUp h c
    · exact h

theorem pnX1_isDigit : yX1_isDigit.cls ≠ "java/lang/invoke/MethodHandle" ∧ yX1_isDigit.cls ≠ "java/lang/invoke/VarHandle" ∧ (parseMethodDescriptor yX1_isDigit.desc).map (fun d => d.parameters.length) = some 1 := by decide +kernel
theorem cs_X1_isDigit : kCst yX1_isDigit (Cond.code yX1_isDigit cX1_isDigit 1 (some .boolean)) := ⟨k_w 5 156 rfl rfl, k_w 2 5 rfl rfl, k_w 5 157 rfl rfl⟩

abbrev wX1_readNumber : List Cond := Cond.code yX1_readNumber cX1_readNumber 5 (some .boolean) :: kW
def X1_readNumber_lp5b (vT : Nat → Int32) (aT : Nat → Nat → Int32) (p0 : Int32) (p1 : Int32) (rec : Int32 → Int32 → (Nat → Int32) → (Bool × (Nat → Int32) × (Nat → Nat → Int32))) (x3_5 x4_5 : Int32) (vT5 : Nat → Int32) : Bool × (Nat → Int32) × (Nat → Nat → Int32) :=
  if p1 ≤ x4_5 then (if x4_5 ≤ 0 then (false, vT5, va_up aT 4 (upd (aT 4) p0.toNatClampNeg x3_5))
    else (true, vT5, va_up aT 4 (upd (aT 4) p0.toNatClampNeg x3_5)))
  else if (vT5 1) ≤ (vT5 2) then (if x4_5 ≤ 0 then (false, vT5, va_up aT 4 (upd (aT 4) p0.toNatClampNeg x3_5))
    else (true, vT5, va_up aT 4 (upd (aT 4) p0.toNatClampNeg x3_5)))
  else if (X1_isDigit_f ((aT 0) (vT5 2).toNatClampNeg)) = true then rec ((10 * x3_5) + (((aT 0) (vT5 2).toNatClampNeg) - 48)) (x4_5 + 1) (upd vT5 2 ((vT5 2) + 1))
  else if x4_5 ≤ 0 then (false, vT5, va_up aT 4 (upd (aT 4) p0.toNatClampNeg x3_5))
  else (true, vT5, va_up aT 4 (upd (aT 4) p0.toNatClampNeg x3_5))
def X1_readNumber_lp5 (vT : Nat → Int32) (aT : Nat → Nat → Int32) (p0 : Int32) (p1 : Int32) : Nat → Int32 → Int32 → (Nat → Int32) → (Bool × (Nat → Int32) × (Nat → Nat → Int32))
  | 0 => fun x3_5 x4_5 vT5 => (false, vT5, aT)
  | n + 1 => X1_readNumber_lp5b vT aT p0 p1 (X1_readNumber_lp5 vT aT p0 p1 n)
theorem X1_readNumber_lp5_s (vT : Nat → Int32) (aT : Nat → Nat → Int32) (p0 : Int32) (p1 : Int32) (n : Nat) (x3_5 x4_5 : Int32) (vT5 : Nat → Int32) : X1_readNumber_lp5 vT aT p0 p1 (n + 1) x3_5 x4_5 vT5 = X1_readNumber_lp5b vT aT p0 p1 (X1_readNumber_lp5 vT aT p0 p1 n) x3_5 x4_5 vT5 := rfl
def X1_readNumber_f (vT : Nat → Int32) (aT : Nat → Nat → Int32) (p0 : Int32) (p1 : Int32) : Bool × (Nat → Int32) × (Nat → Nat → Int32) :=
  X1_readNumber_lp5 vT aT p0 p1 61 0 0 vT
set_option maxHeartbeats 4000000 in
set_option maxRecDepth 100000 in
theorem X1_readNumber_c (l : Launch) (g : kG) (oT : Nat) (rT : Nat → Nat) (vT : Nat → Int32) (aT : Nat → Nat → Int32) (p0 : Int32) (p1 : Int32) (hok : kOK1 vT) (hi3 : vp_in p0 3) : kM l yX1_readNumber wX1_readNumber 1 20 0 0 g [.ref oT, .int p0, .int p1] [X1W g oT rT vT aT] (fun x u => x = b2i (X1_readNumber_f vT aT p0 p1).1 ∧ u = [X1W g oT rT ((X1_readNumber_f vT aT p0 p1).2.1) ((X1_readNumber_f vT aT p0 p1).2.2)]) := by
  refine kM_of (cc := cX1_readNumber) (nL := 5) (ret := (some .boolean)) (lv := [(0, .ref oT), (1, .int p0), (2, .int p1)]) (by decide) rfl (Nat.le_of_ble_eq_true rfl) rfl ?_
  intro p e s m args below meth c ls A C hP hD hE hA hS hl
  have C : kC p c cX1_readNumber s m args meth RX1 g 5 (some .boolean) := C
  have hx := C.1.1
  have hb := C.1.2.1
  have hts := C.1.2.2.2.2
  have loop5 : ∀ (n : Nat) (x3_5 x4_5 : Int32) (vT5 : Nat → Int32) (H : Heap) (locs : List Loc) (ls : Array Slot), kOK1 vT5 → kMe1 vT5 < n → X1_readNumber_f vT aT p0 p1 = X1_readNumber_lp5 vT aT p0 p1 n x3_5 x4_5 vT5 → kp g [X1W g oT rT vT5 aT] H → kd A [X1W g oT rT vT5 aT] → va_S A s.heap H locs → lv_has ls 5 [(4, .int x4_5), (3, .int x3_5), (0, .ref oT), (1, .int p0), (2, .int p1)] → W p l e (kRm 1 0 0 20) s m args below meth c H locs 0 0 (MQ below (kQi g (fun x u => x = b2i (X1_readNumber_f vT aT p0 p1).1 ∧ u = [X1W g oT rT ((X1_readNumber_f vT aT p0 p1).2.1) ((X1_readNumber_f vT aT p0 p1).2.2)]) A) args s 0 0 A) (F0 m 5 ls []) := by
    intro n
    induction n with
    | zero =>
      intro x3_5 x4_5 vT5 H locs ls hok5 hm5 hF5 hP hD hS hl
      exact absurd hm5 (Nat.not_lt_zero _)
    | succ n ih5 =>
      intro x3_5 x4_5 vT5 H locs ls hok5 hm5 hF5 hP hD hS hl
      refine lv_iload hx hb dX1_readNumber_5 (lv_at hl 0 rfl) ?_
      refine lv_iload_n hx hb dX1_readNumber_7 rfl (lv_at hl 4 rfl) ?_
      refine lv_icmp_ge (tgt := 71) hx hb dX1_readNumber_8 (by decide) (fun c1 => ?_) (fun c1 => ?_)
      · refine lv_aload_n hx hb dX1_readNumber_71 rfl (lv_at hl 2 rfl) ?_
        refine kg_get C kFX1 (k := 4) kw254 hP (i := 0) (q := 0) rfl rfl (by decide) rfl dX1_readNumber_72 ?_
        refine lv_iload_n hx hb dX1_readNumber_75 rfl (lv_at hl 3 rfl) ?_
        refine lv_iload_n hx hb dX1_readNumber_76 rfl (lv_at hl 1 rfl) ?_
        refine kg_iast C hP hD hS (i := 0) (q := 2) rfl rfl (by first | assumption | exact k_vin (M := 3) hx5 (by omega) (by decide)) X1t_4 rfl dX1_readNumber_77 (fun H locs hP hD hS => ?_)
        have hP : kp g [X1W g oT rT vT5 (va_up aT 4 (upd (aT 4) p0.toNatClampNeg x3_5))] H := hP
        have hD : kd A [X1W g oT rT vT5 (va_up aT 4 (upd (aT 4) p0.toNatClampNeg x3_5))] := hD
        refine lv_iload hx hb dX1_readNumber_78 (lv_at hl 0 rfl) ?_
        refine lv_if_le (tgt := 87) hx hb dX1_readNumber_80 (by decide) (fun c2 => ?_) (fun c2 => ?_)
        · refine lv_iconst (v := 0) hx hb dX1_readNumber_87 (by decide) ?_
          have hF := (show X1_readNumber_f vT aT p0 p1 = (false, vT5, va_up aT 4 (upd (aT 4) p0.toNatClampNeg x3_5)) from hF5.trans ((X1_readNumber_lp5_s vT aT p0 p1 n x3_5 x4_5 vT5).trans ((if_pos c1).trans ((if_pos c2).trans (rfl)))))
          exact kM_zret (x := b2i false) C (b2i_nar _) hP hD hS ⟨by rw [hF], by rw [hF]⟩ dX1_readNumber_88
        refine lv_iconst (v := 1) hx hb dX1_readNumber_83 (by decide) ?_
        refine lv_goto (tgt := 88) hx hb dX1_readNumber_84 (by decide) ?_
        have hF := (show X1_readNumber_f vT aT p0 p1 = (true, vT5, va_up aT 4 (upd (aT 4) p0.toNatClampNeg x3_5)) from hF5.trans ((X1_readNumber_lp5_s vT aT p0 p1 n x3_5 x4_5 vT5).trans ((if_pos c1).trans ((if_neg c2).trans (rfl)))))
        exact kM_zret (x := b2i true) C (b2i_nar _) hP hD hS ⟨by rw [hF], by rw [hF]⟩ dX1_readNumber_88
      refine lv_aload_n hx hb dX1_readNumber_11 rfl (lv_at hl 2 rfl) ?_
      refine kg_get C kFX1 (k := 2) kw250 hP (i := 0) (q := 0) rfl rfl (by decide) rfl dX1_readNumber_12 ?_
      refine lv_aload_n hx hb dX1_readNumber_15 rfl (lv_at hl 2 rfl) ?_
      refine kg_get C kFX1 (k := 1) kw248 hP (i := 0) (q := 0) rfl rfl (by decide) rfl dX1_readNumber_16 ?_
      refine lv_icmp_ge (tgt := 71) hx hb dX1_readNumber_19 (by decide) (fun c3 => ?_) (fun c3 => ?_)
      · refine lv_aload_n hx hb dX1_readNumber_71 rfl (lv_at hl 2 rfl) ?_
        refine kg_get C kFX1 (k := 4) kw254 hP (i := 0) (q := 0) rfl rfl (by decide) rfl dX1_readNumber_72 ?_
        refine lv_iload_n hx hb dX1_readNumber_75 rfl (lv_at hl 3 rfl) ?_
        refine lv_iload_n hx hb dX1_readNumber_76 rfl (lv_at hl 1 rfl) ?_
        refine kg_iast C hP hD hS (i := 0) (q := 2) rfl rfl (by first | assumption | exact k_vin (M := 3) hx5 (by omega) (by decide)) X1t_4 rfl dX1_readNumber_77 (fun H locs hP hD hS => ?_)
        have hP : kp g [X1W g oT rT vT5 (va_up aT 4 (upd (aT 4) p0.toNatClampNeg x3_5))] H := hP
        have hD : kd A [X1W g oT rT vT5 (va_up aT 4 (upd (aT 4) p0.toNatClampNeg x3_5))] := hD
        refine lv_iload hx hb dX1_readNumber_78 (lv_at hl 0 rfl) ?_
        refine lv_if_le (tgt := 87) hx hb dX1_readNumber_80 (by decide) (fun c4 => ?_) (fun c4 => ?_)
        · refine lv_iconst (v := 0) hx hb dX1_readNumber_87 (by decide) ?_
          have hF := (show X1_readNumber_f vT aT p0 p1 = (false, vT5, va_up aT 4 (upd (aT 4) p0.toNatClampNeg x3_5)) from hF5.trans ((X1_readNumber_lp5_s vT aT p0 p1 n x3_5 x4_5 vT5).trans ((if_neg c1).trans ((if_pos c3).trans ((if_pos c4).trans (rfl))))))
          exact kM_zret (x := b2i false) C (b2i_nar _) hP hD hS ⟨by rw [hF], by rw [hF]⟩ dX1_readNumber_88
        refine lv_iconst (v := 1) hx hb dX1_readNumber_83 (by decide) ?_
        refine lv_goto (tgt := 88) hx hb dX1_readNumber_84 (by decide) ?_
        have hF := (show X1_readNumber_f vT aT p0 p1 = (true, vT5, va_up aT 4 (upd (aT 4) p0.toNatClampNeg x3_5)) from hF5.trans ((X1_readNumber_lp5_s vT aT p0 p1 n x3_5 x4_5 vT5).trans ((if_neg c1).trans ((if_pos c3).trans ((if_neg c4).trans (rfl))))))
        exact kM_zret (x := b2i true) C (b2i_nar _) hP hD hS ⟨by rw [hF], by rw [hF]⟩ dX1_readNumber_88
      have hz5 := c3
      have z1 := k_in60 hok5 c3
      refine lv_aload_n hx hb dX1_readNumber_22 rfl (lv_at hl 2 rfl) ?_
      refine kg_get C kFX1 (k := 0) kw246 hP (i := 0) (q := 0) rfl rfl (by decide) rfl dX1_readNumber_23 ?_
      refine lv_aload_n hx hb dX1_readNumber_26 rfl (lv_at hl 2 rfl) ?_
      refine kg_get C kFX1 (k := 2) kw250 hP (i := 0) (q := 0) rfl rfl (by decide) rfl dX1_readNumber_27 ?_
      refine kg_cald C hP (i := 0) (q := 1) rfl rfl (by first | assumption | exact k_vin (M := 60) hx5 (by omega) (by decide)) dX1_readNumber_30 ?_
      refine kR_S (As := [.int ((aT 0) (vT5 2).toNatClampNeg)]) (rest := []) C (X1_isDigit_c l g ((aT 0) (vT5 2).toNatClampNeg)) (va_cwS 1 hts (k_gS kw943 cs_X1_isDigit) rfl rfl rfl pnX1_isDigit ⟨Nat.le_of_ble_eq_true rfl, Nat.le_of_ble_eq_true rfl⟩) hE hS (hP.pick [] rfl) rfl hl.1 rfl rfl dX1_readNumber_31 ⟨Nat.le_of_ble_eq_true rfl, Nat.le_of_ble_eq_true rfl⟩ ?_
      refine lv_if_eq (tgt := 71) hx hb dX1_readNumber_34 (by decide) (fun c5 => ?_) (fun c5 => ?_)
      · have c5 := b2i_eq0 c5
        refine lv_aload_n hx hb dX1_readNumber_71 rfl (lv_at hl 2 rfl) ?_
        refine kg_get C kFX1 (k := 4) kw254 hP (i := 0) (q := 0) rfl rfl (by decide) rfl dX1_readNumber_72 ?_
        refine lv_iload_n hx hb dX1_readNumber_75 rfl (lv_at hl 3 rfl) ?_
        refine lv_iload_n hx hb dX1_readNumber_76 rfl (lv_at hl 1 rfl) ?_
        refine kg_iast C hP hD hS (i := 0) (q := 2) rfl rfl (by first | assumption | exact k_vin (M := 3) hx5 (by omega) (by decide)) X1t_4 rfl dX1_readNumber_77 (fun H locs hP hD hS => ?_)
        have hP : kp g [X1W g oT rT vT5 (va_up aT 4 (upd (aT 4) p0.toNatClampNeg x3_5))] H := hP
        have hD : kd A [X1W g oT rT vT5 (va_up aT 4 (upd (aT 4) p0.toNatClampNeg x3_5))] := hD
        refine lv_iload hx hb dX1_readNumber_78 (lv_at hl 0 rfl) ?_
        refine lv_if_le (tgt := 87) hx hb dX1_readNumber_80 (by decide) (fun c6 => ?_) (fun c6 => ?_)
        · refine lv_iconst (v := 0) hx hb dX1_readNumber_87 (by decide) ?_
          have hF := (show X1_readNumber_f vT aT p0 p1 = (false, vT5, va_up aT 4 (upd (aT 4) p0.toNatClampNeg x3_5)) from hF5.trans ((X1_readNumber_lp5_s vT aT p0 p1 n x3_5 x4_5 vT5).trans ((if_neg c1).trans ((if_neg c3).trans ((if_neg c5).trans ((if_pos c6).trans (rfl)))))))
          exact kM_zret (x := b2i false) C (b2i_nar _) hP hD hS ⟨by rw [hF], by rw [hF]⟩ dX1_readNumber_88
        refine lv_iconst (v := 1) hx hb dX1_readNumber_83 (by decide) ?_
        refine lv_goto (tgt := 88) hx hb dX1_readNumber_84 (by decide) ?_
        have hF := (show X1_readNumber_f vT aT p0 p1 = (true, vT5, va_up aT 4 (upd (aT 4) p0.toNatClampNeg x3_5)) from hF5.trans ((X1_readNumber_lp5_s vT aT p0 p1 n x3_5 x4_5 vT5).trans ((if_neg c1).trans ((if_neg c3).trans ((if_neg c5).trans ((if_neg c6).trans (rfl)))))))
        exact kM_zret (x := b2i true) C (b2i_nar _) hP hD hS ⟨by rw [hF], by rw [hF]⟩ dX1_readNumber_88
      have c5 := b2i_ne0 c5
      refine lv_bipush (v := 10) hx hb dX1_readNumber_37 (by decide) ?_
      refine lv_iload_n hx hb dX1_readNumber_39 rfl (lv_at hl 1 rfl) ?_
      refine lv_imul hx hb dX1_readNumber_40 ?_
      refine lv_aload_n hx hb dX1_readNumber_41 rfl (lv_at hl 2 rfl) ?_
      refine kg_get C kFX1 (k := 0) kw246 hP (i := 0) (q := 0) rfl rfl (by decide) rfl dX1_readNumber_42 ?_
      refine lv_aload_n hx hb dX1_readNumber_45 rfl (lv_at hl 2 rfl) ?_
      refine kg_get C kFX1 (k := 2) kw250 hP (i := 0) (q := 0) rfl rfl (by decide) rfl dX1_readNumber_46 ?_
      refine kg_cald C hP (i := 0) (q := 1) rfl rfl (by first | assumption | exact k_vin (M := 60) hx5 (by omega) (by decide)) dX1_readNumber_49 ?_
      refine lv_bipush (v := 48) hx hb dX1_readNumber_50 (by decide) ?_
      refine lv_isub hx hb dX1_readNumber_52 ?_
      refine lv_iadd hx hb dX1_readNumber_53 ?_
      refine lv_istore_n (lv' := [(3, .int ((10 * x3_5) + (((aT 0) (vT5 2).toNatClampNeg) - 48))), (4, .int x4_5), (0, .ref oT), (1, .int p0), (2, .int p1)]) hx hb dX1_readNumber_54 rfl hl (by decide) rfl (fun ls hl => ?_)
      refine lv_iinc (v := (x4_5 + 1)) (lv' := [(4, .int (x4_5 + 1)), (3, .int ((10 * x3_5) + (((aT 0) (vT5 2).toNatClampNeg) - 48))), (0, .ref oT), (1, .int p0), (2, .int p1)]) hx hb dX1_readNumber_55 hl (k := 1) rfl rfl (by decide) rfl (fun ls hl => ?_)
      refine lv_aload_n hx hb dX1_readNumber_58 rfl (lv_at hl 2 rfl) ?_
      refine lv_dup hx hb dX1_readNumber_59 rfl ?_
      refine kg_get C kFX1 (k := 2) kw250 hP (i := 0) (q := 0) rfl rfl (by decide) rfl dX1_readNumber_60 ?_
      refine lv_iconst (v := 1) hx hb dX1_readNumber_63 (by decide) ?_
      refine lv_iadd hx hb dX1_readNumber_64 ?_
      refine kg_put C kFX1 (k := 2) kw250 hP hD hS (i := 0) (q := 0) rfl rfl (by decide) rfl rfl rfl (Nat.le_of_ble_eq_true rfl) X1s_2 rfl dX1_readNumber_65 (fun H locs hP hD hS => ?_)
      have hP : kp g [X1W g oT rT (upd vT5 2 ((vT5 2) + 1)) aT] H := hP
      have hD : kd A [X1W g oT rT (upd vT5 2 ((vT5 2) + 1)) aT] := hD
      refine lv_goto (tgt := 5) hx hb dX1_readNumber_68 (by decide) ?_
      exact ih5 ((10 * x3_5) + (((aT 0) (vT5 2).toNatClampNeg) - 48)) (x4_5 + 1) (upd vT5 2 ((vT5 2) + 1)) _ _ ls (k_okUp hok5 hz5) (k_meUp hok5 hz5 hm5) (show X1_readNumber_f vT aT p0 p1 = X1_readNumber_lp5 vT aT p0 p1 n ((10 * x3_5) + (((aT 0) (vT5 2).toNatClampNeg) - 48)) (x4_5 + 1) (upd vT5 2 ((vT5 2) + 1)) from hF5.trans ((X1_readNumber_lp5_s vT aT p0 p1 n x3_5 x4_5 vT5).trans ((if_neg c1).trans ((if_neg c3).trans ((if_pos c5).trans (rfl)))))) hP hD hS (lv_sub hl [0, 1, 2, 3, 4] rfl)
  refine lv_iconst (v := 0) hx hb dX1_readNumber_0 (by decide) ?_
  refine lv_istore_n (lv' := [(3, .int 0), (0, .ref oT), (1, .int p0), (2, .int p1)]) hx hb dX1_readNumber_1 rfl hl (by decide) rfl (fun ls hl => ?_)
  refine lv_iconst (v := 0) hx hb dX1_readNumber_2 (by decide) ?_
  refine lv_istore (lv' := [(4, .int 0), (3, .int 0), (0, .ref oT), (1, .int p0), (2, .int p1)]) hx hb dX1_readNumber_3 hl (by decide) rfl (fun ls hl => ?_)
  exact loop5 61 0 0 vT _ _ ls hok (k_me61 hok) (show X1_readNumber_f vT aT p0 p1 = X1_readNumber_lp5 vT aT p0 p1 61 0 0 vT from rfl) hP hD hS (lv_sub hl [0, 1, 2, 3, 4] rfl)
theorem X1_readNumber_okl {vT0 : Nat → Int32} {aT : Nat → Nat → Int32} {p0 p1 : Int32} : ∀ (n : Nat) (x y : Int32) (vT : Nat → Int32), kOK1 vT → kOK1 (X1_readNumber_lp5 vT0 aT p0 p1 n x y vT).2.1 := by
  intro n
  induction n with
  | zero => intro x y vT h; exact h
  | succ n ih =>
    intro x y vT h
    rw [X1_readNumber_lp5_s]
    unfold X1_readNumber_lp5b
    repeat' split
    all_goals first | exact h | exact ih _ _ _ (k_okUp h (by assumption))
theorem X1_readNumber_ok {vT : Nat → Int32} {aT : Nat → Nat → Int32} {p0 p1 : Int32} (h : kOK1 vT) : kOK1 (X1_readNumber_f vT aT p0 p1).2.1 := X1_readNumber_okl _ _ _ _ h

theorem pnX1_readCharacter : yX1_readCharacter.cls ≠ "java/lang/invoke/MethodHandle" ∧ yX1_readCharacter.cls ≠ "java/lang/invoke/VarHandle" ∧ (parseMethodDescriptor yX1_readCharacter.desc).map (fun d => d.parameters.length) = some 1 := by decide +kernel
theorem ca_X1_readCharacter : kCal yX1_readCharacter (Cond.code yX1_readCharacter cX1_readCharacter 2 (some .boolean)) := ⟨k_w 5 94 rfl rfl, k_w 1 50 rfl rfl, k_w 2 5 rfl rfl, k_w 5 95 rfl rfl⟩

theorem pnX1_readNumber : yX1_readNumber.cls ≠ "java/lang/invoke/MethodHandle" ∧ yX1_readNumber.cls ≠ "java/lang/invoke/VarHandle" ∧ (parseMethodDescriptor yX1_readNumber.desc).map (fun d => d.parameters.length) = some 2 := by decide +kernel
theorem ca_X1_readNumber : kCal yX1_readNumber (Cond.code yX1_readNumber cX1_readNumber 5 (some .boolean)) := ⟨k_w 5 160 rfl rfl, k_w 1 52 rfl rfl, k_w 2 5 rfl rfl, k_w 5 161 rfl rfl⟩

abbrev wX1_readForm : List Cond := Cond.code yX1_readForm cX1_readForm 5 (some .boolean) :: kW
def X1_readForm_lp4b (vT : Nat → Int32) (aT : Nat → Nat → Int32) (p0 : Nat) (rec : Int32 → Int32 → (Nat → Int32) → (Nat → Nat → Int32) → (Bool × (Nat → Int32) × (Nat → Nat → Int32))) (x2_4 x3_4 : Int32) (vT4 : Nat → Int32) (aT4 : Nat → Nat → Int32) : Bool × (Nat → Int32) × (Nat → Nat → Int32) :=
  if (nI (k_fl.getD p0 0)) ≤ x3_4 then (true, vT4, aT4)
  else if (X1_isDigit_f (k_ch p0 x3_4)) = true then (if 3 ≤ x2_4 then (false, vT4, aT4)
    else if (X1_readNumber_f vT4 aT4 x2_4 ((k_ch p0 x3_4) - 48)).1 = true then rec (x2_4 + 1) (x3_4 + 1) ((X1_readNumber_f vT4 aT4 x2_4 ((k_ch p0 x3_4) - 48)).2.1) ((X1_readNumber_f vT4 aT4 x2_4 ((k_ch p0 x3_4) - 48)).2.2)
    else (false, (X1_readNumber_f vT4 aT4 x2_4 ((k_ch p0 x3_4) - 48)).2.1, (X1_readNumber_f vT4 aT4 x2_4 ((k_ch p0 x3_4) - 48)).2.2))
  else if (X1_readCharacter_f vT4 aT4 (k_ch p0 x3_4)).1 = true then rec x2_4 (x3_4 + 1) ((X1_readCharacter_f vT4 aT4 (k_ch p0 x3_4)).2) aT4
  else (false, (X1_readCharacter_f vT4 aT4 (k_ch p0 x3_4)).2, aT4)
def X1_readForm_lp4 (vT : Nat → Int32) (aT : Nat → Nat → Int32) (p0 : Nat) : Nat → Int32 → Int32 → (Nat → Int32) → (Nat → Nat → Int32) → (Bool × (Nat → Int32) × (Nat → Nat → Int32))
  | 0 => fun x2_4 x3_4 vT4 aT4 => (false, vT4, aT4)
  | n + 1 => X1_readForm_lp4b vT aT p0 (X1_readForm_lp4 vT aT p0 n)
theorem X1_readForm_lp4_s (vT : Nat → Int32) (aT : Nat → Nat → Int32) (p0 : Nat) (n : Nat) (x2_4 x3_4 : Int32) (vT4 : Nat → Int32) (aT4 : Nat → Nat → Int32) : X1_readForm_lp4 vT aT p0 (n + 1) x2_4 x3_4 vT4 aT4 = X1_readForm_lp4b vT aT p0 (X1_readForm_lp4 vT aT p0 n) x2_4 x3_4 vT4 aT4 := rfl
def X1_readForm_f (vT : Nat → Int32) (aT : Nat → Nat → Int32) (p0 : Nat) : Bool × (Nat → Int32) × (Nat → Nat → Int32) :=
  X1_readForm_lp4 vT aT p0 6 0 0 vT aT
set_option maxHeartbeats 4000000 in
set_option maxRecDepth 100000 in
theorem X1_readForm_c (l : Launch) (g : kG) (oT : Nat) (rT : Nat → Nat) (vT : Nat → Int32) (aT : Nat → Nat → Int32) (p0 : Nat) (hf : p0 < 5) (hok : kOK1 vT) : kM l yX1_readForm wX1_readForm 4 85 0 0 g [.ref oT, .ref (g.2.2 (50 + p0))] [X1W g oT rT vT aT] (fun x u => x = b2i (X1_readForm_f vT aT p0).1 ∧ u = [X1W g oT rT ((X1_readForm_f vT aT p0).2.1) ((X1_readForm_f vT aT p0).2.2)]) := by
  refine kM_of (cc := cX1_readForm) (nL := 5) (ret := (some .boolean)) (lv := [(0, .ref oT), (1, .ref (g.2.2 (50 + p0)))]) (by decide) rfl (Nat.le_of_ble_eq_true rfl) rfl ?_
  intro p e s m args below meth c ls A C hP hD hE hA hS hl
  have C : kC p c cX1_readForm s m args meth RX1 g 5 (some .boolean) := C
  have hx := C.1.1
  have hb := C.1.2.1
  have hts := C.1.2.2.2.2
  have h5 := k_fl5 p0 hf
  have loop4 : ∀ (n : Nat) (j4 : Nat) (x2_4 x3_4 : Int32) (vT4 : Nat → Int32) (aT4 : Nat → Nat → Int32) (H : Heap) (locs : List Loc) (ls : Array Slot), j4 ≤ k_fl.getD p0 0 → k_fl.getD p0 0 < j4 + n → x3_4 = nI j4 → kOK1 vT4 → (∃ k : Nat, k ≤ 3 ∧ x2_4 = nI k) → X1_readForm_f vT aT p0 = X1_readForm_lp4 vT aT p0 n x2_4 x3_4 vT4 aT4 → kp g [X1W g oT rT vT4 aT4] H → kd A [X1W g oT rT vT4 aT4] → va_S A s.heap H locs → lv_has ls 5 [(3, .int x3_4), (2, .int x2_4), (0, .ref oT), (1, .ref (g.2.2 (50 + p0)))] → W p l e (kRm 4 0 0 85) s m args below meth c H locs 0 0 (MQ below (kQi g (fun x u => x = b2i (X1_readForm_f vT aT p0).1 ∧ u = [X1W g oT rT ((X1_readForm_f vT aT p0).2.1) ((X1_readForm_f vT aT p0).2.2)]) A) args s 0 0 A) (F0 m 4 ls []) := by
    intro n
    induction n with
    | zero =>
      intro j4 x2_4 x3_4 vT4 aT4 H locs ls hi4 hn4 hx4 hok4 hc4 hF4 hP hD hS hl
      exact absurd hn4 (by omega)
    | succ n ih4 =>
      intro j4 x2_4 x3_4 vT4 aT4 H locs ls hi4 hn4 hx4 hok4 hc4 hF4 hP hD hS hl
      refine lv_iload_n hx hb dX1_readForm_4 rfl (lv_at hl 0 rfl) ?_
      refine lv_aload_n hx hb dX1_readForm_5 rfl (lv_at hl 3 rfl) ?_
      refine kR_V (As := []) (rest := [.int x3_4]) C (J0_length_8abf5_c l g p0 (by first | assumption | omega)) (cwV 0 hts (k_gV kw896 ca_J0_length_8abf5) rfl rfl rfl ⟨rfl, pnJ0_length_8abf5⟩ ⟨Nat.le_of_ble_eq_true rfl, Nat.le_of_ble_eq_true rfl⟩) hE hS (hP.pick [] rfl) (k_srecv (by first | assumption | omega) hE hS) rfl hl.1 rfl rfl dX1_readForm_6 ⟨Nat.le_of_ble_eq_true rfl, Nat.le_of_ble_eq_true rfl⟩ ?_
      refine lv_icmp_ge (tgt := 67) hx hb dX1_readForm_9 (by decide) (fun c1 => ?_) (fun c1 => ?_)
      · refine lv_iconst (v := 1) hx hb dX1_readForm_67 (by decide) ?_
        have hF := (show X1_readForm_f vT aT p0 = (true, vT4, aT4) from hF4.trans ((X1_readForm_lp4_s vT aT p0 n x2_4 x3_4 vT4 aT4).trans ((if_pos c1).trans (rfl))))
        exact kM_zret (x := b2i true) C (b2i_nar _) hP hD hS ⟨by rw [hF], by rw [hF]⟩ dX1_readForm_68
      have hj4 := k_asc hx4 (y := (nI (k_fl.getD p0 0))) (N := k_fl.getD p0 0) rfl hi4 (by omega) c1
      refine lv_aload_n hx hb dX1_readForm_12 rfl (lv_at hl 3 rfl) ?_
      refine lv_iload_n hx hb dX1_readForm_13 rfl (lv_at hl 0 rfl) ?_
      refine kR_V (As := [.int x3_4]) (rest := []) C (J0_charAt_5068e_c l g p0 (by first | assumption | omega) x3_4 (by first | assumption | exact k_vin hx4 (by assumption) (by omega))) (cwV 1 hts (k_gV kw905 ca_J0_charAt_5068e) rfl rfl rfl ⟨rfl, pnJ0_charAt_5068e⟩ ⟨Nat.le_of_ble_eq_true rfl, Nat.le_of_ble_eq_true rfl⟩) hE hS (hP.pick [] rfl) (k_srecv (by first | assumption | omega) hE hS) rfl hl.1 rfl rfl dX1_readForm_14 ⟨Nat.le_of_ble_eq_true rfl, Nat.le_of_ble_eq_true rfl⟩ ?_
      refine lv_istore (lv' := [(4, .int (k_ch p0 x3_4)), (3, .int x3_4), (2, .int x2_4), (0, .ref oT), (1, .ref (g.2.2 (50 + p0)))]) hx hb dX1_readForm_17 hl (by decide) rfl (fun ls hl => ?_)
      refine lv_iload hx hb dX1_readForm_19 (lv_at hl 0 rfl) ?_
      refine kR_S (As := [.int (k_ch p0 x3_4)]) (rest := []) C (X1_isDigit_c l g (k_ch p0 x3_4)) (va_cwS 1 hts (k_gS kw943 cs_X1_isDigit) rfl rfl rfl pnX1_isDigit ⟨Nat.le_of_ble_eq_true rfl, Nat.le_of_ble_eq_true rfl⟩) hE hS (hP.pick [] rfl) rfl hl.1 rfl rfl dX1_readForm_21 ⟨Nat.le_of_ble_eq_true rfl, Nat.le_of_ble_eq_true rfl⟩ ?_
      refine lv_if_ne (tgt := 38) hx hb dX1_readForm_24 (by decide) (fun c2 => ?_) (fun c2 => ?_)
      · have c2 := b2i_ne0 c2
        refine lv_iload_n hx hb dX1_readForm_38 rfl (lv_at hl 2 rfl) ?_
        refine lv_iconst (v := 3) hx hb dX1_readForm_39 (by decide) ?_
        refine lv_icmp_ge (tgt := 56) hx hb dX1_readForm_40 (by decide) (fun c3 => ?_) (fun c3 => ?_)
        · refine lv_iconst (v := 0) hx hb dX1_readForm_56 (by decide) ?_
          have hF := (show X1_readForm_f vT aT p0 = (false, vT4, aT4) from hF4.trans ((X1_readForm_lp4_s vT aT p0 n x2_4 x3_4 vT4 aT4).trans ((if_neg c1).trans ((if_pos c2).trans ((if_pos c3).trans (rfl))))))
          exact kM_zret (x := b2i false) C (b2i_nar _) hP hD hS ⟨by rw [hF], by rw [hF]⟩ dX1_readForm_57
        have hc5 := k_c3 hc4 c3
        have hc6 := hc5.1
        refine lv_aload_n hx hb dX1_readForm_43 rfl (lv_at hl 3 rfl) ?_
        refine lv_iload_n hx hb dX1_readForm_44 rfl (lv_at hl 2 rfl) ?_
        refine lv_iload hx hb dX1_readForm_45 (lv_at hl 0 rfl) ?_
        refine lv_bipush (v := 48) hx hb dX1_readForm_47 (by decide) ?_
        refine lv_isub hx hb dX1_readForm_49 ?_
        refine kM_V (As := [.int x2_4, .int ((k_ch p0 x3_4) - 48)]) (rest := []) (wr := []) C (X1_readNumber_c l g oT rT vT4 aT4 x2_4 ((k_ch p0 x3_4) - 48) (by first | assumption | exact k_vin hx4 (by omega) (by decide)) (by first | assumption | exact k_vin hx4 (by omega) (by decide))) (cwV 2 hts (k_gV kw946 ca_X1_readNumber) rfl rfl rfl ⟨rfl, pnX1_readNumber⟩ ⟨Nat.le_of_ble_eq_true rfl, Nat.le_of_ble_eq_true rfl⟩) hE hS hA hP hD [0] [] rfl rfl ⟨rfl, rfl, by decide⟩ (k_recv C kFX1 hP (i := 0) (q := 0) rfl rfl) rfl hl.1 rfl rfl dX1_readForm_50 ⟨Nat.le_of_ble_eq_true rfl, Nat.le_of_ble_eq_true rfl⟩ (fun r4 u4 H locs hp4 hP hD hS => ?_)
        obtain ⟨rfl, rfl⟩ := hp4
        have hP : kp g [X1W g oT rT ((X1_readNumber_f vT4 aT4 x2_4 ((k_ch p0 x3_4) - 48)).2.1) ((X1_readNumber_f vT4 aT4 x2_4 ((k_ch p0 x3_4) - 48)).2.2)] H := hP
        have hD : kd A [X1W g oT rT ((X1_readNumber_f vT4 aT4 x2_4 ((k_ch p0 x3_4) - 48)).2.1) ((X1_readNumber_f vT4 aT4 x2_4 ((k_ch p0 x3_4) - 48)).2.2)] := hD
        refine lv_if_ne (tgt := 58) hx hb dX1_readForm_53 (by decide) (fun c5 => ?_) (fun c5 => ?_)
        · have c5 := b2i_ne0 c5
          refine lv_iinc (v := (x2_4 + 1)) (lv' := [(2, .int (x2_4 + 1)), (4, .int (k_ch p0 x3_4)), (3, .int x3_4), (0, .ref oT), (1, .ref (g.2.2 (50 + p0)))]) hx hb dX1_readForm_58 hl (k := 2) rfl rfl (by decide) rfl (fun ls hl => ?_)
          refine lv_iinc (v := (x3_4 + 1)) (lv' := [(3, .int (x3_4 + 1)), (2, .int (x2_4 + 1)), (4, .int (k_ch p0 x3_4)), (0, .ref oT), (1, .ref (g.2.2 (50 + p0)))]) hx hb dX1_readForm_61 hl (k := 2) rfl rfl (by decide) rfl (fun ls hl => ?_)
          refine lv_goto (tgt := 4) hx hb dX1_readForm_64 (by decide) ?_
          exact ih4 (j4 + 1) (x2_4 + 1) (x3_4 + 1) ((X1_readNumber_f vT4 aT4 x2_4 ((k_ch p0 x3_4) - 48)).2.1) ((X1_readNumber_f vT4 aT4 x2_4 ((k_ch p0 x3_4) - 48)).2.2) _ _ ls hj4 (by omega) (k_up hx4) (by first | exact X1_readCharacter_ok hok4 | exact X1_readNumber_ok hok4) (by first | exact hc4 | exact hc5.2) (show X1_readForm_f vT aT p0 = X1_readForm_lp4 vT aT p0 n (x2_4 + 1) (x3_4 + 1) ((X1_readNumber_f vT4 aT4 x2_4 ((k_ch p0 x3_4) - 48)).2.1) ((X1_readNumber_f vT4 aT4 x2_4 ((k_ch p0 x3_4) - 48)).2.2) from hF4.trans ((X1_readForm_lp4_s vT aT p0 n x2_4 x3_4 vT4 aT4).trans ((if_neg c1).trans ((if_pos c2).trans ((if_neg c3).trans ((if_pos c5).trans (rfl))))))) hP hD hS (lv_sub hl [0, 1, 3, 4] rfl)
        have c5 := b2i_eq0 c5
        refine lv_iconst (v := 0) hx hb dX1_readForm_56 (by decide) ?_
        have hF := (show X1_readForm_f vT aT p0 = (false, (X1_readNumber_f vT4 aT4 x2_4 ((k_ch p0 x3_4) - 48)).2.1, (X1_readNumber_f vT4 aT4 x2_4 ((k_ch p0 x3_4) - 48)).2.2) from hF4.trans ((X1_readForm_lp4_s vT aT p0 n x2_4 x3_4 vT4 aT4).trans ((if_neg c1).trans ((if_pos c2).trans ((if_neg c3).trans ((if_neg c5).trans (rfl)))))))
        exact kM_zret (x := b2i false) C (b2i_nar _) hP hD hS ⟨by rw [hF], by rw [hF]⟩ dX1_readForm_57
      have c2 := b2i_eq0 c2
      refine lv_aload_n hx hb dX1_readForm_27 rfl (lv_at hl 3 rfl) ?_
      refine lv_iload hx hb dX1_readForm_28 (lv_at hl 0 rfl) ?_
      refine kM_V (As := [.int (k_ch p0 x3_4)]) (rest := []) (wr := []) C (X1_readCharacter_c l g oT rT vT4 aT4 (k_ch p0 x3_4) (by first | assumption | exact k_vin hx4 (by omega) (by decide))) (cwV 1 hts (k_gV kw880 ca_X1_readCharacter) rfl rfl rfl ⟨rfl, pnX1_readCharacter⟩ ⟨Nat.le_of_ble_eq_true rfl, Nat.le_of_ble_eq_true rfl⟩) hE hS hA hP hD [0] [] rfl rfl ⟨rfl, rfl, by decide⟩ (k_recv C kFX1 hP (i := 0) (q := 0) rfl rfl) rfl hl.1 rfl rfl dX1_readForm_30 ⟨Nat.le_of_ble_eq_true rfl, Nat.le_of_ble_eq_true rfl⟩ (fun r6 u6 H locs hp6 hP hD hS => ?_)
      obtain ⟨rfl, rfl⟩ := hp6
      have hP : kp g [X1W g oT rT ((X1_readCharacter_f vT4 aT4 (k_ch p0 x3_4)).2) aT4] H := hP
      have hD : kd A [X1W g oT rT ((X1_readCharacter_f vT4 aT4 (k_ch p0 x3_4)).2) aT4] := hD
      refine lv_if_ne (tgt := 61) hx hb dX1_readForm_33 (by decide) (fun c7 => ?_) (fun c7 => ?_)
      · have c7 := b2i_ne0 c7
        refine lv_iinc (v := (x3_4 + 1)) (lv' := [(3, .int (x3_4 + 1)), (4, .int (k_ch p0 x3_4)), (2, .int x2_4), (0, .ref oT), (1, .ref (g.2.2 (50 + p0)))]) hx hb dX1_readForm_61 hl (k := 1) rfl rfl (by decide) rfl (fun ls hl => ?_)
        refine lv_goto (tgt := 4) hx hb dX1_readForm_64 (by decide) ?_
        exact ih4 (j4 + 1) x2_4 (x3_4 + 1) ((X1_readCharacter_f vT4 aT4 (k_ch p0 x3_4)).2) aT4 _ _ ls hj4 (by omega) (k_up hx4) (by first | exact X1_readCharacter_ok hok4 | exact X1_readNumber_ok hok4) (by first | exact hc4 | exact hc5.2) (show X1_readForm_f vT aT p0 = X1_readForm_lp4 vT aT p0 n x2_4 (x3_4 + 1) ((X1_readCharacter_f vT4 aT4 (k_ch p0 x3_4)).2) aT4 from hF4.trans ((X1_readForm_lp4_s vT aT p0 n x2_4 x3_4 vT4 aT4).trans ((if_neg c1).trans ((if_neg c2).trans ((if_pos c7).trans (rfl)))))) hP hD hS (lv_sub hl [0, 2, 3, 4] rfl)
      have c7 := b2i_eq0 c7
      refine lv_iconst (v := 0) hx hb dX1_readForm_36 (by decide) ?_
      have hF := (show X1_readForm_f vT aT p0 = (false, (X1_readCharacter_f vT4 aT4 (k_ch p0 x3_4)).2, aT4) from hF4.trans ((X1_readForm_lp4_s vT aT p0 n x2_4 x3_4 vT4 aT4).trans ((if_neg c1).trans ((if_neg c2).trans ((if_neg c7).trans (rfl))))))
      exact kM_zret (x := b2i false) C (b2i_nar _) hP hD hS ⟨by rw [hF], by rw [hF]⟩ dX1_readForm_37
  refine lv_iconst (v := 0) hx hb dX1_readForm_0 (by decide) ?_
  refine lv_istore_n (lv' := [(2, .int 0), (0, .ref oT), (1, .ref (g.2.2 (50 + p0)))]) hx hb dX1_readForm_1 rfl hl (by decide) rfl (fun ls hl => ?_)
  refine lv_iconst (v := 0) hx hb dX1_readForm_2 (by decide) ?_
  refine lv_istore_n (lv' := [(3, .int 0), (2, .int 0), (0, .ref oT), (1, .ref (g.2.2 (50 + p0)))]) hx hb dX1_readForm_3 rfl hl (by decide) rfl (fun ls hl => ?_)
  exact loop4 6 0 0 0 vT aT _ _ ls (by omega) (by omega) rfl hok (⟨0, by omega, rfl⟩) (show X1_readForm_f vT aT p0 = X1_readForm_lp4 vT aT p0 6 0 0 vT aT from rfl) hP hD hS (lv_sub hl [0, 1, 2, 3] rfl)
theorem X1_readForm_okl {vT0 : Nat → Int32} {aT0 : Nat → Nat → Int32} {p0 : Nat} : ∀ (n : Nat) (x y : Int32) (vT : Nat → Int32) (aT : Nat → Nat → Int32), kOK1 vT → kOK1 (X1_readForm_lp4 vT0 aT0 p0 n x y vT aT).2.1 := by
  intro n
  induction n with
  | zero => intro x y vT aT h; exact h
  | succ n ih =>
    intro x y vT aT h
    rw [X1_readForm_lp4_s]
    unfold X1_readForm_lp4b
    repeat' split
    all_goals first | exact h | exact X1_readCharacter_ok h | exact X1_readNumber_ok h | exact ih _ _ _ _ (X1_readCharacter_ok h) | exact ih _ _ _ _ (X1_readNumber_ok h)
theorem X1_readForm_ok {vT : Nat → Int32} {aT : Nat → Nat → Int32} {p0 : Nat} (h : kOK1 vT) : kOK1 (X1_readForm_f vT aT p0).2.1 := X1_readForm_okl _ _ _ _ _ h

theorem pnX1_readForm : yX1_readForm.cls ≠ "java/lang/invoke/MethodHandle" ∧ yX1_readForm.cls ≠ "java/lang/invoke/VarHandle" ∧ (parseMethodDescriptor yX1_readForm.desc).map (fun d => d.parameters.length) = some 1 := by decide +kernel
theorem ca_X1_readForm : kCal yX1_readForm (Cond.code yX1_readForm cX1_readForm 5 (some .boolean)) := ⟨k_w 5 106 rfl rfl, k_w 1 51 rfl rfl, k_w 2 5 rfl rfl, k_w 5 107 rfl rfl⟩

abbrev wX1_readCommand : List Cond := Cond.code yX1_readCommand cX1_readCommand 2 (some .boolean) :: kW
def X1_readCommand_f (vT : Nat → Int32) (aT : Nat → Nat → Int32) : Bool × (Nat → Int32) × (Nat → Nat → Int32) :=
  if (vT 2) ≤ 0 then (if (vT 2) < (vT 1) then (if X1_form ((aT 0) (vT 2).toNatClampNeg) < 5 then ((X1_readForm_f (upd (upd vT 3 ((aT 0) (vT 2).toNatClampNeg)) 2 ((vT 2) + 1)) aT (X1_form ((aT 0) (vT 2).toNatClampNeg))).1, (X1_readForm_f (upd (upd vT 3 ((aT 0) (vT 2).toNatClampNeg)) 2 ((vT 2) + 1)) aT (X1_form ((aT 0) (vT 2).toNatClampNeg))).2.1, (X1_readForm_f (upd (upd vT 3 ((aT 0) (vT 2).toNatClampNeg)) 2 ((vT 2) + 1)) aT (X1_form ((aT 0) (vT 2).toNatClampNeg))).2.2)
      else (false, upd vT 3 ((aT 0) (vT 2).toNatClampNeg), aT))
    else (false, vT, aT))
  else if (X1_readCharacter_f vT aT 59).1 = true then (if (((X1_readCharacter_f vT aT 59).2) 2) < (((X1_readCharacter_f vT aT 59).2) 1) then (if X1_form ((aT 0) (((X1_readCharacter_f vT aT 59).2) 2).toNatClampNeg) < 5 then ((X1_readForm_f (upd (upd ((X1_readCharacter_f vT aT 59).2) 3 ((aT 0) (((X1_readCharacter_f vT aT 59).2) 2).toNatClampNeg)) 2 ((((X1_readCharacter_f vT aT 59).2) 2) + 1)) aT (X1_form ((aT 0) (((X1_readCharacter_f vT aT 59).2) 2).toNatClampNeg))).1, (X1_readForm_f (upd (upd ((X1_readCharacter_f vT aT 59).2) 3 ((aT 0) (((X1_readCharacter_f vT aT 59).2) 2).toNatClampNeg)) 2 ((((X1_readCharacter_f vT aT 59).2) 2) + 1)) aT (X1_form ((aT 0) (((X1_readCharacter_f vT aT 59).2) 2).toNatClampNeg))).2.1, (X1_readForm_f (upd (upd ((X1_readCharacter_f vT aT 59).2) 3 ((aT 0) (((X1_readCharacter_f vT aT 59).2) 2).toNatClampNeg)) 2 ((((X1_readCharacter_f vT aT 59).2) 2) + 1)) aT (X1_form ((aT 0) (((X1_readCharacter_f vT aT 59).2) 2).toNatClampNeg))).2.2)
      else (false, upd ((X1_readCharacter_f vT aT 59).2) 3 ((aT 0) (((X1_readCharacter_f vT aT 59).2) 2).toNatClampNeg), aT))
    else (false, (X1_readCharacter_f vT aT 59).2, aT))
  else (false, (X1_readCharacter_f vT aT 59).2, aT)
set_option maxHeartbeats 4000000 in
set_option maxRecDepth 100000 in
theorem X1_readCommand_c (l : Launch) (g : kG) (oT : Nat) (rT : Nat → Nat) (vT : Nat → Int32) (aT : Nat → Nat → Int32) (hok : kOK1 vT) : kM l yX1_readCommand wX1_readCommand 5 109 0 0 g [.ref oT] [X1W g oT rT vT aT] (fun x u => x = b2i (X1_readCommand_f vT aT).1 ∧ u = [X1W g oT rT ((X1_readCommand_f vT aT).2.1) ((X1_readCommand_f vT aT).2.2)]) := by
  refine kM_of (cc := cX1_readCommand) (nL := 2) (ret := (some .boolean)) (lv := [(0, .ref oT)]) (by decide) rfl (Nat.le_of_ble_eq_true rfl) rfl ?_
  intro p e s m args below meth c ls A C hP hD hE hA hS hl
  have C : kC p c cX1_readCommand s m args meth RX1 g 2 (some .boolean) := C
  have hx := C.1.1
  have hb := C.1.2.1
  have hts := C.1.2.2.2.2
  refine lv_aload_n hx hb dX1_readCommand_0 rfl (lv_at hl 0 rfl) ?_
  refine kg_get C kFX1 (k := 2) kw250 hP (i := 0) (q := 0) rfl rfl (by decide) rfl dX1_readCommand_1 ?_
  refine lv_if_le (tgt := 18) hx hb dX1_readCommand_4 (by decide) (fun c1 => ?_) (fun c1 => ?_)
  · refine lv_aload_n hx hb dX1_readCommand_18 rfl (lv_at hl 0 rfl) ?_
    refine kg_get C kFX1 (k := 2) kw250 hP (i := 0) (q := 0) rfl rfl (by decide) rfl dX1_readCommand_19 ?_
    refine lv_aload_n hx hb dX1_readCommand_22 rfl (lv_at hl 0 rfl) ?_
    refine kg_get C kFX1 (k := 1) kw248 hP (i := 0) (q := 0) rfl rfl (by decide) rfl dX1_readCommand_23 ?_
    refine lv_icmp_lt (tgt := 31) hx hb dX1_readCommand_26 (by decide) (fun c2 => ?_) (fun c2 => ?_)
    · have c9 := Int32.not_le.mpr c2
      have hz := fun x => k_okRead (x := x) (by first | exact hok | exact X1_readCharacter_ok hok) c9
      have z1 := k_in60 (by first | exact hok | exact X1_readCharacter_ok hok) c9
      refine lv_aload_n hx hb dX1_readCommand_31 rfl (lv_at hl 0 rfl) ?_
      refine lv_aload_n hx hb dX1_readCommand_32 rfl (lv_at hl 0 rfl) ?_
      refine kg_get C kFX1 (k := 0) kw246 hP (i := 0) (q := 0) rfl rfl (by decide) rfl dX1_readCommand_33 ?_
      refine lv_aload_n hx hb dX1_readCommand_36 rfl (lv_at hl 0 rfl) ?_
      refine kg_get C kFX1 (k := 2) kw250 hP (i := 0) (q := 0) rfl rfl (by decide) rfl dX1_readCommand_37 ?_
      refine kg_cald C hP (i := 0) (q := 1) rfl rfl (by first | assumption) dX1_readCommand_40 ?_
      refine kg_put C kFX1 (k := 3) kw252 hP hD hS (i := 0) (q := 0) rfl rfl (by decide) rfl rfl rfl (Nat.le_of_ble_eq_true rfl) X1s_3 rfl dX1_readCommand_41 (fun H locs hP hD hS => ?_)
      have hP : kp g [X1W g oT rT (upd vT 3 ((aT 0) (vT 2).toNatClampNeg)) aT] H := hP
      have hD : kd A [X1W g oT rT (upd vT 3 ((aT 0) (vT 2).toNatClampNeg)) aT] := hD
      refine lv_aload_n hx hb dX1_readCommand_44 rfl (lv_at hl 0 rfl) ?_
      refine kg_get C kFX1 (k := 3) kw252 hP (i := 0) (q := 0) rfl rfl (by decide) rfl dX1_readCommand_45 ?_
      refine kO_S (As := [.int ((aT 0) (vT 2).toNatClampNeg)]) (rest := []) C (X1_formBehind_c l g ((aT 0) (vT 2).toNatClampNeg)) (va_cwS 1 hts (k_gS kw884 cs_X1_formBehind) rfl rfl rfl pnX1_formBehind ⟨Nat.le_of_ble_eq_true rfl, Nat.le_of_ble_eq_true rfl⟩) hE hS (hP.pick [] rfl) rfl hl.1 rfl rfl dX1_readCommand_48 ⟨Nat.le_of_ble_eq_true rfl, Nat.le_of_ble_eq_true rfl⟩ ?_
      by_cases c3 : X1_form ((aT 0) (vT 2).toNatClampNeg) < 5
      · rw [show k_fv g (X1_form ((aT 0) (vT 2).toNatClampNeg)) = .ref (g.2.2 (50 + (X1_form ((aT 0) (vT 2).toNatClampNeg)))) from if_pos c3]
        refine lv_astore_n (lv' := [(1, .ref (g.2.2 (50 + (X1_form ((aT 0) (vT 2).toNatClampNeg))))), (0, .ref oT)]) hx hb dX1_readCommand_51 rfl hl (by decide) rfl (fun ls hl => ?_)
        refine lv_aload_n hx hb dX1_readCommand_52 rfl (lv_at hl 0 rfl) ?_
        refine lv_ifnonnull (tgt := 58) hx hb dX1_readCommand_53 (by decide) ?_
        refine lv_aload_n hx hb dX1_readCommand_58 rfl (lv_at hl 1 rfl) ?_
        refine lv_dup hx hb dX1_readCommand_59 rfl ?_
        refine kg_get C kFX1 (k := 2) kw250 hP (i := 0) (q := 0) rfl rfl (by decide) rfl dX1_readCommand_60 ?_
        refine lv_iconst (v := 1) hx hb dX1_readCommand_63 (by decide) ?_
        refine lv_iadd hx hb dX1_readCommand_64 ?_
        refine kg_put C kFX1 (k := 2) kw250 hP hD hS (i := 0) (q := 0) rfl rfl (by decide) rfl rfl rfl (Nat.le_of_ble_eq_true rfl) X1s_2 rfl dX1_readCommand_65 (fun H locs hP hD hS => ?_)
        have hP : kp g [X1W g oT rT (upd (upd vT 3 ((aT 0) (vT 2).toNatClampNeg)) 2 ((vT 2) + 1)) aT] H := hP
        have hD : kd A [X1W g oT rT (upd (upd vT 3 ((aT 0) (vT 2).toNatClampNeg)) 2 ((vT 2) + 1)) aT] := hD
        refine lv_aload_n hx hb dX1_readCommand_68 rfl (lv_at hl 1 rfl) ?_
        refine lv_aload_n hx hb dX1_readCommand_69 rfl (lv_at hl 0 rfl) ?_
        refine kM_V (As := [.ref (g.2.2 (50 + (X1_form ((aT 0) (vT 2).toNatClampNeg))))]) (rest := []) (wr := []) C (X1_readForm_c l g oT rT (upd (upd vT 3 ((aT 0) (vT 2).toNatClampNeg)) 2 ((vT 2) + 1)) aT (X1_form ((aT 0) (vT 2).toNatClampNeg)) (by assumption) (hz _)) (cwV 1 hts (k_gV kw892 ca_X1_readForm) rfl rfl rfl ⟨rfl, pnX1_readForm⟩ ⟨Nat.le_of_ble_eq_true rfl, Nat.le_of_ble_eq_true rfl⟩) hE hS hA hP hD [0] [] rfl rfl ⟨rfl, rfl, by decide⟩ (k_recv C kFX1 hP (i := 0) (q := 0) rfl rfl) rfl hl.1 rfl rfl dX1_readCommand_70 ⟨Nat.le_of_ble_eq_true rfl, Nat.le_of_ble_eq_true rfl⟩ (fun r4 u4 H locs hp4 hP hD hS => ?_)
        obtain ⟨rfl, rfl⟩ := hp4
        have hP : kp g [X1W g oT rT ((X1_readForm_f (upd (upd vT 3 ((aT 0) (vT 2).toNatClampNeg)) 2 ((vT 2) + 1)) aT (X1_form ((aT 0) (vT 2).toNatClampNeg))).2.1) ((X1_readForm_f (upd (upd vT 3 ((aT 0) (vT 2).toNatClampNeg)) 2 ((vT 2) + 1)) aT (X1_form ((aT 0) (vT 2).toNatClampNeg))).2.2)] H := hP
        have hD : kd A [X1W g oT rT ((X1_readForm_f (upd (upd vT 3 ((aT 0) (vT 2).toNatClampNeg)) 2 ((vT 2) + 1)) aT (X1_form ((aT 0) (vT 2).toNatClampNeg))).2.1) ((X1_readForm_f (upd (upd vT 3 ((aT 0) (vT 2).toNatClampNeg)) 2 ((vT 2) + 1)) aT (X1_form ((aT 0) (vT 2).toNatClampNeg))).2.2)] := hD
        have hF := (show X1_readCommand_f vT aT = ((X1_readForm_f (upd (upd vT 3 ((aT 0) (vT 2).toNatClampNeg)) 2 ((vT 2) + 1)) aT (X1_form ((aT 0) (vT 2).toNatClampNeg))).1, (X1_readForm_f (upd (upd vT 3 ((aT 0) (vT 2).toNatClampNeg)) 2 ((vT 2) + 1)) aT (X1_form ((aT 0) (vT 2).toNatClampNeg))).2.1, (X1_readForm_f (upd (upd vT 3 ((aT 0) (vT 2).toNatClampNeg)) 2 ((vT 2) + 1)) aT (X1_form ((aT 0) (vT 2).toNatClampNeg))).2.2) from (if_pos c1).trans ((if_pos c2).trans ((if_pos c3).trans (rfl))))
        exact kM_zret (x := b2i ((X1_readForm_f (upd (upd vT 3 ((aT 0) (vT 2).toNatClampNeg)) 2 ((vT 2) + 1)) aT (X1_form ((aT 0) (vT 2).toNatClampNeg))).1)) C (b2i_nar _) hP hD hS ⟨by rw [hF], by rw [hF]⟩ dX1_readCommand_73
      rw [show k_fv g (X1_form ((aT 0) (vT 2).toNatClampNeg)) = .null from if_neg c3]
      refine lv_astore_nN (lv' := [(1, .null), (0, .ref oT)]) hx hb dX1_readCommand_51 rfl hl (by decide) rfl (fun ls hl => ?_)
      refine lv_aload_nN hx hb dX1_readCommand_52 rfl (lv_at hl 0 rfl) ?_
      refine lv_ifnonnullN hx hb dX1_readCommand_53 ?_
      refine lv_iconst (v := 0) hx hb dX1_readCommand_56 (by decide) ?_
      have hF := (show X1_readCommand_f vT aT = (false, upd vT 3 ((aT 0) (vT 2).toNatClampNeg), aT) from (if_pos c1).trans ((if_pos c2).trans ((if_neg c3).trans (rfl))))
      exact kM_zret (x := b2i false) C (b2i_nar _) hP hD hS ⟨by rw [hF], by rw [hF]⟩ dX1_readCommand_57
    refine lv_iconst (v := 0) hx hb dX1_readCommand_29 (by decide) ?_
    have hF := (show X1_readCommand_f vT aT = (false, vT, aT) from (if_pos c1).trans ((if_neg c2).trans (rfl)))
    exact kM_zret (x := b2i false) C (b2i_nar _) hP hD hS ⟨by rw [hF], by rw [hF]⟩ dX1_readCommand_30
  refine lv_aload_n hx hb dX1_readCommand_7 rfl (lv_at hl 0 rfl) ?_
  refine lv_bipush (v := 59) hx hb dX1_readCommand_8 (by decide) ?_
  refine kM_V (As := [.int 59]) (rest := []) (wr := []) C (X1_readCharacter_c l g oT rT vT aT 59 (by first | assumption)) (cwV 1 hts (k_gV kw880 ca_X1_readCharacter) rfl rfl rfl ⟨rfl, pnX1_readCharacter⟩ ⟨Nat.le_of_ble_eq_true rfl, Nat.le_of_ble_eq_true rfl⟩) hE hS hA hP hD [0] [] rfl rfl ⟨rfl, rfl, by decide⟩ (k_recv C kFX1 hP (i := 0) (q := 0) rfl rfl) rfl hl.1 rfl rfl dX1_readCommand_10 ⟨Nat.le_of_ble_eq_true rfl, Nat.le_of_ble_eq_true rfl⟩ (fun r5 u5 H locs hp5 hP hD hS => ?_)
  obtain ⟨rfl, rfl⟩ := hp5
  have hP : kp g [X1W g oT rT ((X1_readCharacter_f vT aT 59).2) aT] H := hP
  have hD : kd A [X1W g oT rT ((X1_readCharacter_f vT aT 59).2) aT] := hD
  refine lv_if_ne (tgt := 18) hx hb dX1_readCommand_13 (by decide) (fun c6 => ?_) (fun c6 => ?_)
  · have c6 := b2i_ne0 c6
    refine lv_aload_n hx hb dX1_readCommand_18 rfl (lv_at hl 0 rfl) ?_
    refine kg_get C kFX1 (k := 2) kw250 hP (i := 0) (q := 0) rfl rfl (by decide) rfl dX1_readCommand_19 ?_
    refine lv_aload_n hx hb dX1_readCommand_22 rfl (lv_at hl 0 rfl) ?_
    refine kg_get C kFX1 (k := 1) kw248 hP (i := 0) (q := 0) rfl rfl (by decide) rfl dX1_readCommand_23 ?_
    refine lv_icmp_lt (tgt := 31) hx hb dX1_readCommand_26 (by decide) (fun c7 => ?_) (fun c7 => ?_)
    · have c9 := Int32.not_le.mpr c7
      have hz := fun x => k_okRead (x := x) (by first | exact hok | exact X1_readCharacter_ok hok) c9
      have z1 := k_in60 (by first | exact hok | exact X1_readCharacter_ok hok) c9
      refine lv_aload_n hx hb dX1_readCommand_31 rfl (lv_at hl 0 rfl) ?_
      refine lv_aload_n hx hb dX1_readCommand_32 rfl (lv_at hl 0 rfl) ?_
      refine kg_get C kFX1 (k := 0) kw246 hP (i := 0) (q := 0) rfl rfl (by decide) rfl dX1_readCommand_33 ?_
      refine lv_aload_n hx hb dX1_readCommand_36 rfl (lv_at hl 0 rfl) ?_
      refine kg_get C kFX1 (k := 2) kw250 hP (i := 0) (q := 0) rfl rfl (by decide) rfl dX1_readCommand_37 ?_
      refine kg_cald C hP (i := 0) (q := 1) rfl rfl (by first | assumption) dX1_readCommand_40 ?_
      refine kg_put C kFX1 (k := 3) kw252 hP hD hS (i := 0) (q := 0) rfl rfl (by decide) rfl rfl rfl (Nat.le_of_ble_eq_true rfl) X1s_3 rfl dX1_readCommand_41 (fun H locs hP hD hS => ?_)
      have hP : kp g [X1W g oT rT (upd ((X1_readCharacter_f vT aT 59).2) 3 ((aT 0) (((X1_readCharacter_f vT aT 59).2) 2).toNatClampNeg)) aT] H := hP
      have hD : kd A [X1W g oT rT (upd ((X1_readCharacter_f vT aT 59).2) 3 ((aT 0) (((X1_readCharacter_f vT aT 59).2) 2).toNatClampNeg)) aT] := hD
      refine lv_aload_n hx hb dX1_readCommand_44 rfl (lv_at hl 0 rfl) ?_
      refine kg_get C kFX1 (k := 3) kw252 hP (i := 0) (q := 0) rfl rfl (by decide) rfl dX1_readCommand_45 ?_
      refine kO_S (As := [.int ((aT 0) (((X1_readCharacter_f vT aT 59).2) 2).toNatClampNeg)]) (rest := []) C (X1_formBehind_c l g ((aT 0) (((X1_readCharacter_f vT aT 59).2) 2).toNatClampNeg)) (va_cwS 1 hts (k_gS kw884 cs_X1_formBehind) rfl rfl rfl pnX1_formBehind ⟨Nat.le_of_ble_eq_true rfl, Nat.le_of_ble_eq_true rfl⟩) hE hS (hP.pick [] rfl) rfl hl.1 rfl rfl dX1_readCommand_48 ⟨Nat.le_of_ble_eq_true rfl, Nat.le_of_ble_eq_true rfl⟩ ?_
      by_cases c8 : X1_form ((aT 0) (((X1_readCharacter_f vT aT 59).2) 2).toNatClampNeg) < 5
      · rw [show k_fv g (X1_form ((aT 0) (((X1_readCharacter_f vT aT 59).2) 2).toNatClampNeg)) = .ref (g.2.2 (50 + (X1_form ((aT 0) (((X1_readCharacter_f vT aT 59).2) 2).toNatClampNeg)))) from if_pos c8]
        refine lv_astore_n (lv' := [(1, .ref (g.2.2 (50 + (X1_form ((aT 0) (((X1_readCharacter_f vT aT 59).2) 2).toNatClampNeg))))), (0, .ref oT)]) hx hb dX1_readCommand_51 rfl hl (by decide) rfl (fun ls hl => ?_)
        refine lv_aload_n hx hb dX1_readCommand_52 rfl (lv_at hl 0 rfl) ?_
        refine lv_ifnonnull (tgt := 58) hx hb dX1_readCommand_53 (by decide) ?_
        refine lv_aload_n hx hb dX1_readCommand_58 rfl (lv_at hl 1 rfl) ?_
        refine lv_dup hx hb dX1_readCommand_59 rfl ?_
        refine kg_get C kFX1 (k := 2) kw250 hP (i := 0) (q := 0) rfl rfl (by decide) rfl dX1_readCommand_60 ?_
        refine lv_iconst (v := 1) hx hb dX1_readCommand_63 (by decide) ?_
        refine lv_iadd hx hb dX1_readCommand_64 ?_
        refine kg_put C kFX1 (k := 2) kw250 hP hD hS (i := 0) (q := 0) rfl rfl (by decide) rfl rfl rfl (Nat.le_of_ble_eq_true rfl) X1s_2 rfl dX1_readCommand_65 (fun H locs hP hD hS => ?_)
        have hP : kp g [X1W g oT rT (upd (upd ((X1_readCharacter_f vT aT 59).2) 3 ((aT 0) (((X1_readCharacter_f vT aT 59).2) 2).toNatClampNeg)) 2 ((((X1_readCharacter_f vT aT 59).2) 2) + 1)) aT] H := hP
        have hD : kd A [X1W g oT rT (upd (upd ((X1_readCharacter_f vT aT 59).2) 3 ((aT 0) (((X1_readCharacter_f vT aT 59).2) 2).toNatClampNeg)) 2 ((((X1_readCharacter_f vT aT 59).2) 2) + 1)) aT] := hD
        refine lv_aload_n hx hb dX1_readCommand_68 rfl (lv_at hl 1 rfl) ?_
        refine lv_aload_n hx hb dX1_readCommand_69 rfl (lv_at hl 0 rfl) ?_
        refine kM_V (As := [.ref (g.2.2 (50 + (X1_form ((aT 0) (((X1_readCharacter_f vT aT 59).2) 2).toNatClampNeg))))]) (rest := []) (wr := []) C (X1_readForm_c l g oT rT (upd (upd ((X1_readCharacter_f vT aT 59).2) 3 ((aT 0) (((X1_readCharacter_f vT aT 59).2) 2).toNatClampNeg)) 2 ((((X1_readCharacter_f vT aT 59).2) 2) + 1)) aT (X1_form ((aT 0) (((X1_readCharacter_f vT aT 59).2) 2).toNatClampNeg)) (by assumption) (hz _)) (cwV 1 hts (k_gV kw892 ca_X1_readForm) rfl rfl rfl ⟨rfl, pnX1_readForm⟩ ⟨Nat.le_of_ble_eq_true rfl, Nat.le_of_ble_eq_true rfl⟩) hE hS hA hP hD [0] [] rfl rfl ⟨rfl, rfl, by decide⟩ (k_recv C kFX1 hP (i := 0) (q := 0) rfl rfl) rfl hl.1 rfl rfl dX1_readCommand_70 ⟨Nat.le_of_ble_eq_true rfl, Nat.le_of_ble_eq_true rfl⟩ (fun r9 u9 H locs hp9 hP hD hS => ?_)
        obtain ⟨rfl, rfl⟩ := hp9
        have hP : kp g [X1W g oT rT ((X1_readForm_f (upd (upd ((X1_readCharacter_f vT aT 59).2) 3 ((aT 0) (((X1_readCharacter_f vT aT 59).2) 2).toNatClampNeg)) 2 ((((X1_readCharacter_f vT aT 59).2) 2) + 1)) aT (X1_form ((aT 0) (((X1_readCharacter_f vT aT 59).2) 2).toNatClampNeg))).2.1) ((X1_readForm_f (upd (upd ((X1_readCharacter_f vT aT 59).2) 3 ((aT 0) (((X1_readCharacter_f vT aT 59).2) 2).toNatClampNeg)) 2 ((((X1_readCharacter_f vT aT 59).2) 2) + 1)) aT (X1_form ((aT 0) (((X1_readCharacter_f vT aT 59).2) 2).toNatClampNeg))).2.2)] H := hP
        have hD : kd A [X1W g oT rT ((X1_readForm_f (upd (upd ((X1_readCharacter_f vT aT 59).2) 3 ((aT 0) (((X1_readCharacter_f vT aT 59).2) 2).toNatClampNeg)) 2 ((((X1_readCharacter_f vT aT 59).2) 2) + 1)) aT (X1_form ((aT 0) (((X1_readCharacter_f vT aT 59).2) 2).toNatClampNeg))).2.1) ((X1_readForm_f (upd (upd ((X1_readCharacter_f vT aT 59).2) 3 ((aT 0) (((X1_readCharacter_f vT aT 59).2) 2).toNatClampNeg)) 2 ((((X1_readCharacter_f vT aT 59).2) 2) + 1)) aT (X1_form ((aT 0) (((X1_readCharacter_f vT aT 59).2) 2).toNatClampNeg))).2.2)] := hD
        have hF := (show X1_readCommand_f vT aT = ((X1_readForm_f (upd (upd ((X1_readCharacter_f vT aT 59).2) 3 ((aT 0) (((X1_readCharacter_f vT aT 59).2) 2).toNatClampNeg)) 2 ((((X1_readCharacter_f vT aT 59).2) 2) + 1)) aT (X1_form ((aT 0) (((X1_readCharacter_f vT aT 59).2) 2).toNatClampNeg))).1, (X1_readForm_f (upd (upd ((X1_readCharacter_f vT aT 59).2) 3 ((aT 0) (((X1_readCharacter_f vT aT 59).2) 2).toNatClampNeg)) 2 ((((X1_readCharacter_f vT aT 59).2) 2) + 1)) aT (X1_form ((aT 0) (((X1_readCharacter_f vT aT 59).2) 2).toNatClampNeg))).2.1, (X1_readForm_f (upd (upd ((X1_readCharacter_f vT aT 59).2) 3 ((aT 0) (((X1_readCharacter_f vT aT 59).2) 2).toNatClampNeg)) 2 ((((X1_readCharacter_f vT aT 59).2) 2) + 1)) aT (X1_form ((aT 0) (((X1_readCharacter_f vT aT 59).2) 2).toNatClampNeg))).2.2) from (if_neg c1).trans ((if_pos c6).trans ((if_pos c7).trans ((if_pos c8).trans (rfl)))))
        exact kM_zret (x := b2i ((X1_readForm_f (upd (upd ((X1_readCharacter_f vT aT 59).2) 3 ((aT 0) (((X1_readCharacter_f vT aT 59).2) 2).toNatClampNeg)) 2 ((((X1_readCharacter_f vT aT 59).2) 2) + 1)) aT (X1_form ((aT 0) (((X1_readCharacter_f vT aT 59).2) 2).toNatClampNeg))).1)) C (b2i_nar _) hP hD hS ⟨by rw [hF], by rw [hF]⟩ dX1_readCommand_73
      rw [show k_fv g (X1_form ((aT 0) (((X1_readCharacter_f vT aT 59).2) 2).toNatClampNeg)) = .null from if_neg c8]
      refine lv_astore_nN (lv' := [(1, .null), (0, .ref oT)]) hx hb dX1_readCommand_51 rfl hl (by decide) rfl (fun ls hl => ?_)
      refine lv_aload_nN hx hb dX1_readCommand_52 rfl (lv_at hl 0 rfl) ?_
      refine lv_ifnonnullN hx hb dX1_readCommand_53 ?_
      refine lv_iconst (v := 0) hx hb dX1_readCommand_56 (by decide) ?_
      have hF := (show X1_readCommand_f vT aT = (false, upd ((X1_readCharacter_f vT aT 59).2) 3 ((aT 0) (((X1_readCharacter_f vT aT 59).2) 2).toNatClampNeg), aT) from (if_neg c1).trans ((if_pos c6).trans ((if_pos c7).trans ((if_neg c8).trans (rfl)))))
      exact kM_zret (x := b2i false) C (b2i_nar _) hP hD hS ⟨by rw [hF], by rw [hF]⟩ dX1_readCommand_57
    refine lv_iconst (v := 0) hx hb dX1_readCommand_29 (by decide) ?_
    have hF := (show X1_readCommand_f vT aT = (false, (X1_readCharacter_f vT aT 59).2, aT) from (if_neg c1).trans ((if_pos c6).trans ((if_neg c7).trans (rfl))))
    exact kM_zret (x := b2i false) C (b2i_nar _) hP hD hS ⟨by rw [hF], by rw [hF]⟩ dX1_readCommand_30
  have c6 := b2i_eq0 c6
  refine lv_iconst (v := 0) hx hb dX1_readCommand_16 (by decide) ?_
  have hF := (show X1_readCommand_f vT aT = (false, (X1_readCharacter_f vT aT 59).2, aT) from (if_neg c1).trans ((if_neg c6).trans (rfl)))
  exact kM_zret (x := b2i false) C (b2i_nar _) hP hD hS ⟨by rw [hF], by rw [hF]⟩ dX1_readCommand_17
theorem X1_readCommand_ok {vT : Nat → Int32} {aT : Nat → Nat → Int32} (h : kOK1 vT) : kOK1 (X1_readCommand_f vT aT).2.1 := by
  have h2 := X1_readCharacter_ok (aT := aT) (p0 := 59) h
  unfold X1_readCommand_f
  repeat' split
  all_goals first | exact h | exact h2 | exact X1_readForm_ok (k_okRead (by assumption) (Int32.not_le.mpr (by assumption))) | exact k_okAct h | exact k_okAct h2

theorem pnX1_readCommand : yX1_readCommand.cls ≠ "java/lang/invoke/MethodHandle" ∧ yX1_readCommand.cls ≠ "java/lang/invoke/VarHandle" ∧ (parseMethodDescriptor yX1_readCommand.desc).map (fun d => d.parameters.length) = some 0 := by decide +kernel
theorem ca_X1_readCommand : kCal yX1_readCommand (Cond.code yX1_readCommand cX1_readCommand 2 (some .boolean)) := ⟨k_w 5 90 rfl rfl, k_w 1 49 rfl rfl, k_w 2 5 rfl rfl, k_w 5 91 rfl rfl⟩

abbrev wX1_countCommands : List Cond := Cond.code yX1_countCommands cX1_countCommands 2 (some .int) :: kW
def X1_countCommands_lp7b (vT : Nat → Int32) (aT : Nat → Nat → Int32) (rec : Int32 → (Nat → Int32) → (Nat → Nat → Int32) → (Int32 × (Nat → Int32) × (Nat → Nat → Int32))) (x1_7 : Int32) (vT7 : Nat → Int32) (aT7 : Nat → Nat → Int32) : Int32 × (Nat → Int32) × (Nat → Nat → Int32) :=
  if 60 < x1_7 then ((-1), vT7, aT7)
  else if (X1_readCommand_f vT7 aT7).1 = true then (if (((X1_readCommand_f vT7 aT7).2.1) 2) < (((X1_readCommand_f vT7 aT7).2.1) 1) then rec (x1_7 + 1) ((X1_readCommand_f vT7 aT7).2.1) ((X1_readCommand_f vT7 aT7).2.2)
    else (x1_7, (X1_readCommand_f vT7 aT7).2.1, (X1_readCommand_f vT7 aT7).2.2))
  else ((-1), (X1_readCommand_f vT7 aT7).2.1, (X1_readCommand_f vT7 aT7).2.2)
def X1_countCommands_lp7 (vT : Nat → Int32) (aT : Nat → Nat → Int32) : Nat → Int32 → (Nat → Int32) → (Nat → Nat → Int32) → (Int32 × (Nat → Int32) × (Nat → Nat → Int32))
  | 0 => fun x1_7 vT7 aT7 => (0, vT7, aT7)
  | n + 1 => X1_countCommands_lp7b vT aT (X1_countCommands_lp7 vT aT n)
theorem X1_countCommands_lp7_s (vT : Nat → Int32) (aT : Nat → Nat → Int32) (n : Nat) (x1_7 : Int32) (vT7 : Nat → Int32) (aT7 : Nat → Nat → Int32) : X1_countCommands_lp7 vT aT (n + 1) x1_7 vT7 aT7 = X1_countCommands_lp7b vT aT (X1_countCommands_lp7 vT aT n) x1_7 vT7 aT7 := rfl
def X1_countCommands_f (vT : Nat → Int32) (aT : Nat → Nat → Int32) : Int32 × (Nat → Int32) × (Nat → Nat → Int32) :=
  X1_countCommands_lp7 vT aT 61 1 (upd vT 2 0) aT
set_option maxHeartbeats 4000000 in
set_option maxRecDepth 100000 in
theorem X1_countCommands_c (l : Launch) (g : kG) (oT : Nat) (rT : Nat → Nat) (vT : Nat → Int32) (aT : Nat → Nat → Int32) (hL1 : (∃ n : Nat, n ≤ 60 ∧ vT 1 = nI n)) : kM l yX1_countCommands wX1_countCommands 6 130 0 0 g [.ref oT] [X1W g oT rT vT aT] (fun x u => x = (X1_countCommands_f vT aT).1 ∧ u = [X1W g oT rT ((X1_countCommands_f vT aT).2.1) ((X1_countCommands_f vT aT).2.2)]) := by
  refine kM_of (cc := cX1_countCommands) (nL := 2) (ret := (some .int)) (lv := [(0, .ref oT)]) (by decide) rfl (Nat.le_of_ble_eq_true rfl) rfl ?_
  intro p e s m args below meth c ls A C hP hD hE hA hS hl
  have C : kC p c cX1_countCommands s m args meth RX1 g 2 (some .int) := C
  have hx := C.1.1
  have hb := C.1.2.1
  have hts := C.1.2.2.2.2
  have loop7 : ∀ (n : Nat) (j7 : Nat) (x1_7 : Int32) (vT7 : Nat → Int32) (aT7 : Nat → Nat → Int32) (H : Heap) (locs : List Loc) (ls : Array Slot), x1_7 = nI j7 → j7 ≤ 61 → 61 < j7 + n → kOK1 vT7 → X1_countCommands_f vT aT = X1_countCommands_lp7 vT aT n x1_7 vT7 aT7 → kp g [X1W g oT rT vT7 aT7] H → kd A [X1W g oT rT vT7 aT7] → va_S A s.heap H locs → lv_has ls 2 [(1, .int x1_7), (0, .ref oT)] → W p l e (kRm 6 0 0 130) s m args below meth c H locs 0 0 (MQ below (kQi g (fun x u => x = (X1_countCommands_f vT aT).1 ∧ u = [X1W g oT rT ((X1_countCommands_f vT aT).2.1) ((X1_countCommands_f vT aT).2.2)]) A) args s 0 0 A) (F0 m 7 ls []) := by
    intro n
    induction n with
    | zero =>
      intro j7 x1_7 vT7 aT7 H locs ls hx7 hj7 hn7 hok7 hF7 hP hD hS hl
      exact absurd hn7 (by omega)
    | succ n ih7 =>
      intro j7 x1_7 vT7 aT7 H locs ls hx7 hj7 hn7 hok7 hF7 hP hD hS hl
      refine lv_iload_n hx hb dX1_countCommands_7 rfl (lv_at hl 0 rfl) ?_
      refine lv_bipush (v := 60) hx hb dX1_countCommands_8 (by decide) ?_
      refine lv_icmp_gt (tgt := 41) hx hb dX1_countCommands_10 (by decide) (fun c1 => ?_) (fun c1 => ?_)
      · refine lv_iconst (v := (-1)) hx hb dX1_countCommands_41 (by decide) ?_
        have hF := (show X1_countCommands_f vT aT = ((-1), vT7, aT7) from hF7.trans ((X1_countCommands_lp7_s vT aT n x1_7 vT7 aT7).trans ((if_pos c1).trans (rfl))))
        exact kM_ret (x := (-1)) C hP hD hS ⟨by rw [hF], by rw [hF]⟩ dX1_countCommands_42
      have hle := k_le60 hx7 hj7 c1
      refine lv_aload_n hx hb dX1_countCommands_13 rfl (lv_at hl 1 rfl) ?_
      refine kM_V (As := []) (rest := []) (wr := []) C (X1_readCommand_c l g oT rT vT7 aT7 (by first | assumption)) (cwV 0 hts (k_gV kw876 ca_X1_readCommand) rfl rfl rfl ⟨rfl, pnX1_readCommand⟩ ⟨Nat.le_of_ble_eq_true rfl, Nat.le_of_ble_eq_true rfl⟩) hE hS hA hP hD [0] [] rfl rfl ⟨rfl, rfl, by decide⟩ (k_recv C kFX1 hP (i := 0) (q := 0) rfl rfl) rfl hl.1 rfl rfl dX1_countCommands_14 ⟨Nat.le_of_ble_eq_true rfl, Nat.le_of_ble_eq_true rfl⟩ (fun r2 u2 H locs hp2 hP hD hS => ?_)
      obtain ⟨rfl, rfl⟩ := hp2
      have hP : kp g [X1W g oT rT ((X1_readCommand_f vT7 aT7).2.1) ((X1_readCommand_f vT7 aT7).2.2)] H := hP
      have hD : kd A [X1W g oT rT ((X1_readCommand_f vT7 aT7).2.1) ((X1_readCommand_f vT7 aT7).2.2)] := hD
      refine lv_if_ne (tgt := 22) hx hb dX1_countCommands_17 (by decide) (fun c3 => ?_) (fun c3 => ?_)
      · have c3 := b2i_ne0 c3
        refine lv_aload_n hx hb dX1_countCommands_22 rfl (lv_at hl 1 rfl) ?_
        refine kg_get C kFX1 (k := 2) kw250 hP (i := 0) (q := 0) rfl rfl (by decide) rfl dX1_countCommands_23 ?_
        refine lv_aload_n hx hb dX1_countCommands_26 rfl (lv_at hl 1 rfl) ?_
        refine kg_get C kFX1 (k := 1) kw248 hP (i := 0) (q := 0) rfl rfl (by decide) rfl dX1_countCommands_27 ?_
        refine lv_icmp_lt (tgt := 35) hx hb dX1_countCommands_30 (by decide) (fun c4 => ?_) (fun c4 => ?_)
        · refine lv_iinc (v := (x1_7 + 1)) (lv' := [(1, .int (x1_7 + 1)), (0, .ref oT)]) hx hb dX1_countCommands_35 hl (k := 0) rfl rfl (by decide) rfl (fun ls hl => ?_)
          refine lv_goto (tgt := 7) hx hb dX1_countCommands_38 (by decide) ?_
          exact ih7 (j7 + 1) (x1_7 + 1) ((X1_readCommand_f vT7 aT7).2.1) ((X1_readCommand_f vT7 aT7).2.2) _ _ ls (k_up hx7) (by omega) (by omega) (X1_readCommand_ok hok7) (show X1_countCommands_f vT aT = X1_countCommands_lp7 vT aT n (x1_7 + 1) ((X1_readCommand_f vT7 aT7).2.1) ((X1_readCommand_f vT7 aT7).2.2) from hF7.trans ((X1_countCommands_lp7_s vT aT n x1_7 vT7 aT7).trans ((if_neg c1).trans ((if_pos c3).trans ((if_pos c4).trans (rfl)))))) hP hD hS (lv_sub hl [0, 1] rfl)
        refine lv_iload_n hx hb dX1_countCommands_33 rfl (lv_at hl 0 rfl) ?_
        have hF := (show X1_countCommands_f vT aT = (x1_7, (X1_readCommand_f vT7 aT7).2.1, (X1_readCommand_f vT7 aT7).2.2) from hF7.trans ((X1_countCommands_lp7_s vT aT n x1_7 vT7 aT7).trans ((if_neg c1).trans ((if_pos c3).trans ((if_neg c4).trans (rfl))))))
        exact kM_ret (x := x1_7) C hP hD hS ⟨by rw [hF], by rw [hF]⟩ dX1_countCommands_34
      have c3 := b2i_eq0 c3
      refine lv_iconst (v := (-1)) hx hb dX1_countCommands_20 (by decide) ?_
      have hF := (show X1_countCommands_f vT aT = ((-1), (X1_readCommand_f vT7 aT7).2.1, (X1_readCommand_f vT7 aT7).2.2) from hF7.trans ((X1_countCommands_lp7_s vT aT n x1_7 vT7 aT7).trans ((if_neg c1).trans ((if_neg c3).trans (rfl)))))
      exact kM_ret (x := (-1)) C hP hD hS ⟨by rw [hF], by rw [hF]⟩ dX1_countCommands_21
  refine lv_aload_n hx hb dX1_countCommands_0 rfl (lv_at hl 0 rfl) ?_
  refine lv_iconst (v := 0) hx hb dX1_countCommands_1 (by decide) ?_
  refine kg_put C kFX1 (k := 2) kw250 hP hD hS (i := 0) (q := 0) rfl rfl (by decide) rfl rfl rfl (Nat.le_of_ble_eq_true rfl) X1s_2 rfl dX1_countCommands_2 (fun H locs hP hD hS => ?_)
  have hP : kp g [X1W g oT rT (upd vT 2 0) aT] H := hP
  have hD : kd A [X1W g oT rT (upd vT 2 0) aT] := hD
  refine lv_iconst (v := 1) hx hb dX1_countCommands_5 (by decide) ?_
  refine lv_istore_n (lv' := [(1, .int 1), (0, .ref oT)]) hx hb dX1_countCommands_6 rfl hl (by decide) rfl (fun ls hl => ?_)
  exact loop7 61 1 1 (upd vT 2 0) aT _ _ ls rfl (by omega) (by omega) (k_ok0L hL1) (show X1_countCommands_f vT aT = X1_countCommands_lp7 vT aT 61 1 (upd vT 2 0) aT from rfl) hP hD hS (lv_sub hl [0, 1] rfl)
