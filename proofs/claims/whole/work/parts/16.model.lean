/-- a stretch of one array over another -/
def k_cpy (j n : Nat) (f h : Nat → Int32) : Nat → Int32 := fun i => if j ≤ i ∧ i < n then f i else h i
theorem k_cpy_up {j n : Nat} {f h : Nat → Int32} (hj : j < n) : k_cpy (j + 1) n f (upd h j (f j)) = k_cpy j n f h := by
  funext i
  unfold k_cpy upd
  by_cases h1 : i = j
  · subst h1
    rw [if_neg (by omega), if_pos rfl, if_pos (by omega)]
  · rw [if_neg h1]
    by_cases h2 : j ≤ i ∧ i < n
    · rw [if_pos (by omega), if_pos h2]
    · rw [if_neg (by omega), if_neg h2]
theorem k_cpy_no {n : Nat} {f h : Nat → Int32} : k_cpy n n f h = h := by
  funext i
  unfold k_cpy
  rw [if_neg (by omega)]
theorem k_up_up {α : Type} {f : Nat → α} {k : Nat} {x y : α} : va_up (va_up f k x) k y = va_up f k y := by
  funext j
  unfold va_up
  split <;> rfl
theorem k_up_self {α : Type} {f : Nat → α} {k : Nat} : va_up f k (f k) = f := by
  funext j
  unfold va_up
  split
  · rename_i h; rw [h]
  · rfl
theorem k_nle {j n : Nat} (h : j < n) (hn : n < 2 ^ 31) : ¬ nI n ≤ nI j := fun c => absurd ((nI_leI hn (by omega)).mp c) (by omega)
theorem k_u8 {x : Int32} (h : ∃ u : Nat, u ≤ 8 ∧ x = nI u) (c : ¬ x = 8) : ∃ u : Nat, u < 8 ∧ x = nI u := by
  obtain ⟨u, h1, h2⟩ := h
  refine ⟨u, ?_, h2⟩
  rcases Nat.lt_or_ge u 8 with h | h
  · exact h
  · exact absurd (by rw [h2, show u = 8 by omega]; rfl) c
theorem k_u7 {x : Int32} (c : x = 8) : ∃ u : Nat, u < 8 ∧ x - 1 = nI u := ⟨7, by omega, by rw [c]; rfl⟩
theorem k_n6 {x : Int32} (h : ∃ n : Nat, n ≤ 6 ∧ x = nI n) (c : ¬ x = 6) : vp_in x 6 := by
  obtain ⟨n, h1, rfl⟩ := h
  refine vp_in_nI ?_ (by omega)
  rcases Nat.lt_or_ge n 6 with h | h
  · exact h
  · exact absurd (by rw [show n = 6 by omega]; rfl) c
theorem k_kept {x y : Int32} {j : Nat} (h : ∃ u : Nat, u < 8 ∧ x = nI u) (hy : y = nI j) (hj : j < 64) : vp_in (64 * x + y) 512 := by
  obtain ⟨u, hu, rfl⟩ := h
  subst hy
  rw [show (64 : Int32) = nI 64 from rfl, pk_mul, nI_add]
  exact vp_in_nI (by omega) (by omega)
theorem k_jix {x : Int32} (h : vp_in x 6) : vp_in (22 + 2 * x) 64 := by
  obtain ⟨j, hj, rfl⟩ := vp_in_of h (by omega)
  rw [show (22 : Int32) = nI 22 from rfl, show (2 : Int32) = nI 2 from rfl, pk_mul, nI_add]
  exact vp_in_nI (by omega) (by omega)
theorem k_jix1 {x : Int32} (h : vp_in x 6) : vp_in (22 + 2 * x + 1) 64 := by
  obtain ⟨j, hj, rfl⟩ := vp_in_of h (by omega)
  rw [show (22 : Int32) = nI 22 from rfl, show (2 : Int32) = nI 2 from rfl, pk_mul, nI_add, nI_1]
  exact vp_in_nI (by omega) (by omega)
theorem k_jix0 {x : Int32} (h : vp_in x 6) : vp_in (22 + 2 * x + 0) 64 := by
  rw [Int32.add_zero]; exact k_jix h
theorem k_u {x y : Int32} (e : x = y) (h : ∃ u : Nat, u ≤ 8 ∧ y = nI u) : ∃ u : Nat, u ≤ 8 ∧ x = nI u := by rw [e]; exact h
theorem k_n {x y : Int32} (e : x = y) (h : ∃ u : Nat, u ≤ 6 ∧ y = nI u) : ∃ u : Nat, u ≤ 6 ∧ x = nI u := by rw [e]; exact h

theorem kw1446 : Cond.fieldLink RX5 9 "SpiceScaleModel" "now" "[I" ∈ kW := k_w 7 140 rfl rfl
theorem kw1447 : Cond.fieldLink RX5 13 "SpiceScaleModel" "tried" "[I" ∈ kW := k_w 7 141 rfl rfl
theorem kw1448 : Cond.fieldLink RX5 16 "SpiceScaleModel" "kept" "[I" ∈ kW := k_w 7 142 rfl rfl
theorem kw1449 : Cond.fieldLink RX5 42 "SpiceScaleModel" "undos" "I" ∈ kW := k_w 7 143 rfl rfl
theorem kw1460 : Cond.fieldLink RX5 45 "SpiceScaleModel" "reason" "I" ∈ kW := k_w 7 154 rfl rfl
theorem kw1461 : Cond.fieldLink RX5 48 "SpiceScaleModel" "detail" "I" ∈ kW := k_w 7 155 rfl rfl
theorem kw1462 : Cond.fieldLink RX5 39 "SpiceScaleModel" "place" "I" ∈ kW := k_w 7 156 rfl rfl
theorem kw1463 : Cond.fieldLink RX5 51 "SpiceScaleModel" "reasonPlace" "I" ∈ kW := k_w 7 157 rfl rfl
theorem kw1464 : Cond.fieldLink RX5 54 "SpiceScaleModel" "answer" "I" ∈ kW := k_w 7 158 rfl rfl
theorem kw1465 : Cond.fieldLink RX5 80 "SpiceScaleModel" "pan" "I" ∈ kW := k_w 7 159 rfl rfl
theorem kw1466 : Cond.fieldLink RX5 83 "SpiceScaleModel" "truly" "I" ∈ kW := k_w 7 160 rfl rfl
theorem kw1467 : Cond.fieldLink RX5 36 "SpiceScaleModel" "thrown" "I" ∈ kW := k_w 7 161 rfl rfl
theorem kw1521 : Cond.methodLink RX5 99 yX5_tries ∈ kW := k_w 7 215 rfl rfl
theorem kw1525 : Cond.methodLink RX5 73 yX5_in ∈ kW := k_w 7 219 rfl rfl
theorem kw1528 : Cond.methodLink RX5 102 yX5_refuses ∈ kW := k_w 7 222 rfl rfl
theorem kw1532 : Cond.methodLink RX5 106 yX5_ends ∈ kW := k_w 7 226 rfl rfl
theorem kw1536 : Cond.methodLink RX5 57 yX5_keeps ∈ kW := k_w 7 230 rfl rfl
theorem kw1540 : Cond.methodLink RX5 61 yX5_raises ∈ kW := k_w 7 234 rfl rfl
theorem kw1548 : Cond.methodLink RX5 95 yX5_sets ∈ kW := k_w 8 2 rfl rfl
theorem kw1560 : Cond.methodLink RX5 110 yX5_isBag ∈ kW := k_w 8 14 rfl rfl
theorem kw1564 : Cond.methodLink RX5 114 yX5_isJar ∈ kW := k_w 8 18 rfl rfl
theorem kw1568 : Cond.methodLink RX5 77 yX5_of ∈ kW := k_w 8 22 rfl rfl
theorem kw1572 : Cond.methodLink RX5 117 yX5_does ∈ kW := k_w 8 26 rfl rfl
theorem kw1624 : Cond.methodLink RX5 89 yX5_load ∈ kW := k_w 8 78 rfl rfl
theorem kw1628 : Cond.methodLink RX5 92 yX5_scales ∈ kW := k_w 8 82 rfl rfl
theorem kw1632 : Cond.methodLink RX5 64 yX5_weight ∈ kW := k_w 8 86 rfl rfl
theorem kw1635 : Cond.methodLink RX5 86 yX5_shortBy ∈ kW := k_w 8 89 rfl rfl
theorem kw1639 : Cond.methodLink RX5 67 Lib.Math.min.name ∈ kW := k_w 8 93 rfl rfl
abbrev wX5_thrown : List Cond := Cond.code yX5_thrown cX5_thrown 1 (some .int) :: kW
def X5_thrown_f (vM : Nat → Int32) (aM : Nat → Nat → Int32) : Int32 :=
  (vM 21)
set_option maxHeartbeats 4000000 in
set_option maxRecDepth 100000 in
theorem X5_thrown_c (l : Launch) (g : kG) (oM : Nat) (rM : Nat → Nat) (vM : Nat → Int32) (aM : Nat → Nat → Int32) : kR l yX5_thrown wX5_thrown 0 0 g [.ref oM] [X5W g oM rM vM aM] ((X5_thrown_f vM aM)) := by
  refine kR_of (cc := cX5_thrown) (nL := 1) (ret := (some .int)) (lv := [(0, .ref oM)]) (by decide) rfl (Nat.le_of_ble_eq_true rfl) rfl ?_
  intro p e s m args below meth c ls C hP hE hl
  have hS : va_S (fun _ => False) s.heap s.heap [] := va_S.rf
  have C : kC p c cX5_thrown s m args meth RX5 g 1 (some .int) := C
  have hx := C.1.1
  have hb := C.1.2.1
  have hts := C.1.2.2.2.2
  refine lv_aload_n hx hb dX5_thrown_0 rfl (lv_at hl 0 rfl) ?_
  refine kg_get C kFX5 (k := 21) kw1467 hP (i := 0) (q := 0) rfl rfl (by decide) rfl dX5_thrown_1 ?_
  exact kR_ret C ((show X5_thrown_f vM aM = (vM 21) from rfl)).symm dX5_thrown_4

abbrev wX5_raises : List Cond := Cond.code yX5_raises cX5_raises 2 (some .int) :: kW
def X5_raises_f (vM : Nat → Int32) (aM : Nat → Nat → Int32) (p0 : Int32) : Int32 × (Nat → Int32) :=
  (0, upd vM 21 p0)
set_option maxHeartbeats 4000000 in
set_option maxRecDepth 100000 in
theorem X5_raises_c (l : Launch) (g : kG) (oM : Nat) (rM : Nat → Nat) (vM : Nat → Int32) (aM : Nat → Nat → Int32) (p0 : Int32) : kM l yX5_raises wX5_raises 0 0 0 0 g [.ref oM, .int p0] [X5W g oM rM vM aM] (fun x u => x = (X5_raises_f vM aM p0).1 ∧ u = [X5W g oM rM ((X5_raises_f vM aM p0).2) aM]) := by
  refine kM_of (cc := cX5_raises) (nL := 2) (ret := (some .int)) (lv := [(0, .ref oM), (1, .int p0)]) (by decide) rfl (Nat.le_of_ble_eq_true rfl) rfl ?_
  intro p e s m args below meth c ls A C hP hD hE hA hS hl
  have C : kC p c cX5_raises s m args meth RX5 g 2 (some .int) := C
  have hx := C.1.1
  have hb := C.1.2.1
  have hts := C.1.2.2.2.2
  refine lv_aload_n hx hb dX5_raises_0 rfl (lv_at hl 0 rfl) ?_
  refine lv_iload_n hx hb dX5_raises_1 rfl (lv_at hl 1 rfl) ?_
  refine kg_put C kFX5 (k := 21) kw1467 hP hD hS (i := 0) (q := 0) rfl rfl (by decide) rfl rfl rfl (Nat.le_of_ble_eq_true rfl) X5s_21 rfl dX5_raises_2 (fun H locs hP hD hS => ?_)
  have hP : kp g [X5W g oM rM (upd vM 21 p0) aM] H := hP
  have hD : kd A [X5W g oM rM (upd vM 21 p0) aM] := hD
  refine lv_iconst (v := 0) hx hb dX5_raises_5 (by decide) ?_
  have hF := (show X5_raises_f vM aM p0 = (0, upd vM 21 p0) from rfl)
  exact kM_ret (x := 0) C hP hD hS ⟨by rw [hF], by rw [hF]⟩ dX5_raises_6

abbrev wX5_in : List Cond := Cond.code yX5_in cX5_in 3 (some .boolean) :: kW
def X5_in_f (p0 : Int32) (p1 : Int32) (p2 : Int32) : Bool :=
  if p0 < p1 then false
  else if p2 < p0 then false
  else true
set_option maxHeartbeats 4000000 in
set_option maxRecDepth 100000 in
theorem X5_in_c (l : Launch) (g : kG) (p0 : Int32) (p1 : Int32) (p2 : Int32) : kR l yX5_in wX5_in 0 0 g [.int p0, .int p1, .int p2] [] (b2i (X5_in_f p0 p1 p2)) := by
  refine kR_of (cc := cX5_in) (nL := 3) (ret := (some .boolean)) (lv := [(0, .int p0), (1, .int p1), (2, .int p2)]) (by decide) rfl (Nat.le_of_ble_eq_true rfl) rfl ?_
  intro p e s m args below meth c ls C hP hE hl
  have hS : va_S (fun _ => False) s.heap s.heap [] := va_S.rf
  have C : kC p c cX5_in s m args meth RX5 g 3 (some .boolean) := C
  have hx := C.1.1
  have hb := C.1.2.1
  have hts := C.1.2.2.2.2
  refine lv_iload_n hx hb dX5_in_0 rfl (lv_at hl 0 rfl) ?_
  refine lv_iload_n hx hb dX5_in_1 rfl (lv_at hl 1 rfl) ?_
  refine lv_icmp_lt (tgt := 14) hx hb dX5_in_2 (by decide) (fun c1 => ?_) (fun c1 => ?_)
  · refine lv_iconst (v := 0) hx hb dX5_in_14 (by decide) ?_
    exact kR_zret (x := b2i false) C (b2i_nar _) (congrArg b2i (show X5_in_f p0 p1 p2 = false from (if_pos c1).trans (rfl)).symm) dX5_in_15
  refine lv_iload_n hx hb dX5_in_5 rfl (lv_at hl 0 rfl) ?_
  refine lv_iload_n hx hb dX5_in_6 rfl (lv_at hl 2 rfl) ?_
  refine lv_icmp_gt (tgt := 14) hx hb dX5_in_7 (by decide) (fun c2 => ?_) (fun c2 => ?_)
  · refine lv_iconst (v := 0) hx hb dX5_in_14 (by decide) ?_
    exact kR_zret (x := b2i false) C (b2i_nar _) (congrArg b2i (show X5_in_f p0 p1 p2 = false from (if_neg c1).trans ((if_pos c2).trans (rfl))).symm) dX5_in_15
  refine lv_iconst (v := 1) hx hb dX5_in_10 (by decide) ?_
  refine lv_goto (tgt := 15) hx hb dX5_in_11 (by decide) ?_
  exact kR_zret (x := b2i true) C (b2i_nar _) (congrArg b2i (show X5_in_f p0 p1 p2 = true from (if_neg c1).trans ((if_neg c2).trans (rfl))).symm) dX5_in_15
theorem k_in0 {x y : Int32} {n : Nat} (h : X5_in_f x 0 y = true) (hy : y + 1 = nI n) (hn : n < 2 ^ 31) : vp_in x n := by
  unfold X5_in_f at h
  split at h
  · cases h
  · rename_i h1
    split at h
    · cases h
    · rename_i h2
      rw [Int32.lt_iff_toInt_lt] at h1 h2
      have e0 : (0 : Int32).toInt = 0 := by decide
      have ey : y = nI n - 1 := by rw [← hy, Int32.add_sub_cancel]
      refine vp_in_iff.mpr ⟨by omega, ?_⟩
      cases n with
      | zero =>
        have : y.toInt = -1 := by rw [ey]; decide
        omega
      | succ m =>
        have : y = nI m := by rw [ey, ← nI_1, Int32.add_sub_cancel]
        rw [this, nI_toInt (by omega)] at h2
        omega

abbrev wX5_tries : List Cond := Cond.code yX5_tries cX5_tries 2 none :: kW
def X5_tries_lp12b (vM : Nat → Int32) (aM : Nat → Nat → Int32) (rec : Int32 → (Nat → Nat → Int32) → ((Nat → Int32) × (Nat → Nat → Int32))) (x1_12 : Int32) (aM12 : Nat → Nat → Int32) : (Nat → Int32) × (Nat → Nat → Int32) :=
  if 64 ≤ x1_12 then (upd (upd vM 21 0) 16 0, aM12)
  else rec (x1_12 + 1) (va_up aM12 1 (upd (aM12 1) x1_12.toNatClampNeg ((aM12 0) x1_12.toNatClampNeg)))
def X5_tries_lp12 (vM : Nat → Int32) (aM : Nat → Nat → Int32) : Nat → Int32 → (Nat → Nat → Int32) → ((Nat → Int32) × (Nat → Nat → Int32))
  | 0 => fun x1_12 aM12 => (vM, aM12)
  | n + 1 => X5_tries_lp12b vM aM (X5_tries_lp12 vM aM n)
theorem X5_tries_lp12_s (vM : Nat → Int32) (aM : Nat → Nat → Int32) (n : Nat) (x1_12 : Int32) (aM12 : Nat → Nat → Int32) : X5_tries_lp12 vM aM (n + 1) x1_12 aM12 = X5_tries_lp12b vM aM (X5_tries_lp12 vM aM n) x1_12 aM12 := rfl
def X5_tries_f (vM : Nat → Int32) (aM : Nat → Nat → Int32) : (Nat → Int32) × (Nat → Nat → Int32) :=
  X5_tries_lp12 vM aM 65 0 aM
set_option maxHeartbeats 4000000 in
set_option maxRecDepth 100000 in
theorem X5_tries_c (l : Launch) (g : kG) (oM : Nat) (rM : Nat → Nat) (vM : Nat → Int32) (aM : Nat → Nat → Int32) : kV l yX5_tries wX5_tries 0 0 0 0 g [.ref oM] [X5W g oM rM vM aM] (fun u => u = [X5W g oM rM ((X5_tries_f vM aM).1) ((X5_tries_f vM aM).2)]) := by
  refine kV_of (cc := cX5_tries) (nL := 2) (ret := none) (lv := [(0, .ref oM)]) (by decide) rfl (Nat.le_of_ble_eq_true rfl) rfl ?_
  intro p e s m args below meth c ls A hnm C hP hD hE hA hS hl
  have C : kC p c cX5_tries s m args meth RX5 g 2 none := C
  have hx := C.1.1
  have hb := C.1.2.1
  have hts := C.1.2.2.2.2
  have loop12 : ∀ (n : Nat) (j12 : Nat) (x1_12 : Int32) (aM12 : Nat → Nat → Int32) (H : Heap) (locs : List Loc) (ls : Array Slot), j12 ≤ 64 → 64 < j12 + n → x1_12 = nI j12 → X5_tries_f vM aM = X5_tries_lp12 vM aM n x1_12 aM12 → kp g [X5W g oM rM (upd (upd vM 21 0) 16 0) aM12] H → kd A [X5W g oM rM (upd (upd vM 21 0) 16 0) aM12] → va_S A s.heap H locs → lv_has ls 2 [(1, .int x1_12), (0, .ref oM)] → W p l e (kRm 0 0 0 0) s m args below meth c H locs 0 0 (MQ below (kQv g (fun u => u = [X5W g oM rM ((X5_tries_f vM aM).1) ((X5_tries_f vM aM).2)]) A) args s 0 0 A) (F0 m 12 ls []) := by
    intro n
    induction n with
    | zero =>
      intro j12 x1_12 aM12 H locs ls hi12 hn12 hx12 hF12 hP hD hS hl
      exact absurd hn12 (by omega)
    | succ n ih12 =>
      intro j12 x1_12 aM12 H locs ls hi12 hn12 hx12 hF12 hP hD hS hl
      refine lv_iload_n hx hb dX5_tries_12 rfl (lv_at hl 0 rfl) ?_
      refine lv_bipush (v := 64) hx hb dX5_tries_13 (by decide) ?_
      refine lv_icmp_ge (tgt := 36) hx hb dX5_tries_15 (by decide) (fun c1 => ?_) (fun c1 => ?_)
      · have hF := (show X5_tries_f vM aM = (upd (upd vM 21 0) 16 0, aM12) from hF12.trans ((X5_tries_lp12_s vM aM n x1_12 aM12).trans ((if_pos c1).trans (rfl))))
        exact kV_ret C hP hD hS (by rw [hF]) dX5_tries_36
      have hj12 := k_asc hx12 (y := 64) (N := 64) rfl hi12 (by omega) c1
      refine lv_aload_n hx hb dX5_tries_18 rfl (lv_at hl 1 rfl) ?_
      refine kg_get C kFX5 (k := 1) kw1447 hP (i := 0) (q := 0) rfl rfl (by decide) rfl dX5_tries_19 ?_
      refine lv_iload_n hx hb dX5_tries_22 rfl (lv_at hl 0 rfl) ?_
      refine lv_aload_n hx hb dX5_tries_23 rfl (lv_at hl 1 rfl) ?_
      refine kg_get C kFX5 (k := 0) kw1446 hP (i := 0) (q := 0) rfl rfl (by decide) rfl dX5_tries_24 ?_
      refine lv_iload_n hx hb dX5_tries_27 rfl (lv_at hl 0 rfl) ?_
      refine kg_iald C hP (i := 0) (q := 1) rfl rfl (by first | assumption | exact k_vin (M := 64) hx12 (by omega) (by decide)) dX5_tries_28 ?_
      refine kg_iast C hP hD hS (i := 0) (q := 2) rfl rfl (by first | assumption | exact k_vin (M := 64) hx12 (by omega) (by decide)) X5t_1 rfl dX5_tries_29 (fun H locs hP hD hS => ?_)
      have hP : kp g [X5W g oM rM (upd (upd vM 21 0) 16 0) (va_up aM12 1 (upd (aM12 1) x1_12.toNatClampNeg ((aM12 0) x1_12.toNatClampNeg)))] H := hP
      have hD : kd A [X5W g oM rM (upd (upd vM 21 0) 16 0) (va_up aM12 1 (upd (aM12 1) x1_12.toNatClampNeg ((aM12 0) x1_12.toNatClampNeg)))] := hD
      refine lv_iinc (v := (x1_12 + 1)) (lv' := [(1, .int (x1_12 + 1)), (0, .ref oM)]) hx hb dX5_tries_30 hl (k := 0) rfl rfl (by decide) rfl (fun ls hl => ?_)
      refine lv_goto (tgt := 12) hx hb dX5_tries_33 (by decide) ?_
      exact ih12 (j12 + 1) (x1_12 + 1) (va_up aM12 1 (upd (aM12 1) x1_12.toNatClampNeg ((aM12 0) x1_12.toNatClampNeg))) _ _ ls hj12 (by omega) (k_up hx12) (show X5_tries_f vM aM = X5_tries_lp12 vM aM n (x1_12 + 1) (va_up aM12 1 (upd (aM12 1) x1_12.toNatClampNeg ((aM12 0) x1_12.toNatClampNeg))) from hF12.trans ((X5_tries_lp12_s vM aM n x1_12 aM12).trans ((if_neg c1).trans (rfl)))) hP hD hS (lv_sub hl [0, 1] rfl)
  refine lv_aload_n hx hb dX5_tries_0 rfl (lv_at hl 0 rfl) ?_
  refine lv_iconst (v := 0) hx hb dX5_tries_1 (by decide) ?_
  refine kg_put C kFX5 (k := 21) kw1467 hP hD hS (i := 0) (q := 0) rfl rfl (by decide) rfl rfl rfl (Nat.le_of_ble_eq_true rfl) X5s_21 rfl dX5_tries_2 (fun H locs hP hD hS => ?_)
  have hP : kp g [X5W g oM rM (upd vM 21 0) aM] H := hP
  have hD : kd A [X5W g oM rM (upd vM 21 0) aM] := hD
  refine lv_aload_n hx hb dX5_tries_5 rfl (lv_at hl 0 rfl) ?_
  refine lv_iconst (v := 0) hx hb dX5_tries_6 (by decide) ?_
  refine kg_put C kFX5 (k := 16) kw1462 hP hD hS (i := 0) (q := 0) rfl rfl (by decide) rfl rfl rfl (Nat.le_of_ble_eq_true rfl) X5s_16 rfl dX5_tries_7 (fun H locs hP hD hS => ?_)
  have hP : kp g [X5W g oM rM (upd (upd vM 21 0) 16 0) aM] H := hP
  have hD : kd A [X5W g oM rM (upd (upd vM 21 0) 16 0) aM] := hD
  refine lv_iconst (v := 0) hx hb dX5_tries_10 (by decide) ?_
  refine lv_istore_n (lv' := [(1, .int 0), (0, .ref oM)]) hx hb dX5_tries_11 rfl hl (by decide) rfl (fun ls hl => ?_)
  exact loop12 65 0 0 aM _ _ ls (by omega) (by omega) rfl (show X5_tries_f vM aM = X5_tries_lp12 vM aM 65 0 aM from rfl) hP hD hS (lv_sub hl [0, 1] rfl)
theorem X5_tries_l {vM : Nat → Int32} {aM0 : Nat → Nat → Int32} : ∀ (n j : Nat) (aM : Nat → Nat → Int32), j ≤ 64 → 64 < j + n → X5_tries_lp12 vM aM0 n (nI j) aM = (upd (upd vM 21 0) 16 0, va_up aM 1 (k_cpy j 64 (aM 0) (aM 1))) := by
  intro n
  induction n with
  | zero => intro j aM h1 h2; omega
  | succ n ih =>
    intro j aM h1 h2
    rw [X5_tries_lp12_s]
    unfold X5_tries_lp12b
    by_cases hj : j < 64
    · rw [if_neg (show ¬ (64 : Int32) ≤ nI j from k_nle (n := 64) hj (by omega)), nI_1, ih _ _ (by omega) (by omega), nI_clamp (by omega), k_up_up]
      show (_, va_up aM 1 (k_cpy (j + 1) 64 (aM 0) (upd (aM 1) j (aM 0 j)))) = _
      rw [k_cpy_up hj]
    · have : j = 64 := by omega
      subst this
      rw [if_pos (show (64 : Int32) ≤ nI 64 from (nI_leI (a := 64) (by omega) (by omega)).mpr (Nat.le_refl _)), k_cpy_no, k_up_self]
theorem X5_tries_eq {vM : Nat → Int32} {aM : Nat → Nat → Int32} : X5_tries_f vM aM = (upd (upd vM 21 0) 16 0, va_up aM 1 (k_cpy 0 64 (aM 0) (aM 1))) := X5_tries_l 65 0 aM (by omega) (by omega)

abbrev wX5_comesBack : List Cond := Cond.code yX5_comesBack cX5_comesBack 2 none :: kW
def X5_comesBack_lp2b (vM : Nat → Int32) (aM : Nat → Nat → Int32) (rec : Int32 → (Nat → Nat → Int32) → (Nat → Nat → Int32)) (x1_2 : Int32) (aM2 : Nat → Nat → Int32) : (Nat → Nat → Int32) :=
  if 64 ≤ x1_2 then aM2
  else rec (x1_2 + 1) (va_up aM2 0 (upd (aM2 0) x1_2.toNatClampNeg ((aM2 1) x1_2.toNatClampNeg)))
def X5_comesBack_lp2 (vM : Nat → Int32) (aM : Nat → Nat → Int32) : Nat → Int32 → (Nat → Nat → Int32) → (Nat → Nat → Int32)
  | 0 => fun x1_2 aM2 => aM2
  | n + 1 => X5_comesBack_lp2b vM aM (X5_comesBack_lp2 vM aM n)
theorem X5_comesBack_lp2_s (vM : Nat → Int32) (aM : Nat → Nat → Int32) (n : Nat) (x1_2 : Int32) (aM2 : Nat → Nat → Int32) : X5_comesBack_lp2 vM aM (n + 1) x1_2 aM2 = X5_comesBack_lp2b vM aM (X5_comesBack_lp2 vM aM n) x1_2 aM2 := rfl
def X5_comesBack_f (vM : Nat → Int32) (aM : Nat → Nat → Int32) : (Nat → Nat → Int32) :=
  X5_comesBack_lp2 vM aM 65 0 aM
set_option maxHeartbeats 4000000 in
set_option maxRecDepth 100000 in
theorem X5_comesBack_c (l : Launch) (g : kG) (oM : Nat) (rM : Nat → Nat) (vM : Nat → Int32) (aM : Nat → Nat → Int32) : kV l yX5_comesBack wX5_comesBack 0 0 0 0 g [.ref oM] [X5W g oM rM vM aM] (fun u => u = [X5W g oM rM vM (X5_comesBack_f vM aM)]) := by
  refine kV_of (cc := cX5_comesBack) (nL := 2) (ret := none) (lv := [(0, .ref oM)]) (by decide) rfl (Nat.le_of_ble_eq_true rfl) rfl ?_
  intro p e s m args below meth c ls A hnm C hP hD hE hA hS hl
  have C : kC p c cX5_comesBack s m args meth RX5 g 2 none := C
  have hx := C.1.1
  have hb := C.1.2.1
  have hts := C.1.2.2.2.2
  have loop2 : ∀ (n : Nat) (j2 : Nat) (x1_2 : Int32) (aM2 : Nat → Nat → Int32) (H : Heap) (locs : List Loc) (ls : Array Slot), j2 ≤ 64 → 64 < j2 + n → x1_2 = nI j2 → X5_comesBack_f vM aM = X5_comesBack_lp2 vM aM n x1_2 aM2 → kp g [X5W g oM rM vM aM2] H → kd A [X5W g oM rM vM aM2] → va_S A s.heap H locs → lv_has ls 2 [(1, .int x1_2), (0, .ref oM)] → W p l e (kRm 0 0 0 0) s m args below meth c H locs 0 0 (MQ below (kQv g (fun u => u = [X5W g oM rM vM (X5_comesBack_f vM aM)]) A) args s 0 0 A) (F0 m 2 ls []) := by
    intro n
    induction n with
    | zero =>
      intro j2 x1_2 aM2 H locs ls hi2 hn2 hx2 hF2 hP hD hS hl
      exact absurd hn2 (by omega)
    | succ n ih2 =>
      intro j2 x1_2 aM2 H locs ls hi2 hn2 hx2 hF2 hP hD hS hl
      refine lv_iload_n hx hb dX5_comesBack_2 rfl (lv_at hl 0 rfl) ?_
      refine lv_bipush (v := 64) hx hb dX5_comesBack_3 (by decide) ?_
      refine lv_icmp_ge (tgt := 26) hx hb dX5_comesBack_5 (by decide) (fun c1 => ?_) (fun c1 => ?_)
      · have hF := (show X5_comesBack_f vM aM = aM2 from hF2.trans ((X5_comesBack_lp2_s vM aM n x1_2 aM2).trans ((if_pos c1).trans (rfl))))
        exact kV_ret C hP hD hS (by rw [hF]) dX5_comesBack_26
      have hj2 := k_asc hx2 (y := 64) (N := 64) rfl hi2 (by omega) c1
      refine lv_aload_n hx hb dX5_comesBack_8 rfl (lv_at hl 1 rfl) ?_
      refine kg_get C kFX5 (k := 0) kw1446 hP (i := 0) (q := 0) rfl rfl (by decide) rfl dX5_comesBack_9 ?_
      refine lv_iload_n hx hb dX5_comesBack_12 rfl (lv_at hl 0 rfl) ?_
      refine lv_aload_n hx hb dX5_comesBack_13 rfl (lv_at hl 1 rfl) ?_
      refine kg_get C kFX5 (k := 1) kw1447 hP (i := 0) (q := 0) rfl rfl (by decide) rfl dX5_comesBack_14 ?_
      refine lv_iload_n hx hb dX5_comesBack_17 rfl (lv_at hl 0 rfl) ?_
      refine kg_iald C hP (i := 0) (q := 2) rfl rfl (by first | assumption | exact k_vin (M := 64) hx2 (by omega) (by decide)) dX5_comesBack_18 ?_
      refine kg_iast C hP hD hS (i := 0) (q := 1) rfl rfl (by first | assumption | exact k_vin (M := 64) hx2 (by omega) (by decide)) X5t_0 rfl dX5_comesBack_19 (fun H locs hP hD hS => ?_)
      have hP : kp g [X5W g oM rM vM (va_up aM2 0 (upd (aM2 0) x1_2.toNatClampNeg ((aM2 1) x1_2.toNatClampNeg)))] H := hP
      have hD : kd A [X5W g oM rM vM (va_up aM2 0 (upd (aM2 0) x1_2.toNatClampNeg ((aM2 1) x1_2.toNatClampNeg)))] := hD
      refine lv_iinc (v := (x1_2 + 1)) (lv' := [(1, .int (x1_2 + 1)), (0, .ref oM)]) hx hb dX5_comesBack_20 hl (k := 0) rfl rfl (by decide) rfl (fun ls hl => ?_)
      refine lv_goto (tgt := 2) hx hb dX5_comesBack_23 (by decide) ?_
      exact ih2 (j2 + 1) (x1_2 + 1) (va_up aM2 0 (upd (aM2 0) x1_2.toNatClampNeg ((aM2 1) x1_2.toNatClampNeg))) _ _ ls hj2 (by omega) (k_up hx2) (show X5_comesBack_f vM aM = X5_comesBack_lp2 vM aM n (x1_2 + 1) (va_up aM2 0 (upd (aM2 0) x1_2.toNatClampNeg ((aM2 1) x1_2.toNatClampNeg))) from hF2.trans ((X5_comesBack_lp2_s vM aM n x1_2 aM2).trans ((if_neg c1).trans (rfl)))) hP hD hS (lv_sub hl [0, 1] rfl)
  refine lv_iconst (v := 0) hx hb dX5_comesBack_0 (by decide) ?_
  refine lv_istore_n (lv' := [(1, .int 0), (0, .ref oM)]) hx hb dX5_comesBack_1 rfl hl (by decide) rfl (fun ls hl => ?_)
  exact loop2 65 0 0 aM _ _ ls (by omega) (by omega) rfl (show X5_comesBack_f vM aM = X5_comesBack_lp2 vM aM 65 0 aM from rfl) hP hD hS (lv_sub hl [0, 1] rfl)

abbrev wX5_keeps : List Cond := Cond.code yX5_keeps cX5_keeps 3 (some .int) :: kW
def X5_keeps_lp51b (vM : Nat → Int32) (aM : Nat → Nat → Int32) (p0 : Int32) (rec : Int32 → (Nat → Int32) → (Nat → Nat → Int32) → (Int32 × (Nat → Int32) × (Nat → Nat → Int32))) (x2_51 : Int32) (vM51 : Nat → Int32) (aM51 : Nat → Nat → Int32) : Int32 × (Nat → Int32) × (Nat → Nat → Int32) :=
  if 64 ≤ x2_51 then (p0, upd vM51 3 ((vM51 3) + 1), aM51)
  else rec (x2_51 + 1) vM51 (va_up aM51 2 (upd (aM51 2) (((64 * (vM51 3)) + x2_51).toNatClampNeg) ((aM51 1) x2_51.toNatClampNeg)))
def X5_keeps_lp51 (vM : Nat → Int32) (aM : Nat → Nat → Int32) (p0 : Int32) : Nat → Int32 → (Nat → Int32) → (Nat → Nat → Int32) → (Int32 × (Nat → Int32) × (Nat → Nat → Int32))
  | 0 => fun x2_51 vM51 aM51 => (0, vM51, aM51)
  | n + 1 => X5_keeps_lp51b vM aM p0 (X5_keeps_lp51 vM aM p0 n)
theorem X5_keeps_lp51_s (vM : Nat → Int32) (aM : Nat → Nat → Int32) (p0 : Int32) (n : Nat) (x2_51 : Int32) (vM51 : Nat → Int32) (aM51 : Nat → Nat → Int32) : X5_keeps_lp51 vM aM p0 (n + 1) x2_51 vM51 aM51 = X5_keeps_lp51b vM aM p0 (X5_keeps_lp51 vM aM p0 n) x2_51 vM51 aM51 := rfl
def X5_keeps_lp11b (vM : Nat → Int32) (aM : Nat → Nat → Int32) (p0 : Int32) (rec : Int32 → (Nat → Nat → Int32) → (Int32 × (Nat → Nat → Int32))) (x2_11 : Int32) (aM11 : Nat → Nat → Int32) : Int32 × (Nat → Nat → Int32) :=
  if 448 ≤ x2_11 then (x2_11, aM11)
  else rec (x2_11 + 1) (va_up aM11 2 (upd (aM11 2) x2_11.toNatClampNeg ((aM11 2) (64 + x2_11).toNatClampNeg)))
def X5_keeps_lp11 (vM : Nat → Int32) (aM : Nat → Nat → Int32) (p0 : Int32) : Nat → Int32 → (Nat → Nat → Int32) → (Int32 × (Nat → Nat → Int32))
  | 0 => fun x2_11 aM11 => (x2_11, aM11)
  | n + 1 => X5_keeps_lp11b vM aM p0 (X5_keeps_lp11 vM aM p0 n)
theorem X5_keeps_lp11_s (vM : Nat → Int32) (aM : Nat → Nat → Int32) (p0 : Int32) (n : Nat) (x2_11 : Int32) (aM11 : Nat → Nat → Int32) : X5_keeps_lp11 vM aM p0 (n + 1) x2_11 aM11 = X5_keeps_lp11b vM aM p0 (X5_keeps_lp11 vM aM p0 n) x2_11 aM11 := rfl
def X5_keeps_f (vM : Nat → Int32) (aM : Nat → Nat → Int32) (p0 : Int32) : Int32 × (Nat → Int32) × (Nat → Nat → Int32) :=
  if (vM 3) = 8 then X5_keeps_lp51 vM aM p0 65 0 (upd vM 3 ((vM 3) - 1)) ((X5_keeps_lp11 vM aM p0 449 0 aM).2)
  else X5_keeps_lp51 vM aM p0 65 0 vM aM
set_option maxHeartbeats 4000000 in
set_option maxRecDepth 100000 in
theorem X5_keeps_c (l : Launch) (g : kG) (oM : Nat) (rM : Nat → Nat) (vM : Nat → Int32) (aM : Nat → Nat → Int32) (p0 : Int32) (hu : (∃ u : Nat, u ≤ 8 ∧ vM 3 = nI u)) : kM l yX5_keeps wX5_keeps 0 0 0 0 g [.ref oM, .int p0] [X5W g oM rM vM aM] (fun x u => x = (X5_keeps_f vM aM p0).1 ∧ u = [X5W g oM rM ((X5_keeps_f vM aM p0).2.1) ((X5_keeps_f vM aM p0).2.2)]) := by
  refine kM_of (cc := cX5_keeps) (nL := 3) (ret := (some .int)) (lv := [(0, .ref oM), (1, .int p0)]) (by decide) rfl (Nat.le_of_ble_eq_true rfl) rfl ?_
  intro p e s m args below meth c ls A C hP hD hE hA hS hl
  have C : kC p c cX5_keeps s m args meth RX5 g 3 (some .int) := C
  have hx := C.1.1
  have hb := C.1.2.1
  have hts := C.1.2.2.2.2
  have loop51 : ∀ (n : Nat) (j51 : Nat) (x2_51 : Int32) (vM51 : Nat → Int32) (aM51 : Nat → Nat → Int32) (H : Heap) (locs : List Loc) (ls : Array Slot), j51 ≤ 64 → 64 < j51 + n → x2_51 = nI j51 → (∃ u : Nat, u < 8 ∧ vM51 3 = nI u) → X5_keeps_f vM aM p0 = X5_keeps_lp51 vM aM p0 n x2_51 vM51 aM51 → kp g [X5W g oM rM vM51 aM51] H → kd A [X5W g oM rM vM51 aM51] → va_S A s.heap H locs → lv_has ls 3 [(2, .int x2_51), (0, .ref oM), (1, .int p0)] → W p l e (kRm 0 0 0 0) s m args below meth c H locs 0 0 (MQ below (kQi g (fun x u => x = (X5_keeps_f vM aM p0).1 ∧ u = [X5W g oM rM ((X5_keeps_f vM aM p0).2.1) ((X5_keeps_f vM aM p0).2.2)]) A) args s 0 0 A) (F0 m 51 ls []) := by
    intro n
    induction n with
    | zero =>
      intro j51 x2_51 vM51 aM51 H locs ls hi51 hn51 hx51 hu51 hF51 hP hD hS hl
      exact absurd hn51 (by omega)
    | succ n ih51 =>
      intro j51 x2_51 vM51 aM51 H locs ls hi51 hn51 hx51 hu51 hF51 hP hD hS hl
      refine lv_iload_n hx hb dX5_keeps_51 rfl (lv_at hl 0 rfl) ?_
      refine lv_bipush (v := 64) hx hb dX5_keeps_52 (by decide) ?_
      refine lv_icmp_ge (tgt := 83) hx hb dX5_keeps_54 (by decide) (fun c2 => ?_) (fun c2 => ?_)
      · refine lv_aload_n hx hb dX5_keeps_83 rfl (lv_at hl 1 rfl) ?_
        refine lv_dup hx hb dX5_keeps_84 rfl ?_
        refine kg_get C kFX5 (k := 3) kw1449 hP (i := 0) (q := 0) rfl rfl (by decide) rfl dX5_keeps_85 ?_
        refine lv_iconst (v := 1) hx hb dX5_keeps_88 (by decide) ?_
        refine lv_iadd hx hb dX5_keeps_89 ?_
        refine kg_put C kFX5 (k := 3) kw1449 hP hD hS (i := 0) (q := 0) rfl rfl (by decide) rfl rfl rfl (Nat.le_of_ble_eq_true rfl) X5s_3 rfl dX5_keeps_90 (fun H locs hP hD hS => ?_)
        have hP : kp g [X5W g oM rM (upd vM51 3 ((vM51 3) + 1)) aM51] H := hP
        have hD : kd A [X5W g oM rM (upd vM51 3 ((vM51 3) + 1)) aM51] := hD
        refine lv_iload_n hx hb dX5_keeps_93 rfl (lv_at hl 2 rfl) ?_
        have hF := (show X5_keeps_f vM aM p0 = (p0, upd vM51 3 ((vM51 3) + 1), aM51) from hF51.trans ((X5_keeps_lp51_s vM aM p0 n x2_51 vM51 aM51).trans ((if_pos c2).trans (rfl))))
        exact kM_ret (x := p0) C hP hD hS ⟨by rw [hF], by rw [hF]⟩ dX5_keeps_94
      have hj51 := k_asc hx51 (y := 64) (N := 64) rfl hi51 (by omega) c2
      refine lv_aload_n hx hb dX5_keeps_57 rfl (lv_at hl 1 rfl) ?_
      refine kg_get C kFX5 (k := 2) kw1448 hP (i := 0) (q := 0) rfl rfl (by decide) rfl dX5_keeps_58 ?_
      refine lv_bipush (v := 64) hx hb dX5_keeps_61 (by decide) ?_
      refine lv_aload_n hx hb dX5_keeps_63 rfl (lv_at hl 1 rfl) ?_
      refine kg_get C kFX5 (k := 3) kw1449 hP (i := 0) (q := 0) rfl rfl (by decide) rfl dX5_keeps_64 ?_
      refine lv_imul hx hb dX5_keeps_67 ?_
      refine lv_iload_n hx hb dX5_keeps_68 rfl (lv_at hl 0 rfl) ?_
      refine lv_iadd hx hb dX5_keeps_69 ?_
      refine lv_aload_n hx hb dX5_keeps_70 rfl (lv_at hl 1 rfl) ?_
      refine kg_get C kFX5 (k := 1) kw1447 hP (i := 0) (q := 0) rfl rfl (by decide) rfl dX5_keeps_71 ?_
      refine lv_iload_n hx hb dX5_keeps_74 rfl (lv_at hl 0 rfl) ?_
      refine kg_iald C hP (i := 0) (q := 2) rfl rfl (by first | assumption | exact k_vin (M := 64) hx51 (by omega) (by decide)) dX5_keeps_75 ?_
      refine kg_iast C hP hD hS (i := 0) (q := 3) rfl rfl (k_kept hu51 hx51 (by omega)) X5t_2 rfl dX5_keeps_76 (fun H locs hP hD hS => ?_)
      have hP : kp g [X5W g oM rM vM51 (va_up aM51 2 (upd (aM51 2) (((64 * (vM51 3)) + x2_51).toNatClampNeg) ((aM51 1) x2_51.toNatClampNeg)))] H := hP
      have hD : kd A [X5W g oM rM vM51 (va_up aM51 2 (upd (aM51 2) (((64 * (vM51 3)) + x2_51).toNatClampNeg) ((aM51 1) x2_51.toNatClampNeg)))] := hD
      refine lv_iinc (v := (x2_51 + 1)) (lv' := [(2, .int (x2_51 + 1)), (0, .ref oM), (1, .int p0)]) hx hb dX5_keeps_77 hl (k := 0) rfl rfl (by decide) rfl (fun ls hl => ?_)
      refine lv_goto (tgt := 51) hx hb dX5_keeps_80 (by decide) ?_
      exact ih51 (j51 + 1) (x2_51 + 1) vM51 (va_up aM51 2 (upd (aM51 2) (((64 * (vM51 3)) + x2_51).toNatClampNeg) ((aM51 1) x2_51.toNatClampNeg))) _ _ ls hj51 (by omega) (k_up hx51) hu51 (show X5_keeps_f vM aM p0 = X5_keeps_lp51 vM aM p0 n (x2_51 + 1) vM51 (va_up aM51 2 (upd (aM51 2) (((64 * (vM51 3)) + x2_51).toNatClampNeg) ((aM51 1) x2_51.toNatClampNeg))) from hF51.trans ((X5_keeps_lp51_s vM aM p0 n x2_51 vM51 aM51).trans ((if_neg c2).trans (rfl)))) hP hD hS (lv_sub hl [0, 1, 2] rfl)
  have loop11 : ∀ (n : Nat) (j11 : Nat) (x2_11 : Int32) (aM11 : Nat → Nat → Int32) (H : Heap) (locs : List Loc) (ls : Array Slot), j11 ≤ 448 → 448 < j11 + n → x2_11 = nI j11 → (∀ (H : Heap) (locs : List Loc) (ls : Array Slot), kp g [X5W g oM rM vM ((X5_keeps_lp11 vM aM p0 n x2_11 aM11).2)] H → kd A [X5W g oM rM vM ((X5_keeps_lp11 vM aM p0 n x2_11 aM11).2)] → va_S A s.heap H locs → lv_has ls 3 [(2, .int ((X5_keeps_lp11 vM aM p0 n x2_11 aM11).1)), (0, .ref oM), (1, .int p0)] → W p l e (kRm 0 0 0 0) s m args below meth c H locs 0 0 (MQ below (kQi g (fun x u => x = (X5_keeps_f vM aM p0).1 ∧ u = [X5W g oM rM ((X5_keeps_f vM aM p0).2.1) ((X5_keeps_f vM aM p0).2.2)]) A) args s 0 0 A) (F0 m 39 ls [])) → kp g [X5W g oM rM vM aM11] H → kd A [X5W g oM rM vM aM11] → va_S A s.heap H locs → lv_has ls 3 [(2, .int x2_11), (0, .ref oM), (1, .int p0)] → W p l e (kRm 0 0 0 0) s m args below meth c H locs 0 0 (MQ below (kQi g (fun x u => x = (X5_keeps_f vM aM p0).1 ∧ u = [X5W g oM rM ((X5_keeps_f vM aM p0).2.1) ((X5_keeps_f vM aM p0).2.2)]) A) args s 0 0 A) (F0 m 11 ls []) := by
    intro n
    induction n with
    | zero =>
      intro j11 x2_11 aM11 H locs ls hi11 hn11 hx11 hF11 hP hD hS hl
      exact absurd hn11 (by omega)
    | succ n ih11 =>
      intro j11 x2_11 aM11 H locs ls hi11 hn11 hx11 hF11 hP hD hS hl
      refine lv_iload_n hx hb dX5_keeps_11 rfl (lv_at hl 0 rfl) ?_
      refine lv_sipush (v := 448) hx hb dX5_keeps_12 (by decide) ?_
      refine lv_icmp_ge (tgt := 39) hx hb dX5_keeps_15 (by decide) (fun c3 => ?_) (fun c3 => ?_)
      · have e11 : X5_keeps_lp11 vM aM p0 (n + 1) x2_11 aM11 = (x2_11, aM11) := (X5_keeps_lp11_s vM aM p0 n x2_11 aM11).trans ((if_pos c3).trans (rfl))
        exact hF11 _ _ ls (by rw [e11]; exact hP) (by rw [e11]; exact hD) hS (by rw [e11]; exact lv_sub hl [0, 1, 2] rfl)
      have hj11 := k_asc hx11 (y := 448) (N := 448) rfl hi11 (by omega) c3
      refine lv_aload_n hx hb dX5_keeps_18 rfl (lv_at hl 1 rfl) ?_
      refine kg_get C kFX5 (k := 2) kw1448 hP (i := 0) (q := 0) rfl rfl (by decide) rfl dX5_keeps_19 ?_
      refine lv_iload_n hx hb dX5_keeps_22 rfl (lv_at hl 0 rfl) ?_
      refine lv_aload_n hx hb dX5_keeps_23 rfl (lv_at hl 1 rfl) ?_
      refine kg_get C kFX5 (k := 2) kw1448 hP (i := 0) (q := 0) rfl rfl (by decide) rfl dX5_keeps_24 ?_
      refine lv_bipush (v := 64) hx hb dX5_keeps_27 (by decide) ?_
      refine lv_iload_n hx hb dX5_keeps_29 rfl (lv_at hl 0 rfl) ?_
      refine lv_iadd hx hb dX5_keeps_30 ?_
      refine kg_iald C hP (i := 0) (q := 3) rfl rfl (k_off (c := 64) rfl (k_vin (M := 448) hx11 (by omega) (by decide)) (by omega) (by omega)) dX5_keeps_31 ?_
      refine kg_iast C hP hD hS (i := 0) (q := 3) rfl rfl (by first | assumption | exact k_vin (M := 512) hx11 (by omega) (by decide)) X5t_2 rfl dX5_keeps_32 (fun H locs hP hD hS => ?_)
      have hP : kp g [X5W g oM rM vM (va_up aM11 2 (upd (aM11 2) x2_11.toNatClampNeg ((aM11 2) (64 + x2_11).toNatClampNeg)))] H := hP
      have hD : kd A [X5W g oM rM vM (va_up aM11 2 (upd (aM11 2) x2_11.toNatClampNeg ((aM11 2) (64 + x2_11).toNatClampNeg)))] := hD
      refine lv_iinc (v := (x2_11 + 1)) (lv' := [(2, .int (x2_11 + 1)), (0, .ref oM), (1, .int p0)]) hx hb dX5_keeps_33 hl (k := 0) rfl rfl (by decide) rfl (fun ls hl => ?_)
      refine lv_goto (tgt := 11) hx hb dX5_keeps_36 (by decide) ?_
      have e11 : X5_keeps_lp11 vM aM p0 (n + 1) x2_11 aM11 = X5_keeps_lp11 vM aM p0 n (x2_11 + 1) (va_up aM11 2 (upd (aM11 2) x2_11.toNatClampNeg ((aM11 2) (64 + x2_11).toNatClampNeg))) := (X5_keeps_lp11_s vM aM p0 n x2_11 aM11).trans ((if_neg c3).trans (rfl))
      exact ih11 (j11 + 1) (x2_11 + 1) (va_up aM11 2 (upd (aM11 2) x2_11.toNatClampNeg ((aM11 2) (64 + x2_11).toNatClampNeg))) _ _ ls hj11 (by omega) (k_up hx11) (fun H locs ls hP hD hS hl => hF11 H locs ls (by rw [e11]; exact hP) (by rw [e11]; exact hD) hS (by rw [e11]; exact hl)) hP hD hS (lv_sub hl [0, 1, 2] rfl)
  refine lv_aload_n hx hb dX5_keeps_0 rfl (lv_at hl 0 rfl) ?_
  refine kg_get C kFX5 (k := 3) kw1449 hP (i := 0) (q := 0) rfl rfl (by decide) rfl dX5_keeps_1 ?_
  refine lv_bipush (v := 8) hx hb dX5_keeps_4 (by decide) ?_
  refine lv_icmp_ne (tgt := 49) hx hb dX5_keeps_6 (by decide) (fun c1 => ?_) (fun c1 => ?_)
  · refine lv_iconst (v := 0) hx hb dX5_keeps_49 (by decide) ?_
    refine lv_istore_n (lv' := [(2, .int 0), (0, .ref oM), (1, .int p0)]) hx hb dX5_keeps_50 rfl hl (by decide) rfl (fun ls hl => ?_)
    exact loop51 65 0 0 vM aM _ _ ls (by omega) (by omega) rfl (by first | exact k_u8 hu c1 | exact k_u7 c1) (show X5_keeps_f vM aM p0 = X5_keeps_lp51 vM aM p0 65 0 vM aM from (if_neg c1).trans (rfl)) hP hD hS (lv_sub hl [0, 1, 2] rfl)
  refine lv_iconst (v := 0) hx hb dX5_keeps_9 (by decide) ?_
  refine lv_istore_n (lv' := [(2, .int 0), (0, .ref oM), (1, .int p0)]) hx hb dX5_keeps_10 rfl hl (by decide) rfl (fun ls hl => ?_)
  refine loop11 449 0 0 aM _ _ ls (by omega) (by omega) rfl (fun H locs ls hP hD hS hl => ?_) hP hD hS (lv_sub hl [0, 1, 2] rfl)
  have hP : kp g [X5W g oM rM vM ((X5_keeps_lp11 vM aM p0 449 0 aM).2)] H := hP
  have hD : kd A [X5W g oM rM vM ((X5_keeps_lp11 vM aM p0 449 0 aM).2)] := hD
  refine lv_aload_n hx hb dX5_keeps_39 rfl (lv_at hl 1 rfl) ?_
  refine lv_dup hx hb dX5_keeps_40 rfl ?_
  refine kg_get C kFX5 (k := 3) kw1449 hP (i := 0) (q := 0) rfl rfl (by decide) rfl dX5_keeps_41 ?_
  refine lv_iconst (v := 1) hx hb dX5_keeps_44 (by decide) ?_
  refine lv_isub hx hb dX5_keeps_45 ?_
  refine kg_put C kFX5 (k := 3) kw1449 hP hD hS (i := 0) (q := 0) rfl rfl (by decide) rfl rfl rfl (Nat.le_of_ble_eq_true rfl) X5s_3 rfl dX5_keeps_46 (fun H locs hP hD hS => ?_)
  have hP : kp g [X5W g oM rM (upd vM 3 ((vM 3) - 1)) ((X5_keeps_lp11 vM aM p0 449 0 aM).2)] H := hP
  have hD : kd A [X5W g oM rM (upd vM 3 ((vM 3) - 1)) ((X5_keeps_lp11 vM aM p0 449 0 aM).2)] := hD
  refine lv_iconst (v := 0) hx hb dX5_keeps_49 (by decide) ?_
  refine lv_istore_n (lv' := [(2, .int 0), (0, .ref oM), (1, .int p0)]) hx hb dX5_keeps_50 rfl hl (by decide) rfl (fun ls hl => ?_)
  exact loop51 65 0 0 (upd vM 3 ((vM 3) - 1)) ((X5_keeps_lp11 vM aM p0 449 0 aM).2) _ _ ls (by omega) (by omega) rfl (by first | exact k_u8 hu c1 | exact k_u7 c1) (show X5_keeps_f vM aM p0 = X5_keeps_lp51 vM aM p0 65 0 (upd vM 3 ((vM 3) - 1)) ((X5_keeps_lp11 vM aM p0 449 0 aM).2) from (if_pos c1).trans (rfl)) hP hD hS (lv_sub hl [0, 1, 2] rfl)

abbrev wX5_refuses : List Cond := Cond.code yX5_refuses cX5_refuses 3 (some .boolean) :: kW
def X5_refuses_f (vM : Nat → Int32) (aM : Nat → Nat → Int32) (p0 : Int32) (p1 : Int32) : Bool × (Nat → Int32) :=
  (false, upd (upd (upd vM 14 p0) 15 p1) 17 (vM 16))
set_option maxHeartbeats 4000000 in
set_option maxRecDepth 100000 in
theorem X5_refuses_c (l : Launch) (g : kG) (oM : Nat) (rM : Nat → Nat) (vM : Nat → Int32) (aM : Nat → Nat → Int32) (p0 : Int32) (p1 : Int32) : kM l yX5_refuses wX5_refuses 0 0 0 0 g [.ref oM, .int p0, .int p1] [X5W g oM rM vM aM] (fun x u => x = b2i (X5_refuses_f vM aM p0 p1).1 ∧ u = [X5W g oM rM ((X5_refuses_f vM aM p0 p1).2) aM]) := by
  refine kM_of (cc := cX5_refuses) (nL := 3) (ret := (some .boolean)) (lv := [(0, .ref oM), (1, .int p0), (2, .int p1)]) (by decide) rfl (Nat.le_of_ble_eq_true rfl) rfl ?_
  intro p e s m args below meth c ls A C hP hD hE hA hS hl
  have C : kC p c cX5_refuses s m args meth RX5 g 3 (some .boolean) := C
  have hx := C.1.1
  have hb := C.1.2.1
  have hts := C.1.2.2.2.2
  refine lv_aload_n hx hb dX5_refuses_0 rfl (lv_at hl 0 rfl) ?_
  refine lv_iload_n hx hb dX5_refuses_1 rfl (lv_at hl 1 rfl) ?_
  refine kg_put C kFX5 (k := 14) kw1460 hP hD hS (i := 0) (q := 0) rfl rfl (by decide) rfl rfl rfl (Nat.le_of_ble_eq_true rfl) X5s_14 rfl dX5_refuses_2 (fun H locs hP hD hS => ?_)
  have hP : kp g [X5W g oM rM (upd vM 14 p0) aM] H := hP
  have hD : kd A [X5W g oM rM (upd vM 14 p0) aM] := hD
  refine lv_aload_n hx hb dX5_refuses_5 rfl (lv_at hl 0 rfl) ?_
  refine lv_iload_n hx hb dX5_refuses_6 rfl (lv_at hl 2 rfl) ?_
  refine kg_put C kFX5 (k := 15) kw1461 hP hD hS (i := 0) (q := 0) rfl rfl (by decide) rfl rfl rfl (Nat.le_of_ble_eq_true rfl) X5s_15 rfl dX5_refuses_7 (fun H locs hP hD hS => ?_)
  have hP : kp g [X5W g oM rM (upd (upd vM 14 p0) 15 p1) aM] H := hP
  have hD : kd A [X5W g oM rM (upd (upd vM 14 p0) 15 p1) aM] := hD
  refine lv_aload_n hx hb dX5_refuses_10 rfl (lv_at hl 0 rfl) ?_
  refine lv_aload_n hx hb dX5_refuses_11 rfl (lv_at hl 0 rfl) ?_
  refine kg_get C kFX5 (k := 16) kw1462 hP (i := 0) (q := 0) rfl rfl (by decide) rfl dX5_refuses_12 ?_
  refine kg_put C kFX5 (k := 17) kw1463 hP hD hS (i := 0) (q := 0) rfl rfl (by decide) rfl rfl rfl (Nat.le_of_ble_eq_true rfl) X5s_17 rfl dX5_refuses_15 (fun H locs hP hD hS => ?_)
  have hP : kp g [X5W g oM rM (upd (upd (upd vM 14 p0) 15 p1) 17 (vM 16)) aM] H := hP
  have hD : kd A [X5W g oM rM (upd (upd (upd vM 14 p0) 15 p1) 17 (vM 16)) aM] := hD
  refine lv_iconst (v := 0) hx hb dX5_refuses_18 (by decide) ?_
  have hF := (show X5_refuses_f vM aM p0 p1 = (false, upd (upd (upd vM 14 p0) 15 p1) 17 (vM 16)) from rfl)
  exact kM_zret (x := b2i false) C (b2i_nar _) hP hD hS ⟨by rw [hF], by rw [hF]⟩ dX5_refuses_19

abbrev wX5_does : List Cond := Cond.code yX5_does cX5_does 2 (some .boolean) :: kW
def X5_does_f (vM : Nat → Int32) (aM : Nat → Nat → Int32) (p0 : Int32) : Bool × (Nat → Int32) :=
  (true, upd vM 18 p0)
set_option maxHeartbeats 4000000 in
set_option maxRecDepth 100000 in
theorem X5_does_c (l : Launch) (g : kG) (oM : Nat) (rM : Nat → Nat) (vM : Nat → Int32) (aM : Nat → Nat → Int32) (p0 : Int32) : kM l yX5_does wX5_does 0 0 0 0 g [.ref oM, .int p0] [X5W g oM rM vM aM] (fun x u => x = b2i (X5_does_f vM aM p0).1 ∧ u = [X5W g oM rM ((X5_does_f vM aM p0).2) aM]) := by
  refine kM_of (cc := cX5_does) (nL := 2) (ret := (some .boolean)) (lv := [(0, .ref oM), (1, .int p0)]) (by decide) rfl (Nat.le_of_ble_eq_true rfl) rfl ?_
  intro p e s m args below meth c ls A C hP hD hE hA hS hl
  have C : kC p c cX5_does s m args meth RX5 g 2 (some .boolean) := C
  have hx := C.1.1
  have hb := C.1.2.1
  have hts := C.1.2.2.2.2
  refine lv_aload_n hx hb dX5_does_0 rfl (lv_at hl 0 rfl) ?_
  refine lv_iload_n hx hb dX5_does_1 rfl (lv_at hl 1 rfl) ?_
  refine kg_put C kFX5 (k := 18) kw1464 hP hD hS (i := 0) (q := 0) rfl rfl (by decide) rfl rfl rfl (Nat.le_of_ble_eq_true rfl) X5s_18 rfl dX5_does_2 (fun H locs hP hD hS => ?_)
  have hP : kp g [X5W g oM rM (upd vM 18 p0) aM] H := hP
  have hD : kd A [X5W g oM rM (upd vM 18 p0) aM] := hD
  refine lv_iconst (v := 1) hx hb dX5_does_5 (by decide) ?_
  have hF := (show X5_does_f vM aM p0 = (true, upd vM 18 p0) from rfl)
  exact kM_zret (x := b2i true) C (b2i_nar _) hP hD hS ⟨by rw [hF], by rw [hF]⟩ dX5_does_6

theorem pnX5_keeps : yX5_keeps.cls ≠ "java/lang/invoke/MethodHandle" ∧ yX5_keeps.cls ≠ "java/lang/invoke/VarHandle" ∧ (parseMethodDescriptor yX5_keeps.desc).map (fun d => d.parameters.length) = some 1 := by decide +kernel
theorem ca_X5_keeps : kCal yX5_keeps (Cond.code yX5_keeps cX5_keeps 3 (some .int)) := ⟨k_w 7 232 rfl rfl, k_w 1 65 rfl rfl, k_w 2 10 rfl rfl, k_w 7 233 rfl rfl⟩

theorem pnX5_raises : yX5_raises.cls ≠ "java/lang/invoke/MethodHandle" ∧ yX5_raises.cls ≠ "java/lang/invoke/VarHandle" ∧ (parseMethodDescriptor yX5_raises.desc).map (fun d => d.parameters.length) = some 1 := by decide +kernel
theorem ca_X5_raises : kCal yX5_raises (Cond.code yX5_raises cX5_raises 2 (some .int)) := ⟨k_w 7 236 rfl rfl, k_w 1 66 rfl rfl, k_w 2 10 rfl rfl, k_w 7 237 rfl rfl⟩

abbrev wX5_ends : List Cond := Cond.code yX5_ends cX5_ends 2 (some .int) :: kW
def X5_ends_f (vM : Nat → Int32) (aM : Nat → Nat → Int32) (p0 : Bool) : Int32 × (Nat → Int32) × (Nat → Nat → Int32) :=
  if p0 = true then ((X5_keeps_f vM aM (vM 18)).1, (X5_keeps_f vM aM (vM 18)).2.1, (X5_keeps_f vM aM (vM 18)).2.2)
  else (0, upd vM 21 1, aM)
set_option maxHeartbeats 4000000 in
set_option maxRecDepth 100000 in
theorem X5_ends_c (l : Launch) (g : kG) (oM : Nat) (rM : Nat → Nat) (vM : Nat → Int32) (aM : Nat → Nat → Int32) (p0 : Bool) (hu : (∃ u : Nat, u ≤ 8 ∧ vM 3 = nI u)) : kM l yX5_ends wX5_ends 1 22 0 0 g [.ref oM, .int (b2i p0)] [X5W g oM rM vM aM] (fun x u => x = (X5_ends_f vM aM p0).1 ∧ u = [X5W g oM rM ((X5_ends_f vM aM p0).2.1) ((X5_ends_f vM aM p0).2.2)]) := by
  refine kM_of (cc := cX5_ends) (nL := 2) (ret := (some .int)) (lv := [(0, .ref oM), (1, .int (b2i p0))]) (by decide) rfl (Nat.le_of_ble_eq_true rfl) rfl ?_
  intro p e s m args below meth c ls A C hP hD hE hA hS hl
  have C : kC p c cX5_ends s m args meth RX5 g 2 (some .int) := C
  have hx := C.1.1
  have hb := C.1.2.1
  have hts := C.1.2.2.2.2
  refine lv_iload_n hx hb dX5_ends_0 rfl (lv_at hl 1 rfl) ?_
  refine lv_if_eq (tgt := 15) hx hb dX5_ends_1 (by decide) (fun c1 => ?_) (fun c1 => ?_)
  · have c1 := b2i_eq0 c1
    refine lv_aload_n hx hb dX5_ends_15 rfl (lv_at hl 0 rfl) ?_
    refine lv_iconst (v := 1) hx hb dX5_ends_16 (by decide) ?_
    refine kM_V (As := [.int 1]) (rest := []) (wr := []) C (X5_raises_c l g oM rM vM aM 1) (cwV 1 hts (k_gV kw1540 ca_X5_raises) rfl rfl rfl ⟨rfl, pnX5_raises⟩ ⟨Nat.le_of_ble_eq_true rfl, Nat.le_of_ble_eq_true rfl⟩) hE hS hA hP hD [0] [] rfl rfl ⟨rfl, rfl, by decide⟩ (k_recv C kFX5 hP (i := 0) (q := 0) rfl rfl) rfl hl.1 rfl rfl dX5_ends_17 ⟨Nat.le_of_ble_eq_true rfl, Nat.le_of_ble_eq_true rfl⟩ (fun r2 u2 H locs hp2 hP hD hS => ?_)
    obtain ⟨er2, eu2⟩ := hp2
    have er2 : r2 = 0 := er2
    have eu2 : u2 = [X5W g oM rM (upd vM 21 1) aM] := eu2
    subst er2 eu2
    have hP : kp g [X5W g oM rM (upd vM 21 1) aM] H := hP
    have hD : kd A [X5W g oM rM (upd vM 21 1) aM] := hD
    have hF := (show X5_ends_f vM aM p0 = (0, upd vM 21 1, aM) from (if_neg c1).trans (rfl))
    exact kM_ret (x := 0) C hP hD hS ⟨by rw [hF], by rw [hF]⟩ dX5_ends_20
  have c1 := b2i_ne0 c1
  refine lv_aload_n hx hb dX5_ends_4 rfl (lv_at hl 0 rfl) ?_
  refine lv_aload_n hx hb dX5_ends_5 rfl (lv_at hl 0 rfl) ?_
  refine kg_get C kFX5 (k := 18) kw1464 hP (i := 0) (q := 0) rfl rfl (by decide) rfl dX5_ends_6 ?_
  refine kM_V (As := [.int (vM 18)]) (rest := []) (wr := []) C (X5_keeps_c l g oM rM vM aM (vM 18) (by first | assumption | exact hu | exact ⟨0, by omega, rfl⟩ | exact ⟨1, by omega, rfl⟩ | exact ⟨2, by omega, rfl⟩ | exact ⟨3, by omega, rfl⟩ | exact ⟨4, by omega, rfl⟩)) (cwV 1 hts (k_gV kw1536 ca_X5_keeps) rfl rfl rfl ⟨rfl, pnX5_keeps⟩ ⟨Nat.le_of_ble_eq_true rfl, Nat.le_of_ble_eq_true rfl⟩) hE hS hA hP hD [0] [] rfl rfl ⟨rfl, rfl, by decide⟩ (k_recv C kFX5 hP (i := 0) (q := 0) rfl rfl) rfl hl.1 rfl rfl dX5_ends_9 ⟨Nat.le_of_ble_eq_true rfl, Nat.le_of_ble_eq_true rfl⟩ (fun r3 u3 H locs hp3 hP hD hS => ?_)
  obtain ⟨rfl, rfl⟩ := hp3
  have hP : kp g [X5W g oM rM ((X5_keeps_f vM aM (vM 18)).2.1) ((X5_keeps_f vM aM (vM 18)).2.2)] H := hP
  have hD : kd A [X5W g oM rM ((X5_keeps_f vM aM (vM 18)).2.1) ((X5_keeps_f vM aM (vM 18)).2.2)] := hD
  refine lv_goto (tgt := 20) hx hb dX5_ends_12 (by decide) ?_
  have hF := (show X5_ends_f vM aM p0 = ((X5_keeps_f vM aM (vM 18)).1, (X5_keeps_f vM aM (vM 18)).2.1, (X5_keeps_f vM aM (vM 18)).2.2) from (if_pos c1).trans (rfl))
  exact kM_ret (x := (X5_keeps_f vM aM (vM 18)).1) C hP hD hS ⟨by rw [hF], by rw [hF]⟩ dX5_ends_20

abbrev wX5_weight : List Cond := Cond.code yX5_weight cX5_weight 2 (some .int) :: kW
def X5_weight_f (p0 : Int32) : Int32 :=
  if (p0 / 3) = 0 then (if (p0 - p0 / 3 * 3) = 0 then ((1 : Int32) * 1)
    else if (p0 - p0 / 3 * 3) = 1 then ((1 : Int32) * 2)
    else ((1 : Int32) * 5))
  else if (p0 / 3) = 1 then (if (p0 - p0 / 3 * 3) = 0 then ((10 : Int32) * 1)
    else if (p0 - p0 / 3 * 3) = 1 then ((10 : Int32) * 2)
    else ((10 : Int32) * 5))
  else if (p0 - p0 / 3 * 3) = 0 then ((100 : Int32) * 1)
  else if (p0 - p0 / 3 * 3) = 1 then ((100 : Int32) * 2)
  else ((100 : Int32) * 5)
set_option maxHeartbeats 4000000 in
set_option maxRecDepth 100000 in
theorem X5_weight_c (l : Launch) (g : kG) (p0 : Int32) : kR l yX5_weight wX5_weight 0 0 g [.int p0] [] ((X5_weight_f p0)) := by
  refine kR_of (cc := cX5_weight) (nL := 2) (ret := (some .int)) (lv := [(0, .int p0)]) (by decide) rfl (Nat.le_of_ble_eq_true rfl) rfl ?_
  intro p e s m args below meth c ls C hP hE hl
  have hS : va_S (fun _ => False) s.heap s.heap [] := va_S.rf
  have C : kC p c cX5_weight s m args meth RX5 g 2 (some .int) := C
  have hx := C.1.1
  have hb := C.1.2.1
  have hts := C.1.2.2.2.2
  refine lv_iload_n hx hb dX5_weight_0 rfl (lv_at hl 0 rfl) ?_
  refine lv_iconst (v := 3) hx hb dX5_weight_1 (by decide) ?_
  refine lv_idiv hx hb dX5_weight_2 (by decide) ?_
  refine lv_if_ne (tgt := 10) hx hb dX5_weight_3 (by decide) (fun c1 => ?_) (fun c1 => ?_)
  · refine lv_iload_n hx hb dX5_weight_10 rfl (lv_at hl 0 rfl) ?_
    refine lv_iconst (v := 3) hx hb dX5_weight_11 (by decide) ?_
    refine lv_idiv hx hb dX5_weight_12 (by decide) ?_
    refine lv_iconst (v := 1) hx hb dX5_weight_13 (by decide) ?_
    refine lv_icmp_ne (tgt := 22) hx hb dX5_weight_14 (by decide) (fun c2 => ?_) (fun c2 => ?_)
    · refine lv_bipush (v := 100) hx hb dX5_weight_22 (by decide) ?_
      refine lv_istore_n (lv' := [(1, .int 100), (0, .int p0)]) hx hb dX5_weight_24 rfl hl (by decide) rfl (fun ls hl => ?_)
      refine lv_iload_n hx hb dX5_weight_25 rfl (lv_at hl 0 rfl) ?_
      refine lv_iload_n hx hb dX5_weight_26 rfl (lv_at hl 1 rfl) ?_
      refine lv_iconst (v := 3) hx hb dX5_weight_27 (by decide) ?_
      refine lv_irem hx hb dX5_weight_28 (by decide) ?_
      refine lv_if_ne (tgt := 36) hx hb dX5_weight_29 (by decide) (fun c3 => ?_) (fun c3 => ?_)
      · refine lv_iload_n hx hb dX5_weight_36 rfl (lv_at hl 1 rfl) ?_
        refine lv_iconst (v := 3) hx hb dX5_weight_37 (by decide) ?_
        refine lv_irem hx hb dX5_weight_38 (by decide) ?_
        refine lv_iconst (v := 1) hx hb dX5_weight_39 (by decide) ?_
        refine lv_icmp_ne (tgt := 47) hx hb dX5_weight_40 (by decide) (fun c4 => ?_) (fun c4 => ?_)
        · refine lv_iconst (v := 5) hx hb dX5_weight_47 (by decide) ?_
          refine lv_imul hx hb dX5_weight_48 ?_
          exact kR_ret C ((show X5_weight_f p0 = ((100 : Int32) * 5) from (if_neg c1).trans ((if_neg c2).trans ((if_neg c3).trans ((if_neg c4).trans (rfl)))))).symm dX5_weight_49
        refine lv_iconst (v := 2) hx hb dX5_weight_43 (by decide) ?_
        refine lv_goto (tgt := 48) hx hb dX5_weight_44 (by decide) ?_
        refine lv_imul hx hb dX5_weight_48 ?_
        exact kR_ret C ((show X5_weight_f p0 = ((100 : Int32) * 2) from (if_neg c1).trans ((if_neg c2).trans ((if_neg c3).trans ((if_pos c4).trans (rfl)))))).symm dX5_weight_49
      refine lv_iconst (v := 1) hx hb dX5_weight_32 (by decide) ?_
      refine lv_goto (tgt := 48) hx hb dX5_weight_33 (by decide) ?_
      refine lv_imul hx hb dX5_weight_48 ?_
      exact kR_ret C ((show X5_weight_f p0 = ((100 : Int32) * 1) from (if_neg c1).trans ((if_neg c2).trans ((if_pos c3).trans (rfl))))).symm dX5_weight_49
    refine lv_bipush (v := 10) hx hb dX5_weight_17 (by decide) ?_
    refine lv_goto (tgt := 24) hx hb dX5_weight_19 (by decide) ?_
    refine lv_istore_n (lv' := [(1, .int 10), (0, .int p0)]) hx hb dX5_weight_24 rfl hl (by decide) rfl (fun ls hl => ?_)
    refine lv_iload_n hx hb dX5_weight_25 rfl (lv_at hl 0 rfl) ?_
    refine lv_iload_n hx hb dX5_weight_26 rfl (lv_at hl 1 rfl) ?_
    refine lv_iconst (v := 3) hx hb dX5_weight_27 (by decide) ?_
    refine lv_irem hx hb dX5_weight_28 (by decide) ?_
    refine lv_if_ne (tgt := 36) hx hb dX5_weight_29 (by decide) (fun c5 => ?_) (fun c5 => ?_)
    · refine lv_iload_n hx hb dX5_weight_36 rfl (lv_at hl 1 rfl) ?_
      refine lv_iconst (v := 3) hx hb dX5_weight_37 (by decide) ?_
      refine lv_irem hx hb dX5_weight_38 (by decide) ?_
      refine lv_iconst (v := 1) hx hb dX5_weight_39 (by decide) ?_
      refine lv_icmp_ne (tgt := 47) hx hb dX5_weight_40 (by decide) (fun c6 => ?_) (fun c6 => ?_)
      · refine lv_iconst (v := 5) hx hb dX5_weight_47 (by decide) ?_
        refine lv_imul hx hb dX5_weight_48 ?_
        exact kR_ret C ((show X5_weight_f p0 = ((10 : Int32) * 5) from (if_neg c1).trans ((if_pos c2).trans ((if_neg c5).trans ((if_neg c6).trans (rfl)))))).symm dX5_weight_49
      refine lv_iconst (v := 2) hx hb dX5_weight_43 (by decide) ?_
      refine lv_goto (tgt := 48) hx hb dX5_weight_44 (by decide) ?_
      refine lv_imul hx hb dX5_weight_48 ?_
      exact kR_ret C ((show X5_weight_f p0 = ((10 : Int32) * 2) from (if_neg c1).trans ((if_pos c2).trans ((if_neg c5).trans ((if_pos c6).trans (rfl)))))).symm dX5_weight_49
    refine lv_iconst (v := 1) hx hb dX5_weight_32 (by decide) ?_
    refine lv_goto (tgt := 48) hx hb dX5_weight_33 (by decide) ?_
    refine lv_imul hx hb dX5_weight_48 ?_
    exact kR_ret C ((show X5_weight_f p0 = ((10 : Int32) * 1) from (if_neg c1).trans ((if_pos c2).trans ((if_pos c5).trans (rfl))))).symm dX5_weight_49
  refine lv_iconst (v := 1) hx hb dX5_weight_6 (by decide) ?_
  refine lv_goto (tgt := 24) hx hb dX5_weight_7 (by decide) ?_
  refine lv_istore_n (lv' := [(1, .int 1), (0, .int p0)]) hx hb dX5_weight_24 rfl hl (by decide) rfl (fun ls hl => ?_)
  refine lv_iload_n hx hb dX5_weight_25 rfl (lv_at hl 0 rfl) ?_
  refine lv_iload_n hx hb dX5_weight_26 rfl (lv_at hl 1 rfl) ?_
  refine lv_iconst (v := 3) hx hb dX5_weight_27 (by decide) ?_
  refine lv_irem hx hb dX5_weight_28 (by decide) ?_
  refine lv_if_ne (tgt := 36) hx hb dX5_weight_29 (by decide) (fun c7 => ?_) (fun c7 => ?_)
  · refine lv_iload_n hx hb dX5_weight_36 rfl (lv_at hl 1 rfl) ?_
    refine lv_iconst (v := 3) hx hb dX5_weight_37 (by decide) ?_
    refine lv_irem hx hb dX5_weight_38 (by decide) ?_
    refine lv_iconst (v := 1) hx hb dX5_weight_39 (by decide) ?_
    refine lv_icmp_ne (tgt := 47) hx hb dX5_weight_40 (by decide) (fun c8 => ?_) (fun c8 => ?_)
    · refine lv_iconst (v := 5) hx hb dX5_weight_47 (by decide) ?_
      refine lv_imul hx hb dX5_weight_48 ?_
      exact kR_ret C ((show X5_weight_f p0 = ((1 : Int32) * 5) from (if_pos c1).trans ((if_neg c7).trans ((if_neg c8).trans (rfl))))).symm dX5_weight_49
    refine lv_iconst (v := 2) hx hb dX5_weight_43 (by decide) ?_
    refine lv_goto (tgt := 48) hx hb dX5_weight_44 (by decide) ?_
    refine lv_imul hx hb dX5_weight_48 ?_
    exact kR_ret C ((show X5_weight_f p0 = ((1 : Int32) * 2) from (if_pos c1).trans ((if_neg c7).trans ((if_pos c8).trans (rfl))))).symm dX5_weight_49
  refine lv_iconst (v := 1) hx hb dX5_weight_32 (by decide) ?_
  refine lv_goto (tgt := 48) hx hb dX5_weight_33 (by decide) ?_
  refine lv_imul hx hb dX5_weight_48 ?_
  exact kR_ret C ((show X5_weight_f p0 = ((1 : Int32) * 1) from (if_pos c1).trans ((if_pos c7).trans (rfl)))).symm dX5_weight_49

abbrev wX5_where : List Cond := Cond.code yX5_where cX5_where 1 (some .int) :: kW
def X5_where_f (p0 : Int32) : Int32 :=
  if p0 = 0 then 0
  else if p0 = 1 then 3
  else if p0 = 2 then 7
  else 12
set_option maxHeartbeats 4000000 in
set_option maxRecDepth 100000 in
theorem X5_where_c (l : Launch) (g : kG) (p0 : Int32) : kR l yX5_where wX5_where 0 0 g [.int p0] [] ((X5_where_f p0)) := by
  refine kR_of (cc := cX5_where) (nL := 1) (ret := (some .int)) (lv := [(0, .int p0)]) (by decide) rfl (Nat.le_of_ble_eq_true rfl) rfl ?_
  intro p e s m args below meth c ls C hP hE hl
  have hS : va_S (fun _ => False) s.heap s.heap [] := va_S.rf
  have C : kC p c cX5_where s m args meth RX5 g 1 (some .int) := C
  have hx := C.1.1
  have hb := C.1.2.1
  have hts := C.1.2.2.2.2
  refine lv_iload_n hx hb dX5_where_0 rfl (lv_at hl 0 rfl) ?_
  refine lv_if_ne (tgt := 8) hx hb dX5_where_1 (by decide) (fun c1 => ?_) (fun c1 => ?_)
  · refine lv_iload_n hx hb dX5_where_8 rfl (lv_at hl 0 rfl) ?_
    refine lv_iconst (v := 1) hx hb dX5_where_9 (by decide) ?_
    refine lv_icmp_ne (tgt := 17) hx hb dX5_where_10 (by decide) (fun c2 => ?_) (fun c2 => ?_)
    · refine lv_iload_n hx hb dX5_where_17 rfl (lv_at hl 0 rfl) ?_
      refine lv_iconst (v := 2) hx hb dX5_where_18 (by decide) ?_
      refine lv_icmp_ne (tgt := 27) hx hb dX5_where_19 (by decide) (fun c3 => ?_) (fun c3 => ?_)
      · refine lv_bipush (v := 12) hx hb dX5_where_27 (by decide) ?_
        exact kR_ret C ((show X5_where_f p0 = 12 from (if_neg c1).trans ((if_neg c2).trans ((if_neg c3).trans (rfl))))).symm dX5_where_29
      refine lv_bipush (v := 7) hx hb dX5_where_22 (by decide) ?_
      refine lv_goto (tgt := 29) hx hb dX5_where_24 (by decide) ?_
      exact kR_ret C ((show X5_where_f p0 = 7 from (if_neg c1).trans ((if_neg c2).trans ((if_pos c3).trans (rfl))))).symm dX5_where_29
    refine lv_iconst (v := 3) hx hb dX5_where_13 (by decide) ?_
    refine lv_goto (tgt := 29) hx hb dX5_where_14 (by decide) ?_
    exact kR_ret C ((show X5_where_f p0 = 3 from (if_neg c1).trans ((if_pos c2).trans (rfl)))).symm dX5_where_29
  refine lv_iconst (v := 0) hx hb dX5_where_4 (by decide) ?_
  refine lv_goto (tgt := 29) hx hb dX5_where_5 (by decide) ?_
  exact kR_ret C ((show X5_where_f p0 = 0 from (if_pos c1).trans (rfl))).symm dX5_where_29

abbrev wX5_pay : List Cond := Cond.code yX5_pay cX5_pay 2 (some .int) :: kW
def X5_pay_f (p0 : Int32) (p1 : Int32) : Int32 :=
  (2 + (((3 * p1) + (5 * p0)) - ((3 * p1) + (5 * p0)) / 7 * 7))
set_option maxHeartbeats 4000000 in
set_option maxRecDepth 100000 in
theorem X5_pay_c (l : Launch) (g : kG) (p0 : Int32) (p1 : Int32) : kR l yX5_pay wX5_pay 0 0 g [.int p0, .int p1] [] ((X5_pay_f p0 p1)) := by
  refine kR_of (cc := cX5_pay) (nL := 2) (ret := (some .int)) (lv := [(0, .int p0), (1, .int p1)]) (by decide) rfl (Nat.le_of_ble_eq_true rfl) rfl ?_
  intro p e s m args below meth c ls C hP hE hl
  have hS : va_S (fun _ => False) s.heap s.heap [] := va_S.rf
  have C : kC p c cX5_pay s m args meth RX5 g 2 (some .int) := C
  have hx := C.1.1
  have hb := C.1.2.1
  have hts := C.1.2.2.2.2
  refine lv_iconst (v := 2) hx hb dX5_pay_0 (by decide) ?_
  refine lv_iconst (v := 3) hx hb dX5_pay_1 (by decide) ?_
  refine lv_iload_n hx hb dX5_pay_2 rfl (lv_at hl 1 rfl) ?_
  refine lv_imul hx hb dX5_pay_3 ?_
  refine lv_iconst (v := 5) hx hb dX5_pay_4 (by decide) ?_
  refine lv_iload_n hx hb dX5_pay_5 rfl (lv_at hl 0 rfl) ?_
  refine lv_imul hx hb dX5_pay_6 ?_
  refine lv_iadd hx hb dX5_pay_7 ?_
  refine lv_bipush (v := 7) hx hb dX5_pay_8 (by decide) ?_
  refine lv_irem hx hb dX5_pay_10 (by decide) ?_
  refine lv_iadd hx hb dX5_pay_11 ?_
  exact kR_ret C ((show X5_pay_f p0 p1 = (2 + (((3 * p1) + (5 * p0)) - ((3 * p1) + (5 * p0)) / 7 * 7)) from rfl)).symm dX5_pay_12

theorem pnX5_weight : yX5_weight.cls ≠ "java/lang/invoke/MethodHandle" ∧ yX5_weight.cls ≠ "java/lang/invoke/VarHandle" ∧ (parseMethodDescriptor yX5_weight.desc).map (fun d => d.parameters.length) = some 1 := by decide +kernel
theorem cs_X5_weight : kCst yX5_weight (Cond.code yX5_weight cX5_weight 2 (some .int)) := ⟨k_w 8 87 rfl rfl, k_w 2 10 rfl rfl, k_w 8 88 rfl rfl⟩

abbrev wX5_shortBy : List Cond := Cond.code yX5_shortBy cX5_shortBy 2 (some .int) :: kW
def X5_shortBy_f (vM : Nat → Int32) (aM : Nat → Nat → Int32) (p0 : Int32) : Int32 :=
  (if ((X5_weight_f p0) / 10) < (((aM 0) (14 + p0).toNatClampNeg) / 8) then ((X5_weight_f p0) / 10) else (((aM 0) (14 + p0).toNatClampNeg) / 8))
set_option maxHeartbeats 4000000 in
set_option maxRecDepth 100000 in
theorem X5_shortBy_c (l : Launch) (g : kG) (oM : Nat) (rM : Nat → Nat) (vM : Nat → Int32) (aM : Nat → Nat → Int32) (p0 : Int32) (hw : vp_in p0 8) : kR l yX5_shortBy wX5_shortBy 1 21 g [.ref oM, .int p0] [X5W g oM rM vM aM] ((X5_shortBy_f vM aM p0)) := by
  refine kR_of (cc := cX5_shortBy) (nL := 2) (ret := (some .int)) (lv := [(0, .ref oM), (1, .int p0)]) (by decide) rfl (Nat.le_of_ble_eq_true rfl) rfl ?_
  intro p e s m args below meth c ls C hP hE hl
  have hS : va_S (fun _ => False) s.heap s.heap [] := va_S.rf
  have C : kC p c cX5_shortBy s m args meth RX5 g 2 (some .int) := C
  have hx := C.1.1
  have hb := C.1.2.1
  have hts := C.1.2.2.2.2
  refine lv_aload_n hx hb dX5_shortBy_0 rfl (lv_at hl 0 rfl) ?_
  refine kg_get C kFX5 (k := 0) kw1446 hP (i := 0) (q := 0) rfl rfl (by decide) rfl dX5_shortBy_1 ?_
  refine lv_bipush (v := 14) hx hb dX5_shortBy_4 (by decide) ?_
  refine lv_iload_n hx hb dX5_shortBy_6 rfl (lv_at hl 1 rfl) ?_
  refine lv_iadd hx hb dX5_shortBy_7 ?_
  refine kg_iald C hP (i := 0) (q := 1) rfl rfl (k_off (c := 14) rfl hw (by omega) (by omega)) dX5_shortBy_8 ?_
  refine lv_bipush (v := 8) hx hb dX5_shortBy_9 (by decide) ?_
  refine lv_idiv hx hb dX5_shortBy_11 (by decide) ?_
  refine lv_iload_n hx hb dX5_shortBy_12 rfl (lv_at hl 1 rfl) ?_
  refine kR_S (As := [.int p0]) (rest := [.int (((aM 0) (14 + p0).toNatClampNeg) / 8)]) C (X5_weight_c l g p0) (va_cwS 1 hts (k_gS kw1632 cs_X5_weight) rfl rfl rfl pnX5_weight ⟨Nat.le_of_ble_eq_true rfl, Nat.le_of_ble_eq_true rfl⟩) hE hS (hP.pick [] rfl) rfl hl.1 rfl rfl dX5_shortBy_13 ⟨Nat.le_of_ble_eq_true rfl, Nat.le_of_ble_eq_true rfl⟩ ?_
  refine lv_bipush (v := 10) hx hb dX5_shortBy_16 (by decide) ?_
  refine lv_idiv hx hb dX5_shortBy_18 (by decide) ?_
  refine va_mmin hx hb (by rw [C.1.2.2.1, hl.1]) C.1.2.2.2.1 (hts _ (kw1639)) (hts _ kw582) (hts _ kw122) (hts _ kw583) (Nat.le_of_ble_eq_true rfl) (Nat.le_of_ble_eq_true rfl) (Nat.le_of_ble_eq_true rfl) (Nat.le_of_ble_eq_true rfl) dX5_shortBy_19 ?_
  exact kR_ret C ((show X5_shortBy_f vM aM p0 = (if ((X5_weight_f p0) / 10) < (((aM 0) (14 + p0).toNatClampNeg) / 8) then ((X5_weight_f p0) / 10) else (((aM 0) (14 + p0).toNatClampNeg) / 8)) from rfl)).symm dX5_shortBy_22

theorem pnX5_in : yX5_in.cls ≠ "java/lang/invoke/MethodHandle" ∧ yX5_in.cls ≠ "java/lang/invoke/VarHandle" ∧ (parseMethodDescriptor yX5_in.desc).map (fun d => d.parameters.length) = some 3 := by decide +kernel
theorem cs_X5_in : kCst yX5_in (Cond.code yX5_in cX5_in 3 (some .boolean)) := ⟨k_w 7 220 rfl rfl, k_w 2 10 rfl rfl, k_w 7 221 rfl rfl⟩

abbrev wX5_isJar : List Cond := Cond.code yX5_isJar cX5_isJar 2 (some .boolean) :: kW
def X5_isJar_f (vM : Nat → Int32) (aM : Nat → Nat → Int32) (p0 : Int32) : Bool :=
  (X5_in_f p0 0 (((aM 0) 4) - 1))
set_option maxHeartbeats 4000000 in
set_option maxRecDepth 100000 in
theorem X5_isJar_c (l : Launch) (g : kG) (oM : Nat) (rM : Nat → Nat) (vM : Nat → Int32) (aM : Nat → Nat → Int32) (p0 : Int32) : kR l yX5_isJar wX5_isJar 1 22 g [.ref oM, .int p0] [X5W g oM rM vM aM] (b2i (X5_isJar_f vM aM p0)) := by
  refine kR_of (cc := cX5_isJar) (nL := 2) (ret := (some .boolean)) (lv := [(0, .ref oM), (1, .int p0)]) (by decide) rfl (Nat.le_of_ble_eq_true rfl) rfl ?_
  intro p e s m args below meth c ls C hP hE hl
  have hS : va_S (fun _ => False) s.heap s.heap [] := va_S.rf
  have C : kC p c cX5_isJar s m args meth RX5 g 2 (some .boolean) := C
  have hx := C.1.1
  have hb := C.1.2.1
  have hts := C.1.2.2.2.2
  refine lv_iload_n hx hb dX5_isJar_0 rfl (lv_at hl 1 rfl) ?_
  refine lv_iconst (v := 0) hx hb dX5_isJar_1 (by decide) ?_
  refine lv_aload_n hx hb dX5_isJar_2 rfl (lv_at hl 0 rfl) ?_
  refine kg_get C kFX5 (k := 0) kw1446 hP (i := 0) (q := 0) rfl rfl (by decide) rfl dX5_isJar_3 ?_
  refine lv_iconst (v := 4) hx hb dX5_isJar_6 (by decide) ?_
  refine kg_ialdK C hP (i := 0) (q := 1) rfl rfl (j := 4) rfl (k_vin (j := 4) rfl (by decide) (by decide)) dX5_isJar_7 ?_
  refine lv_iconst (v := 1) hx hb dX5_isJar_8 (by decide) ?_
  refine lv_isub hx hb dX5_isJar_9 ?_
  refine kR_S (As := [.int p0, .int 0, .int (((aM 0) 4) - 1)]) (rest := []) C (X5_in_c l g p0 0 (((aM 0) 4) - 1)) (va_cwS 3 hts (k_gS kw1525 cs_X5_in) rfl rfl rfl pnX5_in ⟨Nat.le_of_ble_eq_true rfl, Nat.le_of_ble_eq_true rfl⟩) hE hS (hP.pick [] rfl) rfl hl.1 rfl rfl dX5_isJar_10 ⟨Nat.le_of_ble_eq_true rfl, Nat.le_of_ble_eq_true rfl⟩ ?_
  exact kR_zret (x := b2i (X5_in_f p0 0 (((aM 0) 4) - 1))) C (b2i_nar _) (congrArg b2i (show X5_isJar_f vM aM p0 = (X5_in_f p0 0 (((aM 0) 4) - 1)) from rfl).symm) dX5_isJar_13
theorem k_isJar {vM : Nat → Int32} {aM : Nat → Nat → Int32} {x : Int32} (h : X5_isJar_f vM aM x = true) (hn : ∃ n : Nat, n ≤ 6 ∧ aM 0 4 = nI n) : vp_in x 6 := by
  obtain ⟨n, h1, h2⟩ := hn
  have := k_in0 (n := n) (y := aM 0 4 - 1) h (by rw [h2, Int32.sub_add_cancel]) (by omega)
  have := vp_in_iff.mp this
  exact vp_in_iff.mpr ⟨this.1, by omega⟩

abbrev wX5_isBag : List Cond := Cond.code yX5_isBag cX5_isBag 2 (some .boolean) :: kW
def X5_isBag_f (vM : Nat → Int32) (aM : Nat → Nat → Int32) (p0 : Int32) : Bool :=
  (X5_in_f p0 0 (((aM 0) 5) - 1))
set_option maxHeartbeats 4000000 in
set_option maxRecDepth 100000 in
theorem X5_isBag_c (l : Launch) (g : kG) (oM : Nat) (rM : Nat → Nat) (vM : Nat → Int32) (aM : Nat → Nat → Int32) (p0 : Int32) : kR l yX5_isBag wX5_isBag 1 22 g [.ref oM, .int p0] [X5W g oM rM vM aM] (b2i (X5_isBag_f vM aM p0)) := by
  refine kR_of (cc := cX5_isBag) (nL := 2) (ret := (some .boolean)) (lv := [(0, .ref oM), (1, .int p0)]) (by decide) rfl (Nat.le_of_ble_eq_true rfl) rfl ?_
  intro p e s m args below meth c ls C hP hE hl
  have hS : va_S (fun _ => False) s.heap s.heap [] := va_S.rf
  have C : kC p c cX5_isBag s m args meth RX5 g 2 (some .boolean) := C
  have hx := C.1.1
  have hb := C.1.2.1
  have hts := C.1.2.2.2.2
  refine lv_iload_n hx hb dX5_isBag_0 rfl (lv_at hl 1 rfl) ?_
  refine lv_iconst (v := 0) hx hb dX5_isBag_1 (by decide) ?_
  refine lv_aload_n hx hb dX5_isBag_2 rfl (lv_at hl 0 rfl) ?_
  refine kg_get C kFX5 (k := 0) kw1446 hP (i := 0) (q := 0) rfl rfl (by decide) rfl dX5_isBag_3 ?_
  refine lv_iconst (v := 5) hx hb dX5_isBag_6 (by decide) ?_
  refine kg_ialdK C hP (i := 0) (q := 1) rfl rfl (j := 5) rfl (k_vin (j := 5) rfl (by decide) (by decide)) dX5_isBag_7 ?_
  refine lv_iconst (v := 1) hx hb dX5_isBag_8 (by decide) ?_
  refine lv_isub hx hb dX5_isBag_9 ?_
  refine kR_S (As := [.int p0, .int 0, .int (((aM 0) 5) - 1)]) (rest := []) C (X5_in_c l g p0 0 (((aM 0) 5) - 1)) (va_cwS 3 hts (k_gS kw1525 cs_X5_in) rfl rfl rfl pnX5_in ⟨Nat.le_of_ble_eq_true rfl, Nat.le_of_ble_eq_true rfl⟩) hE hS (hP.pick [] rfl) rfl hl.1 rfl rfl dX5_isBag_10 ⟨Nat.le_of_ble_eq_true rfl, Nat.le_of_ble_eq_true rfl⟩ ?_
  exact kR_zret (x := b2i (X5_in_f p0 0 (((aM 0) 5) - 1))) C (b2i_nar _) (congrArg b2i (show X5_isBag_f vM aM p0 = (X5_in_f p0 0 (((aM 0) 5) - 1)) from rfl).symm) dX5_isBag_13
theorem k_isBag {vM : Nat → Int32} {aM : Nat → Nat → Int32} {x : Int32} (h : X5_isBag_f vM aM x = true) (hn : ∃ n : Nat, n ≤ 6 ∧ aM 0 5 = nI n) : vp_in x 6 := by
  obtain ⟨n, h1, h2⟩ := hn
  have := k_in0 (n := n) (y := aM 0 5 - 1) h (by rw [h2, Int32.sub_add_cancel]) (by omega)
  have := vp_in_iff.mp this
  exact vp_in_iff.mpr ⟨this.1, by omega⟩

abbrev wX5_isMarket : List Cond := Cond.code yX5_isMarket cX5_isMarket 1 (some .boolean) :: kW
def X5_isMarket_f (p0 : Int32) : Bool :=
  (X5_in_f p0 0 3)
set_option maxHeartbeats 4000000 in
set_option maxRecDepth 100000 in
theorem X5_isMarket_c (l : Launch) (g : kG) (p0 : Int32) : kR l yX5_isMarket wX5_isMarket 1 22 g [.int p0] [] (b2i (X5_isMarket_f p0)) := by
  refine kR_of (cc := cX5_isMarket) (nL := 1) (ret := (some .boolean)) (lv := [(0, .int p0)]) (by decide) rfl (Nat.le_of_ble_eq_true rfl) rfl ?_
  intro p e s m args below meth c ls C hP hE hl
  have hS : va_S (fun _ => False) s.heap s.heap [] := va_S.rf
  have C : kC p c cX5_isMarket s m args meth RX5 g 1 (some .boolean) := C
  have hx := C.1.1
  have hb := C.1.2.1
  have hts := C.1.2.2.2.2
  refine lv_iload_n hx hb dX5_isMarket_0 rfl (lv_at hl 0 rfl) ?_
  refine lv_iconst (v := 0) hx hb dX5_isMarket_1 (by decide) ?_
  refine lv_iconst (v := 3) hx hb dX5_isMarket_2 (by decide) ?_
  refine kR_S (As := [.int p0, .int 0, .int 3]) (rest := []) C (X5_in_c l g p0 0 3) (va_cwS 3 hts (k_gS kw1525 cs_X5_in) rfl rfl rfl pnX5_in ⟨Nat.le_of_ble_eq_true rfl, Nat.le_of_ble_eq_true rfl⟩) hE hS (hP.pick [] rfl) rfl hl.1 rfl rfl dX5_isMarket_3 ⟨Nat.le_of_ble_eq_true rfl, Nat.le_of_ble_eq_true rfl⟩ ?_
  exact kR_zret (x := b2i (X5_in_f p0 0 3)) C (b2i_nar _) (congrArg b2i (show X5_isMarket_f p0 = (X5_in_f p0 0 3) from rfl).symm) dX5_isMarket_6
theorem k_isMarket5 {x : Int32} (h : X5_isMarket_f x = true) : vp_in x 4 := k_in0 (y := 3) h rfl (by omega)

abbrev wX5_isWeight : List Cond := Cond.code yX5_isWeight cX5_isWeight 1 (some .boolean) :: kW
def X5_isWeight_f (p0 : Int32) : Bool :=
  (X5_in_f p0 0 7)
set_option maxHeartbeats 4000000 in
set_option maxRecDepth 100000 in
theorem X5_isWeight_c (l : Launch) (g : kG) (p0 : Int32) : kR l yX5_isWeight wX5_isWeight 1 22 g [.int p0] [] (b2i (X5_isWeight_f p0)) := by
  refine kR_of (cc := cX5_isWeight) (nL := 1) (ret := (some .boolean)) (lv := [(0, .int p0)]) (by decide) rfl (Nat.le_of_ble_eq_true rfl) rfl ?_
  intro p e s m args below meth c ls C hP hE hl
  have hS : va_S (fun _ => False) s.heap s.heap [] := va_S.rf
  have C : kC p c cX5_isWeight s m args meth RX5 g 1 (some .boolean) := C
  have hx := C.1.1
  have hb := C.1.2.1
  have hts := C.1.2.2.2.2
  refine lv_iload_n hx hb dX5_isWeight_0 rfl (lv_at hl 0 rfl) ?_
  refine lv_iconst (v := 0) hx hb dX5_isWeight_1 (by decide) ?_
  refine lv_bipush (v := 7) hx hb dX5_isWeight_2 (by decide) ?_
  refine kR_S (As := [.int p0, .int 0, .int 7]) (rest := []) C (X5_in_c l g p0 0 7) (va_cwS 3 hts (k_gS kw1525 cs_X5_in) rfl rfl rfl pnX5_in ⟨Nat.le_of_ble_eq_true rfl, Nat.le_of_ble_eq_true rfl⟩) hE hS (hP.pick [] rfl) rfl hl.1 rfl rfl dX5_isWeight_4 ⟨Nat.le_of_ble_eq_true rfl, Nat.le_of_ble_eq_true rfl⟩ ?_
  exact kR_zret (x := b2i (X5_in_f p0 0 7)) C (b2i_nar _) (congrArg b2i (show X5_isWeight_f p0 = (X5_in_f p0 0 7) from rfl).symm) dX5_isWeight_7
theorem k_isWeight5 {x : Int32} (h : X5_isWeight_f x = true) : vp_in x 8 := k_in0 (y := 7) h rfl (by omega)

abbrev wX5_of : List Cond := Cond.code yX5_of cX5_of 3 (some .int) :: kW
def X5_of_f (vM : Nat → Int32) (aM : Nat → Nat → Int32) (p0 : Int32) (p1 : Int32) : Int32 :=
  ((aM 0) ((34 + (5 * p0)) + p1).toNatClampNeg)
set_option maxHeartbeats 4000000 in
set_option maxRecDepth 100000 in
theorem X5_of_c (l : Launch) (g : kG) (oM : Nat) (rM : Nat → Nat) (vM : Nat → Int32) (aM : Nat → Nat → Int32) (p0 : Int32) (p1 : Int32) (hb : vp_in p0 6) (hw : (∃ c : Nat, c < 5 ∧ p1 = nI c)) : kR l yX5_of wX5_of 0 0 g [.ref oM, .int p0, .int p1] [X5W g oM rM vM aM] ((X5_of_f vM aM p0 p1)) := by
  refine kR_of (cc := cX5_of) (nL := 3) (ret := (some .int)) (lv := [(0, .ref oM), (1, .int p0), (2, .int p1)]) (by decide) rfl (Nat.le_of_ble_eq_true rfl) rfl ?_
  intro p e s m args below meth c ls C hP hE hl
  have hS : va_S (fun _ => False) s.heap s.heap [] := va_S.rf
  have C : kC p c cX5_of s m args meth RX5 g 3 (some .int) := C
  have hx := C.1.1
  have hb := C.1.2.1
  have hts := C.1.2.2.2.2
  refine lv_aload_n hx hb dX5_of_0 rfl (lv_at hl 0 rfl) ?_
  refine kg_get C kFX5 (k := 0) kw1446 hP (i := 0) (q := 0) rfl rfl (by decide) rfl dX5_of_1 ?_
  refine lv_bipush (v := 34) hx hb dX5_of_4 (by decide) ?_
  refine lv_iconst (v := 5) hx hb dX5_of_6 (by decide) ?_
  refine lv_iload_n hx hb dX5_of_7 rfl (lv_at hl 1 rfl) ?_
  refine lv_imul hx hb dX5_of_8 ?_
  refine lv_iadd hx hb dX5_of_9 ?_
  refine lv_iload_n hx hb dX5_of_10 rfl (lv_at hl 2 rfl) ?_
  refine lv_iadd hx hb dX5_of_11 ?_
  refine kg_iald C hP (i := 0) (q := 1) rfl rfl (by obtain ⟨c, hc, e⟩ := hw; exact k_of (by assumption) e hc) dX5_of_12 ?_
  exact kR_ret C ((show X5_of_f vM aM p0 p1 = ((aM 0) ((34 + (5 * p0)) + p1).toNatClampNeg) from rfl)).symm dX5_of_13

abbrev wX5_sets : List Cond := Cond.code yX5_sets cX5_sets 4 none :: kW
def X5_sets_f (vM : Nat → Int32) (aM : Nat → Nat → Int32) (p0 : Int32) (p1 : Int32) (p2 : Int32) : (Nat → Nat → Int32) :=
  va_up aM 0 (upd (aM 0) (((34 + (5 * p0)) + p1).toNatClampNeg) p2)
set_option maxHeartbeats 4000000 in
set_option maxRecDepth 100000 in
theorem X5_sets_c (l : Launch) (g : kG) (oM : Nat) (rM : Nat → Nat) (vM : Nat → Int32) (aM : Nat → Nat → Int32) (p0 : Int32) (p1 : Int32) (p2 : Int32) (hb : vp_in p0 6) (hw : (∃ c : Nat, c < 5 ∧ p1 = nI c)) : kV l yX5_sets wX5_sets 0 0 0 0 g [.ref oM, .int p0, .int p1, .int p2] [X5W g oM rM vM aM] (fun u => u = [X5W g oM rM vM (X5_sets_f vM aM p0 p1 p2)]) := by
  refine kV_of (cc := cX5_sets) (nL := 4) (ret := none) (lv := [(0, .ref oM), (1, .int p0), (2, .int p1), (3, .int p2)]) (by decide) rfl (Nat.le_of_ble_eq_true rfl) rfl ?_
  intro p e s m args below meth c ls A hnm C hP hD hE hA hS hl
  have C : kC p c cX5_sets s m args meth RX5 g 4 none := C
  have hx := C.1.1
  have hb := C.1.2.1
  have hts := C.1.2.2.2.2
  refine lv_aload_n hx hb dX5_sets_0 rfl (lv_at hl 0 rfl) ?_
  refine kg_get C kFX5 (k := 0) kw1446 hP (i := 0) (q := 0) rfl rfl (by decide) rfl dX5_sets_1 ?_
  refine lv_bipush (v := 34) hx hb dX5_sets_4 (by decide) ?_
  refine lv_iconst (v := 5) hx hb dX5_sets_6 (by decide) ?_
  refine lv_iload_n hx hb dX5_sets_7 rfl (lv_at hl 1 rfl) ?_
  refine lv_imul hx hb dX5_sets_8 ?_
  refine lv_iadd hx hb dX5_sets_9 ?_
  refine lv_iload_n hx hb dX5_sets_10 rfl (lv_at hl 2 rfl) ?_
  refine lv_iadd hx hb dX5_sets_11 ?_
  refine lv_iload_n hx hb dX5_sets_12 rfl (lv_at hl 3 rfl) ?_
  refine kg_iast C hP hD hS (i := 0) (q := 1) rfl rfl (by obtain ⟨c, hc, e⟩ := hw; exact k_of (by assumption) e hc) X5t_0 rfl dX5_sets_13 (fun H locs hP hD hS => ?_)
  have hP : kp g [X5W g oM rM vM (va_up aM 0 (upd (aM 0) (((34 + (5 * p0)) + p1).toNatClampNeg) p2))] H := hP
  have hD : kd A [X5W g oM rM vM (va_up aM 0 (upd (aM 0) (((34 + (5 * p0)) + p1).toNatClampNeg) p2))] := hD
  have hF := (show X5_sets_f vM aM p0 p1 p2 = va_up aM 0 (upd (aM 0) (((34 + (5 * p0)) + p1).toNatClampNeg) p2) from rfl)
  exact kV_ret C hP hD hS (by rw [hF]) dX5_sets_14
theorem X5_sets_lo {vM : Nat → Int32} {aM : Nat → Nat → Int32} {p0 p1 p2 : Int32} (hb : vp_in p0 6) (hw : ∃ c : Nat, c < 5 ∧ p1 = nI c) {i : Nat} (hi : i < 34) : X5_sets_f vM aM p0 p1 p2 0 i = aM 0 i := by
  obtain ⟨c, hc, e⟩ := hw
  show (if i = (34 + 5 * p0 + p1).toNatClampNeg then p2 else aM 0 i) = _
  rw [k_ofn hb e hc, if_neg (by omega)]

theorem pnX5_of : yX5_of.cls ≠ "java/lang/invoke/MethodHandle" ∧ yX5_of.cls ≠ "java/lang/invoke/VarHandle" ∧ (parseMethodDescriptor yX5_of.desc).map (fun d => d.parameters.length) = some 2 := by decide +kernel
theorem ca_X5_of : kCal yX5_of (Cond.code yX5_of cX5_of 3 (some .int)) := ⟨k_w 8 24 rfl rfl, k_w 1 71 rfl rfl, k_w 2 10 rfl rfl, k_w 8 25 rfl rfl⟩

abbrev wX5_load : List Cond := Cond.code yX5_load cX5_load 2 (some .int) :: kW
def X5_load_f (vM : Nat → Int32) (aM : Nat → Nat → Int32) (p0 : Int32) : Int32 :=
  ((((X5_of_f vM aM p0 0) + (X5_of_f vM aM p0 1)) + (X5_of_f vM aM p0 3)) + ((aM 0) 3))
set_option maxHeartbeats 4000000 in
set_option maxRecDepth 100000 in
theorem X5_load_c (l : Launch) (g : kG) (oM : Nat) (rM : Nat → Nat) (vM : Nat → Int32) (aM : Nat → Nat → Int32) (p0 : Int32) (hb : vp_in p0 6) : kR l yX5_load wX5_load 1 22 g [.ref oM, .int p0] [X5W g oM rM vM aM] ((X5_load_f vM aM p0)) := by
  refine kR_of (cc := cX5_load) (nL := 2) (ret := (some .int)) (lv := [(0, .ref oM), (1, .int p0)]) (by decide) rfl (Nat.le_of_ble_eq_true rfl) rfl ?_
  intro p e s m args below meth c ls C hP hE hl
  have hS : va_S (fun _ => False) s.heap s.heap [] := va_S.rf
  have C : kC p c cX5_load s m args meth RX5 g 2 (some .int) := C
  have hx := C.1.1
  have hb := C.1.2.1
  have hts := C.1.2.2.2.2
  refine lv_aload_n hx hb dX5_load_0 rfl (lv_at hl 0 rfl) ?_
  refine lv_iload_n hx hb dX5_load_1 rfl (lv_at hl 1 rfl) ?_
  refine lv_iconst (v := 0) hx hb dX5_load_2 (by decide) ?_
  refine kR_V (As := [.int p0, .int 0]) (rest := []) C (X5_of_c l g oM rM vM aM p0 0 (by first | assumption | exact hb | exact ⟨0, by omega, rfl⟩ | exact ⟨1, by omega, rfl⟩ | exact ⟨2, by omega, rfl⟩ | exact ⟨3, by omega, rfl⟩ | exact ⟨4, by omega, rfl⟩) (by first | assumption | exact hb | exact ⟨0, by omega, rfl⟩ | exact ⟨1, by omega, rfl⟩ | exact ⟨2, by omega, rfl⟩ | exact ⟨3, by omega, rfl⟩ | exact ⟨4, by omega, rfl⟩)) (cwV 2 hts (k_gV kw1568 ca_X5_of) rfl rfl rfl ⟨rfl, pnX5_of⟩ ⟨Nat.le_of_ble_eq_true rfl, Nat.le_of_ble_eq_true rfl⟩) hE hS (hP.pick [0] rfl) (k_recv C kFX5 hP (i := 0) (q := 0) rfl rfl) rfl hl.1 rfl rfl dX5_load_3 ⟨Nat.le_of_ble_eq_true rfl, Nat.le_of_ble_eq_true rfl⟩ ?_
  refine lv_aload_n hx hb dX5_load_6 rfl (lv_at hl 0 rfl) ?_
  refine lv_iload_n hx hb dX5_load_7 rfl (lv_at hl 1 rfl) ?_
  refine lv_iconst (v := 1) hx hb dX5_load_8 (by decide) ?_
  refine kR_V (As := [.int p0, .int 1]) (rest := [.int (X5_of_f vM aM p0 0)]) C (X5_of_c l g oM rM vM aM p0 1 (by first | assumption | exact hb | exact ⟨0, by omega, rfl⟩ | exact ⟨1, by omega, rfl⟩ | exact ⟨2, by omega, rfl⟩ | exact ⟨3, by omega, rfl⟩ | exact ⟨4, by omega, rfl⟩) (by first | assumption | exact hb | exact ⟨0, by omega, rfl⟩ | exact ⟨1, by omega, rfl⟩ | exact ⟨2, by omega, rfl⟩ | exact ⟨3, by omega, rfl⟩ | exact ⟨4, by omega, rfl⟩)) (cwV 2 hts (k_gV kw1568 ca_X5_of) rfl rfl rfl ⟨rfl, pnX5_of⟩ ⟨Nat.le_of_ble_eq_true rfl, Nat.le_of_ble_eq_true rfl⟩) hE hS (hP.pick [0] rfl) (k_recv C kFX5 hP (i := 0) (q := 0) rfl rfl) rfl hl.1 rfl rfl dX5_load_9 ⟨Nat.le_of_ble_eq_true rfl, Nat.le_of_ble_eq_true rfl⟩ ?_
  refine lv_iadd hx hb dX5_load_12 ?_
  refine lv_aload_n hx hb dX5_load_13 rfl (lv_at hl 0 rfl) ?_
  refine lv_iload_n hx hb dX5_load_14 rfl (lv_at hl 1 rfl) ?_
  refine lv_iconst (v := 3) hx hb dX5_load_15 (by decide) ?_
  refine kR_V (As := [.int p0, .int 3]) (rest := [.int ((X5_of_f vM aM p0 0) + (X5_of_f vM aM p0 1))]) C (X5_of_c l g oM rM vM aM p0 3 (by first | assumption | exact hb | exact ⟨0, by omega, rfl⟩ | exact ⟨1, by omega, rfl⟩ | exact ⟨2, by omega, rfl⟩ | exact ⟨3, by omega, rfl⟩ | exact ⟨4, by omega, rfl⟩) (by first | assumption | exact hb | exact ⟨0, by omega, rfl⟩ | exact ⟨1, by omega, rfl⟩ | exact ⟨2, by omega, rfl⟩ | exact ⟨3, by omega, rfl⟩ | exact ⟨4, by omega, rfl⟩)) (cwV 2 hts (k_gV kw1568 ca_X5_of) rfl rfl rfl ⟨rfl, pnX5_of⟩ ⟨Nat.le_of_ble_eq_true rfl, Nat.le_of_ble_eq_true rfl⟩) hE hS (hP.pick [0] rfl) (k_recv C kFX5 hP (i := 0) (q := 0) rfl rfl) rfl hl.1 rfl rfl dX5_load_16 ⟨Nat.le_of_ble_eq_true rfl, Nat.le_of_ble_eq_true rfl⟩ ?_
  refine lv_iadd hx hb dX5_load_19 ?_
  refine lv_aload_n hx hb dX5_load_20 rfl (lv_at hl 0 rfl) ?_
  refine kg_get C kFX5 (k := 0) kw1446 hP (i := 0) (q := 0) rfl rfl (by decide) rfl dX5_load_21 ?_
  refine lv_iconst (v := 3) hx hb dX5_load_24 (by decide) ?_
  refine kg_ialdK C hP (i := 0) (q := 1) rfl rfl (j := 3) rfl (k_vin (j := 3) rfl (by decide) (by decide)) dX5_load_25 ?_
  refine lv_iadd hx hb dX5_load_26 ?_
  exact kR_ret C ((show X5_load_f vM aM p0 = ((((X5_of_f vM aM p0 0) + (X5_of_f vM aM p0 1)) + (X5_of_f vM aM p0 3)) + ((aM 0) 3)) from rfl)).symm dX5_load_27

abbrev wX5_isSworn : List Cond := Cond.code yX5_isSworn cX5_isSworn 2 (some .boolean) :: kW
def X5_isSworn_f (vM : Nat → Int32) (aM : Nat → Nat → Int32) (p0 : Int32) : Bool :=
  if (((aM 0) (10 + p0).toNatClampNeg) - 1) < ((aM 0) 0) then false
  else true
set_option maxHeartbeats 4000000 in
set_option maxRecDepth 100000 in
theorem X5_isSworn_c (l : Launch) (g : kG) (oM : Nat) (rM : Nat → Nat) (vM : Nat → Int32) (aM : Nat → Nat → Int32) (p0 : Int32) (hm : vp_in p0 4) : kR l yX5_isSworn wX5_isSworn 0 0 g [.ref oM, .int p0] [X5W g oM rM vM aM] (b2i (X5_isSworn_f vM aM p0)) := by
  refine kR_of (cc := cX5_isSworn) (nL := 2) (ret := (some .boolean)) (lv := [(0, .ref oM), (1, .int p0)]) (by decide) rfl (Nat.le_of_ble_eq_true rfl) rfl ?_
  intro p e s m args below meth c ls C hP hE hl
  have hS : va_S (fun _ => False) s.heap s.heap [] := va_S.rf
  have C : kC p c cX5_isSworn s m args meth RX5 g 2 (some .boolean) := C
  have hx := C.1.1
  have hb := C.1.2.1
  have hts := C.1.2.2.2.2
  refine lv_aload_n hx hb dX5_isSworn_0 rfl (lv_at hl 0 rfl) ?_
  refine kg_get C kFX5 (k := 0) kw1446 hP (i := 0) (q := 0) rfl rfl (by decide) rfl dX5_isSworn_1 ?_
  refine lv_bipush (v := 10) hx hb dX5_isSworn_4 (by decide) ?_
  refine lv_iload_n hx hb dX5_isSworn_6 rfl (lv_at hl 1 rfl) ?_
  refine lv_iadd hx hb dX5_isSworn_7 ?_
  refine kg_iald C hP (i := 0) (q := 1) rfl rfl (k_off (c := 10) rfl hm (by omega) (by omega)) dX5_isSworn_8 ?_
  refine lv_iconst (v := 1) hx hb dX5_isSworn_9 (by decide) ?_
  refine lv_isub hx hb dX5_isSworn_10 ?_
  refine lv_aload_n hx hb dX5_isSworn_11 rfl (lv_at hl 0 rfl) ?_
  refine kg_get C kFX5 (k := 0) kw1446 hP (i := 0) (q := 0) rfl rfl (by decide) rfl dX5_isSworn_12 ?_
  refine lv_iconst (v := 0) hx hb dX5_isSworn_15 (by decide) ?_
  refine kg_ialdK C hP (i := 0) (q := 1) rfl rfl (j := 0) rfl (k_vin (j := 0) rfl (by decide) (by decide)) dX5_isSworn_16 ?_
  refine lv_icmp_lt (tgt := 24) hx hb dX5_isSworn_17 (by decide) (fun c1 => ?_) (fun c1 => ?_)
  · refine lv_iconst (v := 0) hx hb dX5_isSworn_24 (by decide) ?_
    exact kR_zret (x := b2i false) C (b2i_nar _) (congrArg b2i (show X5_isSworn_f vM aM p0 = false from (if_pos c1).trans (rfl)).symm) dX5_isSworn_25
  refine lv_iconst (v := 1) hx hb dX5_isSworn_20 (by decide) ?_
  refine lv_goto (tgt := 25) hx hb dX5_isSworn_21 (by decide) ?_
  exact kR_zret (x := b2i true) C (b2i_nar _) (congrArg b2i (show X5_isSworn_f vM aM p0 = true from (if_neg c1).trans (rfl)).symm) dX5_isSworn_25

theorem pnX5_shortBy : yX5_shortBy.cls ≠ "java/lang/invoke/MethodHandle" ∧ yX5_shortBy.cls ≠ "java/lang/invoke/VarHandle" ∧ (parseMethodDescriptor yX5_shortBy.desc).map (fun d => d.parameters.length) = some 1 := by decide +kernel
theorem ca_X5_shortBy : kCal yX5_shortBy (Cond.code yX5_shortBy cX5_shortBy 2 (some .int)) := ⟨k_w 8 91 rfl rfl, k_w 1 83 rfl rfl, k_w 2 10 rfl rfl, k_w 8 92 rfl rfl⟩

abbrev wX5_scales : List Cond := Cond.code yX5_scales cX5_scales 5 (some .int) :: kW
def X5_scales_lp15b (vM : Nat → Int32) (aM : Nat → Nat → Int32) (p0 : Int32) (rec : Int32 → Int32 → (Nat → Int32) → (Int32 × (Nat → Int32))) (x2_15 x3_15 : Int32) (vM15 : Nat → Int32) : Int32 × (Nat → Int32) :=
  if x3_15 < 0 then (x2_15, vM15)
  else if ((vM15 20) + ((X5_weight_f x3_15) - (X5_shortBy_f vM15 aM x3_15))) ≤ p0 then rec (x2_15 + (X5_weight_f x3_15)) (x3_15 + (-1)) (upd (upd vM15 20 ((vM15 20) + ((X5_weight_f x3_15) - (X5_shortBy_f vM15 aM x3_15)))) 19 ((vM15 19) ||| (1 <<< (x3_15 &&& 31))))
  else rec x2_15 (x3_15 + (-1)) vM15
def X5_scales_lp15 (vM : Nat → Int32) (aM : Nat → Nat → Int32) (p0 : Int32) : Nat → Int32 → Int32 → (Nat → Int32) → (Int32 × (Nat → Int32))
  | 0 => fun x2_15 x3_15 vM15 => (0, vM15)
  | n + 1 => X5_scales_lp15b vM aM p0 (X5_scales_lp15 vM aM p0 n)
theorem X5_scales_lp15_s (vM : Nat → Int32) (aM : Nat → Nat → Int32) (p0 : Int32) (n : Nat) (x2_15 x3_15 : Int32) (vM15 : Nat → Int32) : X5_scales_lp15 vM aM p0 (n + 1) x2_15 x3_15 vM15 = X5_scales_lp15b vM aM p0 (X5_scales_lp15 vM aM p0 n) x2_15 x3_15 vM15 := rfl
def X5_scales_f (vM : Nat → Int32) (aM : Nat → Nat → Int32) (p0 : Int32) : Int32 × (Nat → Int32) :=
  X5_scales_lp15 vM aM p0 9 0 7 (upd (upd vM 19 0) 20 0)
set_option maxHeartbeats 4000000 in
set_option maxRecDepth 100000 in
theorem X5_scales_c (l : Launch) (g : kG) (oM : Nat) (rM : Nat → Nat) (vM : Nat → Int32) (aM : Nat → Nat → Int32) (p0 : Int32) : kM l yX5_scales wX5_scales 2 42 0 0 g [.ref oM, .int p0] [X5W g oM rM vM aM] (fun x u => x = (X5_scales_f vM aM p0).1 ∧ u = [X5W g oM rM ((X5_scales_f vM aM p0).2) aM]) := by
  refine kM_of (cc := cX5_scales) (nL := 5) (ret := (some .int)) (lv := [(0, .ref oM), (1, .int p0)]) (by decide) rfl (Nat.le_of_ble_eq_true rfl) rfl ?_
  intro p e s m args below meth c ls A C hP hD hE hA hS hl
  have C : kC p c cX5_scales s m args meth RX5 g 5 (some .int) := C
  have hx := C.1.1
  have hb := C.1.2.1
  have hts := C.1.2.2.2.2
  have loop15 : ∀ (n : Nat) (j15 : Nat) (x2_15 x3_15 : Int32) (vM15 : Nat → Int32) (H : Heap) (locs : List Loc) (ls : Array Slot), j15 ≤ 8 → j15 < n → x3_15 + 1 = nI j15 → X5_scales_f vM aM p0 = X5_scales_lp15 vM aM p0 n x2_15 x3_15 vM15 → kp g [X5W g oM rM vM15 aM] H → kd A [X5W g oM rM vM15 aM] → va_S A s.heap H locs → lv_has ls 5 [(3, .int x3_15), (2, .int x2_15), (0, .ref oM), (1, .int p0)] → W p l e (kRm 2 0 0 42) s m args below meth c H locs 0 0 (MQ below (kQi g (fun x u => x = (X5_scales_f vM aM p0).1 ∧ u = [X5W g oM rM ((X5_scales_f vM aM p0).2) aM]) A) args s 0 0 A) (F0 m 15 ls []) := by
    intro n
    induction n with
    | zero =>
      intro j15 x2_15 x3_15 vM15 H locs ls hi15 hn15 hx15 hF15 hP hD hS hl
      exact absurd hn15 (by omega)
    | succ n ih15 =>
      intro j15 x2_15 x3_15 vM15 H locs ls hi15 hn15 hx15 hF15 hP hD hS hl
      refine lv_iload_n hx hb dX5_scales_15 rfl (lv_at hl 0 rfl) ?_
      refine lv_if_lt (tgt := 81) hx hb dX5_scales_16 (by decide) (fun c1 => ?_) (fun c1 => ?_)
      · refine lv_iload_n hx hb dX5_scales_81 rfl (lv_at hl 1 rfl) ?_
        have hF := (show X5_scales_f vM aM p0 = (x2_15, vM15) from hF15.trans ((X5_scales_lp15_s vM aM p0 n x2_15 x3_15 vM15).trans ((if_pos c1).trans (rfl))))
        exact kM_ret (x := x2_15) C hP hD hS ⟨by rw [hF], by rw [hF]⟩ dX5_scales_82
      obtain ⟨j15, rfl, hj15, hx15⟩ := k_desc hx15 hi15 (by omega) c1
      refine lv_iload_n hx hb dX5_scales_19 rfl (lv_at hl 0 rfl) ?_
      refine kR_S (As := [.int x3_15]) (rest := []) C (X5_weight_c l g x3_15) (va_cwS 1 hts (k_gS kw1632 cs_X5_weight) rfl rfl rfl pnX5_weight ⟨Nat.le_of_ble_eq_true rfl, Nat.le_of_ble_eq_true rfl⟩) hE hS (hP.pick [] rfl) rfl hl.1 rfl rfl dX5_scales_20 ⟨Nat.le_of_ble_eq_true rfl, Nat.le_of_ble_eq_true rfl⟩ ?_
      refine lv_aload_n hx hb dX5_scales_23 rfl (lv_at hl 2 rfl) ?_
      refine lv_iload_n hx hb dX5_scales_24 rfl (lv_at hl 0 rfl) ?_
      refine kR_V (As := [.int x3_15]) (rest := [.int (X5_weight_f x3_15)]) C (X5_shortBy_c l g oM rM vM15 aM x3_15 (by first | assumption | exact k_vin hx15 (by omega) (by decide) | exact ⟨0, by omega, rfl⟩ | exact ⟨1, by omega, rfl⟩ | exact ⟨2, by omega, rfl⟩ | exact ⟨3, by omega, rfl⟩ | exact ⟨4, by omega, rfl⟩ | exact ⟨j15, by omega, hx15⟩)) (cwV 1 hts (k_gV kw1635 ca_X5_shortBy) rfl rfl rfl ⟨rfl, pnX5_shortBy⟩ ⟨Nat.le_of_ble_eq_true rfl, Nat.le_of_ble_eq_true rfl⟩) hE hS (hP.pick [0] rfl) (k_recv C kFX5 hP (i := 0) (q := 0) rfl rfl) rfl hl.1 rfl rfl dX5_scales_25 ⟨Nat.le_of_ble_eq_true rfl, Nat.le_of_ble_eq_true rfl⟩ ?_
      refine lv_isub hx hb dX5_scales_28 ?_
      refine lv_istore (lv' := [(4, .int ((X5_weight_f x3_15) - (X5_shortBy_f vM15 aM x3_15))), (3, .int x3_15), (2, .int x2_15), (0, .ref oM), (1, .int p0)]) hx hb dX5_scales_29 hl (by decide) rfl (fun ls hl => ?_)
      refine lv_aload_n hx hb dX5_scales_31 rfl (lv_at hl 3 rfl) ?_
      refine kg_get C kFX5 (k := 20) kw1466 hP (i := 0) (q := 0) rfl rfl (by decide) rfl dX5_scales_32 ?_
      refine lv_iload hx hb dX5_scales_35 (lv_at hl 0 rfl) ?_
      refine lv_iadd hx hb dX5_scales_37 ?_
      refine lv_iload_n hx hb dX5_scales_38 rfl (lv_at hl 4 rfl) ?_
      refine lv_icmp_le (tgt := 45) hx hb dX5_scales_39 (by decide) (fun c2 => ?_) (fun c2 => ?_)
      · refine lv_aload_n hx hb dX5_scales_45 rfl (lv_at hl 3 rfl) ?_
        refine lv_dup hx hb dX5_scales_46 rfl ?_
        refine kg_get C kFX5 (k := 20) kw1466 hP (i := 0) (q := 0) rfl rfl (by decide) rfl dX5_scales_47 ?_
        refine lv_iload hx hb dX5_scales_50 (lv_at hl 0 rfl) ?_
        refine lv_iadd hx hb dX5_scales_52 ?_
        refine kg_put C kFX5 (k := 20) kw1466 hP hD hS (i := 0) (q := 0) rfl rfl (by decide) rfl rfl rfl (Nat.le_of_ble_eq_true rfl) X5s_20 rfl dX5_scales_53 (fun H locs hP hD hS => ?_)
        have hP : kp g [X5W g oM rM (upd vM15 20 ((vM15 20) + ((X5_weight_f x3_15) - (X5_shortBy_f vM15 aM x3_15)))) aM] H := hP
        have hD : kd A [X5W g oM rM (upd vM15 20 ((vM15 20) + ((X5_weight_f x3_15) - (X5_shortBy_f vM15 aM x3_15)))) aM] := hD
        refine lv_iload_n hx hb dX5_scales_56 rfl (lv_at hl 2 rfl) ?_
        refine lv_iload_n hx hb dX5_scales_57 rfl (lv_at hl 1 rfl) ?_
        refine kR_S (As := [.int x3_15]) (rest := [.int x2_15]) C (X5_weight_c l g x3_15) (va_cwS 1 hts (k_gS kw1632 cs_X5_weight) rfl rfl rfl pnX5_weight ⟨Nat.le_of_ble_eq_true rfl, Nat.le_of_ble_eq_true rfl⟩) hE hS (hP.pick [] rfl) rfl hl.1 rfl rfl dX5_scales_58 ⟨Nat.le_of_ble_eq_true rfl, Nat.le_of_ble_eq_true rfl⟩ ?_
        refine lv_iadd hx hb dX5_scales_61 ?_
        refine lv_istore_n (lv' := [(2, .int (x2_15 + (X5_weight_f x3_15))), (4, .int ((X5_weight_f x3_15) - (X5_shortBy_f vM15 aM x3_15))), (3, .int x3_15), (0, .ref oM), (1, .int p0)]) hx hb dX5_scales_62 rfl hl (by decide) rfl (fun ls hl => ?_)
        refine lv_aload_n hx hb dX5_scales_63 rfl (lv_at hl 3 rfl) ?_
        refine lv_dup hx hb dX5_scales_64 rfl ?_
        refine kg_get C kFX5 (k := 19) kw1465 hP (i := 0) (q := 0) rfl rfl (by decide) rfl dX5_scales_65 ?_
        refine lv_iconst (v := 1) hx hb dX5_scales_68 (by decide) ?_
        refine lv_iload_n hx hb dX5_scales_69 rfl (lv_at hl 2 rfl) ?_
        refine lv_ishl hx hb dX5_scales_70 ?_
        refine lv_ior hx hb dX5_scales_71 ?_
        refine kg_put C kFX5 (k := 19) kw1465 hP hD hS (i := 0) (q := 0) rfl rfl (by decide) rfl rfl rfl (Nat.le_of_ble_eq_true rfl) X5s_19 rfl dX5_scales_72 (fun H locs hP hD hS => ?_)
        have hP : kp g [X5W g oM rM (upd (upd vM15 20 ((vM15 20) + ((X5_weight_f x3_15) - (X5_shortBy_f vM15 aM x3_15)))) 19 ((vM15 19) ||| (1 <<< (x3_15 &&& 31)))) aM] H := hP
        have hD : kd A [X5W g oM rM (upd (upd vM15 20 ((vM15 20) + ((X5_weight_f x3_15) - (X5_shortBy_f vM15 aM x3_15)))) 19 ((vM15 19) ||| (1 <<< (x3_15 &&& 31)))) aM] := hD
        refine lv_iinc (v := (x3_15 + (-1))) (lv' := [(3, .int (x3_15 + (-1))), (2, .int (x2_15 + (X5_weight_f x3_15))), (4, .int ((X5_weight_f x3_15) - (X5_shortBy_f vM15 aM x3_15))), (0, .ref oM), (1, .int p0)]) hx hb dX5_scales_75 hl (k := 2) rfl rfl (by decide) rfl (fun ls hl => ?_)
        refine lv_goto (tgt := 15) hx hb dX5_scales_78 (by decide) ?_
        exact ih15 j15 (x2_15 + (X5_weight_f x3_15)) (x3_15 + (-1)) (upd (upd vM15 20 ((vM15 20) + ((X5_weight_f x3_15) - (X5_shortBy_f vM15 aM x3_15)))) 19 ((vM15 19) ||| (1 <<< (x3_15 &&& 31)))) _ _ ls (by omega) (by omega) (k_down hx15) (show X5_scales_f vM aM p0 = X5_scales_lp15 vM aM p0 n (x2_15 + (X5_weight_f x3_15)) (x3_15 + (-1)) (upd (upd vM15 20 ((vM15 20) + ((X5_weight_f x3_15) - (X5_shortBy_f vM15 aM x3_15)))) 19 ((vM15 19) ||| (1 <<< (x3_15 &&& 31)))) from hF15.trans ((X5_scales_lp15_s vM aM p0 n x2_15 x3_15 vM15).trans ((if_neg c1).trans ((if_pos c2).trans (rfl))))) hP hD hS (lv_sub hl [0, 1, 3, 4] rfl)
      refine lv_goto (tgt := 75) hx hb dX5_scales_42 (by decide) ?_
      refine lv_iinc (v := (x3_15 + (-1))) (lv' := [(3, .int (x3_15 + (-1))), (4, .int ((X5_weight_f x3_15) - (X5_shortBy_f vM15 aM x3_15))), (2, .int x2_15), (0, .ref oM), (1, .int p0)]) hx hb dX5_scales_75 hl (k := 1) rfl rfl (by decide) rfl (fun ls hl => ?_)
      refine lv_goto (tgt := 15) hx hb dX5_scales_78 (by decide) ?_
      exact ih15 j15 x2_15 (x3_15 + (-1)) vM15 _ _ ls (by omega) (by omega) (k_down hx15) (show X5_scales_f vM aM p0 = X5_scales_lp15 vM aM p0 n x2_15 (x3_15 + (-1)) vM15 from hF15.trans ((X5_scales_lp15_s vM aM p0 n x2_15 x3_15 vM15).trans ((if_neg c1).trans ((if_neg c2).trans (rfl))))) hP hD hS (lv_sub hl [0, 2, 3, 4] rfl)
  refine lv_iconst (v := 0) hx hb dX5_scales_0 (by decide) ?_
  refine lv_istore_n (lv' := [(2, .int 0), (0, .ref oM), (1, .int p0)]) hx hb dX5_scales_1 rfl hl (by decide) rfl (fun ls hl => ?_)
  refine lv_aload_n hx hb dX5_scales_2 rfl (lv_at hl 1 rfl) ?_
  refine lv_iconst (v := 0) hx hb dX5_scales_3 (by decide) ?_
  refine kg_put C kFX5 (k := 19) kw1465 hP hD hS (i := 0) (q := 0) rfl rfl (by decide) rfl rfl rfl (Nat.le_of_ble_eq_true rfl) X5s_19 rfl dX5_scales_4 (fun H locs hP hD hS => ?_)
  have hP : kp g [X5W g oM rM (upd vM 19 0) aM] H := hP
  have hD : kd A [X5W g oM rM (upd vM 19 0) aM] := hD
  refine lv_aload_n hx hb dX5_scales_7 rfl (lv_at hl 1 rfl) ?_
  refine lv_iconst (v := 0) hx hb dX5_scales_8 (by decide) ?_
  refine kg_put C kFX5 (k := 20) kw1466 hP hD hS (i := 0) (q := 0) rfl rfl (by decide) rfl rfl rfl (Nat.le_of_ble_eq_true rfl) X5s_20 rfl dX5_scales_9 (fun H locs hP hD hS => ?_)
  have hP : kp g [X5W g oM rM (upd (upd vM 19 0) 20 0) aM] H := hP
  have hD : kd A [X5W g oM rM (upd (upd vM 19 0) 20 0) aM] := hD
  refine lv_bipush (v := 7) hx hb dX5_scales_12 (by decide) ?_
  refine lv_istore_n (lv' := [(3, .int 7), (2, .int 0), (0, .ref oM), (1, .int p0)]) hx hb dX5_scales_14 rfl hl (by decide) rfl (fun ls hl => ?_)
  exact loop15 9 8 0 7 (upd (upd vM 19 0) 20 0) _ _ ls (by omega) (by omega) rfl (show X5_scales_f vM aM p0 = X5_scales_lp15 vM aM p0 9 0 7 (upd (upd vM 19 0) 20 0) from rfl) hP hD hS (lv_sub hl [0, 1, 2, 3] rfl)

theorem pnX5_load : yX5_load.cls ≠ "java/lang/invoke/MethodHandle" ∧ yX5_load.cls ≠ "java/lang/invoke/VarHandle" ∧ (parseMethodDescriptor yX5_load.desc).map (fun d => d.parameters.length) = some 1 := by decide +kernel
theorem ca_X5_load : kCal yX5_load (Cond.code yX5_load cX5_load 2 (some .int)) := ⟨k_w 8 80 rfl rfl, k_w 1 81 rfl rfl, k_w 2 10 rfl rfl, k_w 8 81 rfl rfl⟩

theorem pnX5_scales : yX5_scales.cls ≠ "java/lang/invoke/MethodHandle" ∧ yX5_scales.cls ≠ "java/lang/invoke/VarHandle" ∧ (parseMethodDescriptor yX5_scales.desc).map (fun d => d.parameters.length) = some 1 := by decide +kernel
theorem ca_X5_scales : kCal yX5_scales (Cond.code yX5_scales cX5_scales 5 (some .int)) := ⟨k_w 8 84 rfl rfl, k_w 1 82 rfl rfl, k_w 2 10 rfl rfl, k_w 8 85 rfl rfl⟩

theorem pnX5_sets : yX5_sets.cls ≠ "java/lang/invoke/MethodHandle" ∧ yX5_sets.cls ≠ "java/lang/invoke/VarHandle" ∧ (parseMethodDescriptor yX5_sets.desc).map (fun d => d.parameters.length) = some 3 := by decide +kernel
theorem ca_X5_sets : kCal yX5_sets (Cond.code yX5_sets cX5_sets 4 none) := ⟨k_w 8 4 rfl rfl, k_w 1 67 rfl rfl, k_w 2 10 rfl rfl, k_w 8 5 rfl rfl⟩

abbrev wX5_weighs : List Cond := Cond.code yX5_weighs cX5_weighs 4 (some .int) :: kW
def X5_weighs_lp12b (vM : Nat → Int32) (aM : Nat → Nat → Int32) (p0 : Int32) (rec : Int32 → Int32 → (Nat → Nat → Int32) → (Int32 × (Nat → Int32) × (Nat → Nat → Int32))) (x2_12 x3_12 : Int32) (aM12 : Nat → Nat → Int32) : Int32 × (Nat → Int32) × (Nat → Nat → Int32) :=
  if 8 ≤ x3_12 then (x2_12, (X5_scales_f vM aM (X5_load_f vM aM p0)).2, (X5_sets_f ((X5_scales_f vM aM (X5_load_f vM aM p0)).2) aM12 p0 4 ((X5_of_f ((X5_scales_f vM aM (X5_load_f vM aM p0)).2) aM12 p0 4) + 1)))
  else rec x2_12 (x3_12 + 1) (va_up aM12 0 (upd (aM12 0) ((14 + x3_12).toNatClampNeg) (((aM12 0) (14 + x3_12).toNatClampNeg) + (((((X5_scales_f vM aM (X5_load_f vM aM p0)).2) 19) >>> (x3_12 &&& 31)) &&& 1))))
def X5_weighs_lp12 (vM : Nat → Int32) (aM : Nat → Nat → Int32) (p0 : Int32) : Nat → Int32 → Int32 → (Nat → Nat → Int32) → (Int32 × (Nat → Int32) × (Nat → Nat → Int32))
  | 0 => fun x2_12 x3_12 aM12 => (0, vM, aM12)
  | n + 1 => X5_weighs_lp12b vM aM p0 (X5_weighs_lp12 vM aM p0 n)
theorem X5_weighs_lp12_s (vM : Nat → Int32) (aM : Nat → Nat → Int32) (p0 : Int32) (n : Nat) (x2_12 x3_12 : Int32) (aM12 : Nat → Nat → Int32) : X5_weighs_lp12 vM aM p0 (n + 1) x2_12 x3_12 aM12 = X5_weighs_lp12b vM aM p0 (X5_weighs_lp12 vM aM p0 n) x2_12 x3_12 aM12 := rfl
def X5_weighs_f (vM : Nat → Int32) (aM : Nat → Nat → Int32) (p0 : Int32) : Int32 × (Nat → Int32) × (Nat → Nat → Int32) :=
  X5_weighs_lp12 vM aM p0 9 ((X5_scales_f vM aM (X5_load_f vM aM p0)).1) 0 aM
set_option maxHeartbeats 4000000 in
set_option maxRecDepth 100000 in
theorem X5_weighs_c (l : Launch) (g : kG) (oM : Nat) (rM : Nat → Nat) (vM : Nat → Int32) (aM : Nat → Nat → Int32) (p0 : Int32) (hb : vp_in p0 6) : kM l yX5_weighs wX5_weighs 3 66 0 0 g [.ref oM, .int p0] [X5W g oM rM vM aM] (fun x u => x = (X5_weighs_f vM aM p0).1 ∧ u = [X5W g oM rM ((X5_weighs_f vM aM p0).2.1) ((X5_weighs_f vM aM p0).2.2)]) := by
  refine kM_of (cc := cX5_weighs) (nL := 4) (ret := (some .int)) (lv := [(0, .ref oM), (1, .int p0)]) (by decide) rfl (Nat.le_of_ble_eq_true rfl) rfl ?_
  intro p e s m args below meth c ls A C hP hD hE hA hS hl
  have C : kC p c cX5_weighs s m args meth RX5 g 4 (some .int) := C
  have hx := C.1.1
  have hb := C.1.2.1
  have hts := C.1.2.2.2.2
  have loop12 : ∀ (n : Nat) (j12 : Nat) (x2_12 x3_12 : Int32) (aM12 : Nat → Nat → Int32) (H : Heap) (locs : List Loc) (ls : Array Slot), j12 ≤ 8 → 8 < j12 + n → x3_12 = nI j12 → X5_weighs_f vM aM p0 = X5_weighs_lp12 vM aM p0 n x2_12 x3_12 aM12 → kp g [X5W g oM rM ((X5_scales_f vM aM (X5_load_f vM aM p0)).2) aM12] H → kd A [X5W g oM rM ((X5_scales_f vM aM (X5_load_f vM aM p0)).2) aM12] → va_S A s.heap H locs → lv_has ls 4 [(3, .int x3_12), (2, .int x2_12), (0, .ref oM), (1, .int p0)] → W p l e (kRm 3 0 0 66) s m args below meth c H locs 0 0 (MQ below (kQi g (fun x u => x = (X5_weighs_f vM aM p0).1 ∧ u = [X5W g oM rM ((X5_weighs_f vM aM p0).2.1) ((X5_weighs_f vM aM p0).2.2)]) A) args s 0 0 A) (F0 m 12 ls []) := by
    intro n
    induction n with
    | zero =>
      intro j12 x2_12 x3_12 aM12 H locs ls hi12 hn12 hx12 hF12 hP hD hS hl
      exact absurd hn12 (by omega)
    | succ n ih12 =>
      intro j12 x2_12 x3_12 aM12 H locs ls hi12 hn12 hx12 hF12 hP hD hS hl
      refine lv_iload_n hx hb dX5_weighs_12 rfl (lv_at hl 0 rfl) ?_
      refine lv_bipush (v := 8) hx hb dX5_weighs_13 (by decide) ?_
      refine lv_icmp_ge (tgt := 44) hx hb dX5_weighs_15 (by decide) (fun c2 => ?_) (fun c2 => ?_)
      · refine lv_aload_n hx hb dX5_weighs_44 rfl (lv_at hl 2 rfl) ?_
        refine lv_iload_n hx hb dX5_weighs_45 rfl (lv_at hl 3 rfl) ?_
        refine lv_iconst (v := 4) hx hb dX5_weighs_46 (by decide) ?_
        refine lv_aload_n hx hb dX5_weighs_47 rfl (lv_at hl 2 rfl) ?_
        refine lv_iload_n hx hb dX5_weighs_48 rfl (lv_at hl 3 rfl) ?_
        refine lv_iconst (v := 4) hx hb dX5_weighs_49 (by decide) ?_
        refine kR_V (As := [.int p0, .int 4]) (rest := [.int 4, .int p0, .ref oM]) C (X5_of_c l g oM rM ((X5_scales_f vM aM (X5_load_f vM aM p0)).2) aM12 p0 4 (by first | assumption | exact k_vin hx12 (by omega) (by decide) | exact hb | exact ⟨0, by omega, rfl⟩ | exact ⟨1, by omega, rfl⟩ | exact ⟨2, by omega, rfl⟩ | exact ⟨3, by omega, rfl⟩ | exact ⟨4, by omega, rfl⟩ | exact ⟨j12, by omega, hx12⟩) (by first | assumption | exact k_vin hx12 (by omega) (by decide) | exact hb | exact ⟨0, by omega, rfl⟩ | exact ⟨1, by omega, rfl⟩ | exact ⟨2, by omega, rfl⟩ | exact ⟨3, by omega, rfl⟩ | exact ⟨4, by omega, rfl⟩ | exact ⟨j12, by omega, hx12⟩)) (cwV 2 hts (k_gV kw1568 ca_X5_of) rfl rfl rfl ⟨rfl, pnX5_of⟩ ⟨Nat.le_of_ble_eq_true rfl, Nat.le_of_ble_eq_true rfl⟩) hE hS (hP.pick [0] rfl) (k_recv C kFX5 hP (i := 0) (q := 0) rfl rfl) rfl hl.1 rfl rfl dX5_weighs_50 ⟨Nat.le_of_ble_eq_true rfl, Nat.le_of_ble_eq_true rfl⟩ ?_
        refine lv_iconst (v := 1) hx hb dX5_weighs_53 (by decide) ?_
        refine lv_iadd hx hb dX5_weighs_54 ?_
        refine kV_V (As := [.int p0, .int 4, .int ((X5_of_f ((X5_scales_f vM aM (X5_load_f vM aM p0)).2) aM12 p0 4) + 1)]) (rest := []) (wr := []) C (X5_sets_c l g oM rM ((X5_scales_f vM aM (X5_load_f vM aM p0)).2) aM12 p0 4 ((X5_of_f ((X5_scales_f vM aM (X5_load_f vM aM p0)).2) aM12 p0 4) + 1) (by first | assumption | exact k_vin hx12 (by omega) (by decide) | exact hb | exact ⟨0, by omega, rfl⟩ | exact ⟨1, by omega, rfl⟩ | exact ⟨2, by omega, rfl⟩ | exact ⟨3, by omega, rfl⟩ | exact ⟨4, by omega, rfl⟩ | exact ⟨j12, by omega, hx12⟩) (by first | assumption | exact k_vin hx12 (by omega) (by decide) | exact hb | exact ⟨0, by omega, rfl⟩ | exact ⟨1, by omega, rfl⟩ | exact ⟨2, by omega, rfl⟩ | exact ⟨3, by omega, rfl⟩ | exact ⟨4, by omega, rfl⟩ | exact ⟨j12, by omega, hx12⟩)) (cwV 3 hts (k_gV kw1548 ca_X5_sets) rfl rfl rfl ⟨rfl, pnX5_sets⟩ ⟨Nat.le_of_ble_eq_true rfl, Nat.le_of_ble_eq_true rfl⟩) hE hS hA hP hD [0] [] rfl rfl ⟨rfl, rfl, by decide⟩ (k_recv C kFX5 hP (i := 0) (q := 0) rfl rfl) rfl hl.1 rfl rfl dX5_weighs_55 ⟨Nat.le_of_ble_eq_true rfl, Nat.le_of_ble_eq_true rfl⟩ (fun u3 H locs hp3 hP hD hS => ?_)
        subst hp3
        have hP : kp g [X5W g oM rM ((X5_scales_f vM aM (X5_load_f vM aM p0)).2) (X5_sets_f ((X5_scales_f vM aM (X5_load_f vM aM p0)).2) aM12 p0 4 ((X5_of_f ((X5_scales_f vM aM (X5_load_f vM aM p0)).2) aM12 p0 4) + 1))] H := hP
        have hD : kd A [X5W g oM rM ((X5_scales_f vM aM (X5_load_f vM aM p0)).2) (X5_sets_f ((X5_scales_f vM aM (X5_load_f vM aM p0)).2) aM12 p0 4 ((X5_of_f ((X5_scales_f vM aM (X5_load_f vM aM p0)).2) aM12 p0 4) + 1))] := hD
        refine lv_iload_n hx hb dX5_weighs_58 rfl (lv_at hl 1 rfl) ?_
        have hF := (show X5_weighs_f vM aM p0 = (x2_12, (X5_scales_f vM aM (X5_load_f vM aM p0)).2, (X5_sets_f ((X5_scales_f vM aM (X5_load_f vM aM p0)).2) aM12 p0 4 ((X5_of_f ((X5_scales_f vM aM (X5_load_f vM aM p0)).2) aM12 p0 4) + 1))) from hF12.trans ((X5_weighs_lp12_s vM aM p0 n x2_12 x3_12 aM12).trans ((if_pos c2).trans (rfl))))
        exact kM_ret (x := x2_12) C hP hD hS ⟨by rw [hF], by rw [hF]⟩ dX5_weighs_59
      have hj12 := k_asc hx12 (y := 8) (N := 8) rfl hi12 (by omega) c2
      refine lv_aload_n hx hb dX5_weighs_18 rfl (lv_at hl 2 rfl) ?_
      refine kg_get C kFX5 (k := 0) kw1446 hP (i := 0) (q := 0) rfl rfl (by decide) rfl dX5_weighs_19 ?_
      refine lv_bipush (v := 14) hx hb dX5_weighs_22 (by decide) ?_
      refine lv_iload_n hx hb dX5_weighs_24 rfl (lv_at hl 0 rfl) ?_
      refine lv_iadd hx hb dX5_weighs_25 ?_
      refine lv_dup2_11 hx hb dX5_weighs_26 rfl rfl ?_
      refine kg_iald C hP (i := 0) (q := 1) rfl rfl (k_off (c := 14) rfl (k_vin (M := 8) hx12 (by omega) (by decide)) (by omega) (by omega)) dX5_weighs_27 ?_
      refine lv_aload_n hx hb dX5_weighs_28 rfl (lv_at hl 2 rfl) ?_
      refine kg_get C kFX5 (k := 19) kw1465 hP (i := 0) (q := 0) rfl rfl (by decide) rfl dX5_weighs_29 ?_
      refine lv_iload_n hx hb dX5_weighs_32 rfl (lv_at hl 0 rfl) ?_
      refine lv_ishr hx hb dX5_weighs_33 ?_
      refine lv_iconst (v := 1) hx hb dX5_weighs_34 (by decide) ?_
      refine lv_iand hx hb dX5_weighs_35 ?_
      refine lv_iadd hx hb dX5_weighs_36 ?_
      refine kg_iast C hP hD hS (i := 0) (q := 1) rfl rfl (k_off (c := 14) rfl (k_vin (M := 8) hx12 (by omega) (by decide)) (by omega) (by omega)) X5t_0 rfl dX5_weighs_37 (fun H locs hP hD hS => ?_)
      have hP : kp g [X5W g oM rM ((X5_scales_f vM aM (X5_load_f vM aM p0)).2) (va_up aM12 0 (upd (aM12 0) ((14 + x3_12).toNatClampNeg) (((aM12 0) (14 + x3_12).toNatClampNeg) + (((((X5_scales_f vM aM (X5_load_f vM aM p0)).2) 19) >>> (x3_12 &&& 31)) &&& 1))))] H := hP
      have hD : kd A [X5W g oM rM ((X5_scales_f vM aM (X5_load_f vM aM p0)).2) (va_up aM12 0 (upd (aM12 0) ((14 + x3_12).toNatClampNeg) (((aM12 0) (14 + x3_12).toNatClampNeg) + (((((X5_scales_f vM aM (X5_load_f vM aM p0)).2) 19) >>> (x3_12 &&& 31)) &&& 1))))] := hD
      refine lv_iinc (v := (x3_12 + 1)) (lv' := [(3, .int (x3_12 + 1)), (2, .int x2_12), (0, .ref oM), (1, .int p0)]) hx hb dX5_weighs_38 hl (k := 0) rfl rfl (by decide) rfl (fun ls hl => ?_)
      refine lv_goto (tgt := 12) hx hb dX5_weighs_41 (by decide) ?_
      exact ih12 (j12 + 1) x2_12 (x3_12 + 1) (va_up aM12 0 (upd (aM12 0) ((14 + x3_12).toNatClampNeg) (((aM12 0) (14 + x3_12).toNatClampNeg) + (((((X5_scales_f vM aM (X5_load_f vM aM p0)).2) 19) >>> (x3_12 &&& 31)) &&& 1)))) _ _ ls hj12 (by omega) (k_up hx12) (show X5_weighs_f vM aM p0 = X5_weighs_lp12 vM aM p0 n x2_12 (x3_12 + 1) (va_up aM12 0 (upd (aM12 0) ((14 + x3_12).toNatClampNeg) (((aM12 0) (14 + x3_12).toNatClampNeg) + (((((X5_scales_f vM aM (X5_load_f vM aM p0)).2) 19) >>> (x3_12 &&& 31)) &&& 1)))) from hF12.trans ((X5_weighs_lp12_s vM aM p0 n x2_12 x3_12 aM12).trans ((if_neg c2).trans (rfl)))) hP hD hS (lv_sub hl [0, 1, 2, 3] rfl)
  refine lv_aload_n hx hb dX5_weighs_0 rfl (lv_at hl 0 rfl) ?_
  refine lv_aload_n hx hb dX5_weighs_1 rfl (lv_at hl 0 rfl) ?_
  refine lv_iload_n hx hb dX5_weighs_2 rfl (lv_at hl 1 rfl) ?_
  refine kR_V (As := [.int p0]) (rest := [.ref oM]) C (X5_load_c l g oM rM vM aM p0 (by first | assumption | exact hb | exact ⟨0, by omega, rfl⟩ | exact ⟨1, by omega, rfl⟩ | exact ⟨2, by omega, rfl⟩ | exact ⟨3, by omega, rfl⟩ | exact ⟨4, by omega, rfl⟩)) (cwV 1 hts (k_gV kw1624 ca_X5_load) rfl rfl rfl ⟨rfl, pnX5_load⟩ ⟨Nat.le_of_ble_eq_true rfl, Nat.le_of_ble_eq_true rfl⟩) hE hS (hP.pick [0] rfl) (k_recv C kFX5 hP (i := 0) (q := 0) rfl rfl) rfl hl.1 rfl rfl dX5_weighs_3 ⟨Nat.le_of_ble_eq_true rfl, Nat.le_of_ble_eq_true rfl⟩ ?_
  refine kM_V (As := [.int (X5_load_f vM aM p0)]) (rest := []) (wr := []) C (X5_scales_c l g oM rM vM aM (X5_load_f vM aM p0)) (cwV 1 hts (k_gV kw1628 ca_X5_scales) rfl rfl rfl ⟨rfl, pnX5_scales⟩ ⟨Nat.le_of_ble_eq_true rfl, Nat.le_of_ble_eq_true rfl⟩) hE hS hA hP hD [0] [] rfl rfl ⟨rfl, rfl, by decide⟩ (k_recv C kFX5 hP (i := 0) (q := 0) rfl rfl) rfl hl.1 rfl rfl dX5_weighs_6 ⟨Nat.le_of_ble_eq_true rfl, Nat.le_of_ble_eq_true rfl⟩ (fun r1 u1 H locs hp1 hP hD hS => ?_)
  obtain ⟨rfl, rfl⟩ := hp1
  have hP : kp g [X5W g oM rM ((X5_scales_f vM aM (X5_load_f vM aM p0)).2) aM] H := hP
  have hD : kd A [X5W g oM rM ((X5_scales_f vM aM (X5_load_f vM aM p0)).2) aM] := hD
  refine lv_istore_n (lv' := [(2, .int ((X5_scales_f vM aM (X5_load_f vM aM p0)).1)), (0, .ref oM), (1, .int p0)]) hx hb dX5_weighs_9 rfl hl (by decide) rfl (fun ls hl => ?_)
  refine lv_iconst (v := 0) hx hb dX5_weighs_10 (by decide) ?_
  refine lv_istore_n (lv' := [(3, .int 0), (2, .int ((X5_scales_f vM aM (X5_load_f vM aM p0)).1)), (0, .ref oM), (1, .int p0)]) hx hb dX5_weighs_11 rfl hl (by decide) rfl (fun ls hl => ?_)
  exact loop12 9 0 ((X5_scales_f vM aM (X5_load_f vM aM p0)).1) 0 aM _ _ ls (by omega) (by omega) rfl (show X5_weighs_f vM aM p0 = X5_weighs_lp12 vM aM p0 9 ((X5_scales_f vM aM (X5_load_f vM aM p0)).1) 0 aM from rfl) hP hD hS (lv_sub hl [0, 1, 2, 3] rfl)

theorem pnX5_ends : yX5_ends.cls ≠ "java/lang/invoke/MethodHandle" ∧ yX5_ends.cls ≠ "java/lang/invoke/VarHandle" ∧ (parseMethodDescriptor yX5_ends.desc).map (fun d => d.parameters.length) = some 1 := by decide +kernel
theorem ca_X5_ends : kCal yX5_ends (Cond.code yX5_ends cX5_ends 2 (some .int)) := ⟨k_w 7 228 rfl rfl, k_w 1 64 rfl rfl, k_w 2 10 rfl rfl, k_w 7 229 rfl rfl⟩

theorem pnX5_refuses : yX5_refuses.cls ≠ "java/lang/invoke/MethodHandle" ∧ yX5_refuses.cls ≠ "java/lang/invoke/VarHandle" ∧ (parseMethodDescriptor yX5_refuses.desc).map (fun d => d.parameters.length) = some 2 := by decide +kernel
theorem ca_X5_refuses : kCal yX5_refuses (Cond.code yX5_refuses cX5_refuses 3 (some .boolean)) := ⟨k_w 7 224 rfl rfl, k_w 1 63 rfl rfl, k_w 2 10 rfl rfl, k_w 7 225 rfl rfl⟩

theorem pnX5_tries : yX5_tries.cls ≠ "java/lang/invoke/MethodHandle" ∧ yX5_tries.cls ≠ "java/lang/invoke/VarHandle" ∧ (parseMethodDescriptor yX5_tries.desc).map (fun d => d.parameters.length) = some 0 := by decide +kernel
theorem ca_X5_tries : kCal yX5_tries (Cond.code yX5_tries cX5_tries 2 none) := ⟨k_w 7 217 rfl rfl, k_w 1 62 rfl rfl, k_w 2 10 rfl rfl, k_w 7 218 rfl rfl⟩

abbrev wX5_jar : List Cond := Cond.code yX5_jar cX5_jar 4 (some .int) :: kW
def X5_jar_f (vM : Nat → Int32) (aM : Nat → Nat → Int32) (p0 : Int32) (p1 : Int32) : Int32 × (Nat → Int32) × (Nat → Nat → Int32) :=
  if (X5_in_f p0 0 4) = true then (if (X5_in_f p1 0 900) = true then (if ((aM 0) 4) = 6 then (0, upd (upd (upd (upd (upd (upd vM 21 0) 16 0) 14 2) 15 6) 17 0) 21 1, va_up aM 1 (k_cpy 0 64 (aM 0) (aM 1)))
      else ((X5_keeps_f (upd (upd vM 21 0) 16 0) (va_up (va_up (va_up (va_up aM 1 (k_cpy 0 64 (aM 0) (aM 1))) 0 (upd (aM 0) 4 (((aM 0) 4) + 1))) 0 (upd (upd (aM 0) 4 (((aM 0) 4) + 1)) ((22 + (2 * ((aM 0) 4))).toNatClampNeg) p0)) 0 (upd (upd (upd (aM 0) 4 (((aM 0) 4) + 1)) ((22 + (2 * ((aM 0) 4))).toNatClampNeg) p0) (((22 + (2 * ((aM 0) 4))) + 1).toNatClampNeg) p1)) ((aM 0) 4)).1, (X5_keeps_f (upd (upd vM 21 0) 16 0) (va_up (va_up (va_up (va_up aM 1 (k_cpy 0 64 (aM 0) (aM 1))) 0 (upd (aM 0) 4 (((aM 0) 4) + 1))) 0 (upd (upd (aM 0) 4 (((aM 0) 4) + 1)) ((22 + (2 * ((aM 0) 4))).toNatClampNeg) p0)) 0 (upd (upd (upd (aM 0) 4 (((aM 0) 4) + 1)) ((22 + (2 * ((aM 0) 4))).toNatClampNeg) p0) (((22 + (2 * ((aM 0) 4))) + 1).toNatClampNeg) p1)) ((aM 0) 4)).2.1, (X5_keeps_f (upd (upd vM 21 0) 16 0) (va_up (va_up (va_up (va_up aM 1 (k_cpy 0 64 (aM 0) (aM 1))) 0 (upd (aM 0) 4 (((aM 0) 4) + 1))) 0 (upd (upd (aM 0) 4 (((aM 0) 4) + 1)) ((22 + (2 * ((aM 0) 4))).toNatClampNeg) p0)) 0 (upd (upd (upd (aM 0) 4 (((aM 0) 4) + 1)) ((22 + (2 * ((aM 0) 4))).toNatClampNeg) p0) (((22 + (2 * ((aM 0) 4))) + 1).toNatClampNeg) p1)) ((aM 0) 4)).2.2))
    else (0, upd (upd (upd (upd (upd (upd vM 21 0) 16 0) 14 1) 15 0) 17 0) 21 1, va_up aM 1 (k_cpy 0 64 (aM 0) (aM 1))))
  else (0, upd (upd (upd (upd (upd (upd vM 21 0) 16 0) 14 1) 15 0) 17 0) 21 1, va_up aM 1 (k_cpy 0 64 (aM 0) (aM 1)))
set_option maxHeartbeats 4000000 in
set_option maxRecDepth 100000 in
theorem X5_jar_c (l : Launch) (g : kG) (oM : Nat) (rM : Nat → Nat) (vM : Nat → Int32) (aM : Nat → Nat → Int32) (p0 : Int32) (p1 : Int32) (hu : (∃ u : Nat, u ≤ 8 ∧ vM 3 = nI u)) (hJ5 : (∃ n : Nat, n ≤ 6 ∧ aM 0 4 = nI n)) : kM l yX5_jar wX5_jar 2 43 0 0 g [.ref oM, .int p0, .int p1] [X5W g oM rM vM aM] (fun x u => x = (X5_jar_f vM aM p0 p1).1 ∧ u = [X5W g oM rM ((X5_jar_f vM aM p0 p1).2.1) ((X5_jar_f vM aM p0 p1).2.2)]) := by
  refine kM_of (cc := cX5_jar) (nL := 4) (ret := (some .int)) (lv := [(0, .ref oM), (1, .int p0), (2, .int p1)]) (by decide) rfl (Nat.le_of_ble_eq_true rfl) rfl ?_
  intro p e s m args below meth c ls A C hP hD hE hA hS hl
  have C : kC p c cX5_jar s m args meth RX5 g 4 (some .int) := C
  have hx := C.1.1
  have hb := C.1.2.1
  have hts := C.1.2.2.2.2
  refine lv_aload_n hx hb dX5_jar_0 rfl (lv_at hl 0 rfl) ?_
  refine kV_V (As := []) (rest := []) (wr := []) C (X5_tries_c l g oM rM vM aM) (cwV 0 hts (k_gV kw1521 ca_X5_tries) rfl rfl rfl ⟨rfl, pnX5_tries⟩ ⟨Nat.le_of_ble_eq_true rfl, Nat.le_of_ble_eq_true rfl⟩) hE hS hA hP hD [0] [] rfl rfl ⟨rfl, rfl, by decide⟩ (k_recv C kFX5 hP (i := 0) (q := 0) rfl rfl) rfl hl.1 rfl rfl dX5_jar_1 ⟨Nat.le_of_ble_eq_true rfl, Nat.le_of_ble_eq_true rfl⟩ (fun u1 H locs eu1 hP hD hS => ?_)
  have eu1 : u1 = [X5W g oM rM (upd (upd vM 21 0) 16 0) (va_up aM 1 (k_cpy 0 64 (aM 0) (aM 1)))] := eu1.trans (by rw [X5_tries_eq])
  subst eu1
  have hP : kp g [X5W g oM rM (upd (upd vM 21 0) 16 0) (va_up aM 1 (k_cpy 0 64 (aM 0) (aM 1)))] H := hP
  have hD : kd A [X5W g oM rM (upd (upd vM 21 0) 16 0) (va_up aM 1 (k_cpy 0 64 (aM 0) (aM 1)))] := hD
  refine lv_iload_n hx hb dX5_jar_4 rfl (lv_at hl 1 rfl) ?_
  refine lv_iconst (v := 0) hx hb dX5_jar_5 (by decide) ?_
  refine lv_iconst (v := 4) hx hb dX5_jar_6 (by decide) ?_
  refine kR_S (As := [.int p0, .int 0, .int 4]) (rest := []) C (X5_in_c l g p0 0 4) (va_cwS 3 hts (k_gS kw1525 cs_X5_in) rfl rfl rfl pnX5_in ⟨Nat.le_of_ble_eq_true rfl, Nat.le_of_ble_eq_true rfl⟩) hE hS (hP.pick [] rfl) rfl hl.1 rfl rfl dX5_jar_7 ⟨Nat.le_of_ble_eq_true rfl, Nat.le_of_ble_eq_true rfl⟩ ?_
  refine lv_if_eq (tgt := 24) hx hb dX5_jar_10 (by decide) (fun c2 => ?_) (fun c2 => ?_)
  · have c2 := b2i_eq0 c2
    refine lv_aload_n hx hb dX5_jar_24 rfl (lv_at hl 0 rfl) ?_
    refine lv_aload_n hx hb dX5_jar_25 rfl (lv_at hl 0 rfl) ?_
    refine lv_iconst (v := 1) hx hb dX5_jar_26 (by decide) ?_
    refine lv_iconst (v := 0) hx hb dX5_jar_27 (by decide) ?_
    refine kM_V (As := [.int 1, .int 0]) (rest := [.ref oM]) (wr := []) C (X5_refuses_c l g oM rM (upd (upd vM 21 0) 16 0) (va_up aM 1 (k_cpy 0 64 (aM 0) (aM 1))) 1 0) (cwV 2 hts (k_gV kw1528 ca_X5_refuses) rfl rfl rfl ⟨rfl, pnX5_refuses⟩ ⟨Nat.le_of_ble_eq_true rfl, Nat.le_of_ble_eq_true rfl⟩) hE hS hA hP hD [0] [] rfl rfl ⟨rfl, rfl, by decide⟩ (k_recv C kFX5 hP (i := 0) (q := 0) rfl rfl) rfl hl.1 rfl rfl dX5_jar_28 ⟨Nat.le_of_ble_eq_true rfl, Nat.le_of_ble_eq_true rfl⟩ (fun r3 u3 H locs hp3 hP hD hS => ?_)
    obtain ⟨er3, eu3⟩ := hp3
    have er3 : r3 = 0 := er3
    have eu3 : u3 = [X5W g oM rM (upd (upd (upd (upd (upd vM 21 0) 16 0) 14 1) 15 0) 17 0) (va_up aM 1 (k_cpy 0 64 (aM 0) (aM 1)))] := eu3
    subst er3 eu3
    have hP : kp g [X5W g oM rM (upd (upd (upd (upd (upd vM 21 0) 16 0) 14 1) 15 0) 17 0) (va_up aM 1 (k_cpy 0 64 (aM 0) (aM 1)))] H := hP
    have hD : kd A [X5W g oM rM (upd (upd (upd (upd (upd vM 21 0) 16 0) 14 1) 15 0) 17 0) (va_up aM 1 (k_cpy 0 64 (aM 0) (aM 1)))] := hD
    refine kM_V (As := [.int 0]) (rest := []) (wr := []) C (X5_ends_c l g oM rM (upd (upd (upd (upd (upd vM 21 0) 16 0) 14 1) 15 0) 17 0) (va_up aM 1 (k_cpy 0 64 (aM 0) (aM 1))) false (by first | assumption | exact hu | exact hJ5 | exact ⟨0, by omega, rfl⟩ | exact ⟨1, by omega, rfl⟩ | exact ⟨2, by omega, rfl⟩ | exact ⟨3, by omega, rfl⟩ | exact ⟨4, by omega, rfl⟩)) (cwV 1 hts (k_gV kw1532 ca_X5_ends) rfl rfl rfl ⟨rfl, pnX5_ends⟩ ⟨Nat.le_of_ble_eq_true rfl, Nat.le_of_ble_eq_true rfl⟩) hE hS hA hP hD [0] [] rfl rfl ⟨rfl, rfl, by decide⟩ (k_recv C kFX5 hP (i := 0) (q := 0) rfl rfl) rfl hl.1 rfl rfl dX5_jar_31 ⟨Nat.le_of_ble_eq_true rfl, Nat.le_of_ble_eq_true rfl⟩ (fun r4 u4 H locs hp4 hP hD hS => ?_)
    obtain ⟨er4, eu4⟩ := hp4
    have er4 : r4 = 0 := er4
    have eu4 : u4 = [X5W g oM rM (upd (upd (upd (upd (upd (upd vM 21 0) 16 0) 14 1) 15 0) 17 0) 21 1) (va_up aM 1 (k_cpy 0 64 (aM 0) (aM 1)))] := eu4
    subst er4 eu4
    have hP : kp g [X5W g oM rM (upd (upd (upd (upd (upd (upd vM 21 0) 16 0) 14 1) 15 0) 17 0) 21 1) (va_up aM 1 (k_cpy 0 64 (aM 0) (aM 1)))] H := hP
    have hD : kd A [X5W g oM rM (upd (upd (upd (upd (upd (upd vM 21 0) 16 0) 14 1) 15 0) 17 0) 21 1) (va_up aM 1 (k_cpy 0 64 (aM 0) (aM 1)))] := hD
    have hF := (show X5_jar_f vM aM p0 p1 = (0, upd (upd (upd (upd (upd (upd vM 21 0) 16 0) 14 1) 15 0) 17 0) 21 1, va_up aM 1 (k_cpy 0 64 (aM 0) (aM 1))) from (if_neg c2).trans (rfl))
    exact kM_ret (x := 0) C hP hD hS ⟨by rw [hF], by rw [hF]⟩ dX5_jar_34
  have c2 := b2i_ne0 c2
  refine lv_iload_n hx hb dX5_jar_13 rfl (lv_at hl 2 rfl) ?_
  refine lv_iconst (v := 0) hx hb dX5_jar_14 (by decide) ?_
  refine lv_sipush (v := 900) hx hb dX5_jar_15 (by decide) ?_
  refine kR_S (As := [.int p1, .int 0, .int 900]) (rest := []) C (X5_in_c l g p1 0 900) (va_cwS 3 hts (k_gS kw1525 cs_X5_in) rfl rfl rfl pnX5_in ⟨Nat.le_of_ble_eq_true rfl, Nat.le_of_ble_eq_true rfl⟩) hE hS (hP.pick [] rfl) rfl hl.1 rfl rfl dX5_jar_18 ⟨Nat.le_of_ble_eq_true rfl, Nat.le_of_ble_eq_true rfl⟩ ?_
  refine lv_if_ne (tgt := 35) hx hb dX5_jar_21 (by decide) (fun c5 => ?_) (fun c5 => ?_)
  · have c5 := b2i_ne0 c5
    refine lv_aload_n hx hb dX5_jar_35 rfl (lv_at hl 0 rfl) ?_
    refine kg_get C kFX5 (k := 0) kw1446 hP (i := 0) (q := 0) rfl rfl (by decide) rfl dX5_jar_36 ?_
    refine lv_iconst (v := 4) hx hb dX5_jar_39 (by decide) ?_
    refine kg_ialdK C hP (i := 0) (q := 1) rfl rfl (j := 4) rfl (k_vin (j := 4) rfl (by decide) (by decide)) dX5_jar_40 ?_
    refine lv_istore_n (lv' := [(3, .int ((aM 0) 4)), (0, .ref oM), (1, .int p0), (2, .int p1)]) hx hb dX5_jar_41 rfl hl (by decide) rfl (fun ls hl => ?_)
    refine lv_iload_n hx hb dX5_jar_42 rfl (lv_at hl 0 rfl) ?_
    refine lv_bipush (v := 6) hx hb dX5_jar_43 (by decide) ?_
    refine lv_icmp_ne (tgt := 60) hx hb dX5_jar_45 (by decide) (fun c6 => ?_) (fun c6 => ?_)
    · have z2 := k_n6 hJ5 c6
      refine lv_aload_n hx hb dX5_jar_60 rfl (lv_at hl 1 rfl) ?_
      refine kg_get C kFX5 (k := 0) kw1446 hP (i := 0) (q := 0) rfl rfl (by decide) rfl dX5_jar_61 ?_
      refine lv_iconst (v := 4) hx hb dX5_jar_64 (by decide) ?_
      refine lv_dup2_11 hx hb dX5_jar_65 rfl rfl ?_
      refine kg_ialdK C hP (i := 0) (q := 1) rfl rfl (j := 4) rfl (k_vin (j := 4) rfl (by decide) (by decide)) dX5_jar_66 ?_
      refine lv_iconst (v := 1) hx hb dX5_jar_67 (by decide) ?_
      refine lv_iadd hx hb dX5_jar_68 ?_
      refine kg_iastK C hP hD hS (i := 0) (q := 1) rfl rfl (j := 4) rfl (k_vin (j := 4) rfl (by decide) (by decide)) X5t_0 rfl dX5_jar_69 (fun H locs hP hD hS => ?_)
      have hP : kp g [X5W g oM rM (upd (upd vM 21 0) 16 0) (va_up (va_up aM 1 (k_cpy 0 64 (aM 0) (aM 1))) 0 (upd (aM 0) 4 (((aM 0) 4) + 1)))] H := hP
      have hD : kd A [X5W g oM rM (upd (upd vM 21 0) 16 0) (va_up (va_up aM 1 (k_cpy 0 64 (aM 0) (aM 1))) 0 (upd (aM 0) 4 (((aM 0) 4) + 1)))] := hD
      refine lv_aload_n hx hb dX5_jar_70 rfl (lv_at hl 1 rfl) ?_
      refine kg_get C kFX5 (k := 0) kw1446 hP (i := 0) (q := 0) rfl rfl (by decide) rfl dX5_jar_71 ?_
      refine lv_bipush (v := 22) hx hb dX5_jar_74 (by decide) ?_
      refine lv_iconst (v := 2) hx hb dX5_jar_76 (by decide) ?_
      refine lv_iload_n hx hb dX5_jar_77 rfl (lv_at hl 0 rfl) ?_
      refine lv_imul hx hb dX5_jar_78 ?_
      refine lv_iadd hx hb dX5_jar_79 ?_
      refine lv_iload_n hx hb dX5_jar_80 rfl (lv_at hl 2 rfl) ?_
      refine kg_iast C hP hD hS (i := 0) (q := 1) rfl rfl (k_jix z2) X5t_0 rfl dX5_jar_81 (fun H locs hP hD hS => ?_)
      have hP : kp g [X5W g oM rM (upd (upd vM 21 0) 16 0) (va_up (va_up (va_up aM 1 (k_cpy 0 64 (aM 0) (aM 1))) 0 (upd (aM 0) 4 (((aM 0) 4) + 1))) 0 (upd (upd (aM 0) 4 (((aM 0) 4) + 1)) ((22 + (2 * ((aM 0) 4))).toNatClampNeg) p0))] H := hP
      have hD : kd A [X5W g oM rM (upd (upd vM 21 0) 16 0) (va_up (va_up (va_up aM 1 (k_cpy 0 64 (aM 0) (aM 1))) 0 (upd (aM 0) 4 (((aM 0) 4) + 1))) 0 (upd (upd (aM 0) 4 (((aM 0) 4) + 1)) ((22 + (2 * ((aM 0) 4))).toNatClampNeg) p0))] := hD
      refine lv_aload_n hx hb dX5_jar_82 rfl (lv_at hl 1 rfl) ?_
      refine kg_get C kFX5 (k := 0) kw1446 hP (i := 0) (q := 0) rfl rfl (by decide) rfl dX5_jar_83 ?_
      refine lv_bipush (v := 22) hx hb dX5_jar_86 (by decide) ?_
      refine lv_iconst (v := 2) hx hb dX5_jar_88 (by decide) ?_
      refine lv_iload_n hx hb dX5_jar_89 rfl (lv_at hl 0 rfl) ?_
      refine lv_imul hx hb dX5_jar_90 ?_
      refine lv_iadd hx hb dX5_jar_91 ?_
      refine lv_iconst (v := 1) hx hb dX5_jar_92 (by decide) ?_
      refine lv_iadd hx hb dX5_jar_93 ?_
      refine lv_iload_n hx hb dX5_jar_94 rfl (lv_at hl 3 rfl) ?_
      refine kg_iast C hP hD hS (i := 0) (q := 1) rfl rfl (k_jix1 z2) X5t_0 rfl dX5_jar_95 (fun H locs hP hD hS => ?_)
      have hP : kp g [X5W g oM rM (upd (upd vM 21 0) 16 0) (va_up (va_up (va_up (va_up aM 1 (k_cpy 0 64 (aM 0) (aM 1))) 0 (upd (aM 0) 4 (((aM 0) 4) + 1))) 0 (upd (upd (aM 0) 4 (((aM 0) 4) + 1)) ((22 + (2 * ((aM 0) 4))).toNatClampNeg) p0)) 0 (upd (upd (upd (aM 0) 4 (((aM 0) 4) + 1)) ((22 + (2 * ((aM 0) 4))).toNatClampNeg) p0) (((22 + (2 * ((aM 0) 4))) + 1).toNatClampNeg) p1))] H := hP
      have hD : kd A [X5W g oM rM (upd (upd vM 21 0) 16 0) (va_up (va_up (va_up (va_up aM 1 (k_cpy 0 64 (aM 0) (aM 1))) 0 (upd (aM 0) 4 (((aM 0) 4) + 1))) 0 (upd (upd (aM 0) 4 (((aM 0) 4) + 1)) ((22 + (2 * ((aM 0) 4))).toNatClampNeg) p0)) 0 (upd (upd (upd (aM 0) 4 (((aM 0) 4) + 1)) ((22 + (2 * ((aM 0) 4))).toNatClampNeg) p0) (((22 + (2 * ((aM 0) 4))) + 1).toNatClampNeg) p1))] := hD
      refine lv_aload_n hx hb dX5_jar_96 rfl (lv_at hl 1 rfl) ?_
      refine lv_iload_n hx hb dX5_jar_97 rfl (lv_at hl 0 rfl) ?_
      refine kM_V (As := [.int ((aM 0) 4)]) (rest := []) (wr := []) C (X5_keeps_c l g oM rM (upd (upd vM 21 0) 16 0) (va_up (va_up (va_up (va_up aM 1 (k_cpy 0 64 (aM 0) (aM 1))) 0 (upd (aM 0) 4 (((aM 0) 4) + 1))) 0 (upd (upd (aM 0) 4 (((aM 0) 4) + 1)) ((22 + (2 * ((aM 0) 4))).toNatClampNeg) p0)) 0 (upd (upd (upd (aM 0) 4 (((aM 0) 4) + 1)) ((22 + (2 * ((aM 0) 4))).toNatClampNeg) p0) (((22 + (2 * ((aM 0) 4))) + 1).toNatClampNeg) p1)) ((aM 0) 4) (by first | assumption | exact hu | exact hJ5 | exact ⟨0, by omega, rfl⟩ | exact ⟨1, by omega, rfl⟩ | exact ⟨2, by omega, rfl⟩ | exact ⟨3, by omega, rfl⟩ | exact ⟨4, by omega, rfl⟩)) (cwV 1 hts (k_gV kw1536 ca_X5_keeps) rfl rfl rfl ⟨rfl, pnX5_keeps⟩ ⟨Nat.le_of_ble_eq_true rfl, Nat.le_of_ble_eq_true rfl⟩) hE hS hA hP hD [0] [] rfl rfl ⟨rfl, rfl, by decide⟩ (k_recv C kFX5 hP (i := 0) (q := 0) rfl rfl) rfl hl.1 rfl rfl dX5_jar_98 ⟨Nat.le_of_ble_eq_true rfl, Nat.le_of_ble_eq_true rfl⟩ (fun r7 u7 H locs hp7 hP hD hS => ?_)
      obtain ⟨rfl, rfl⟩ := hp7
      have hP : kp g [X5W g oM rM ((X5_keeps_f (upd (upd vM 21 0) 16 0) (va_up (va_up (va_up (va_up aM 1 (k_cpy 0 64 (aM 0) (aM 1))) 0 (upd (aM 0) 4 (((aM 0) 4) + 1))) 0 (upd (upd (aM 0) 4 (((aM 0) 4) + 1)) ((22 + (2 * ((aM 0) 4))).toNatClampNeg) p0)) 0 (upd (upd (upd (aM 0) 4 (((aM 0) 4) + 1)) ((22 + (2 * ((aM 0) 4))).toNatClampNeg) p0) (((22 + (2 * ((aM 0) 4))) + 1).toNatClampNeg) p1)) ((aM 0) 4)).2.1) ((X5_keeps_f (upd (upd vM 21 0) 16 0) (va_up (va_up (va_up (va_up aM 1 (k_cpy 0 64 (aM 0) (aM 1))) 0 (upd (aM 0) 4 (((aM 0) 4) + 1))) 0 (upd (upd (aM 0) 4 (((aM 0) 4) + 1)) ((22 + (2 * ((aM 0) 4))).toNatClampNeg) p0)) 0 (upd (upd (upd (aM 0) 4 (((aM 0) 4) + 1)) ((22 + (2 * ((aM 0) 4))).toNatClampNeg) p0) (((22 + (2 * ((aM 0) 4))) + 1).toNatClampNeg) p1)) ((aM 0) 4)).2.2)] H := hP
      have hD : kd A [X5W g oM rM ((X5_keeps_f (upd (upd vM 21 0) 16 0) (va_up (va_up (va_up (va_up aM 1 (k_cpy 0 64 (aM 0) (aM 1))) 0 (upd (aM 0) 4 (((aM 0) 4) + 1))) 0 (upd (upd (aM 0) 4 (((aM 0) 4) + 1)) ((22 + (2 * ((aM 0) 4))).toNatClampNeg) p0)) 0 (upd (upd (upd (aM 0) 4 (((aM 0) 4) + 1)) ((22 + (2 * ((aM 0) 4))).toNatClampNeg) p0) (((22 + (2 * ((aM 0) 4))) + 1).toNatClampNeg) p1)) ((aM 0) 4)).2.1) ((X5_keeps_f (upd (upd vM 21 0) 16 0) (va_up (va_up (va_up (va_up aM 1 (k_cpy 0 64 (aM 0) (aM 1))) 0 (upd (aM 0) 4 (((aM 0) 4) + 1))) 0 (upd (upd (aM 0) 4 (((aM 0) 4) + 1)) ((22 + (2 * ((aM 0) 4))).toNatClampNeg) p0)) 0 (upd (upd (upd (aM 0) 4 (((aM 0) 4) + 1)) ((22 + (2 * ((aM 0) 4))).toNatClampNeg) p0) (((22 + (2 * ((aM 0) 4))) + 1).toNatClampNeg) p1)) ((aM 0) 4)).2.2)] := hD
      have hF := (show X5_jar_f vM aM p0 p1 = ((X5_keeps_f (upd (upd vM 21 0) 16 0) (va_up (va_up (va_up (va_up aM 1 (k_cpy 0 64 (aM 0) (aM 1))) 0 (upd (aM 0) 4 (((aM 0) 4) + 1))) 0 (upd (upd (aM 0) 4 (((aM 0) 4) + 1)) ((22 + (2 * ((aM 0) 4))).toNatClampNeg) p0)) 0 (upd (upd (upd (aM 0) 4 (((aM 0) 4) + 1)) ((22 + (2 * ((aM 0) 4))).toNatClampNeg) p0) (((22 + (2 * ((aM 0) 4))) + 1).toNatClampNeg) p1)) ((aM 0) 4)).1, (X5_keeps_f (upd (upd vM 21 0) 16 0) (va_up (va_up (va_up (va_up aM 1 (k_cpy 0 64 (aM 0) (aM 1))) 0 (upd (aM 0) 4 (((aM 0) 4) + 1))) 0 (upd (upd (aM 0) 4 (((aM 0) 4) + 1)) ((22 + (2 * ((aM 0) 4))).toNatClampNeg) p0)) 0 (upd (upd (upd (aM 0) 4 (((aM 0) 4) + 1)) ((22 + (2 * ((aM 0) 4))).toNatClampNeg) p0) (((22 + (2 * ((aM 0) 4))) + 1).toNatClampNeg) p1)) ((aM 0) 4)).2.1, (X5_keeps_f (upd (upd vM 21 0) 16 0) (va_up (va_up (va_up (va_up aM 1 (k_cpy 0 64 (aM 0) (aM 1))) 0 (upd (aM 0) 4 (((aM 0) 4) + 1))) 0 (upd (upd (aM 0) 4 (((aM 0) 4) + 1)) ((22 + (2 * ((aM 0) 4))).toNatClampNeg) p0)) 0 (upd (upd (upd (aM 0) 4 (((aM 0) 4) + 1)) ((22 + (2 * ((aM 0) 4))).toNatClampNeg) p0) (((22 + (2 * ((aM 0) 4))) + 1).toNatClampNeg) p1)) ((aM 0) 4)).2.2) from (if_pos c2).trans ((if_pos c5).trans ((if_neg c6).trans (rfl))))
      exact kM_ret (x := (X5_keeps_f (upd (upd vM 21 0) 16 0) (va_up (va_up (va_up (va_up aM 1 (k_cpy 0 64 (aM 0) (aM 1))) 0 (upd (aM 0) 4 (((aM 0) 4) + 1))) 0 (upd (upd (aM 0) 4 (((aM 0) 4) + 1)) ((22 + (2 * ((aM 0) 4))).toNatClampNeg) p0)) 0 (upd (upd (upd (aM 0) 4 (((aM 0) 4) + 1)) ((22 + (2 * ((aM 0) 4))).toNatClampNeg) p0) (((22 + (2 * ((aM 0) 4))) + 1).toNatClampNeg) p1)) ((aM 0) 4)).1) C hP hD hS ⟨by rw [hF], by rw [hF]⟩ dX5_jar_101
    refine lv_aload_n hx hb dX5_jar_48 rfl (lv_at hl 1 rfl) ?_
    refine lv_aload_n hx hb dX5_jar_49 rfl (lv_at hl 1 rfl) ?_
    refine lv_iconst (v := 2) hx hb dX5_jar_50 (by decide) ?_
    refine lv_bipush (v := 6) hx hb dX5_jar_51 (by decide) ?_
    refine kM_V (As := [.int 2, .int 6]) (rest := [.ref oM]) (wr := []) C (X5_refuses_c l g oM rM (upd (upd vM 21 0) 16 0) (va_up aM 1 (k_cpy 0 64 (aM 0) (aM 1))) 2 6) (cwV 2 hts (k_gV kw1528 ca_X5_refuses) rfl rfl rfl ⟨rfl, pnX5_refuses⟩ ⟨Nat.le_of_ble_eq_true rfl, Nat.le_of_ble_eq_true rfl⟩) hE hS hA hP hD [0] [] rfl rfl ⟨rfl, rfl, by decide⟩ (k_recv C kFX5 hP (i := 0) (q := 0) rfl rfl) rfl hl.1 rfl rfl dX5_jar_53 ⟨Nat.le_of_ble_eq_true rfl, Nat.le_of_ble_eq_true rfl⟩ (fun r8 u8 H locs hp8 hP hD hS => ?_)
    obtain ⟨er8, eu8⟩ := hp8
    have er8 : r8 = 0 := er8
    have eu8 : u8 = [X5W g oM rM (upd (upd (upd (upd (upd vM 21 0) 16 0) 14 2) 15 6) 17 0) (va_up aM 1 (k_cpy 0 64 (aM 0) (aM 1)))] := eu8
    subst er8 eu8
    have hP : kp g [X5W g oM rM (upd (upd (upd (upd (upd vM 21 0) 16 0) 14 2) 15 6) 17 0) (va_up aM 1 (k_cpy 0 64 (aM 0) (aM 1)))] H := hP
    have hD : kd A [X5W g oM rM (upd (upd (upd (upd (upd vM 21 0) 16 0) 14 2) 15 6) 17 0) (va_up aM 1 (k_cpy 0 64 (aM 0) (aM 1)))] := hD
    refine kM_V (As := [.int 0]) (rest := []) (wr := []) C (X5_ends_c l g oM rM (upd (upd (upd (upd (upd vM 21 0) 16 0) 14 2) 15 6) 17 0) (va_up aM 1 (k_cpy 0 64 (aM 0) (aM 1))) false (by first | assumption | exact hu | exact hJ5 | exact ⟨0, by omega, rfl⟩ | exact ⟨1, by omega, rfl⟩ | exact ⟨2, by omega, rfl⟩ | exact ⟨3, by omega, rfl⟩ | exact ⟨4, by omega, rfl⟩)) (cwV 1 hts (k_gV kw1532 ca_X5_ends) rfl rfl rfl ⟨rfl, pnX5_ends⟩ ⟨Nat.le_of_ble_eq_true rfl, Nat.le_of_ble_eq_true rfl⟩) hE hS hA hP hD [0] [] rfl rfl ⟨rfl, rfl, by decide⟩ (k_recv C kFX5 hP (i := 0) (q := 0) rfl rfl) rfl hl.1 rfl rfl dX5_jar_56 ⟨Nat.le_of_ble_eq_true rfl, Nat.le_of_ble_eq_true rfl⟩ (fun r9 u9 H locs hp9 hP hD hS => ?_)
    obtain ⟨er9, eu9⟩ := hp9
    have er9 : r9 = 0 := er9
    have eu9 : u9 = [X5W g oM rM (upd (upd (upd (upd (upd (upd vM 21 0) 16 0) 14 2) 15 6) 17 0) 21 1) (va_up aM 1 (k_cpy 0 64 (aM 0) (aM 1)))] := eu9
    subst er9 eu9
    have hP : kp g [X5W g oM rM (upd (upd (upd (upd (upd (upd vM 21 0) 16 0) 14 2) 15 6) 17 0) 21 1) (va_up aM 1 (k_cpy 0 64 (aM 0) (aM 1)))] H := hP
    have hD : kd A [X5W g oM rM (upd (upd (upd (upd (upd (upd vM 21 0) 16 0) 14 2) 15 6) 17 0) 21 1) (va_up aM 1 (k_cpy 0 64 (aM 0) (aM 1)))] := hD
    have hF := (show X5_jar_f vM aM p0 p1 = (0, upd (upd (upd (upd (upd (upd vM 21 0) 16 0) 14 2) 15 6) 17 0) 21 1, va_up aM 1 (k_cpy 0 64 (aM 0) (aM 1))) from (if_pos c2).trans ((if_pos c5).trans ((if_pos c6).trans (rfl))))
    exact kM_ret (x := 0) C hP hD hS ⟨by rw [hF], by rw [hF]⟩ dX5_jar_59
  have c5 := b2i_eq0 c5
  refine lv_aload_n hx hb dX5_jar_24 rfl (lv_at hl 0 rfl) ?_
  refine lv_aload_n hx hb dX5_jar_25 rfl (lv_at hl 0 rfl) ?_
  refine lv_iconst (v := 1) hx hb dX5_jar_26 (by decide) ?_
  refine lv_iconst (v := 0) hx hb dX5_jar_27 (by decide) ?_
  refine kM_V (As := [.int 1, .int 0]) (rest := [.ref oM]) (wr := []) C (X5_refuses_c l g oM rM (upd (upd vM 21 0) 16 0) (va_up aM 1 (k_cpy 0 64 (aM 0) (aM 1))) 1 0) (cwV 2 hts (k_gV kw1528 ca_X5_refuses) rfl rfl rfl ⟨rfl, pnX5_refuses⟩ ⟨Nat.le_of_ble_eq_true rfl, Nat.le_of_ble_eq_true rfl⟩) hE hS hA hP hD [0] [] rfl rfl ⟨rfl, rfl, by decide⟩ (k_recv C kFX5 hP (i := 0) (q := 0) rfl rfl) rfl hl.1 rfl rfl dX5_jar_28 ⟨Nat.le_of_ble_eq_true rfl, Nat.le_of_ble_eq_true rfl⟩ (fun r10 u10 H locs hp10 hP hD hS => ?_)
  obtain ⟨er10, eu10⟩ := hp10
  have er10 : r10 = 0 := er10
  have eu10 : u10 = [X5W g oM rM (upd (upd (upd (upd (upd vM 21 0) 16 0) 14 1) 15 0) 17 0) (va_up aM 1 (k_cpy 0 64 (aM 0) (aM 1)))] := eu10
  subst er10 eu10
  have hP : kp g [X5W g oM rM (upd (upd (upd (upd (upd vM 21 0) 16 0) 14 1) 15 0) 17 0) (va_up aM 1 (k_cpy 0 64 (aM 0) (aM 1)))] H := hP
  have hD : kd A [X5W g oM rM (upd (upd (upd (upd (upd vM 21 0) 16 0) 14 1) 15 0) 17 0) (va_up aM 1 (k_cpy 0 64 (aM 0) (aM 1)))] := hD
  refine kM_V (As := [.int 0]) (rest := []) (wr := []) C (X5_ends_c l g oM rM (upd (upd (upd (upd (upd vM 21 0) 16 0) 14 1) 15 0) 17 0) (va_up aM 1 (k_cpy 0 64 (aM 0) (aM 1))) false (by first | assumption | exact hu | exact hJ5 | exact ⟨0, by omega, rfl⟩ | exact ⟨1, by omega, rfl⟩ | exact ⟨2, by omega, rfl⟩ | exact ⟨3, by omega, rfl⟩ | exact ⟨4, by omega, rfl⟩)) (cwV 1 hts (k_gV kw1532 ca_X5_ends) rfl rfl rfl ⟨rfl, pnX5_ends⟩ ⟨Nat.le_of_ble_eq_true rfl, Nat.le_of_ble_eq_true rfl⟩) hE hS hA hP hD [0] [] rfl rfl ⟨rfl, rfl, by decide⟩ (k_recv C kFX5 hP (i := 0) (q := 0) rfl rfl) rfl hl.1 rfl rfl dX5_jar_31 ⟨Nat.le_of_ble_eq_true rfl, Nat.le_of_ble_eq_true rfl⟩ (fun r11 u11 H locs hp11 hP hD hS => ?_)
  obtain ⟨er11, eu11⟩ := hp11
  have er11 : r11 = 0 := er11
  have eu11 : u11 = [X5W g oM rM (upd (upd (upd (upd (upd (upd vM 21 0) 16 0) 14 1) 15 0) 17 0) 21 1) (va_up aM 1 (k_cpy 0 64 (aM 0) (aM 1)))] := eu11
  subst er11 eu11
  have hP : kp g [X5W g oM rM (upd (upd (upd (upd (upd (upd vM 21 0) 16 0) 14 1) 15 0) 17 0) 21 1) (va_up aM 1 (k_cpy 0 64 (aM 0) (aM 1)))] H := hP
  have hD : kd A [X5W g oM rM (upd (upd (upd (upd (upd (upd vM 21 0) 16 0) 14 1) 15 0) 17 0) 21 1) (va_up aM 1 (k_cpy 0 64 (aM 0) (aM 1)))] := hD
  have hF := (show X5_jar_f vM aM p0 p1 = (0, upd (upd (upd (upd (upd (upd vM 21 0) 16 0) 14 1) 15 0) 17 0) 21 1, va_up aM 1 (k_cpy 0 64 (aM 0) (aM 1))) from (if_pos c2).trans ((if_neg c5).trans (rfl)))
  exact kM_ret (x := 0) C hP hD hS ⟨by rw [hF], by rw [hF]⟩ dX5_jar_34

abbrev wX5_bag : List Cond := Cond.code yX5_bag cX5_bag 4 (some .int) :: kW
def X5_bag_lp62b (vM : Nat → Int32) (aM : Nat → Nat → Int32) (p0 : Int32) (rec : Int32 → Int32 → (Nat → Nat → Int32) → (Int32 × (Nat → Int32) × (Nat → Nat → Int32))) (x2_62 x3_62 : Int32) (aM62 : Nat → Nat → Int32) : Int32 × (Nat → Int32) × (Nat → Nat → Int32) :=
  if 5 ≤ x3_62 then ((X5_keeps_f (upd (upd vM 21 0) 16 0) (X5_sets_f (upd (upd vM 21 0) 16 0) aM62 x2_62 0 p0) x2_62).1, (X5_keeps_f (upd (upd vM 21 0) 16 0) (X5_sets_f (upd (upd vM 21 0) 16 0) aM62 x2_62 0 p0) x2_62).2.1, (X5_keeps_f (upd (upd vM 21 0) 16 0) (X5_sets_f (upd (upd vM 21 0) 16 0) aM62 x2_62 0 p0) x2_62).2.2)
  else rec x2_62 (x3_62 + 1) (X5_sets_f (upd (upd vM 21 0) 16 0) aM62 x2_62 x3_62 0)
def X5_bag_lp62 (vM : Nat → Int32) (aM : Nat → Nat → Int32) (p0 : Int32) : Nat → Int32 → Int32 → (Nat → Nat → Int32) → (Int32 × (Nat → Int32) × (Nat → Nat → Int32))
  | 0 => fun x2_62 x3_62 aM62 => (0, vM, aM62)
  | n + 1 => X5_bag_lp62b vM aM p0 (X5_bag_lp62 vM aM p0 n)
theorem X5_bag_lp62_s (vM : Nat → Int32) (aM : Nat → Nat → Int32) (p0 : Int32) (n : Nat) (x2_62 x3_62 : Int32) (aM62 : Nat → Nat → Int32) : X5_bag_lp62 vM aM p0 (n + 1) x2_62 x3_62 aM62 = X5_bag_lp62b vM aM p0 (X5_bag_lp62 vM aM p0 n) x2_62 x3_62 aM62 := rfl
def X5_bag_f (vM : Nat → Int32) (aM : Nat → Nat → Int32) (p0 : Int32) : Int32 × (Nat → Int32) × (Nat → Nat → Int32) :=
  if (X5_in_f p0 5 50) = true then (if ((aM 0) 5) = 6 then (0, upd (upd (upd (upd (upd (upd vM 21 0) 16 0) 14 2) 15 6) 17 0) 21 1, va_up aM 1 (k_cpy 0 64 (aM 0) (aM 1)))
    else X5_bag_lp62 vM aM p0 6 ((aM 0) 5) 0 (va_up (va_up aM 1 (k_cpy 0 64 (aM 0) (aM 1))) 0 (upd (aM 0) 5 (((aM 0) 5) + 1))))
  else (0, upd (upd (upd (upd (upd (upd vM 21 0) 16 0) 14 1) 15 0) 17 0) 21 1, va_up aM 1 (k_cpy 0 64 (aM 0) (aM 1)))
set_option maxHeartbeats 4000000 in
set_option maxRecDepth 100000 in
theorem X5_bag_c (l : Launch) (g : kG) (oM : Nat) (rM : Nat → Nat) (vM : Nat → Int32) (aM : Nat → Nat → Int32) (p0 : Int32) (hu : (∃ u : Nat, u ≤ 8 ∧ vM 3 = nI u)) (hB5 : (∃ n : Nat, n ≤ 6 ∧ aM 0 5 = nI n)) : kM l yX5_bag wX5_bag 2 43 0 0 g [.ref oM, .int p0] [X5W g oM rM vM aM] (fun x u => x = (X5_bag_f vM aM p0).1 ∧ u = [X5W g oM rM ((X5_bag_f vM aM p0).2.1) ((X5_bag_f vM aM p0).2.2)]) := by
  refine kM_of (cc := cX5_bag) (nL := 4) (ret := (some .int)) (lv := [(0, .ref oM), (1, .int p0)]) (by decide) rfl (Nat.le_of_ble_eq_true rfl) rfl ?_
  intro p e s m args below meth c ls A C hP hD hE hA hS hl
  have C : kC p c cX5_bag s m args meth RX5 g 4 (some .int) := C
  have hx := C.1.1
  have hb := C.1.2.1
  have hts := C.1.2.2.2.2
  have loop62 : ∀ (n : Nat) (j62 : Nat) (x2_62 x3_62 : Int32) (aM62 : Nat → Nat → Int32) (H : Heap) (locs : List Loc) (ls : Array Slot), j62 ≤ 5 → 5 < j62 + n → x3_62 = nI j62 → vp_in x2_62 6 → X5_bag_f vM aM p0 = X5_bag_lp62 vM aM p0 n x2_62 x3_62 aM62 → kp g [X5W g oM rM (upd (upd vM 21 0) 16 0) aM62] H → kd A [X5W g oM rM (upd (upd vM 21 0) 16 0) aM62] → va_S A s.heap H locs → lv_has ls 4 [(3, .int x3_62), (2, .int x2_62), (0, .ref oM), (1, .int p0)] → W p l e (kRm 2 0 0 43) s m args below meth c H locs 0 0 (MQ below (kQi g (fun x u => x = (X5_bag_f vM aM p0).1 ∧ u = [X5W g oM rM ((X5_bag_f vM aM p0).2.1) ((X5_bag_f vM aM p0).2.2)]) A) args s 0 0 A) (F0 m 62 ls []) := by
    intro n
    induction n with
    | zero =>
      intro j62 x2_62 x3_62 aM62 H locs ls hi62 hn62 hx62 hb62 hF62 hP hD hS hl
      exact absurd hn62 (by omega)
    | succ n ih62 =>
      intro j62 x2_62 x3_62 aM62 H locs ls hi62 hn62 hx62 hb62 hF62 hP hD hS hl
      refine lv_iload_n hx hb dX5_bag_62 rfl (lv_at hl 0 rfl) ?_
      refine lv_iconst (v := 5) hx hb dX5_bag_63 (by decide) ?_
      refine lv_icmp_ge (tgt := 80) hx hb dX5_bag_64 (by decide) (fun c4 => ?_) (fun c4 => ?_)
      · refine lv_aload_n hx hb dX5_bag_80 rfl (lv_at hl 2 rfl) ?_
        refine lv_iload_n hx hb dX5_bag_81 rfl (lv_at hl 1 rfl) ?_
        refine lv_iconst (v := 0) hx hb dX5_bag_82 (by decide) ?_
        refine lv_iload_n hx hb dX5_bag_83 rfl (lv_at hl 3 rfl) ?_
        refine kV_V (As := [.int x2_62, .int 0, .int p0]) (rest := []) (wr := []) C (X5_sets_c l g oM rM (upd (upd vM 21 0) 16 0) aM62 x2_62 0 p0 (by first | assumption | exact k_vin hx62 (by omega) (by decide) | exact hu | exact hB5 | exact ⟨0, by omega, rfl⟩ | exact ⟨1, by omega, rfl⟩ | exact ⟨2, by omega, rfl⟩ | exact ⟨3, by omega, rfl⟩ | exact ⟨4, by omega, rfl⟩ | exact ⟨j62, by omega, hx62⟩) (by first | assumption | exact k_vin hx62 (by omega) (by decide) | exact hu | exact hB5 | exact ⟨0, by omega, rfl⟩ | exact ⟨1, by omega, rfl⟩ | exact ⟨2, by omega, rfl⟩ | exact ⟨3, by omega, rfl⟩ | exact ⟨4, by omega, rfl⟩ | exact ⟨j62, by omega, hx62⟩)) (cwV 3 hts (k_gV kw1548 ca_X5_sets) rfl rfl rfl ⟨rfl, pnX5_sets⟩ ⟨Nat.le_of_ble_eq_true rfl, Nat.le_of_ble_eq_true rfl⟩) hE hS hA hP hD [0] [] rfl rfl ⟨rfl, rfl, by decide⟩ (k_recv C kFX5 hP (i := 0) (q := 0) rfl rfl) rfl hl.1 rfl rfl dX5_bag_84 ⟨Nat.le_of_ble_eq_true rfl, Nat.le_of_ble_eq_true rfl⟩ (fun u5 H locs hp5 hP hD hS => ?_)
        subst hp5
        have hP : kp g [X5W g oM rM (upd (upd vM 21 0) 16 0) (X5_sets_f (upd (upd vM 21 0) 16 0) aM62 x2_62 0 p0)] H := hP
        have hD : kd A [X5W g oM rM (upd (upd vM 21 0) 16 0) (X5_sets_f (upd (upd vM 21 0) 16 0) aM62 x2_62 0 p0)] := hD
        refine lv_aload_n hx hb dX5_bag_87 rfl (lv_at hl 2 rfl) ?_
        refine lv_iload_n hx hb dX5_bag_88 rfl (lv_at hl 1 rfl) ?_
        refine kM_V (As := [.int x2_62]) (rest := []) (wr := []) C (X5_keeps_c l g oM rM (upd (upd vM 21 0) 16 0) (X5_sets_f (upd (upd vM 21 0) 16 0) aM62 x2_62 0 p0) x2_62 (by first | assumption | exact k_vin hx62 (by omega) (by decide) | exact hu | exact hB5 | exact ⟨0, by omega, rfl⟩ | exact ⟨1, by omega, rfl⟩ | exact ⟨2, by omega, rfl⟩ | exact ⟨3, by omega, rfl⟩ | exact ⟨4, by omega, rfl⟩ | exact ⟨j62, by omega, hx62⟩)) (cwV 1 hts (k_gV kw1536 ca_X5_keeps) rfl rfl rfl ⟨rfl, pnX5_keeps⟩ ⟨Nat.le_of_ble_eq_true rfl, Nat.le_of_ble_eq_true rfl⟩) hE hS hA hP hD [0] [] rfl rfl ⟨rfl, rfl, by decide⟩ (k_recv C kFX5 hP (i := 0) (q := 0) rfl rfl) rfl hl.1 rfl rfl dX5_bag_89 ⟨Nat.le_of_ble_eq_true rfl, Nat.le_of_ble_eq_true rfl⟩ (fun r6 u6 H locs hp6 hP hD hS => ?_)
        obtain ⟨rfl, rfl⟩ := hp6
        have hP : kp g [X5W g oM rM ((X5_keeps_f (upd (upd vM 21 0) 16 0) (X5_sets_f (upd (upd vM 21 0) 16 0) aM62 x2_62 0 p0) x2_62).2.1) ((X5_keeps_f (upd (upd vM 21 0) 16 0) (X5_sets_f (upd (upd vM 21 0) 16 0) aM62 x2_62 0 p0) x2_62).2.2)] H := hP
        have hD : kd A [X5W g oM rM ((X5_keeps_f (upd (upd vM 21 0) 16 0) (X5_sets_f (upd (upd vM 21 0) 16 0) aM62 x2_62 0 p0) x2_62).2.1) ((X5_keeps_f (upd (upd vM 21 0) 16 0) (X5_sets_f (upd (upd vM 21 0) 16 0) aM62 x2_62 0 p0) x2_62).2.2)] := hD
        have hF := (show X5_bag_f vM aM p0 = ((X5_keeps_f (upd (upd vM 21 0) 16 0) (X5_sets_f (upd (upd vM 21 0) 16 0) aM62 x2_62 0 p0) x2_62).1, (X5_keeps_f (upd (upd vM 21 0) 16 0) (X5_sets_f (upd (upd vM 21 0) 16 0) aM62 x2_62 0 p0) x2_62).2.1, (X5_keeps_f (upd (upd vM 21 0) 16 0) (X5_sets_f (upd (upd vM 21 0) 16 0) aM62 x2_62 0 p0) x2_62).2.2) from hF62.trans ((X5_bag_lp62_s vM aM p0 n x2_62 x3_62 aM62).trans ((if_pos c4).trans (rfl))))
        exact kM_ret (x := (X5_keeps_f (upd (upd vM 21 0) 16 0) (X5_sets_f (upd (upd vM 21 0) 16 0) aM62 x2_62 0 p0) x2_62).1) C hP hD hS ⟨by rw [hF], by rw [hF]⟩ dX5_bag_92
      have hj62 := k_asc hx62 (y := 5) (N := 5) rfl hi62 (by omega) c4
      refine lv_aload_n hx hb dX5_bag_67 rfl (lv_at hl 2 rfl) ?_
      refine lv_iload_n hx hb dX5_bag_68 rfl (lv_at hl 1 rfl) ?_
      refine lv_iload_n hx hb dX5_bag_69 rfl (lv_at hl 0 rfl) ?_
      refine lv_iconst (v := 0) hx hb dX5_bag_70 (by decide) ?_
      refine kV_V (As := [.int x2_62, .int x3_62, .int 0]) (rest := []) (wr := []) C (X5_sets_c l g oM rM (upd (upd vM 21 0) 16 0) aM62 x2_62 x3_62 0 (by first | assumption | exact k_vin hx62 (by omega) (by decide) | exact hu | exact hB5 | exact ⟨0, by omega, rfl⟩ | exact ⟨1, by omega, rfl⟩ | exact ⟨2, by omega, rfl⟩ | exact ⟨3, by omega, rfl⟩ | exact ⟨4, by omega, rfl⟩ | exact ⟨j62, by omega, hx62⟩) (by first | assumption | exact k_vin hx62 (by omega) (by decide) | exact hu | exact hB5 | exact ⟨0, by omega, rfl⟩ | exact ⟨1, by omega, rfl⟩ | exact ⟨2, by omega, rfl⟩ | exact ⟨3, by omega, rfl⟩ | exact ⟨4, by omega, rfl⟩ | exact ⟨j62, by omega, hx62⟩)) (cwV 3 hts (k_gV kw1548 ca_X5_sets) rfl rfl rfl ⟨rfl, pnX5_sets⟩ ⟨Nat.le_of_ble_eq_true rfl, Nat.le_of_ble_eq_true rfl⟩) hE hS hA hP hD [0] [] rfl rfl ⟨rfl, rfl, by decide⟩ (k_recv C kFX5 hP (i := 0) (q := 0) rfl rfl) rfl hl.1 rfl rfl dX5_bag_71 ⟨Nat.le_of_ble_eq_true rfl, Nat.le_of_ble_eq_true rfl⟩ (fun u7 H locs hp7 hP hD hS => ?_)
      subst hp7
      have hP : kp g [X5W g oM rM (upd (upd vM 21 0) 16 0) (X5_sets_f (upd (upd vM 21 0) 16 0) aM62 x2_62 x3_62 0)] H := hP
      have hD : kd A [X5W g oM rM (upd (upd vM 21 0) 16 0) (X5_sets_f (upd (upd vM 21 0) 16 0) aM62 x2_62 x3_62 0)] := hD
      refine lv_iinc (v := (x3_62 + 1)) (lv' := [(3, .int (x3_62 + 1)), (2, .int x2_62), (0, .ref oM), (1, .int p0)]) hx hb dX5_bag_74 hl (k := 0) rfl rfl (by decide) rfl (fun ls hl => ?_)
      refine lv_goto (tgt := 62) hx hb dX5_bag_77 (by decide) ?_
      exact ih62 (j62 + 1) x2_62 (x3_62 + 1) (X5_sets_f (upd (upd vM 21 0) 16 0) aM62 x2_62 x3_62 0) _ _ ls hj62 (by omega) (k_up hx62) hb62 (show X5_bag_f vM aM p0 = X5_bag_lp62 vM aM p0 n x2_62 (x3_62 + 1) (X5_sets_f (upd (upd vM 21 0) 16 0) aM62 x2_62 x3_62 0) from hF62.trans ((X5_bag_lp62_s vM aM p0 n x2_62 x3_62 aM62).trans ((if_neg c4).trans (rfl)))) hP hD hS (lv_sub hl [0, 1, 2, 3] rfl)
  refine lv_aload_n hx hb dX5_bag_0 rfl (lv_at hl 0 rfl) ?_
  refine kV_V (As := []) (rest := []) (wr := []) C (X5_tries_c l g oM rM vM aM) (cwV 0 hts (k_gV kw1521 ca_X5_tries) rfl rfl rfl ⟨rfl, pnX5_tries⟩ ⟨Nat.le_of_ble_eq_true rfl, Nat.le_of_ble_eq_true rfl⟩) hE hS hA hP hD [0] [] rfl rfl ⟨rfl, rfl, by decide⟩ (k_recv C kFX5 hP (i := 0) (q := 0) rfl rfl) rfl hl.1 rfl rfl dX5_bag_1 ⟨Nat.le_of_ble_eq_true rfl, Nat.le_of_ble_eq_true rfl⟩ (fun u1 H locs eu1 hP hD hS => ?_)
  have eu1 : u1 = [X5W g oM rM (upd (upd vM 21 0) 16 0) (va_up aM 1 (k_cpy 0 64 (aM 0) (aM 1)))] := eu1.trans (by rw [X5_tries_eq])
  subst eu1
  have hP : kp g [X5W g oM rM (upd (upd vM 21 0) 16 0) (va_up aM 1 (k_cpy 0 64 (aM 0) (aM 1)))] H := hP
  have hD : kd A [X5W g oM rM (upd (upd vM 21 0) 16 0) (va_up aM 1 (k_cpy 0 64 (aM 0) (aM 1)))] := hD
  refine lv_iload_n hx hb dX5_bag_4 rfl (lv_at hl 1 rfl) ?_
  refine lv_iconst (v := 5) hx hb dX5_bag_5 (by decide) ?_
  refine lv_bipush (v := 50) hx hb dX5_bag_6 (by decide) ?_
  refine kR_S (As := [.int p0, .int 5, .int 50]) (rest := []) C (X5_in_c l g p0 5 50) (va_cwS 3 hts (k_gS kw1525 cs_X5_in) rfl rfl rfl pnX5_in ⟨Nat.le_of_ble_eq_true rfl, Nat.le_of_ble_eq_true rfl⟩) hE hS (hP.pick [] rfl) rfl hl.1 rfl rfl dX5_bag_8 ⟨Nat.le_of_ble_eq_true rfl, Nat.le_of_ble_eq_true rfl⟩ ?_
  refine lv_if_ne (tgt := 25) hx hb dX5_bag_11 (by decide) (fun c2 => ?_) (fun c2 => ?_)
  · have c2 := b2i_ne0 c2
    refine lv_aload_n hx hb dX5_bag_25 rfl (lv_at hl 0 rfl) ?_
    refine kg_get C kFX5 (k := 0) kw1446 hP (i := 0) (q := 0) rfl rfl (by decide) rfl dX5_bag_26 ?_
    refine lv_iconst (v := 5) hx hb dX5_bag_29 (by decide) ?_
    refine kg_ialdK C hP (i := 0) (q := 1) rfl rfl (j := 5) rfl (k_vin (j := 5) rfl (by decide) (by decide)) dX5_bag_30 ?_
    refine lv_istore_n (lv' := [(2, .int ((aM 0) 5)), (0, .ref oM), (1, .int p0)]) hx hb dX5_bag_31 rfl hl (by decide) rfl (fun ls hl => ?_)
    refine lv_iload_n hx hb dX5_bag_32 rfl (lv_at hl 0 rfl) ?_
    refine lv_bipush (v := 6) hx hb dX5_bag_33 (by decide) ?_
    refine lv_icmp_ne (tgt := 50) hx hb dX5_bag_35 (by decide) (fun c3 => ?_) (fun c3 => ?_)
    · have z1 := k_n6 hB5 c3
      refine lv_aload_n hx hb dX5_bag_50 rfl (lv_at hl 1 rfl) ?_
      refine kg_get C kFX5 (k := 0) kw1446 hP (i := 0) (q := 0) rfl rfl (by decide) rfl dX5_bag_51 ?_
      refine lv_iconst (v := 5) hx hb dX5_bag_54 (by decide) ?_
      refine lv_dup2_11 hx hb dX5_bag_55 rfl rfl ?_
      refine kg_ialdK C hP (i := 0) (q := 1) rfl rfl (j := 5) rfl (k_vin (j := 5) rfl (by decide) (by decide)) dX5_bag_56 ?_
      refine lv_iconst (v := 1) hx hb dX5_bag_57 (by decide) ?_
      refine lv_iadd hx hb dX5_bag_58 ?_
      refine kg_iastK C hP hD hS (i := 0) (q := 1) rfl rfl (j := 5) rfl (k_vin (j := 5) rfl (by decide) (by decide)) X5t_0 rfl dX5_bag_59 (fun H locs hP hD hS => ?_)
      have hP : kp g [X5W g oM rM (upd (upd vM 21 0) 16 0) (va_up (va_up aM 1 (k_cpy 0 64 (aM 0) (aM 1))) 0 (upd (aM 0) 5 (((aM 0) 5) + 1)))] H := hP
      have hD : kd A [X5W g oM rM (upd (upd vM 21 0) 16 0) (va_up (va_up aM 1 (k_cpy 0 64 (aM 0) (aM 1))) 0 (upd (aM 0) 5 (((aM 0) 5) + 1)))] := hD
      refine lv_iconst (v := 0) hx hb dX5_bag_60 (by decide) ?_
      refine lv_istore_n (lv' := [(3, .int 0), (2, .int ((aM 0) 5)), (0, .ref oM), (1, .int p0)]) hx hb dX5_bag_61 rfl hl (by decide) rfl (fun ls hl => ?_)
      exact loop62 6 0 ((aM 0) 5) 0 (va_up (va_up aM 1 (k_cpy 0 64 (aM 0) (aM 1))) 0 (upd (aM 0) 5 (((aM 0) 5) + 1))) _ _ ls (by omega) (by omega) rfl z1 (show X5_bag_f vM aM p0 = X5_bag_lp62 vM aM p0 6 ((aM 0) 5) 0 (va_up (va_up aM 1 (k_cpy 0 64 (aM 0) (aM 1))) 0 (upd (aM 0) 5 (((aM 0) 5) + 1))) from (if_pos c2).trans ((if_neg c3).trans (rfl))) hP hD hS (lv_sub hl [0, 1, 2, 3] rfl)
    refine lv_aload_n hx hb dX5_bag_38 rfl (lv_at hl 1 rfl) ?_
    refine lv_aload_n hx hb dX5_bag_39 rfl (lv_at hl 1 rfl) ?_
    refine lv_iconst (v := 2) hx hb dX5_bag_40 (by decide) ?_
    refine lv_bipush (v := 6) hx hb dX5_bag_41 (by decide) ?_
    refine kM_V (As := [.int 2, .int 6]) (rest := [.ref oM]) (wr := []) C (X5_refuses_c l g oM rM (upd (upd vM 21 0) 16 0) (va_up aM 1 (k_cpy 0 64 (aM 0) (aM 1))) 2 6) (cwV 2 hts (k_gV kw1528 ca_X5_refuses) rfl rfl rfl ⟨rfl, pnX5_refuses⟩ ⟨Nat.le_of_ble_eq_true rfl, Nat.le_of_ble_eq_true rfl⟩) hE hS hA hP hD [0] [] rfl rfl ⟨rfl, rfl, by decide⟩ (k_recv C kFX5 hP (i := 0) (q := 0) rfl rfl) rfl hl.1 rfl rfl dX5_bag_43 ⟨Nat.le_of_ble_eq_true rfl, Nat.le_of_ble_eq_true rfl⟩ (fun r8 u8 H locs hp8 hP hD hS => ?_)
    obtain ⟨er8, eu8⟩ := hp8
    have er8 : r8 = 0 := er8
    have eu8 : u8 = [X5W g oM rM (upd (upd (upd (upd (upd vM 21 0) 16 0) 14 2) 15 6) 17 0) (va_up aM 1 (k_cpy 0 64 (aM 0) (aM 1)))] := eu8
    subst er8 eu8
    have hP : kp g [X5W g oM rM (upd (upd (upd (upd (upd vM 21 0) 16 0) 14 2) 15 6) 17 0) (va_up aM 1 (k_cpy 0 64 (aM 0) (aM 1)))] H := hP
    have hD : kd A [X5W g oM rM (upd (upd (upd (upd (upd vM 21 0) 16 0) 14 2) 15 6) 17 0) (va_up aM 1 (k_cpy 0 64 (aM 0) (aM 1)))] := hD
    refine kM_V (As := [.int 0]) (rest := []) (wr := []) C (X5_ends_c l g oM rM (upd (upd (upd (upd (upd vM 21 0) 16 0) 14 2) 15 6) 17 0) (va_up aM 1 (k_cpy 0 64 (aM 0) (aM 1))) false (by first | assumption | exact hu | exact hB5 | exact ⟨0, by omega, rfl⟩ | exact ⟨1, by omega, rfl⟩ | exact ⟨2, by omega, rfl⟩ | exact ⟨3, by omega, rfl⟩ | exact ⟨4, by omega, rfl⟩)) (cwV 1 hts (k_gV kw1532 ca_X5_ends) rfl rfl rfl ⟨rfl, pnX5_ends⟩ ⟨Nat.le_of_ble_eq_true rfl, Nat.le_of_ble_eq_true rfl⟩) hE hS hA hP hD [0] [] rfl rfl ⟨rfl, rfl, by decide⟩ (k_recv C kFX5 hP (i := 0) (q := 0) rfl rfl) rfl hl.1 rfl rfl dX5_bag_46 ⟨Nat.le_of_ble_eq_true rfl, Nat.le_of_ble_eq_true rfl⟩ (fun r9 u9 H locs hp9 hP hD hS => ?_)
    obtain ⟨er9, eu9⟩ := hp9
    have er9 : r9 = 0 := er9
    have eu9 : u9 = [X5W g oM rM (upd (upd (upd (upd (upd (upd vM 21 0) 16 0) 14 2) 15 6) 17 0) 21 1) (va_up aM 1 (k_cpy 0 64 (aM 0) (aM 1)))] := eu9
    subst er9 eu9
    have hP : kp g [X5W g oM rM (upd (upd (upd (upd (upd (upd vM 21 0) 16 0) 14 2) 15 6) 17 0) 21 1) (va_up aM 1 (k_cpy 0 64 (aM 0) (aM 1)))] H := hP
    have hD : kd A [X5W g oM rM (upd (upd (upd (upd (upd (upd vM 21 0) 16 0) 14 2) 15 6) 17 0) 21 1) (va_up aM 1 (k_cpy 0 64 (aM 0) (aM 1)))] := hD
    have hF := (show X5_bag_f vM aM p0 = (0, upd (upd (upd (upd (upd (upd vM 21 0) 16 0) 14 2) 15 6) 17 0) 21 1, va_up aM 1 (k_cpy 0 64 (aM 0) (aM 1))) from (if_pos c2).trans ((if_pos c3).trans (rfl)))
    exact kM_ret (x := 0) C hP hD hS ⟨by rw [hF], by rw [hF]⟩ dX5_bag_49
  have c2 := b2i_eq0 c2
  refine lv_aload_n hx hb dX5_bag_14 rfl (lv_at hl 0 rfl) ?_
  refine lv_aload_n hx hb dX5_bag_15 rfl (lv_at hl 0 rfl) ?_
  refine lv_iconst (v := 1) hx hb dX5_bag_16 (by decide) ?_
  refine lv_iconst (v := 0) hx hb dX5_bag_17 (by decide) ?_
  refine kM_V (As := [.int 1, .int 0]) (rest := [.ref oM]) (wr := []) C (X5_refuses_c l g oM rM (upd (upd vM 21 0) 16 0) (va_up aM 1 (k_cpy 0 64 (aM 0) (aM 1))) 1 0) (cwV 2 hts (k_gV kw1528 ca_X5_refuses) rfl rfl rfl ⟨rfl, pnX5_refuses⟩ ⟨Nat.le_of_ble_eq_true rfl, Nat.le_of_ble_eq_true rfl⟩) hE hS hA hP hD [0] [] rfl rfl ⟨rfl, rfl, by decide⟩ (k_recv C kFX5 hP (i := 0) (q := 0) rfl rfl) rfl hl.1 rfl rfl dX5_bag_18 ⟨Nat.le_of_ble_eq_true rfl, Nat.le_of_ble_eq_true rfl⟩ (fun r10 u10 H locs hp10 hP hD hS => ?_)
  obtain ⟨er10, eu10⟩ := hp10
  have er10 : r10 = 0 := er10
  have eu10 : u10 = [X5W g oM rM (upd (upd (upd (upd (upd vM 21 0) 16 0) 14 1) 15 0) 17 0) (va_up aM 1 (k_cpy 0 64 (aM 0) (aM 1)))] := eu10
  subst er10 eu10
  have hP : kp g [X5W g oM rM (upd (upd (upd (upd (upd vM 21 0) 16 0) 14 1) 15 0) 17 0) (va_up aM 1 (k_cpy 0 64 (aM 0) (aM 1)))] H := hP
  have hD : kd A [X5W g oM rM (upd (upd (upd (upd (upd vM 21 0) 16 0) 14 1) 15 0) 17 0) (va_up aM 1 (k_cpy 0 64 (aM 0) (aM 1)))] := hD
  refine kM_V (As := [.int 0]) (rest := []) (wr := []) C (X5_ends_c l g oM rM (upd (upd (upd (upd (upd vM 21 0) 16 0) 14 1) 15 0) 17 0) (va_up aM 1 (k_cpy 0 64 (aM 0) (aM 1))) false (by first | assumption | exact hu | exact hB5 | exact ⟨0, by omega, rfl⟩ | exact ⟨1, by omega, rfl⟩ | exact ⟨2, by omega, rfl⟩ | exact ⟨3, by omega, rfl⟩ | exact ⟨4, by omega, rfl⟩)) (cwV 1 hts (k_gV kw1532 ca_X5_ends) rfl rfl rfl ⟨rfl, pnX5_ends⟩ ⟨Nat.le_of_ble_eq_true rfl, Nat.le_of_ble_eq_true rfl⟩) hE hS hA hP hD [0] [] rfl rfl ⟨rfl, rfl, by decide⟩ (k_recv C kFX5 hP (i := 0) (q := 0) rfl rfl) rfl hl.1 rfl rfl dX5_bag_21 ⟨Nat.le_of_ble_eq_true rfl, Nat.le_of_ble_eq_true rfl⟩ (fun r11 u11 H locs hp11 hP hD hS => ?_)
  obtain ⟨er11, eu11⟩ := hp11
  have er11 : r11 = 0 := er11
  have eu11 : u11 = [X5W g oM rM (upd (upd (upd (upd (upd (upd vM 21 0) 16 0) 14 1) 15 0) 17 0) 21 1) (va_up aM 1 (k_cpy 0 64 (aM 0) (aM 1)))] := eu11
  subst er11 eu11
  have hP : kp g [X5W g oM rM (upd (upd (upd (upd (upd (upd vM 21 0) 16 0) 14 1) 15 0) 17 0) 21 1) (va_up aM 1 (k_cpy 0 64 (aM 0) (aM 1)))] H := hP
  have hD : kd A [X5W g oM rM (upd (upd (upd (upd (upd (upd vM 21 0) 16 0) 14 1) 15 0) 17 0) 21 1) (va_up aM 1 (k_cpy 0 64 (aM 0) (aM 1)))] := hD
  have hF := (show X5_bag_f vM aM p0 = (0, upd (upd (upd (upd (upd (upd vM 21 0) 16 0) 14 1) 15 0) 17 0) 21 1, va_up aM 1 (k_cpy 0 64 (aM 0) (aM 1))) from (if_neg c2).trans (rfl))
  exact kM_ret (x := 0) C hP hD hS ⟨by rw [hF], by rw [hF]⟩ dX5_bag_24

theorem pnX5_does : yX5_does.cls ≠ "java/lang/invoke/MethodHandle" ∧ yX5_does.cls ≠ "java/lang/invoke/VarHandle" ∧ (parseMethodDescriptor yX5_does.desc).map (fun d => d.parameters.length) = some 1 := by decide +kernel
theorem ca_X5_does : kCal yX5_does (Cond.code yX5_does cX5_does 2 (some .boolean)) := ⟨k_w 8 28 rfl rfl, k_w 1 72 rfl rfl, k_w 2 10 rfl rfl, k_w 8 29 rfl rfl⟩

theorem pnX5_isBag : yX5_isBag.cls ≠ "java/lang/invoke/MethodHandle" ∧ yX5_isBag.cls ≠ "java/lang/invoke/VarHandle" ∧ (parseMethodDescriptor yX5_isBag.desc).map (fun d => d.parameters.length) = some 1 := by decide +kernel
theorem ca_X5_isBag : kCal yX5_isBag (Cond.code yX5_isBag cX5_isBag 2 (some .boolean)) := ⟨k_w 8 16 rfl rfl, k_w 1 69 rfl rfl, k_w 2 10 rfl rfl, k_w 8 17 rfl rfl⟩

theorem pnX5_isJar : yX5_isJar.cls ≠ "java/lang/invoke/MethodHandle" ∧ yX5_isJar.cls ≠ "java/lang/invoke/VarHandle" ∧ (parseMethodDescriptor yX5_isJar.desc).map (fun d => d.parameters.length) = some 1 := by decide +kernel
theorem ca_X5_isJar : kCal yX5_isJar (Cond.code yX5_isJar cX5_isJar 2 (some .boolean)) := ⟨k_w 8 20 rfl rfl, k_w 1 70 rfl rfl, k_w 2 10 rfl rfl, k_w 8 21 rfl rfl⟩

abbrev wX5_fills : List Cond := Cond.code yX5_fills cX5_fills 5 (some .boolean) :: kW
def X5_fills_f (vM : Nat → Int32) (aM : Nat → Nat → Int32) (p0 : Int32) (p1 : Int32) (p2 : Int32) : Bool × (Nat → Int32) × (Nat → Nat → Int32) :=
  if (X5_isBag_f vM aM p0) = true then (if (X5_isJar_f vM aM p1) = true then (if (X5_in_f p2 1 400) = true then (if (X5_of_f vM aM p0 3) ≤ 0 then (if p2 ≤ ((aM 0) ((22 + (2 * p1)) + 1).toNatClampNeg) then (if ((X5_of_f vM aM p0 3) + p2) ≤ 400 then (true, upd vM 18 (X5_of_f vM (X5_sets_f vM (X5_sets_f vM (va_up aM 0 (upd (aM 0) (((22 + (2 * p1)) + 1).toNatClampNeg) (((aM 0) ((22 + (2 * p1)) + 1).toNatClampNeg) - p2))) p0 2 (((upd (aM 0) (((22 + (2 * p1)) + 1).toNatClampNeg) (((aM 0) ((22 + (2 * p1)) + 1).toNatClampNeg) - p2)) (22 + (2 * p1)).toNatClampNeg) + 1)) p0 3 ((X5_of_f vM (X5_sets_f vM (va_up aM 0 (upd (aM 0) (((22 + (2 * p1)) + 1).toNatClampNeg) (((aM 0) ((22 + (2 * p1)) + 1).toNatClampNeg) - p2))) p0 2 (((upd (aM 0) (((22 + (2 * p1)) + 1).toNatClampNeg) (((aM 0) ((22 + (2 * p1)) + 1).toNatClampNeg) - p2)) (22 + (2 * p1)).toNatClampNeg) + 1)) p0 3) + p2)) p0 3), (X5_sets_f vM (X5_sets_f vM (va_up aM 0 (upd (aM 0) (((22 + (2 * p1)) + 1).toNatClampNeg) (((aM 0) ((22 + (2 * p1)) + 1).toNatClampNeg) - p2))) p0 2 (((upd (aM 0) (((22 + (2 * p1)) + 1).toNatClampNeg) (((aM 0) ((22 + (2 * p1)) + 1).toNatClampNeg) - p2)) (22 + (2 * p1)).toNatClampNeg) + 1)) p0 3 ((X5_of_f vM (X5_sets_f vM (va_up aM 0 (upd (aM 0) (((22 + (2 * p1)) + 1).toNatClampNeg) (((aM 0) ((22 + (2 * p1)) + 1).toNatClampNeg) - p2))) p0 2 (((upd (aM 0) (((22 + (2 * p1)) + 1).toNatClampNeg) (((aM 0) ((22 + (2 * p1)) + 1).toNatClampNeg) - p2)) (22 + (2 * p1)).toNatClampNeg) + 1)) p0 3) + p2)))
            else (false, upd (upd (upd vM 14 7) 15 (400 - (X5_of_f vM aM p0 3))) 17 (vM 16), aM))
          else (false, upd (upd (upd vM 14 5) 15 ((aM 0) ((22 + (2 * p1)) + 1).toNatClampNeg)) 17 (vM 16), aM))
        else if ((X5_of_f vM aM p0 2) - 1) = ((aM 0) (22 + (2 * p1)).toNatClampNeg) then (if p2 ≤ ((aM 0) ((22 + (2 * p1)) + 1).toNatClampNeg) then (if ((X5_of_f vM aM p0 3) + p2) ≤ 400 then (true, upd vM 18 (X5_of_f vM (X5_sets_f vM (X5_sets_f vM (va_up aM 0 (upd (aM 0) (((22 + (2 * p1)) + 1).toNatClampNeg) (((aM 0) ((22 + (2 * p1)) + 1).toNatClampNeg) - p2))) p0 2 (((upd (aM 0) (((22 + (2 * p1)) + 1).toNatClampNeg) (((aM 0) ((22 + (2 * p1)) + 1).toNatClampNeg) - p2)) (22 + (2 * p1)).toNatClampNeg) + 1)) p0 3 ((X5_of_f vM (X5_sets_f vM (va_up aM 0 (upd (aM 0) (((22 + (2 * p1)) + 1).toNatClampNeg) (((aM 0) ((22 + (2 * p1)) + 1).toNatClampNeg) - p2))) p0 2 (((upd (aM 0) (((22 + (2 * p1)) + 1).toNatClampNeg) (((aM 0) ((22 + (2 * p1)) + 1).toNatClampNeg) - p2)) (22 + (2 * p1)).toNatClampNeg) + 1)) p0 3) + p2)) p0 3), (X5_sets_f vM (X5_sets_f vM (va_up aM 0 (upd (aM 0) (((22 + (2 * p1)) + 1).toNatClampNeg) (((aM 0) ((22 + (2 * p1)) + 1).toNatClampNeg) - p2))) p0 2 (((upd (aM 0) (((22 + (2 * p1)) + 1).toNatClampNeg) (((aM 0) ((22 + (2 * p1)) + 1).toNatClampNeg) - p2)) (22 + (2 * p1)).toNatClampNeg) + 1)) p0 3 ((X5_of_f vM (X5_sets_f vM (va_up aM 0 (upd (aM 0) (((22 + (2 * p1)) + 1).toNatClampNeg) (((aM 0) ((22 + (2 * p1)) + 1).toNatClampNeg) - p2))) p0 2 (((upd (aM 0) (((22 + (2 * p1)) + 1).toNatClampNeg) (((aM 0) ((22 + (2 * p1)) + 1).toNatClampNeg) - p2)) (22 + (2 * p1)).toNatClampNeg) + 1)) p0 3) + p2)))
            else (false, upd (upd (upd vM 14 7) 15 (400 - (X5_of_f vM aM p0 3))) 17 (vM 16), aM))
          else (false, upd (upd (upd vM 14 5) 15 ((aM 0) ((22 + (2 * p1)) + 1).toNatClampNeg)) 17 (vM 16), aM))
        else (false, upd (upd (upd vM 14 4) 15 ((X5_of_f vM aM p0 2) - 1)) 17 (vM 16), aM))
      else (false, upd (upd (upd vM 14 1) 15 0) 17 (vM 16), aM))
    else (false, upd (upd (upd vM 14 3) 15 p1) 17 (vM 16), aM))
  else (false, upd (upd (upd vM 14 3) 15 p0) 17 (vM 16), aM)
set_option maxHeartbeats 4000000 in
set_option maxRecDepth 100000 in
theorem X5_fills_c (l : Launch) (g : kG) (oM : Nat) (rM : Nat → Nat) (vM : Nat → Int32) (aM : Nat → Nat → Int32) (p0 : Int32) (p1 : Int32) (p2 : Int32) (hB5 : (∃ n : Nat, n ≤ 6 ∧ aM 0 5 = nI n)) (hJ5 : (∃ n : Nat, n ≤ 6 ∧ aM 0 4 = nI n)) : kM l yX5_fills wX5_fills 2 43 0 0 g [.ref oM, .int p0, .int p1, .int p2] [X5W g oM rM vM aM] (fun x u => x = b2i (X5_fills_f vM aM p0 p1 p2).1 ∧ u = [X5W g oM rM ((X5_fills_f vM aM p0 p1 p2).2.1) ((X5_fills_f vM aM p0 p1 p2).2.2)]) := by
  refine kM_of (cc := cX5_fills) (nL := 5) (ret := (some .boolean)) (lv := [(0, .ref oM), (1, .int p0), (2, .int p1), (3, .int p2)]) (by decide) rfl (Nat.le_of_ble_eq_true rfl) rfl ?_
  intro p e s m args below meth c ls A C hP hD hE hA hS hl
  have C : kC p c cX5_fills s m args meth RX5 g 5 (some .boolean) := C
  have hx := C.1.1
  have hb := C.1.2.1
  have hts := C.1.2.2.2.2
  refine lv_aload_n hx hb dX5_fills_0 rfl (lv_at hl 0 rfl) ?_
  refine lv_iload_n hx hb dX5_fills_1 rfl (lv_at hl 1 rfl) ?_
  refine kR_V (As := [.int p0]) (rest := []) C (X5_isBag_c l g oM rM vM aM p0) (cwV 1 hts (k_gV kw1560 ca_X5_isBag) rfl rfl rfl ⟨rfl, pnX5_isBag⟩ ⟨Nat.le_of_ble_eq_true rfl, Nat.le_of_ble_eq_true rfl⟩) hE hS (hP.pick [0] rfl) (k_recv C kFX5 hP (i := 0) (q := 0) rfl rfl) rfl hl.1 rfl rfl dX5_fills_2 ⟨Nat.le_of_ble_eq_true rfl, Nat.le_of_ble_eq_true rfl⟩ ?_
  refine lv_if_ne (tgt := 15) hx hb dX5_fills_5 (by decide) (fun c1 => ?_) (fun c1 => ?_)
  · have c1 := b2i_ne0 c1
    have z1 := k_isBag c1 hB5
    refine lv_aload_n hx hb dX5_fills_15 rfl (lv_at hl 0 rfl) ?_
    refine lv_iload_n hx hb dX5_fills_16 rfl (lv_at hl 2 rfl) ?_
    refine kR_V (As := [.int p1]) (rest := []) C (X5_isJar_c l g oM rM vM aM p1) (cwV 1 hts (k_gV kw1564 ca_X5_isJar) rfl rfl rfl ⟨rfl, pnX5_isJar⟩ ⟨Nat.le_of_ble_eq_true rfl, Nat.le_of_ble_eq_true rfl⟩) hE hS (hP.pick [0] rfl) (k_recv C kFX5 hP (i := 0) (q := 0) rfl rfl) rfl hl.1 rfl rfl dX5_fills_17 ⟨Nat.le_of_ble_eq_true rfl, Nat.le_of_ble_eq_true rfl⟩ ?_
    refine lv_if_ne (tgt := 30) hx hb dX5_fills_20 (by decide) (fun c2 => ?_) (fun c2 => ?_)
    · have c2 := b2i_ne0 c2
      have z2 := k_isJar c2 hJ5
      refine lv_iload_n hx hb dX5_fills_30 rfl (lv_at hl 3 rfl) ?_
      refine lv_iconst (v := 1) hx hb dX5_fills_31 (by decide) ?_
      refine lv_sipush (v := 400) hx hb dX5_fills_32 (by decide) ?_
      refine kR_S (As := [.int p2, .int 1, .int 400]) (rest := []) C (X5_in_c l g p2 1 400) (va_cwS 3 hts (k_gS kw1525 cs_X5_in) rfl rfl rfl pnX5_in ⟨Nat.le_of_ble_eq_true rfl, Nat.le_of_ble_eq_true rfl⟩) hE hS (hP.pick [] rfl) rfl hl.1 rfl rfl dX5_fills_35 ⟨Nat.le_of_ble_eq_true rfl, Nat.le_of_ble_eq_true rfl⟩ ?_
      refine lv_if_ne (tgt := 48) hx hb dX5_fills_38 (by decide) (fun c3 => ?_) (fun c3 => ?_)
      · have c3 := b2i_ne0 c3
        refine lv_bipush (v := 22) hx hb dX5_fills_48 (by decide) ?_
        refine lv_iconst (v := 2) hx hb dX5_fills_50 (by decide) ?_
        refine lv_iload_n hx hb dX5_fills_51 rfl (lv_at hl 2 rfl) ?_
        refine lv_imul hx hb dX5_fills_52 ?_
        refine lv_iadd hx hb dX5_fills_53 ?_
        refine lv_istore (lv' := [(4, .int (22 + (2 * p1))), (0, .ref oM), (1, .int p0), (2, .int p1), (3, .int p2)]) hx hb dX5_fills_54 hl (by decide) rfl (fun ls hl => ?_)
        refine lv_aload_n hx hb dX5_fills_56 rfl (lv_at hl 1 rfl) ?_
        refine lv_iload_n hx hb dX5_fills_57 rfl (lv_at hl 2 rfl) ?_
        refine lv_iconst (v := 3) hx hb dX5_fills_58 (by decide) ?_
        refine kR_V (As := [.int p0, .int 3]) (rest := []) C (X5_of_c l g oM rM vM aM p0 3 (by first | assumption | exact hB5 | exact hJ5 | exact ⟨0, by omega, rfl⟩ | exact ⟨1, by omega, rfl⟩ | exact ⟨2, by omega, rfl⟩ | exact ⟨3, by omega, rfl⟩ | exact ⟨4, by omega, rfl⟩) (by first | assumption | exact hB5 | exact hJ5 | exact ⟨0, by omega, rfl⟩ | exact ⟨1, by omega, rfl⟩ | exact ⟨2, by omega, rfl⟩ | exact ⟨3, by omega, rfl⟩ | exact ⟨4, by omega, rfl⟩)) (cwV 2 hts (k_gV kw1568 ca_X5_of) rfl rfl rfl ⟨rfl, pnX5_of⟩ ⟨Nat.le_of_ble_eq_true rfl, Nat.le_of_ble_eq_true rfl⟩) hE hS (hP.pick [0] rfl) (k_recv C kFX5 hP (i := 0) (q := 0) rfl rfl) rfl hl.1 rfl rfl dX5_fills_59 ⟨Nat.le_of_ble_eq_true rfl, Nat.le_of_ble_eq_true rfl⟩ ?_
        refine lv_if_le (tgt := 97) hx hb dX5_fills_62 (by decide) (fun c4 => ?_) (fun c4 => ?_)
        · refine lv_aload_n hx hb dX5_fills_97 rfl (lv_at hl 1 rfl) ?_
          refine kg_get C kFX5 (k := 0) kw1446 hP (i := 0) (q := 0) rfl rfl (by decide) rfl dX5_fills_98 ?_
          refine lv_iload hx hb dX5_fills_101 (lv_at hl 0 rfl) ?_
          refine lv_iconst (v := 1) hx hb dX5_fills_103 (by decide) ?_
          refine lv_iadd hx hb dX5_fills_104 ?_
          refine kg_iald C hP (i := 0) (q := 1) rfl rfl (k_jix1 z2) dX5_fills_105 ?_
          refine lv_iload_n hx hb dX5_fills_106 rfl (lv_at hl 4 rfl) ?_
          refine lv_icmp_ge (tgt := 125) hx hb dX5_fills_107 (by decide) (fun c5 => ?_) (fun c5 => ?_)
          · refine lv_aload_n hx hb dX5_fills_125 rfl (lv_at hl 1 rfl) ?_
            refine lv_iload_n hx hb dX5_fills_126 rfl (lv_at hl 2 rfl) ?_
            refine lv_iconst (v := 3) hx hb dX5_fills_127 (by decide) ?_
            refine kR_V (As := [.int p0, .int 3]) (rest := []) C (X5_of_c l g oM rM vM aM p0 3 (by first | assumption | exact hB5 | exact hJ5 | exact ⟨0, by omega, rfl⟩ | exact ⟨1, by omega, rfl⟩ | exact ⟨2, by omega, rfl⟩ | exact ⟨3, by omega, rfl⟩ | exact ⟨4, by omega, rfl⟩) (by first | assumption | exact hB5 | exact hJ5 | exact ⟨0, by omega, rfl⟩ | exact ⟨1, by omega, rfl⟩ | exact ⟨2, by omega, rfl⟩ | exact ⟨3, by omega, rfl⟩ | exact ⟨4, by omega, rfl⟩)) (cwV 2 hts (k_gV kw1568 ca_X5_of) rfl rfl rfl ⟨rfl, pnX5_of⟩ ⟨Nat.le_of_ble_eq_true rfl, Nat.le_of_ble_eq_true rfl⟩) hE hS (hP.pick [0] rfl) (k_recv C kFX5 hP (i := 0) (q := 0) rfl rfl) rfl hl.1 rfl rfl dX5_fills_128 ⟨Nat.le_of_ble_eq_true rfl, Nat.le_of_ble_eq_true rfl⟩ ?_
            refine lv_iload_n hx hb dX5_fills_131 rfl (lv_at hl 4 rfl) ?_
            refine lv_iadd hx hb dX5_fills_132 ?_
            refine lv_sipush (v := 400) hx hb dX5_fills_133 (by decide) ?_
            refine lv_icmp_le (tgt := 156) hx hb dX5_fills_136 (by decide) (fun c6 => ?_) (fun c6 => ?_)
            · refine lv_aload_n hx hb dX5_fills_156 rfl (lv_at hl 1 rfl) ?_
              refine kg_get C kFX5 (k := 0) kw1446 hP (i := 0) (q := 0) rfl rfl (by decide) rfl dX5_fills_157 ?_
              refine lv_iload hx hb dX5_fills_160 (lv_at hl 0 rfl) ?_
              refine lv_iconst (v := 1) hx hb dX5_fills_162 (by decide) ?_
              refine lv_iadd hx hb dX5_fills_163 ?_
              refine lv_dup2_11 hx hb dX5_fills_164 rfl rfl ?_
              refine kg_iald C hP (i := 0) (q := 1) rfl rfl (k_jix1 z2) dX5_fills_165 ?_
              refine lv_iload_n hx hb dX5_fills_166 rfl (lv_at hl 4 rfl) ?_
              refine lv_isub hx hb dX5_fills_167 ?_
              refine kg_iast C hP hD hS (i := 0) (q := 1) rfl rfl (k_jix1 z2) X5t_0 rfl dX5_fills_168 (fun H locs hP hD hS => ?_)
              have hP : kp g [X5W g oM rM vM (va_up aM 0 (upd (aM 0) (((22 + (2 * p1)) + 1).toNatClampNeg) (((aM 0) ((22 + (2 * p1)) + 1).toNatClampNeg) - p2)))] H := hP
              have hD : kd A [X5W g oM rM vM (va_up aM 0 (upd (aM 0) (((22 + (2 * p1)) + 1).toNatClampNeg) (((aM 0) ((22 + (2 * p1)) + 1).toNatClampNeg) - p2)))] := hD
              refine lv_aload_n hx hb dX5_fills_169 rfl (lv_at hl 1 rfl) ?_
              refine lv_iload_n hx hb dX5_fills_170 rfl (lv_at hl 2 rfl) ?_
              refine lv_iconst (v := 2) hx hb dX5_fills_171 (by decide) ?_
              refine lv_aload_n hx hb dX5_fills_172 rfl (lv_at hl 1 rfl) ?_
              refine kg_get C kFX5 (k := 0) kw1446 hP (i := 0) (q := 0) rfl rfl (by decide) rfl dX5_fills_173 ?_
              refine lv_iload hx hb dX5_fills_176 (lv_at hl 0 rfl) ?_
              refine kg_iald C hP (i := 0) (q := 1) rfl rfl (k_jix z2) dX5_fills_178 ?_
              refine lv_iconst (v := 1) hx hb dX5_fills_179 (by decide) ?_
              refine lv_iadd hx hb dX5_fills_180 ?_
              refine kV_V (As := [.int p0, .int 2, .int (((upd (aM 0) (((22 + (2 * p1)) + 1).toNatClampNeg) (((aM 0) ((22 + (2 * p1)) + 1).toNatClampNeg) - p2)) (22 + (2 * p1)).toNatClampNeg) + 1)]) (rest := []) (wr := []) C (X5_sets_c l g oM rM vM (va_up aM 0 (upd (aM 0) (((22 + (2 * p1)) + 1).toNatClampNeg) (((aM 0) ((22 + (2 * p1)) + 1).toNatClampNeg) - p2))) p0 2 (((upd (aM 0) (((22 + (2 * p1)) + 1).toNatClampNeg) (((aM 0) ((22 + (2 * p1)) + 1).toNatClampNeg) - p2)) (22 + (2 * p1)).toNatClampNeg) + 1) (by first | assumption | exact hB5 | exact hJ5 | exact ⟨0, by omega, rfl⟩ | exact ⟨1, by omega, rfl⟩ | exact ⟨2, by omega, rfl⟩ | exact ⟨3, by omega, rfl⟩ | exact ⟨4, by omega, rfl⟩) (by first | assumption | exact hB5 | exact hJ5 | exact ⟨0, by omega, rfl⟩ | exact ⟨1, by omega, rfl⟩ | exact ⟨2, by omega, rfl⟩ | exact ⟨3, by omega, rfl⟩ | exact ⟨4, by omega, rfl⟩)) (cwV 3 hts (k_gV kw1548 ca_X5_sets) rfl rfl rfl ⟨rfl, pnX5_sets⟩ ⟨Nat.le_of_ble_eq_true rfl, Nat.le_of_ble_eq_true rfl⟩) hE hS hA hP hD [0] [] rfl rfl ⟨rfl, rfl, by decide⟩ (k_recv C kFX5 hP (i := 0) (q := 0) rfl rfl) rfl hl.1 rfl rfl dX5_fills_181 ⟨Nat.le_of_ble_eq_true rfl, Nat.le_of_ble_eq_true rfl⟩ (fun u7 H locs hp7 hP hD hS => ?_)
              subst hp7
              have hP : kp g [X5W g oM rM vM (X5_sets_f vM (va_up aM 0 (upd (aM 0) (((22 + (2 * p1)) + 1).toNatClampNeg) (((aM 0) ((22 + (2 * p1)) + 1).toNatClampNeg) - p2))) p0 2 (((upd (aM 0) (((22 + (2 * p1)) + 1).toNatClampNeg) (((aM 0) ((22 + (2 * p1)) + 1).toNatClampNeg) - p2)) (22 + (2 * p1)).toNatClampNeg) + 1))] H := hP
              have hD : kd A [X5W g oM rM vM (X5_sets_f vM (va_up aM 0 (upd (aM 0) (((22 + (2 * p1)) + 1).toNatClampNeg) (((aM 0) ((22 + (2 * p1)) + 1).toNatClampNeg) - p2))) p0 2 (((upd (aM 0) (((22 + (2 * p1)) + 1).toNatClampNeg) (((aM 0) ((22 + (2 * p1)) + 1).toNatClampNeg) - p2)) (22 + (2 * p1)).toNatClampNeg) + 1))] := hD
              refine lv_aload_n hx hb dX5_fills_184 rfl (lv_at hl 1 rfl) ?_
              refine lv_iload_n hx hb dX5_fills_185 rfl (lv_at hl 2 rfl) ?_
              refine lv_iconst (v := 3) hx hb dX5_fills_186 (by decide) ?_
              refine lv_aload_n hx hb dX5_fills_187 rfl (lv_at hl 1 rfl) ?_
              refine lv_iload_n hx hb dX5_fills_188 rfl (lv_at hl 2 rfl) ?_
              refine lv_iconst (v := 3) hx hb dX5_fills_189 (by decide) ?_
              refine kR_V (As := [.int p0, .int 3]) (rest := [.int 3, .int p0, .ref oM]) C (X5_of_c l g oM rM vM (X5_sets_f vM (va_up aM 0 (upd (aM 0) (((22 + (2 * p1)) + 1).toNatClampNeg) (((aM 0) ((22 + (2 * p1)) + 1).toNatClampNeg) - p2))) p0 2 (((upd (aM 0) (((22 + (2 * p1)) + 1).toNatClampNeg) (((aM 0) ((22 + (2 * p1)) + 1).toNatClampNeg) - p2)) (22 + (2 * p1)).toNatClampNeg) + 1)) p0 3 (by first | assumption | exact hB5 | exact hJ5 | exact ⟨0, by omega, rfl⟩ | exact ⟨1, by omega, rfl⟩ | exact ⟨2, by omega, rfl⟩ | exact ⟨3, by omega, rfl⟩ | exact ⟨4, by omega, rfl⟩) (by first | assumption | exact hB5 | exact hJ5 | exact ⟨0, by omega, rfl⟩ | exact ⟨1, by omega, rfl⟩ | exact ⟨2, by omega, rfl⟩ | exact ⟨3, by omega, rfl⟩ | exact ⟨4, by omega, rfl⟩)) (cwV 2 hts (k_gV kw1568 ca_X5_of) rfl rfl rfl ⟨rfl, pnX5_of⟩ ⟨Nat.le_of_ble_eq_true rfl, Nat.le_of_ble_eq_true rfl⟩) hE hS (hP.pick [0] rfl) (k_recv C kFX5 hP (i := 0) (q := 0) rfl rfl) rfl hl.1 rfl rfl dX5_fills_190 ⟨Nat.le_of_ble_eq_true rfl, Nat.le_of_ble_eq_true rfl⟩ ?_
              refine lv_iload_n hx hb dX5_fills_193 rfl (lv_at hl 4 rfl) ?_
              refine lv_iadd hx hb dX5_fills_194 ?_
              refine kV_V (As := [.int p0, .int 3, .int ((X5_of_f vM (X5_sets_f vM (va_up aM 0 (upd (aM 0) (((22 + (2 * p1)) + 1).toNatClampNeg) (((aM 0) ((22 + (2 * p1)) + 1).toNatClampNeg) - p2))) p0 2 (((upd (aM 0) (((22 + (2 * p1)) + 1).toNatClampNeg) (((aM 0) ((22 + (2 * p1)) + 1).toNatClampNeg) - p2)) (22 + (2 * p1)).toNatClampNeg) + 1)) p0 3) + p2)]) (rest := []) (wr := []) C (X5_sets_c l g oM rM vM (X5_sets_f vM (va_up aM 0 (upd (aM 0) (((22 + (2 * p1)) + 1).toNatClampNeg) (((aM 0) ((22 + (2 * p1)) + 1).toNatClampNeg) - p2))) p0 2 (((upd (aM 0) (((22 + (2 * p1)) + 1).toNatClampNeg) (((aM 0) ((22 + (2 * p1)) + 1).toNatClampNeg) - p2)) (22 + (2 * p1)).toNatClampNeg) + 1)) p0 3 ((X5_of_f vM (X5_sets_f vM (va_up aM 0 (upd (aM 0) (((22 + (2 * p1)) + 1).toNatClampNeg) (((aM 0) ((22 + (2 * p1)) + 1).toNatClampNeg) - p2))) p0 2 (((upd (aM 0) (((22 + (2 * p1)) + 1).toNatClampNeg) (((aM 0) ((22 + (2 * p1)) + 1).toNatClampNeg) - p2)) (22 + (2 * p1)).toNatClampNeg) + 1)) p0 3) + p2) (by first | assumption | exact hB5 | exact hJ5 | exact ⟨0, by omega, rfl⟩ | exact ⟨1, by omega, rfl⟩ | exact ⟨2, by omega, rfl⟩ | exact ⟨3, by omega, rfl⟩ | exact ⟨4, by omega, rfl⟩) (by first | assumption | exact hB5 | exact hJ5 | exact ⟨0, by omega, rfl⟩ | exact ⟨1, by omega, rfl⟩ | exact ⟨2, by omega, rfl⟩ | exact ⟨3, by omega, rfl⟩ | exact ⟨4, by omega, rfl⟩)) (cwV 3 hts (k_gV kw1548 ca_X5_sets) rfl rfl rfl ⟨rfl, pnX5_sets⟩ ⟨Nat.le_of_ble_eq_true rfl, Nat.le_of_ble_eq_true rfl⟩) hE hS hA hP hD [0] [] rfl rfl ⟨rfl, rfl, by decide⟩ (k_recv C kFX5 hP (i := 0) (q := 0) rfl rfl) rfl hl.1 rfl rfl dX5_fills_195 ⟨Nat.le_of_ble_eq_true rfl, Nat.le_of_ble_eq_true rfl⟩ (fun u8 H locs hp8 hP hD hS => ?_)
              subst hp8
              have hP : kp g [X5W g oM rM vM (X5_sets_f vM (X5_sets_f vM (va_up aM 0 (upd (aM 0) (((22 + (2 * p1)) + 1).toNatClampNeg) (((aM 0) ((22 + (2 * p1)) + 1).toNatClampNeg) - p2))) p0 2 (((upd (aM 0) (((22 + (2 * p1)) + 1).toNatClampNeg) (((aM 0) ((22 + (2 * p1)) + 1).toNatClampNeg) - p2)) (22 + (2 * p1)).toNatClampNeg) + 1)) p0 3 ((X5_of_f vM (X5_sets_f vM (va_up aM 0 (upd (aM 0) (((22 + (2 * p1)) + 1).toNatClampNeg) (((aM 0) ((22 + (2 * p1)) + 1).toNatClampNeg) - p2))) p0 2 (((upd (aM 0) (((22 + (2 * p1)) + 1).toNatClampNeg) (((aM 0) ((22 + (2 * p1)) + 1).toNatClampNeg) - p2)) (22 + (2 * p1)).toNatClampNeg) + 1)) p0 3) + p2))] H := hP
              have hD : kd A [X5W g oM rM vM (X5_sets_f vM (X5_sets_f vM (va_up aM 0 (upd (aM 0) (((22 + (2 * p1)) + 1).toNatClampNeg) (((aM 0) ((22 + (2 * p1)) + 1).toNatClampNeg) - p2))) p0 2 (((upd (aM 0) (((22 + (2 * p1)) + 1).toNatClampNeg) (((aM 0) ((22 + (2 * p1)) + 1).toNatClampNeg) - p2)) (22 + (2 * p1)).toNatClampNeg) + 1)) p0 3 ((X5_of_f vM (X5_sets_f vM (va_up aM 0 (upd (aM 0) (((22 + (2 * p1)) + 1).toNatClampNeg) (((aM 0) ((22 + (2 * p1)) + 1).toNatClampNeg) - p2))) p0 2 (((upd (aM 0) (((22 + (2 * p1)) + 1).toNatClampNeg) (((aM 0) ((22 + (2 * p1)) + 1).toNatClampNeg) - p2)) (22 + (2 * p1)).toNatClampNeg) + 1)) p0 3) + p2))] := hD
              refine lv_aload_n hx hb dX5_fills_198 rfl (lv_at hl 1 rfl) ?_
              refine lv_aload_n hx hb dX5_fills_199 rfl (lv_at hl 1 rfl) ?_
              refine lv_iload_n hx hb dX5_fills_200 rfl (lv_at hl 2 rfl) ?_
              refine lv_iconst (v := 3) hx hb dX5_fills_201 (by decide) ?_
              refine kR_V (As := [.int p0, .int 3]) (rest := [.ref oM]) C (X5_of_c l g oM rM vM (X5_sets_f vM (X5_sets_f vM (va_up aM 0 (upd (aM 0) (((22 + (2 * p1)) + 1).toNatClampNeg) (((aM 0) ((22 + (2 * p1)) + 1).toNatClampNeg) - p2))) p0 2 (((upd (aM 0) (((22 + (2 * p1)) + 1).toNatClampNeg) (((aM 0) ((22 + (2 * p1)) + 1).toNatClampNeg) - p2)) (22 + (2 * p1)).toNatClampNeg) + 1)) p0 3 ((X5_of_f vM (X5_sets_f vM (va_up aM 0 (upd (aM 0) (((22 + (2 * p1)) + 1).toNatClampNeg) (((aM 0) ((22 + (2 * p1)) + 1).toNatClampNeg) - p2))) p0 2 (((upd (aM 0) (((22 + (2 * p1)) + 1).toNatClampNeg) (((aM 0) ((22 + (2 * p1)) + 1).toNatClampNeg) - p2)) (22 + (2 * p1)).toNatClampNeg) + 1)) p0 3) + p2)) p0 3 (by first | assumption | exact hB5 | exact hJ5 | exact ⟨0, by omega, rfl⟩ | exact ⟨1, by omega, rfl⟩ | exact ⟨2, by omega, rfl⟩ | exact ⟨3, by omega, rfl⟩ | exact ⟨4, by omega, rfl⟩) (by first | assumption | exact hB5 | exact hJ5 | exact ⟨0, by omega, rfl⟩ | exact ⟨1, by omega, rfl⟩ | exact ⟨2, by omega, rfl⟩ | exact ⟨3, by omega, rfl⟩ | exact ⟨4, by omega, rfl⟩)) (cwV 2 hts (k_gV kw1568 ca_X5_of) rfl rfl rfl ⟨rfl, pnX5_of⟩ ⟨Nat.le_of_ble_eq_true rfl, Nat.le_of_ble_eq_true rfl⟩) hE hS (hP.pick [0] rfl) (k_recv C kFX5 hP (i := 0) (q := 0) rfl rfl) rfl hl.1 rfl rfl dX5_fills_202 ⟨Nat.le_of_ble_eq_true rfl, Nat.le_of_ble_eq_true rfl⟩ ?_
              refine kM_V (As := [.int (X5_of_f vM (X5_sets_f vM (X5_sets_f vM (va_up aM 0 (upd (aM 0) (((22 + (2 * p1)) + 1).toNatClampNeg) (((aM 0) ((22 + (2 * p1)) + 1).toNatClampNeg) - p2))) p0 2 (((upd (aM 0) (((22 + (2 * p1)) + 1).toNatClampNeg) (((aM 0) ((22 + (2 * p1)) + 1).toNatClampNeg) - p2)) (22 + (2 * p1)).toNatClampNeg) + 1)) p0 3 ((X5_of_f vM (X5_sets_f vM (va_up aM 0 (upd (aM 0) (((22 + (2 * p1)) + 1).toNatClampNeg) (((aM 0) ((22 + (2 * p1)) + 1).toNatClampNeg) - p2))) p0 2 (((upd (aM 0) (((22 + (2 * p1)) + 1).toNatClampNeg) (((aM 0) ((22 + (2 * p1)) + 1).toNatClampNeg) - p2)) (22 + (2 * p1)).toNatClampNeg) + 1)) p0 3) + p2)) p0 3)]) (rest := []) (wr := []) C (X5_does_c l g oM rM vM (X5_sets_f vM (X5_sets_f vM (va_up aM 0 (upd (aM 0) (((22 + (2 * p1)) + 1).toNatClampNeg) (((aM 0) ((22 + (2 * p1)) + 1).toNatClampNeg) - p2))) p0 2 (((upd (aM 0) (((22 + (2 * p1)) + 1).toNatClampNeg) (((aM 0) ((22 + (2 * p1)) + 1).toNatClampNeg) - p2)) (22 + (2 * p1)).toNatClampNeg) + 1)) p0 3 ((X5_of_f vM (X5_sets_f vM (va_up aM 0 (upd (aM 0) (((22 + (2 * p1)) + 1).toNatClampNeg) (((aM 0) ((22 + (2 * p1)) + 1).toNatClampNeg) - p2))) p0 2 (((upd (aM 0) (((22 + (2 * p1)) + 1).toNatClampNeg) (((aM 0) ((22 + (2 * p1)) + 1).toNatClampNeg) - p2)) (22 + (2 * p1)).toNatClampNeg) + 1)) p0 3) + p2)) (X5_of_f vM (X5_sets_f vM (X5_sets_f vM (va_up aM 0 (upd (aM 0) (((22 + (2 * p1)) + 1).toNatClampNeg) (((aM 0) ((22 + (2 * p1)) + 1).toNatClampNeg) - p2))) p0 2 (((upd (aM 0) (((22 + (2 * p1)) + 1).toNatClampNeg) (((aM 0) ((22 + (2 * p1)) + 1).toNatClampNeg) - p2)) (22 + (2 * p1)).toNatClampNeg) + 1)) p0 3 ((X5_of_f vM (X5_sets_f vM (va_up aM 0 (upd (aM 0) (((22 + (2 * p1)) + 1).toNatClampNeg) (((aM 0) ((22 + (2 * p1)) + 1).toNatClampNeg) - p2))) p0 2 (((upd (aM 0) (((22 + (2 * p1)) + 1).toNatClampNeg) (((aM 0) ((22 + (2 * p1)) + 1).toNatClampNeg) - p2)) (22 + (2 * p1)).toNatClampNeg) + 1)) p0 3) + p2)) p0 3)) (cwV 1 hts (k_gV kw1572 ca_X5_does) rfl rfl rfl ⟨rfl, pnX5_does⟩ ⟨Nat.le_of_ble_eq_true rfl, Nat.le_of_ble_eq_true rfl⟩) hE hS hA hP hD [0] [] rfl rfl ⟨rfl, rfl, by decide⟩ (k_recv C kFX5 hP (i := 0) (q := 0) rfl rfl) rfl hl.1 rfl rfl dX5_fills_205 ⟨Nat.le_of_ble_eq_true rfl, Nat.le_of_ble_eq_true rfl⟩ (fun r9 u9 H locs hp9 hP hD hS => ?_)
              obtain ⟨er9, eu9⟩ := hp9
              have er9 : r9 = 1 := er9
              have eu9 : u9 = [X5W g oM rM (upd vM 18 (X5_of_f vM (X5_sets_f vM (X5_sets_f vM (va_up aM 0 (upd (aM 0) (((22 + (2 * p1)) + 1).toNatClampNeg) (((aM 0) ((22 + (2 * p1)) + 1).toNatClampNeg) - p2))) p0 2 (((upd (aM 0) (((22 + (2 * p1)) + 1).toNatClampNeg) (((aM 0) ((22 + (2 * p1)) + 1).toNatClampNeg) - p2)) (22 + (2 * p1)).toNatClampNeg) + 1)) p0 3 ((X5_of_f vM (X5_sets_f vM (va_up aM 0 (upd (aM 0) (((22 + (2 * p1)) + 1).toNatClampNeg) (((aM 0) ((22 + (2 * p1)) + 1).toNatClampNeg) - p2))) p0 2 (((upd (aM 0) (((22 + (2 * p1)) + 1).toNatClampNeg) (((aM 0) ((22 + (2 * p1)) + 1).toNatClampNeg) - p2)) (22 + (2 * p1)).toNatClampNeg) + 1)) p0 3) + p2)) p0 3)) (X5_sets_f vM (X5_sets_f vM (va_up aM 0 (upd (aM 0) (((22 + (2 * p1)) + 1).toNatClampNeg) (((aM 0) ((22 + (2 * p1)) + 1).toNatClampNeg) - p2))) p0 2 (((upd (aM 0) (((22 + (2 * p1)) + 1).toNatClampNeg) (((aM 0) ((22 + (2 * p1)) + 1).toNatClampNeg) - p2)) (22 + (2 * p1)).toNatClampNeg) + 1)) p0 3 ((X5_of_f vM (X5_sets_f vM (va_up aM 0 (upd (aM 0) (((22 + (2 * p1)) + 1).toNatClampNeg) (((aM 0) ((22 + (2 * p1)) + 1).toNatClampNeg) - p2))) p0 2 (((upd (aM 0) (((22 + (2 * p1)) + 1).toNatClampNeg) (((aM 0) ((22 + (2 * p1)) + 1).toNatClampNeg) - p2)) (22 + (2 * p1)).toNatClampNeg) + 1)) p0 3) + p2))] := eu9
              subst er9 eu9
              have hP : kp g [X5W g oM rM (upd vM 18 (X5_of_f vM (X5_sets_f vM (X5_sets_f vM (va_up aM 0 (upd (aM 0) (((22 + (2 * p1)) + 1).toNatClampNeg) (((aM 0) ((22 + (2 * p1)) + 1).toNatClampNeg) - p2))) p0 2 (((upd (aM 0) (((22 + (2 * p1)) + 1).toNatClampNeg) (((aM 0) ((22 + (2 * p1)) + 1).toNatClampNeg) - p2)) (22 + (2 * p1)).toNatClampNeg) + 1)) p0 3 ((X5_of_f vM (X5_sets_f vM (va_up aM 0 (upd (aM 0) (((22 + (2 * p1)) + 1).toNatClampNeg) (((aM 0) ((22 + (2 * p1)) + 1).toNatClampNeg) - p2))) p0 2 (((upd (aM 0) (((22 + (2 * p1)) + 1).toNatClampNeg) (((aM 0) ((22 + (2 * p1)) + 1).toNatClampNeg) - p2)) (22 + (2 * p1)).toNatClampNeg) + 1)) p0 3) + p2)) p0 3)) (X5_sets_f vM (X5_sets_f vM (va_up aM 0 (upd (aM 0) (((22 + (2 * p1)) + 1).toNatClampNeg) (((aM 0) ((22 + (2 * p1)) + 1).toNatClampNeg) - p2))) p0 2 (((upd (aM 0) (((22 + (2 * p1)) + 1).toNatClampNeg) (((aM 0) ((22 + (2 * p1)) + 1).toNatClampNeg) - p2)) (22 + (2 * p1)).toNatClampNeg) + 1)) p0 3 ((X5_of_f vM (X5_sets_f vM (va_up aM 0 (upd (aM 0) (((22 + (2 * p1)) + 1).toNatClampNeg) (((aM 0) ((22 + (2 * p1)) + 1).toNatClampNeg) - p2))) p0 2 (((upd (aM 0) (((22 + (2 * p1)) + 1).toNatClampNeg) (((aM 0) ((22 + (2 * p1)) + 1).toNatClampNeg) - p2)) (22 + (2 * p1)).toNatClampNeg) + 1)) p0 3) + p2))] H := hP
              have hD : kd A [X5W g oM rM (upd vM 18 (X5_of_f vM (X5_sets_f vM (X5_sets_f vM (va_up aM 0 (upd (aM 0) (((22 + (2 * p1)) + 1).toNatClampNeg) (((aM 0) ((22 + (2 * p1)) + 1).toNatClampNeg) - p2))) p0 2 (((upd (aM 0) (((22 + (2 * p1)) + 1).toNatClampNeg) (((aM 0) ((22 + (2 * p1)) + 1).toNatClampNeg) - p2)) (22 + (2 * p1)).toNatClampNeg) + 1)) p0 3 ((X5_of_f vM (X5_sets_f vM (va_up aM 0 (upd (aM 0) (((22 + (2 * p1)) + 1).toNatClampNeg) (((aM 0) ((22 + (2 * p1)) + 1).toNatClampNeg) - p2))) p0 2 (((upd (aM 0) (((22 + (2 * p1)) + 1).toNatClampNeg) (((aM 0) ((22 + (2 * p1)) + 1).toNatClampNeg) - p2)) (22 + (2 * p1)).toNatClampNeg) + 1)) p0 3) + p2)) p0 3)) (X5_sets_f vM (X5_sets_f vM (va_up aM 0 (upd (aM 0) (((22 + (2 * p1)) + 1).toNatClampNeg) (((aM 0) ((22 + (2 * p1)) + 1).toNatClampNeg) - p2))) p0 2 (((upd (aM 0) (((22 + (2 * p1)) + 1).toNatClampNeg) (((aM 0) ((22 + (2 * p1)) + 1).toNatClampNeg) - p2)) (22 + (2 * p1)).toNatClampNeg) + 1)) p0 3 ((X5_of_f vM (X5_sets_f vM (va_up aM 0 (upd (aM 0) (((22 + (2 * p1)) + 1).toNatClampNeg) (((aM 0) ((22 + (2 * p1)) + 1).toNatClampNeg) - p2))) p0 2 (((upd (aM 0) (((22 + (2 * p1)) + 1).toNatClampNeg) (((aM 0) ((22 + (2 * p1)) + 1).toNatClampNeg) - p2)) (22 + (2 * p1)).toNatClampNeg) + 1)) p0 3) + p2))] := hD
              have hF := (show X5_fills_f vM aM p0 p1 p2 = (true, upd vM 18 (X5_of_f vM (X5_sets_f vM (X5_sets_f vM (va_up aM 0 (upd (aM 0) (((22 + (2 * p1)) + 1).toNatClampNeg) (((aM 0) ((22 + (2 * p1)) + 1).toNatClampNeg) - p2))) p0 2 (((upd (aM 0) (((22 + (2 * p1)) + 1).toNatClampNeg) (((aM 0) ((22 + (2 * p1)) + 1).toNatClampNeg) - p2)) (22 + (2 * p1)).toNatClampNeg) + 1)) p0 3 ((X5_of_f vM (X5_sets_f vM (va_up aM 0 (upd (aM 0) (((22 + (2 * p1)) + 1).toNatClampNeg) (((aM 0) ((22 + (2 * p1)) + 1).toNatClampNeg) - p2))) p0 2 (((upd (aM 0) (((22 + (2 * p1)) + 1).toNatClampNeg) (((aM 0) ((22 + (2 * p1)) + 1).toNatClampNeg) - p2)) (22 + (2 * p1)).toNatClampNeg) + 1)) p0 3) + p2)) p0 3), (X5_sets_f vM (X5_sets_f vM (va_up aM 0 (upd (aM 0) (((22 + (2 * p1)) + 1).toNatClampNeg) (((aM 0) ((22 + (2 * p1)) + 1).toNatClampNeg) - p2))) p0 2 (((upd (aM 0) (((22 + (2 * p1)) + 1).toNatClampNeg) (((aM 0) ((22 + (2 * p1)) + 1).toNatClampNeg) - p2)) (22 + (2 * p1)).toNatClampNeg) + 1)) p0 3 ((X5_of_f vM (X5_sets_f vM (va_up aM 0 (upd (aM 0) (((22 + (2 * p1)) + 1).toNatClampNeg) (((aM 0) ((22 + (2 * p1)) + 1).toNatClampNeg) - p2))) p0 2 (((upd (aM 0) (((22 + (2 * p1)) + 1).toNatClampNeg) (((aM 0) ((22 + (2 * p1)) + 1).toNatClampNeg) - p2)) (22 + (2 * p1)).toNatClampNeg) + 1)) p0 3) + p2))) from (if_pos c1).trans ((if_pos c2).trans ((if_pos c3).trans ((if_pos c4).trans ((if_pos c5).trans ((if_pos c6).trans (rfl)))))))
              exact kM_zret (x := b2i true) C (b2i_nar _) hP hD hS ⟨by rw [hF], by rw [hF]⟩ dX5_fills_208
            refine lv_aload_n hx hb dX5_fills_139 rfl (lv_at hl 1 rfl) ?_
            refine lv_bipush (v := 7) hx hb dX5_fills_140 (by decide) ?_
            refine lv_sipush (v := 400) hx hb dX5_fills_142 (by decide) ?_
            refine lv_aload_n hx hb dX5_fills_145 rfl (lv_at hl 1 rfl) ?_
            refine lv_iload_n hx hb dX5_fills_146 rfl (lv_at hl 2 rfl) ?_
            refine lv_iconst (v := 3) hx hb dX5_fills_147 (by decide) ?_
            refine kR_V (As := [.int p0, .int 3]) (rest := [.int 400, .int 7, .ref oM]) C (X5_of_c l g oM rM vM aM p0 3 (by first | assumption | exact hB5 | exact hJ5 | exact ⟨0, by omega, rfl⟩ | exact ⟨1, by omega, rfl⟩ | exact ⟨2, by omega, rfl⟩ | exact ⟨3, by omega, rfl⟩ | exact ⟨4, by omega, rfl⟩) (by first | assumption | exact hB5 | exact hJ5 | exact ⟨0, by omega, rfl⟩ | exact ⟨1, by omega, rfl⟩ | exact ⟨2, by omega, rfl⟩ | exact ⟨3, by omega, rfl⟩ | exact ⟨4, by omega, rfl⟩)) (cwV 2 hts (k_gV kw1568 ca_X5_of) rfl rfl rfl ⟨rfl, pnX5_of⟩ ⟨Nat.le_of_ble_eq_true rfl, Nat.le_of_ble_eq_true rfl⟩) hE hS (hP.pick [0] rfl) (k_recv C kFX5 hP (i := 0) (q := 0) rfl rfl) rfl hl.1 rfl rfl dX5_fills_148 ⟨Nat.le_of_ble_eq_true rfl, Nat.le_of_ble_eq_true rfl⟩ ?_
            refine lv_isub hx hb dX5_fills_151 ?_
            refine kM_V (As := [.int 7, .int (400 - (X5_of_f vM aM p0 3))]) (rest := []) (wr := []) C (X5_refuses_c l g oM rM vM aM 7 (400 - (X5_of_f vM aM p0 3))) (cwV 2 hts (k_gV kw1528 ca_X5_refuses) rfl rfl rfl ⟨rfl, pnX5_refuses⟩ ⟨Nat.le_of_ble_eq_true rfl, Nat.le_of_ble_eq_true rfl⟩) hE hS hA hP hD [0] [] rfl rfl ⟨rfl, rfl, by decide⟩ (k_recv C kFX5 hP (i := 0) (q := 0) rfl rfl) rfl hl.1 rfl rfl dX5_fills_152 ⟨Nat.le_of_ble_eq_true rfl, Nat.le_of_ble_eq_true rfl⟩ (fun r10 u10 H locs hp10 hP hD hS => ?_)
            obtain ⟨er10, eu10⟩ := hp10
            have er10 : r10 = 0 := er10
            have eu10 : u10 = [X5W g oM rM (upd (upd (upd vM 14 7) 15 (400 - (X5_of_f vM aM p0 3))) 17 (vM 16)) aM] := eu10
            subst er10 eu10
            have hP : kp g [X5W g oM rM (upd (upd (upd vM 14 7) 15 (400 - (X5_of_f vM aM p0 3))) 17 (vM 16)) aM] H := hP
            have hD : kd A [X5W g oM rM (upd (upd (upd vM 14 7) 15 (400 - (X5_of_f vM aM p0 3))) 17 (vM 16)) aM] := hD
            have hF := (show X5_fills_f vM aM p0 p1 p2 = (false, upd (upd (upd vM 14 7) 15 (400 - (X5_of_f vM aM p0 3))) 17 (vM 16), aM) from (if_pos c1).trans ((if_pos c2).trans ((if_pos c3).trans ((if_pos c4).trans ((if_pos c5).trans ((if_neg c6).trans (rfl)))))))
            exact kM_zret (x := b2i false) C (b2i_nar _) hP hD hS ⟨by rw [hF], by rw [hF]⟩ dX5_fills_155
          refine lv_aload_n hx hb dX5_fills_110 rfl (lv_at hl 1 rfl) ?_
          refine lv_iconst (v := 5) hx hb dX5_fills_111 (by decide) ?_
          refine lv_aload_n hx hb dX5_fills_112 rfl (lv_at hl 1 rfl) ?_
          refine kg_get C kFX5 (k := 0) kw1446 hP (i := 0) (q := 0) rfl rfl (by decide) rfl dX5_fills_113 ?_
          refine lv_iload hx hb dX5_fills_116 (lv_at hl 0 rfl) ?_
          refine lv_iconst (v := 1) hx hb dX5_fills_118 (by decide) ?_
          refine lv_iadd hx hb dX5_fills_119 ?_
          refine kg_iald C hP (i := 0) (q := 1) rfl rfl (k_jix1 z2) dX5_fills_120 ?_
          refine kM_V (As := [.int 5, .int ((aM 0) ((22 + (2 * p1)) + 1).toNatClampNeg)]) (rest := []) (wr := []) C (X5_refuses_c l g oM rM vM aM 5 ((aM 0) ((22 + (2 * p1)) + 1).toNatClampNeg)) (cwV 2 hts (k_gV kw1528 ca_X5_refuses) rfl rfl rfl ⟨rfl, pnX5_refuses⟩ ⟨Nat.le_of_ble_eq_true rfl, Nat.le_of_ble_eq_true rfl⟩) hE hS hA hP hD [0] [] rfl rfl ⟨rfl, rfl, by decide⟩ (k_recv C kFX5 hP (i := 0) (q := 0) rfl rfl) rfl hl.1 rfl rfl dX5_fills_121 ⟨Nat.le_of_ble_eq_true rfl, Nat.le_of_ble_eq_true rfl⟩ (fun r11 u11 H locs hp11 hP hD hS => ?_)
          obtain ⟨er11, eu11⟩ := hp11
          have er11 : r11 = 0 := er11
          have eu11 : u11 = [X5W g oM rM (upd (upd (upd vM 14 5) 15 ((aM 0) ((22 + (2 * p1)) + 1).toNatClampNeg)) 17 (vM 16)) aM] := eu11
          subst er11 eu11
          have hP : kp g [X5W g oM rM (upd (upd (upd vM 14 5) 15 ((aM 0) ((22 + (2 * p1)) + 1).toNatClampNeg)) 17 (vM 16)) aM] H := hP
          have hD : kd A [X5W g oM rM (upd (upd (upd vM 14 5) 15 ((aM 0) ((22 + (2 * p1)) + 1).toNatClampNeg)) 17 (vM 16)) aM] := hD
          have hF := (show X5_fills_f vM aM p0 p1 p2 = (false, upd (upd (upd vM 14 5) 15 ((aM 0) ((22 + (2 * p1)) + 1).toNatClampNeg)) 17 (vM 16), aM) from (if_pos c1).trans ((if_pos c2).trans ((if_pos c3).trans ((if_pos c4).trans ((if_neg c5).trans (rfl))))))
          exact kM_zret (x := b2i false) C (b2i_nar _) hP hD hS ⟨by rw [hF], by rw [hF]⟩ dX5_fills_124
        refine lv_aload_n hx hb dX5_fills_65 rfl (lv_at hl 1 rfl) ?_
        refine lv_iload_n hx hb dX5_fills_66 rfl (lv_at hl 2 rfl) ?_
        refine lv_iconst (v := 2) hx hb dX5_fills_67 (by decide) ?_
        refine kR_V (As := [.int p0, .int 2]) (rest := []) C (X5_of_c l g oM rM vM aM p0 2 (by first | assumption | exact hB5 | exact hJ5 | exact ⟨0, by omega, rfl⟩ | exact ⟨1, by omega, rfl⟩ | exact ⟨2, by omega, rfl⟩ | exact ⟨3, by omega, rfl⟩ | exact ⟨4, by omega, rfl⟩) (by first | assumption | exact hB5 | exact hJ5 | exact ⟨0, by omega, rfl⟩ | exact ⟨1, by omega, rfl⟩ | exact ⟨2, by omega, rfl⟩ | exact ⟨3, by omega, rfl⟩ | exact ⟨4, by omega, rfl⟩)) (cwV 2 hts (k_gV kw1568 ca_X5_of) rfl rfl rfl ⟨rfl, pnX5_of⟩ ⟨Nat.le_of_ble_eq_true rfl, Nat.le_of_ble_eq_true rfl⟩) hE hS (hP.pick [0] rfl) (k_recv C kFX5 hP (i := 0) (q := 0) rfl rfl) rfl hl.1 rfl rfl dX5_fills_68 ⟨Nat.le_of_ble_eq_true rfl, Nat.le_of_ble_eq_true rfl⟩ ?_
        refine lv_iconst (v := 1) hx hb dX5_fills_71 (by decide) ?_
        refine lv_isub hx hb dX5_fills_72 ?_
        refine lv_aload_n hx hb dX5_fills_73 rfl (lv_at hl 1 rfl) ?_
        refine kg_get C kFX5 (k := 0) kw1446 hP (i := 0) (q := 0) rfl rfl (by decide) rfl dX5_fills_74 ?_
        refine lv_iload hx hb dX5_fills_77 (lv_at hl 0 rfl) ?_
        refine kg_iald C hP (i := 0) (q := 1) rfl rfl (k_jix z2) dX5_fills_79 ?_
        refine lv_icmp_eq (tgt := 97) hx hb dX5_fills_80 (by decide) (fun c12 => ?_) (fun c12 => ?_)
        · refine lv_aload_n hx hb dX5_fills_97 rfl (lv_at hl 1 rfl) ?_
          refine kg_get C kFX5 (k := 0) kw1446 hP (i := 0) (q := 0) rfl rfl (by decide) rfl dX5_fills_98 ?_
          refine lv_iload hx hb dX5_fills_101 (lv_at hl 0 rfl) ?_
          refine lv_iconst (v := 1) hx hb dX5_fills_103 (by decide) ?_
          refine lv_iadd hx hb dX5_fills_104 ?_
          refine kg_iald C hP (i := 0) (q := 1) rfl rfl (k_jix1 z2) dX5_fills_105 ?_
          refine lv_iload_n hx hb dX5_fills_106 rfl (lv_at hl 4 rfl) ?_
          refine lv_icmp_ge (tgt := 125) hx hb dX5_fills_107 (by decide) (fun c13 => ?_) (fun c13 => ?_)
          · refine lv_aload_n hx hb dX5_fills_125 rfl (lv_at hl 1 rfl) ?_
            refine lv_iload_n hx hb dX5_fills_126 rfl (lv_at hl 2 rfl) ?_
            refine lv_iconst (v := 3) hx hb dX5_fills_127 (by decide) ?_
            refine kR_V (As := [.int p0, .int 3]) (rest := []) C (X5_of_c l g oM rM vM aM p0 3 (by first | assumption | exact hB5 | exact hJ5 | exact ⟨0, by omega, rfl⟩ | exact ⟨1, by omega, rfl⟩ | exact ⟨2, by omega, rfl⟩ | exact ⟨3, by omega, rfl⟩ | exact ⟨4, by omega, rfl⟩) (by first | assumption | exact hB5 | exact hJ5 | exact ⟨0, by omega, rfl⟩ | exact ⟨1, by omega, rfl⟩ | exact ⟨2, by omega, rfl⟩ | exact ⟨3, by omega, rfl⟩ | exact ⟨4, by omega, rfl⟩)) (cwV 2 hts (k_gV kw1568 ca_X5_of) rfl rfl rfl ⟨rfl, pnX5_of⟩ ⟨Nat.le_of_ble_eq_true rfl, Nat.le_of_ble_eq_true rfl⟩) hE hS (hP.pick [0] rfl) (k_recv C kFX5 hP (i := 0) (q := 0) rfl rfl) rfl hl.1 rfl rfl dX5_fills_128 ⟨Nat.le_of_ble_eq_true rfl, Nat.le_of_ble_eq_true rfl⟩ ?_
            refine lv_iload_n hx hb dX5_fills_131 rfl (lv_at hl 4 rfl) ?_
            refine lv_iadd hx hb dX5_fills_132 ?_
            refine lv_sipush (v := 400) hx hb dX5_fills_133 (by decide) ?_
            refine lv_icmp_le (tgt := 156) hx hb dX5_fills_136 (by decide) (fun c14 => ?_) (fun c14 => ?_)
            · refine lv_aload_n hx hb dX5_fills_156 rfl (lv_at hl 1 rfl) ?_
              refine kg_get C kFX5 (k := 0) kw1446 hP (i := 0) (q := 0) rfl rfl (by decide) rfl dX5_fills_157 ?_
              refine lv_iload hx hb dX5_fills_160 (lv_at hl 0 rfl) ?_
              refine lv_iconst (v := 1) hx hb dX5_fills_162 (by decide) ?_
              refine lv_iadd hx hb dX5_fills_163 ?_
              refine lv_dup2_11 hx hb dX5_fills_164 rfl rfl ?_
              refine kg_iald C hP (i := 0) (q := 1) rfl rfl (k_jix1 z2) dX5_fills_165 ?_
              refine lv_iload_n hx hb dX5_fills_166 rfl (lv_at hl 4 rfl) ?_
              refine lv_isub hx hb dX5_fills_167 ?_
              refine kg_iast C hP hD hS (i := 0) (q := 1) rfl rfl (k_jix1 z2) X5t_0 rfl dX5_fills_168 (fun H locs hP hD hS => ?_)
              have hP : kp g [X5W g oM rM vM (va_up aM 0 (upd (aM 0) (((22 + (2 * p1)) + 1).toNatClampNeg) (((aM 0) ((22 + (2 * p1)) + 1).toNatClampNeg) - p2)))] H := hP
              have hD : kd A [X5W g oM rM vM (va_up aM 0 (upd (aM 0) (((22 + (2 * p1)) + 1).toNatClampNeg) (((aM 0) ((22 + (2 * p1)) + 1).toNatClampNeg) - p2)))] := hD
              refine lv_aload_n hx hb dX5_fills_169 rfl (lv_at hl 1 rfl) ?_
              refine lv_iload_n hx hb dX5_fills_170 rfl (lv_at hl 2 rfl) ?_
              refine lv_iconst (v := 2) hx hb dX5_fills_171 (by decide) ?_
              refine lv_aload_n hx hb dX5_fills_172 rfl (lv_at hl 1 rfl) ?_
              refine kg_get C kFX5 (k := 0) kw1446 hP (i := 0) (q := 0) rfl rfl (by decide) rfl dX5_fills_173 ?_
              refine lv_iload hx hb dX5_fills_176 (lv_at hl 0 rfl) ?_
              refine kg_iald C hP (i := 0) (q := 1) rfl rfl (k_jix z2) dX5_fills_178 ?_
              refine lv_iconst (v := 1) hx hb dX5_fills_179 (by decide) ?_
              refine lv_iadd hx hb dX5_fills_180 ?_
              refine kV_V (As := [.int p0, .int 2, .int (((upd (aM 0) (((22 + (2 * p1)) + 1).toNatClampNeg) (((aM 0) ((22 + (2 * p1)) + 1).toNatClampNeg) - p2)) (22 + (2 * p1)).toNatClampNeg) + 1)]) (rest := []) (wr := []) C (X5_sets_c l g oM rM vM (va_up aM 0 (upd (aM 0) (((22 + (2 * p1)) + 1).toNatClampNeg) (((aM 0) ((22 + (2 * p1)) + 1).toNatClampNeg) - p2))) p0 2 (((upd (aM 0) (((22 + (2 * p1)) + 1).toNatClampNeg) (((aM 0) ((22 + (2 * p1)) + 1).toNatClampNeg) - p2)) (22 + (2 * p1)).toNatClampNeg) + 1) (by first | assumption | exact hB5 | exact hJ5 | exact ⟨0, by omega, rfl⟩ | exact ⟨1, by omega, rfl⟩ | exact ⟨2, by omega, rfl⟩ | exact ⟨3, by omega, rfl⟩ | exact ⟨4, by omega, rfl⟩) (by first | assumption | exact hB5 | exact hJ5 | exact ⟨0, by omega, rfl⟩ | exact ⟨1, by omega, rfl⟩ | exact ⟨2, by omega, rfl⟩ | exact ⟨3, by omega, rfl⟩ | exact ⟨4, by omega, rfl⟩)) (cwV 3 hts (k_gV kw1548 ca_X5_sets) rfl rfl rfl ⟨rfl, pnX5_sets⟩ ⟨Nat.le_of_ble_eq_true rfl, Nat.le_of_ble_eq_true rfl⟩) hE hS hA hP hD [0] [] rfl rfl ⟨rfl, rfl, by decide⟩ (k_recv C kFX5 hP (i := 0) (q := 0) rfl rfl) rfl hl.1 rfl rfl dX5_fills_181 ⟨Nat.le_of_ble_eq_true rfl, Nat.le_of_ble_eq_true rfl⟩ (fun u15 H locs hp15 hP hD hS => ?_)
              subst hp15
              have hP : kp g [X5W g oM rM vM (X5_sets_f vM (va_up aM 0 (upd (aM 0) (((22 + (2 * p1)) + 1).toNatClampNeg) (((aM 0) ((22 + (2 * p1)) + 1).toNatClampNeg) - p2))) p0 2 (((upd (aM 0) (((22 + (2 * p1)) + 1).toNatClampNeg) (((aM 0) ((22 + (2 * p1)) + 1).toNatClampNeg) - p2)) (22 + (2 * p1)).toNatClampNeg) + 1))] H := hP
              have hD : kd A [X5W g oM rM vM (X5_sets_f vM (va_up aM 0 (upd (aM 0) (((22 + (2 * p1)) + 1).toNatClampNeg) (((aM 0) ((22 + (2 * p1)) + 1).toNatClampNeg) - p2))) p0 2 (((upd (aM 0) (((22 + (2 * p1)) + 1).toNatClampNeg) (((aM 0) ((22 + (2 * p1)) + 1).toNatClampNeg) - p2)) (22 + (2 * p1)).toNatClampNeg) + 1))] := hD
              refine lv_aload_n hx hb dX5_fills_184 rfl (lv_at hl 1 rfl) ?_
              refine lv_iload_n hx hb dX5_fills_185 rfl (lv_at hl 2 rfl) ?_
              refine lv_iconst (v := 3) hx hb dX5_fills_186 (by decide) ?_
              refine lv_aload_n hx hb dX5_fills_187 rfl (lv_at hl 1 rfl) ?_
              refine lv_iload_n hx hb dX5_fills_188 rfl (lv_at hl 2 rfl) ?_
              refine lv_iconst (v := 3) hx hb dX5_fills_189 (by decide) ?_
              refine kR_V (As := [.int p0, .int 3]) (rest := [.int 3, .int p0, .ref oM]) C (X5_of_c l g oM rM vM (X5_sets_f vM (va_up aM 0 (upd (aM 0) (((22 + (2 * p1)) + 1).toNatClampNeg) (((aM 0) ((22 + (2 * p1)) + 1).toNatClampNeg) - p2))) p0 2 (((upd (aM 0) (((22 + (2 * p1)) + 1).toNatClampNeg) (((aM 0) ((22 + (2 * p1)) + 1).toNatClampNeg) - p2)) (22 + (2 * p1)).toNatClampNeg) + 1)) p0 3 (by first | assumption | exact hB5 | exact hJ5 | exact ⟨0, by omega, rfl⟩ | exact ⟨1, by omega, rfl⟩ | exact ⟨2, by omega, rfl⟩ | exact ⟨3, by omega, rfl⟩ | exact ⟨4, by omega, rfl⟩) (by first | assumption | exact hB5 | exact hJ5 | exact ⟨0, by omega, rfl⟩ | exact ⟨1, by omega, rfl⟩ | exact ⟨2, by omega, rfl⟩ | exact ⟨3, by omega, rfl⟩ | exact ⟨4, by omega, rfl⟩)) (cwV 2 hts (k_gV kw1568 ca_X5_of) rfl rfl rfl ⟨rfl, pnX5_of⟩ ⟨Nat.le_of_ble_eq_true rfl, Nat.le_of_ble_eq_true rfl⟩) hE hS (hP.pick [0] rfl) (k_recv C kFX5 hP (i := 0) (q := 0) rfl rfl) rfl hl.1 rfl rfl dX5_fills_190 ⟨Nat.le_of_ble_eq_true rfl, Nat.le_of_ble_eq_true rfl⟩ ?_
              refine lv_iload_n hx hb dX5_fills_193 rfl (lv_at hl 4 rfl) ?_
              refine lv_iadd hx hb dX5_fills_194 ?_
              refine kV_V (As := [.int p0, .int 3, .int ((X5_of_f vM (X5_sets_f vM (va_up aM 0 (upd (aM 0) (((22 + (2 * p1)) + 1).toNatClampNeg) (((aM 0) ((22 + (2 * p1)) + 1).toNatClampNeg) - p2))) p0 2 (((upd (aM 0) (((22 + (2 * p1)) + 1).toNatClampNeg) (((aM 0) ((22 + (2 * p1)) + 1).toNatClampNeg) - p2)) (22 + (2 * p1)).toNatClampNeg) + 1)) p0 3) + p2)]) (rest := []) (wr := []) C (X5_sets_c l g oM rM vM (X5_sets_f vM (va_up aM 0 (upd (aM 0) (((22 + (2 * p1)) + 1).toNatClampNeg) (((aM 0) ((22 + (2 * p1)) + 1).toNatClampNeg) - p2))) p0 2 (((upd (aM 0) (((22 + (2 * p1)) + 1).toNatClampNeg) (((aM 0) ((22 + (2 * p1)) + 1).toNatClampNeg) - p2)) (22 + (2 * p1)).toNatClampNeg) + 1)) p0 3 ((X5_of_f vM (X5_sets_f vM (va_up aM 0 (upd (aM 0) (((22 + (2 * p1)) + 1).toNatClampNeg) (((aM 0) ((22 + (2 * p1)) + 1).toNatClampNeg) - p2))) p0 2 (((upd (aM 0) (((22 + (2 * p1)) + 1).toNatClampNeg) (((aM 0) ((22 + (2 * p1)) + 1).toNatClampNeg) - p2)) (22 + (2 * p1)).toNatClampNeg) + 1)) p0 3) + p2) (by first | assumption | exact hB5 | exact hJ5 | exact ⟨0, by omega, rfl⟩ | exact ⟨1, by omega, rfl⟩ | exact ⟨2, by omega, rfl⟩ | exact ⟨3, by omega, rfl⟩ | exact ⟨4, by omega, rfl⟩) (by first | assumption | exact hB5 | exact hJ5 | exact ⟨0, by omega, rfl⟩ | exact ⟨1, by omega, rfl⟩ | exact ⟨2, by omega, rfl⟩ | exact ⟨3, by omega, rfl⟩ | exact ⟨4, by omega, rfl⟩)) (cwV 3 hts (k_gV kw1548 ca_X5_sets) rfl rfl rfl ⟨rfl, pnX5_sets⟩ ⟨Nat.le_of_ble_eq_true rfl, Nat.le_of_ble_eq_true rfl⟩) hE hS hA hP hD [0] [] rfl rfl ⟨rfl, rfl, by decide⟩ (k_recv C kFX5 hP (i := 0) (q := 0) rfl rfl) rfl hl.1 rfl rfl dX5_fills_195 ⟨Nat.le_of_ble_eq_true rfl, Nat.le_of_ble_eq_true rfl⟩ (fun u16 H locs hp16 hP hD hS => ?_)
              subst hp16
              have hP : kp g [X5W g oM rM vM (X5_sets_f vM (X5_sets_f vM (va_up aM 0 (upd (aM 0) (((22 + (2 * p1)) + 1).toNatClampNeg) (((aM 0) ((22 + (2 * p1)) + 1).toNatClampNeg) - p2))) p0 2 (((upd (aM 0) (((22 + (2 * p1)) + 1).toNatClampNeg) (((aM 0) ((22 + (2 * p1)) + 1).toNatClampNeg) - p2)) (22 + (2 * p1)).toNatClampNeg) + 1)) p0 3 ((X5_of_f vM (X5_sets_f vM (va_up aM 0 (upd (aM 0) (((22 + (2 * p1)) + 1).toNatClampNeg) (((aM 0) ((22 + (2 * p1)) + 1).toNatClampNeg) - p2))) p0 2 (((upd (aM 0) (((22 + (2 * p1)) + 1).toNatClampNeg) (((aM 0) ((22 + (2 * p1)) + 1).toNatClampNeg) - p2)) (22 + (2 * p1)).toNatClampNeg) + 1)) p0 3) + p2))] H := hP
              have hD : kd A [X5W g oM rM vM (X5_sets_f vM (X5_sets_f vM (va_up aM 0 (upd (aM 0) (((22 + (2 * p1)) + 1).toNatClampNeg) (((aM 0) ((22 + (2 * p1)) + 1).toNatClampNeg) - p2))) p0 2 (((upd (aM 0) (((22 + (2 * p1)) + 1).toNatClampNeg) (((aM 0) ((22 + (2 * p1)) + 1).toNatClampNeg) - p2)) (22 + (2 * p1)).toNatClampNeg) + 1)) p0 3 ((X5_of_f vM (X5_sets_f vM (va_up aM 0 (upd (aM 0) (((22 + (2 * p1)) + 1).toNatClampNeg) (((aM 0) ((22 + (2 * p1)) + 1).toNatClampNeg) - p2))) p0 2 (((upd (aM 0) (((22 + (2 * p1)) + 1).toNatClampNeg) (((aM 0) ((22 + (2 * p1)) + 1).toNatClampNeg) - p2)) (22 + (2 * p1)).toNatClampNeg) + 1)) p0 3) + p2))] := hD
              refine lv_aload_n hx hb dX5_fills_198 rfl (lv_at hl 1 rfl) ?_
              refine lv_aload_n hx hb dX5_fills_199 rfl (lv_at hl 1 rfl) ?_
              refine lv_iload_n hx hb dX5_fills_200 rfl (lv_at hl 2 rfl) ?_
              refine lv_iconst (v := 3) hx hb dX5_fills_201 (by decide) ?_
              refine kR_V (As := [.int p0, .int 3]) (rest := [.ref oM]) C (X5_of_c l g oM rM vM (X5_sets_f vM (X5_sets_f vM (va_up aM 0 (upd (aM 0) (((22 + (2 * p1)) + 1).toNatClampNeg) (((aM 0) ((22 + (2 * p1)) + 1).toNatClampNeg) - p2))) p0 2 (((upd (aM 0) (((22 + (2 * p1)) + 1).toNatClampNeg) (((aM 0) ((22 + (2 * p1)) + 1).toNatClampNeg) - p2)) (22 + (2 * p1)).toNatClampNeg) + 1)) p0 3 ((X5_of_f vM (X5_sets_f vM (va_up aM 0 (upd (aM 0) (((22 + (2 * p1)) + 1).toNatClampNeg) (((aM 0) ((22 + (2 * p1)) + 1).toNatClampNeg) - p2))) p0 2 (((upd (aM 0) (((22 + (2 * p1)) + 1).toNatClampNeg) (((aM 0) ((22 + (2 * p1)) + 1).toNatClampNeg) - p2)) (22 + (2 * p1)).toNatClampNeg) + 1)) p0 3) + p2)) p0 3 (by first | assumption | exact hB5 | exact hJ5 | exact ⟨0, by omega, rfl⟩ | exact ⟨1, by omega, rfl⟩ | exact ⟨2, by omega, rfl⟩ | exact ⟨3, by omega, rfl⟩ | exact ⟨4, by omega, rfl⟩) (by first | assumption | exact hB5 | exact hJ5 | exact ⟨0, by omega, rfl⟩ | exact ⟨1, by omega, rfl⟩ | exact ⟨2, by omega, rfl⟩ | exact ⟨3, by omega, rfl⟩ | exact ⟨4, by omega, rfl⟩)) (cwV 2 hts (k_gV kw1568 ca_X5_of) rfl rfl rfl ⟨rfl, pnX5_of⟩ ⟨Nat.le_of_ble_eq_true rfl, Nat.le_of_ble_eq_true rfl⟩) hE hS (hP.pick [0] rfl) (k_recv C kFX5 hP (i := 0) (q := 0) rfl rfl) rfl hl.1 rfl rfl dX5_fills_202 ⟨Nat.le_of_ble_eq_true rfl, Nat.le_of_ble_eq_true rfl⟩ ?_
              refine kM_V (As := [.int (X5_of_f vM (X5_sets_f vM (X5_sets_f vM (va_up aM 0 (upd (aM 0) (((22 + (2 * p1)) + 1).toNatClampNeg) (((aM 0) ((22 + (2 * p1)) + 1).toNatClampNeg) - p2))) p0 2 (((upd (aM 0) (((22 + (2 * p1)) + 1).toNatClampNeg) (((aM 0) ((22 + (2 * p1)) + 1).toNatClampNeg) - p2)) (22 + (2 * p1)).toNatClampNeg) + 1)) p0 3 ((X5_of_f vM (X5_sets_f vM (va_up aM 0 (upd (aM 0) (((22 + (2 * p1)) + 1).toNatClampNeg) (((aM 0) ((22 + (2 * p1)) + 1).toNatClampNeg) - p2))) p0 2 (((upd (aM 0) (((22 + (2 * p1)) + 1).toNatClampNeg) (((aM 0) ((22 + (2 * p1)) + 1).toNatClampNeg) - p2)) (22 + (2 * p1)).toNatClampNeg) + 1)) p0 3) + p2)) p0 3)]) (rest := []) (wr := []) C (X5_does_c l g oM rM vM (X5_sets_f vM (X5_sets_f vM (va_up aM 0 (upd (aM 0) (((22 + (2 * p1)) + 1).toNatClampNeg) (((aM 0) ((22 + (2 * p1)) + 1).toNatClampNeg) - p2))) p0 2 (((upd (aM 0) (((22 + (2 * p1)) + 1).toNatClampNeg) (((aM 0) ((22 + (2 * p1)) + 1).toNatClampNeg) - p2)) (22 + (2 * p1)).toNatClampNeg) + 1)) p0 3 ((X5_of_f vM (X5_sets_f vM (va_up aM 0 (upd (aM 0) (((22 + (2 * p1)) + 1).toNatClampNeg) (((aM 0) ((22 + (2 * p1)) + 1).toNatClampNeg) - p2))) p0 2 (((upd (aM 0) (((22 + (2 * p1)) + 1).toNatClampNeg) (((aM 0) ((22 + (2 * p1)) + 1).toNatClampNeg) - p2)) (22 + (2 * p1)).toNatClampNeg) + 1)) p0 3) + p2)) (X5_of_f vM (X5_sets_f vM (X5_sets_f vM (va_up aM 0 (upd (aM 0) (((22 + (2 * p1)) + 1).toNatClampNeg) (((aM 0) ((22 + (2 * p1)) + 1).toNatClampNeg) - p2))) p0 2 (((upd (aM 0) (((22 + (2 * p1)) + 1).toNatClampNeg) (((aM 0) ((22 + (2 * p1)) + 1).toNatClampNeg) - p2)) (22 + (2 * p1)).toNatClampNeg) + 1)) p0 3 ((X5_of_f vM (X5_sets_f vM (va_up aM 0 (upd (aM 0) (((22 + (2 * p1)) + 1).toNatClampNeg) (((aM 0) ((22 + (2 * p1)) + 1).toNatClampNeg) - p2))) p0 2 (((upd (aM 0) (((22 + (2 * p1)) + 1).toNatClampNeg) (((aM 0) ((22 + (2 * p1)) + 1).toNatClampNeg) - p2)) (22 + (2 * p1)).toNatClampNeg) + 1)) p0 3) + p2)) p0 3)) (cwV 1 hts (k_gV kw1572 ca_X5_does) rfl rfl rfl ⟨rfl, pnX5_does⟩ ⟨Nat.le_of_ble_eq_true rfl, Nat.le_of_ble_eq_true rfl⟩) hE hS hA hP hD [0] [] rfl rfl ⟨rfl, rfl, by decide⟩ (k_recv C kFX5 hP (i := 0) (q := 0) rfl rfl) rfl hl.1 rfl rfl dX5_fills_205 ⟨Nat.le_of_ble_eq_true rfl, Nat.le_of_ble_eq_true rfl⟩ (fun r17 u17 H locs hp17 hP hD hS => ?_)
              obtain ⟨er17, eu17⟩ := hp17
              have er17 : r17 = 1 := er17
              have eu17 : u17 = [X5W g oM rM (upd vM 18 (X5_of_f vM (X5_sets_f vM (X5_sets_f vM (va_up aM 0 (upd (aM 0) (((22 + (2 * p1)) + 1).toNatClampNeg) (((aM 0) ((22 + (2 * p1)) + 1).toNatClampNeg) - p2))) p0 2 (((upd (aM 0) (((22 + (2 * p1)) + 1).toNatClampNeg) (((aM 0) ((22 + (2 * p1)) + 1).toNatClampNeg) - p2)) (22 + (2 * p1)).toNatClampNeg) + 1)) p0 3 ((X5_of_f vM (X5_sets_f vM (va_up aM 0 (upd (aM 0) (((22 + (2 * p1)) + 1).toNatClampNeg) (((aM 0) ((22 + (2 * p1)) + 1).toNatClampNeg) - p2))) p0 2 (((upd (aM 0) (((22 + (2 * p1)) + 1).toNatClampNeg) (((aM 0) ((22 + (2 * p1)) + 1).toNatClampNeg) - p2)) (22 + (2 * p1)).toNatClampNeg) + 1)) p0 3) + p2)) p0 3)) (X5_sets_f vM (X5_sets_f vM (va_up aM 0 (upd (aM 0) (((22 + (2 * p1)) + 1).toNatClampNeg) (((aM 0) ((22 + (2 * p1)) + 1).toNatClampNeg) - p2))) p0 2 (((upd (aM 0) (((22 + (2 * p1)) + 1).toNatClampNeg) (((aM 0) ((22 + (2 * p1)) + 1).toNatClampNeg) - p2)) (22 + (2 * p1)).toNatClampNeg) + 1)) p0 3 ((X5_of_f vM (X5_sets_f vM (va_up aM 0 (upd (aM 0) (((22 + (2 * p1)) + 1).toNatClampNeg) (((aM 0) ((22 + (2 * p1)) + 1).toNatClampNeg) - p2))) p0 2 (((upd (aM 0) (((22 + (2 * p1)) + 1).toNatClampNeg) (((aM 0) ((22 + (2 * p1)) + 1).toNatClampNeg) - p2)) (22 + (2 * p1)).toNatClampNeg) + 1)) p0 3) + p2))] := eu17
              subst er17 eu17
              have hP : kp g [X5W g oM rM (upd vM 18 (X5_of_f vM (X5_sets_f vM (X5_sets_f vM (va_up aM 0 (upd (aM 0) (((22 + (2 * p1)) + 1).toNatClampNeg) (((aM 0) ((22 + (2 * p1)) + 1).toNatClampNeg) - p2))) p0 2 (((upd (aM 0) (((22 + (2 * p1)) + 1).toNatClampNeg) (((aM 0) ((22 + (2 * p1)) + 1).toNatClampNeg) - p2)) (22 + (2 * p1)).toNatClampNeg) + 1)) p0 3 ((X5_of_f vM (X5_sets_f vM (va_up aM 0 (upd (aM 0) (((22 + (2 * p1)) + 1).toNatClampNeg) (((aM 0) ((22 + (2 * p1)) + 1).toNatClampNeg) - p2))) p0 2 (((upd (aM 0) (((22 + (2 * p1)) + 1).toNatClampNeg) (((aM 0) ((22 + (2 * p1)) + 1).toNatClampNeg) - p2)) (22 + (2 * p1)).toNatClampNeg) + 1)) p0 3) + p2)) p0 3)) (X5_sets_f vM (X5_sets_f vM (va_up aM 0 (upd (aM 0) (((22 + (2 * p1)) + 1).toNatClampNeg) (((aM 0) ((22 + (2 * p1)) + 1).toNatClampNeg) - p2))) p0 2 (((upd (aM 0) (((22 + (2 * p1)) + 1).toNatClampNeg) (((aM 0) ((22 + (2 * p1)) + 1).toNatClampNeg) - p2)) (22 + (2 * p1)).toNatClampNeg) + 1)) p0 3 ((X5_of_f vM (X5_sets_f vM (va_up aM 0 (upd (aM 0) (((22 + (2 * p1)) + 1).toNatClampNeg) (((aM 0) ((22 + (2 * p1)) + 1).toNatClampNeg) - p2))) p0 2 (((upd (aM 0) (((22 + (2 * p1)) + 1).toNatClampNeg) (((aM 0) ((22 + (2 * p1)) + 1).toNatClampNeg) - p2)) (22 + (2 * p1)).toNatClampNeg) + 1)) p0 3) + p2))] H := hP
              have hD : kd A [X5W g oM rM (upd vM 18 (X5_of_f vM (X5_sets_f vM (X5_sets_f vM (va_up aM 0 (upd (aM 0) (((22 + (2 * p1)) + 1).toNatClampNeg) (((aM 0) ((22 + (2 * p1)) + 1).toNatClampNeg) - p2))) p0 2 (((upd (aM 0) (((22 + (2 * p1)) + 1).toNatClampNeg) (((aM 0) ((22 + (2 * p1)) + 1).toNatClampNeg) - p2)) (22 + (2 * p1)).toNatClampNeg) + 1)) p0 3 ((X5_of_f vM (X5_sets_f vM (va_up aM 0 (upd (aM 0) (((22 + (2 * p1)) + 1).toNatClampNeg) (((aM 0) ((22 + (2 * p1)) + 1).toNatClampNeg) - p2))) p0 2 (((upd (aM 0) (((22 + (2 * p1)) + 1).toNatClampNeg) (((aM 0) ((22 + (2 * p1)) + 1).toNatClampNeg) - p2)) (22 + (2 * p1)).toNatClampNeg) + 1)) p0 3) + p2)) p0 3)) (X5_sets_f vM (X5_sets_f vM (va_up aM 0 (upd (aM 0) (((22 + (2 * p1)) + 1).toNatClampNeg) (((aM 0) ((22 + (2 * p1)) + 1).toNatClampNeg) - p2))) p0 2 (((upd (aM 0) (((22 + (2 * p1)) + 1).toNatClampNeg) (((aM 0) ((22 + (2 * p1)) + 1).toNatClampNeg) - p2)) (22 + (2 * p1)).toNatClampNeg) + 1)) p0 3 ((X5_of_f vM (X5_sets_f vM (va_up aM 0 (upd (aM 0) (((22 + (2 * p1)) + 1).toNatClampNeg) (((aM 0) ((22 + (2 * p1)) + 1).toNatClampNeg) - p2))) p0 2 (((upd (aM 0) (((22 + (2 * p1)) + 1).toNatClampNeg) (((aM 0) ((22 + (2 * p1)) + 1).toNatClampNeg) - p2)) (22 + (2 * p1)).toNatClampNeg) + 1)) p0 3) + p2))] := hD
              have hF := (show X5_fills_f vM aM p0 p1 p2 = (true, upd vM 18 (X5_of_f vM (X5_sets_f vM (X5_sets_f vM (va_up aM 0 (upd (aM 0) (((22 + (2 * p1)) + 1).toNatClampNeg) (((aM 0) ((22 + (2 * p1)) + 1).toNatClampNeg) - p2))) p0 2 (((upd (aM 0) (((22 + (2 * p1)) + 1).toNatClampNeg) (((aM 0) ((22 + (2 * p1)) + 1).toNatClampNeg) - p2)) (22 + (2 * p1)).toNatClampNeg) + 1)) p0 3 ((X5_of_f vM (X5_sets_f vM (va_up aM 0 (upd (aM 0) (((22 + (2 * p1)) + 1).toNatClampNeg) (((aM 0) ((22 + (2 * p1)) + 1).toNatClampNeg) - p2))) p0 2 (((upd (aM 0) (((22 + (2 * p1)) + 1).toNatClampNeg) (((aM 0) ((22 + (2 * p1)) + 1).toNatClampNeg) - p2)) (22 + (2 * p1)).toNatClampNeg) + 1)) p0 3) + p2)) p0 3), (X5_sets_f vM (X5_sets_f vM (va_up aM 0 (upd (aM 0) (((22 + (2 * p1)) + 1).toNatClampNeg) (((aM 0) ((22 + (2 * p1)) + 1).toNatClampNeg) - p2))) p0 2 (((upd (aM 0) (((22 + (2 * p1)) + 1).toNatClampNeg) (((aM 0) ((22 + (2 * p1)) + 1).toNatClampNeg) - p2)) (22 + (2 * p1)).toNatClampNeg) + 1)) p0 3 ((X5_of_f vM (X5_sets_f vM (va_up aM 0 (upd (aM 0) (((22 + (2 * p1)) + 1).toNatClampNeg) (((aM 0) ((22 + (2 * p1)) + 1).toNatClampNeg) - p2))) p0 2 (((upd (aM 0) (((22 + (2 * p1)) + 1).toNatClampNeg) (((aM 0) ((22 + (2 * p1)) + 1).toNatClampNeg) - p2)) (22 + (2 * p1)).toNatClampNeg) + 1)) p0 3) + p2))) from (if_pos c1).trans ((if_pos c2).trans ((if_pos c3).trans ((if_neg c4).trans ((if_pos c12).trans ((if_pos c13).trans ((if_pos c14).trans (rfl))))))))
              exact kM_zret (x := b2i true) C (b2i_nar _) hP hD hS ⟨by rw [hF], by rw [hF]⟩ dX5_fills_208
            refine lv_aload_n hx hb dX5_fills_139 rfl (lv_at hl 1 rfl) ?_
            refine lv_bipush (v := 7) hx hb dX5_fills_140 (by decide) ?_
            refine lv_sipush (v := 400) hx hb dX5_fills_142 (by decide) ?_
            refine lv_aload_n hx hb dX5_fills_145 rfl (lv_at hl 1 rfl) ?_
            refine lv_iload_n hx hb dX5_fills_146 rfl (lv_at hl 2 rfl) ?_
            refine lv_iconst (v := 3) hx hb dX5_fills_147 (by decide) ?_
            refine kR_V (As := [.int p0, .int 3]) (rest := [.int 400, .int 7, .ref oM]) C (X5_of_c l g oM rM vM aM p0 3 (by first | assumption | exact hB5 | exact hJ5 | exact ⟨0, by omega, rfl⟩ | exact ⟨1, by omega, rfl⟩ | exact ⟨2, by omega, rfl⟩ | exact ⟨3, by omega, rfl⟩ | exact ⟨4, by omega, rfl⟩) (by first | assumption | exact hB5 | exact hJ5 | exact ⟨0, by omega, rfl⟩ | exact ⟨1, by omega, rfl⟩ | exact ⟨2, by omega, rfl⟩ | exact ⟨3, by omega, rfl⟩ | exact ⟨4, by omega, rfl⟩)) (cwV 2 hts (k_gV kw1568 ca_X5_of) rfl rfl rfl ⟨rfl, pnX5_of⟩ ⟨Nat.le_of_ble_eq_true rfl, Nat.le_of_ble_eq_true rfl⟩) hE hS (hP.pick [0] rfl) (k_recv C kFX5 hP (i := 0) (q := 0) rfl rfl) rfl hl.1 rfl rfl dX5_fills_148 ⟨Nat.le_of_ble_eq_true rfl, Nat.le_of_ble_eq_true rfl⟩ ?_
            refine lv_isub hx hb dX5_fills_151 ?_
            refine kM_V (As := [.int 7, .int (400 - (X5_of_f vM aM p0 3))]) (rest := []) (wr := []) C (X5_refuses_c l g oM rM vM aM 7 (400 - (X5_of_f vM aM p0 3))) (cwV 2 hts (k_gV kw1528 ca_X5_refuses) rfl rfl rfl ⟨rfl, pnX5_refuses⟩ ⟨Nat.le_of_ble_eq_true rfl, Nat.le_of_ble_eq_true rfl⟩) hE hS hA hP hD [0] [] rfl rfl ⟨rfl, rfl, by decide⟩ (k_recv C kFX5 hP (i := 0) (q := 0) rfl rfl) rfl hl.1 rfl rfl dX5_fills_152 ⟨Nat.le_of_ble_eq_true rfl, Nat.le_of_ble_eq_true rfl⟩ (fun r18 u18 H locs hp18 hP hD hS => ?_)
            obtain ⟨er18, eu18⟩ := hp18
            have er18 : r18 = 0 := er18
            have eu18 : u18 = [X5W g oM rM (upd (upd (upd vM 14 7) 15 (400 - (X5_of_f vM aM p0 3))) 17 (vM 16)) aM] := eu18
            subst er18 eu18
            have hP : kp g [X5W g oM rM (upd (upd (upd vM 14 7) 15 (400 - (X5_of_f vM aM p0 3))) 17 (vM 16)) aM] H := hP
            have hD : kd A [X5W g oM rM (upd (upd (upd vM 14 7) 15 (400 - (X5_of_f vM aM p0 3))) 17 (vM 16)) aM] := hD
            have hF := (show X5_fills_f vM aM p0 p1 p2 = (false, upd (upd (upd vM 14 7) 15 (400 - (X5_of_f vM aM p0 3))) 17 (vM 16), aM) from (if_pos c1).trans ((if_pos c2).trans ((if_pos c3).trans ((if_neg c4).trans ((if_pos c12).trans ((if_pos c13).trans ((if_neg c14).trans (rfl))))))))
            exact kM_zret (x := b2i false) C (b2i_nar _) hP hD hS ⟨by rw [hF], by rw [hF]⟩ dX5_fills_155
          refine lv_aload_n hx hb dX5_fills_110 rfl (lv_at hl 1 rfl) ?_
          refine lv_iconst (v := 5) hx hb dX5_fills_111 (by decide) ?_
          refine lv_aload_n hx hb dX5_fills_112 rfl (lv_at hl 1 rfl) ?_
          refine kg_get C kFX5 (k := 0) kw1446 hP (i := 0) (q := 0) rfl rfl (by decide) rfl dX5_fills_113 ?_
          refine lv_iload hx hb dX5_fills_116 (lv_at hl 0 rfl) ?_
          refine lv_iconst (v := 1) hx hb dX5_fills_118 (by decide) ?_
          refine lv_iadd hx hb dX5_fills_119 ?_
          refine kg_iald C hP (i := 0) (q := 1) rfl rfl (k_jix1 z2) dX5_fills_120 ?_
          refine kM_V (As := [.int 5, .int ((aM 0) ((22 + (2 * p1)) + 1).toNatClampNeg)]) (rest := []) (wr := []) C (X5_refuses_c l g oM rM vM aM 5 ((aM 0) ((22 + (2 * p1)) + 1).toNatClampNeg)) (cwV 2 hts (k_gV kw1528 ca_X5_refuses) rfl rfl rfl ⟨rfl, pnX5_refuses⟩ ⟨Nat.le_of_ble_eq_true rfl, Nat.le_of_ble_eq_true rfl⟩) hE hS hA hP hD [0] [] rfl rfl ⟨rfl, rfl, by decide⟩ (k_recv C kFX5 hP (i := 0) (q := 0) rfl rfl) rfl hl.1 rfl rfl dX5_fills_121 ⟨Nat.le_of_ble_eq_true rfl, Nat.le_of_ble_eq_true rfl⟩ (fun r19 u19 H locs hp19 hP hD hS => ?_)
          obtain ⟨er19, eu19⟩ := hp19
          have er19 : r19 = 0 := er19
          have eu19 : u19 = [X5W g oM rM (upd (upd (upd vM 14 5) 15 ((aM 0) ((22 + (2 * p1)) + 1).toNatClampNeg)) 17 (vM 16)) aM] := eu19
          subst er19 eu19
          have hP : kp g [X5W g oM rM (upd (upd (upd vM 14 5) 15 ((aM 0) ((22 + (2 * p1)) + 1).toNatClampNeg)) 17 (vM 16)) aM] H := hP
          have hD : kd A [X5W g oM rM (upd (upd (upd vM 14 5) 15 ((aM 0) ((22 + (2 * p1)) + 1).toNatClampNeg)) 17 (vM 16)) aM] := hD
          have hF := (show X5_fills_f vM aM p0 p1 p2 = (false, upd (upd (upd vM 14 5) 15 ((aM 0) ((22 + (2 * p1)) + 1).toNatClampNeg)) 17 (vM 16), aM) from (if_pos c1).trans ((if_pos c2).trans ((if_pos c3).trans ((if_neg c4).trans ((if_pos c12).trans ((if_neg c13).trans (rfl)))))))
          exact kM_zret (x := b2i false) C (b2i_nar _) hP hD hS ⟨by rw [hF], by rw [hF]⟩ dX5_fills_124
        refine lv_aload_n hx hb dX5_fills_83 rfl (lv_at hl 1 rfl) ?_
        refine lv_iconst (v := 4) hx hb dX5_fills_84 (by decide) ?_
        refine lv_aload_n hx hb dX5_fills_85 rfl (lv_at hl 1 rfl) ?_
        refine lv_iload_n hx hb dX5_fills_86 rfl (lv_at hl 2 rfl) ?_
        refine lv_iconst (v := 2) hx hb dX5_fills_87 (by decide) ?_
        refine kR_V (As := [.int p0, .int 2]) (rest := [.int 4, .ref oM]) C (X5_of_c l g oM rM vM aM p0 2 (by first | assumption | exact hB5 | exact hJ5 | exact ⟨0, by omega, rfl⟩ | exact ⟨1, by omega, rfl⟩ | exact ⟨2, by omega, rfl⟩ | exact ⟨3, by omega, rfl⟩ | exact ⟨4, by omega, rfl⟩) (by first | assumption | exact hB5 | exact hJ5 | exact ⟨0, by omega, rfl⟩ | exact ⟨1, by omega, rfl⟩ | exact ⟨2, by omega, rfl⟩ | exact ⟨3, by omega, rfl⟩ | exact ⟨4, by omega, rfl⟩)) (cwV 2 hts (k_gV kw1568 ca_X5_of) rfl rfl rfl ⟨rfl, pnX5_of⟩ ⟨Nat.le_of_ble_eq_true rfl, Nat.le_of_ble_eq_true rfl⟩) hE hS (hP.pick [0] rfl) (k_recv C kFX5 hP (i := 0) (q := 0) rfl rfl) rfl hl.1 rfl rfl dX5_fills_88 ⟨Nat.le_of_ble_eq_true rfl, Nat.le_of_ble_eq_true rfl⟩ ?_
        refine lv_iconst (v := 1) hx hb dX5_fills_91 (by decide) ?_
        refine lv_isub hx hb dX5_fills_92 ?_
        refine kM_V (As := [.int 4, .int ((X5_of_f vM aM p0 2) - 1)]) (rest := []) (wr := []) C (X5_refuses_c l g oM rM vM aM 4 ((X5_of_f vM aM p0 2) - 1)) (cwV 2 hts (k_gV kw1528 ca_X5_refuses) rfl rfl rfl ⟨rfl, pnX5_refuses⟩ ⟨Nat.le_of_ble_eq_true rfl, Nat.le_of_ble_eq_true rfl⟩) hE hS hA hP hD [0] [] rfl rfl ⟨rfl, rfl, by decide⟩ (k_recv C kFX5 hP (i := 0) (q := 0) rfl rfl) rfl hl.1 rfl rfl dX5_fills_93 ⟨Nat.le_of_ble_eq_true rfl, Nat.le_of_ble_eq_true rfl⟩ (fun r20 u20 H locs hp20 hP hD hS => ?_)
        obtain ⟨er20, eu20⟩ := hp20
        have er20 : r20 = 0 := er20
        have eu20 : u20 = [X5W g oM rM (upd (upd (upd vM 14 4) 15 ((X5_of_f vM aM p0 2) - 1)) 17 (vM 16)) aM] := eu20
        subst er20 eu20
        have hP : kp g [X5W g oM rM (upd (upd (upd vM 14 4) 15 ((X5_of_f vM aM p0 2) - 1)) 17 (vM 16)) aM] H := hP
        have hD : kd A [X5W g oM rM (upd (upd (upd vM 14 4) 15 ((X5_of_f vM aM p0 2) - 1)) 17 (vM 16)) aM] := hD
        have hF := (show X5_fills_f vM aM p0 p1 p2 = (false, upd (upd (upd vM 14 4) 15 ((X5_of_f vM aM p0 2) - 1)) 17 (vM 16), aM) from (if_pos c1).trans ((if_pos c2).trans ((if_pos c3).trans ((if_neg c4).trans ((if_neg c12).trans (rfl))))))
        exact kM_zret (x := b2i false) C (b2i_nar _) hP hD hS ⟨by rw [hF], by rw [hF]⟩ dX5_fills_96
      have c3 := b2i_eq0 c3
      refine lv_aload_n hx hb dX5_fills_41 rfl (lv_at hl 0 rfl) ?_
      refine lv_iconst (v := 1) hx hb dX5_fills_42 (by decide) ?_
      refine lv_iconst (v := 0) hx hb dX5_fills_43 (by decide) ?_
      refine kM_V (As := [.int 1, .int 0]) (rest := []) (wr := []) C (X5_refuses_c l g oM rM vM aM 1 0) (cwV 2 hts (k_gV kw1528 ca_X5_refuses) rfl rfl rfl ⟨rfl, pnX5_refuses⟩ ⟨Nat.le_of_ble_eq_true rfl, Nat.le_of_ble_eq_true rfl⟩) hE hS hA hP hD [0] [] rfl rfl ⟨rfl, rfl, by decide⟩ (k_recv C kFX5 hP (i := 0) (q := 0) rfl rfl) rfl hl.1 rfl rfl dX5_fills_44 ⟨Nat.le_of_ble_eq_true rfl, Nat.le_of_ble_eq_true rfl⟩ (fun r21 u21 H locs hp21 hP hD hS => ?_)
      obtain ⟨er21, eu21⟩ := hp21
      have er21 : r21 = 0 := er21
      have eu21 : u21 = [X5W g oM rM (upd (upd (upd vM 14 1) 15 0) 17 (vM 16)) aM] := eu21
      subst er21 eu21
      have hP : kp g [X5W g oM rM (upd (upd (upd vM 14 1) 15 0) 17 (vM 16)) aM] H := hP
      have hD : kd A [X5W g oM rM (upd (upd (upd vM 14 1) 15 0) 17 (vM 16)) aM] := hD
      have hF := (show X5_fills_f vM aM p0 p1 p2 = (false, upd (upd (upd vM 14 1) 15 0) 17 (vM 16), aM) from (if_pos c1).trans ((if_pos c2).trans ((if_neg c3).trans (rfl))))
      exact kM_zret (x := b2i false) C (b2i_nar _) hP hD hS ⟨by rw [hF], by rw [hF]⟩ dX5_fills_47
    have c2 := b2i_eq0 c2
    refine lv_aload_n hx hb dX5_fills_23 rfl (lv_at hl 0 rfl) ?_
    refine lv_iconst (v := 3) hx hb dX5_fills_24 (by decide) ?_
    refine lv_iload_n hx hb dX5_fills_25 rfl (lv_at hl 2 rfl) ?_
    refine kM_V (As := [.int 3, .int p1]) (rest := []) (wr := []) C (X5_refuses_c l g oM rM vM aM 3 p1) (cwV 2 hts (k_gV kw1528 ca_X5_refuses) rfl rfl rfl ⟨rfl, pnX5_refuses⟩ ⟨Nat.le_of_ble_eq_true rfl, Nat.le_of_ble_eq_true rfl⟩) hE hS hA hP hD [0] [] rfl rfl ⟨rfl, rfl, by decide⟩ (k_recv C kFX5 hP (i := 0) (q := 0) rfl rfl) rfl hl.1 rfl rfl dX5_fills_26 ⟨Nat.le_of_ble_eq_true rfl, Nat.le_of_ble_eq_true rfl⟩ (fun r22 u22 H locs hp22 hP hD hS => ?_)
    obtain ⟨er22, eu22⟩ := hp22
    have er22 : r22 = 0 := er22
    have eu22 : u22 = [X5W g oM rM (upd (upd (upd vM 14 3) 15 p1) 17 (vM 16)) aM] := eu22
    subst er22 eu22
    have hP : kp g [X5W g oM rM (upd (upd (upd vM 14 3) 15 p1) 17 (vM 16)) aM] H := hP
    have hD : kd A [X5W g oM rM (upd (upd (upd vM 14 3) 15 p1) 17 (vM 16)) aM] := hD
    have hF := (show X5_fills_f vM aM p0 p1 p2 = (false, upd (upd (upd vM 14 3) 15 p1) 17 (vM 16), aM) from (if_pos c1).trans ((if_neg c2).trans (rfl)))
    exact kM_zret (x := b2i false) C (b2i_nar _) hP hD hS ⟨by rw [hF], by rw [hF]⟩ dX5_fills_29
  have c1 := b2i_eq0 c1
  refine lv_aload_n hx hb dX5_fills_8 rfl (lv_at hl 0 rfl) ?_
  refine lv_iconst (v := 3) hx hb dX5_fills_9 (by decide) ?_
  refine lv_iload_n hx hb dX5_fills_10 rfl (lv_at hl 1 rfl) ?_
  refine kM_V (As := [.int 3, .int p0]) (rest := []) (wr := []) C (X5_refuses_c l g oM rM vM aM 3 p0) (cwV 2 hts (k_gV kw1528 ca_X5_refuses) rfl rfl rfl ⟨rfl, pnX5_refuses⟩ ⟨Nat.le_of_ble_eq_true rfl, Nat.le_of_ble_eq_true rfl⟩) hE hS hA hP hD [0] [] rfl rfl ⟨rfl, rfl, by decide⟩ (k_recv C kFX5 hP (i := 0) (q := 0) rfl rfl) rfl hl.1 rfl rfl dX5_fills_11 ⟨Nat.le_of_ble_eq_true rfl, Nat.le_of_ble_eq_true rfl⟩ (fun r23 u23 H locs hp23 hP hD hS => ?_)
  obtain ⟨er23, eu23⟩ := hp23
  have er23 : r23 = 0 := er23
  have eu23 : u23 = [X5W g oM rM (upd (upd (upd vM 14 3) 15 p0) 17 (vM 16)) aM] := eu23
  subst er23 eu23
  have hP : kp g [X5W g oM rM (upd (upd (upd vM 14 3) 15 p0) 17 (vM 16)) aM] H := hP
  have hD : kd A [X5W g oM rM (upd (upd (upd vM 14 3) 15 p0) 17 (vM 16)) aM] := hD
  have hF := (show X5_fills_f vM aM p0 p1 p2 = (false, upd (upd (upd vM 14 3) 15 p0) 17 (vM 16), aM) from (if_neg c1).trans (rfl))
  exact kM_zret (x := b2i false) C (b2i_nar _) hP hD hS ⟨by rw [hF], by rw [hF]⟩ dX5_fills_14
