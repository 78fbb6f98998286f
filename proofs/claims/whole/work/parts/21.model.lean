def kwt : Nat → Nat := fun i => ([1, 2, 5, 10, 20, 50, 100, 200] : List Nat).getD i 0
def k_P : Nat → Nat := fun i => ([0, 1, 3, 8, 18, 38, 88, 188, 388] : List Nat).getD i 0
theorem k_w8 : ∀ i, i < 8 → X5_weight_f (nI i) = nI (kwt i) ∧ k_P (i + 1) = k_P i + kwt i := by decide
theorem X5_weight_999 (x : Int32) : ∃ n : Nat, n ≤ 999 ∧ X5_weight_f x = nI n := by
  unfold X5_weight_f
  (repeat' split) <;> first | exact ⟨1, by omega, rfl⟩ | exact ⟨2, by omega, rfl⟩ | exact ⟨5, by omega, rfl⟩ | exact ⟨10, by omega, rfl⟩ | exact ⟨20, by omega, rfl⟩ | exact ⟨50, by omega, rfl⟩ | exact ⟨100, by omega, rfl⟩ | exact ⟨200, by omega, rfl⟩ | exact ⟨500, by omega, rfl⟩
theorem X5_scales_lt {vM0 : Nat → Int32} {aM : Nat → Nat → Int32} {p0 : Int32} : ∀ (n j : Nat) (x y : Int32) (vM : Nat → Int32), j ≤ 8 → y + 1 = nI j → (∃ t : Nat, t + k_P j ≤ 388 ∧ x = nI t) → ∃ t : Nat, t ≤ 388 ∧ (X5_scales_lp15 vM0 aM p0 n x y vM).1 = nI t := by
  intro n
  induction n with
  | zero => intro j x y vM hj hy ht; exact ⟨0, by omega, rfl⟩
  | succ n ih =>
    intro j x y vM hj hy ht
    rw [X5_scales_lp15_s]
    unfold X5_scales_lp15b
    obtain ⟨t, h1, rfl⟩ := ht
    split
    · exact ⟨t, by omega, rfl⟩
    · rename_i c
      obtain ⟨i, rfl, hi, rfl⟩ := k_desc hy hj (by omega) c
      obtain ⟨e1, e2⟩ := k_w8 i hi
      split
      · exact ih i _ _ _ (by omega) (k_down rfl) ⟨t + kwt i, by omega, by rw [e1, nI_add]⟩
      · exact ih i _ _ _ (by omega) (k_down rfl) ⟨t, by omega, rfl⟩
theorem X5_scales_388 (vM : Nat → Int32) (aM : Nat → Nat → Int32) (p0 : Int32) : ∃ t : Nat, t ≤ 388 ∧ (X5_scales_f vM aM p0).1 = nI t := X5_scales_lt 9 8 0 7 _ (by omega) rfl ⟨0, by decide, rfl⟩
theorem X5_scales_999 (vM : Nat → Int32) (aM : Nat → Nat → Int32) (p0 : Int32) : ∃ t : Nat, t ≤ 999 ∧ (X5_scales_f vM aM p0).1 = nI t := by
  obtain ⟨t, h1, h2⟩ := X5_scales_388 vM aM p0
  exact ⟨t, by omega, h2⟩
theorem k_lw {x : Int32} {a b : Nat} (h : ∃ n : Nat, n + a ≤ 40 ∧ x = nI n) (hb : b ≤ a) : ∃ n : Nat, n + b ≤ 40 ∧ x = nI n := by
  obtain ⟨n, h1, h2⟩ := h
  exact ⟨n, by omega, h2⟩
theorem k_wi {x y : Int32} {d : Nat} (h : ∃ n : Nat, n + (d + 1) ≤ 40 ∧ x = nI n) (g : ∀ n, x = nI n → ∃ m : Nat, m ≤ n + d ∧ y = nI m) : vp_in y 40 := by
  obtain ⟨n, h1, h2⟩ := h
  obtain ⟨m, h3, rfl⟩ := g n h2
  exact vp_in_nI (by omega) (by omega)
theorem k_ex2 {x : Int32} {m : Nat} (h : ∃ n : Nat, n + m ≤ 32 ∧ x = nI n) : vp_in x 40 := by
  obtain ⟨n, h1, rfl⟩ := h
  exact vp_in_nI (by omega) (by omega)
theorem k_l1 {x : Int32} {j : Nat} (h : ∃ n : Nat, n + 4 * (j + 1) ≤ 32 ∧ x = nI n) : ∃ n : Nat, n + 3 ≤ 40 ∧ x = nI n := by
  obtain ⟨n, h1, h2⟩ := h
  exact ⟨n, by omega, h2⟩
theorem k_l2 {x : Int32} {j : Nat} (h : ∃ n : Nat, n + 4 * j ≤ 32 ∧ x = nI n) : ∃ n : Nat, n + 3 ≤ 40 ∧ x + 1 = nI n := by
  obtain ⟨n, h1, rfl⟩ := h
  exact ⟨n + 1, by omega, nI_1 n⟩
theorem k_l3 {x : Int32} {j : Nat} (h : ∃ n : Nat, n + 4 * (j + 1) ≤ 32 ∧ x = nI n) : ∃ n : Nat, n + 4 * j ≤ 32 ∧ x = nI n := by
  obtain ⟨n, h1, h2⟩ := h
  exact ⟨n, by omega, h2⟩
theorem k_l4 {x y : Int32} {j : Nat} (h : ∃ n : Nat, n + 4 * (j + 1) ≤ 32 ∧ x = nI n) (g : ∀ n, x = nI n → ∃ m : Nat, m ≤ n + 3 ∧ y = nI m) : ∃ n : Nat, n + 4 * j ≤ 32 ∧ y = nI n := by
  obtain ⟨n, h1, h2⟩ := h
  obtain ⟨m, h3, h4⟩ := g n h2
  exact ⟨m, by omega, h4⟩
theorem k_l5 {x y : Int32} {j : Nat} (h : ∃ n : Nat, n + 4 * (j + 1) ≤ 32 ∧ x = nI n) (g : ∀ n, x + 1 = nI n → ∃ m : Nat, m ≤ n + 3 ∧ y = nI m) : ∃ n : Nat, n + 4 * j ≤ 32 ∧ y = nI n := by
  obtain ⟨n, h1, rfl⟩ := h
  obtain ⟨m, h3, h4⟩ := g (n + 1) (nI_1 n)
  exact ⟨m, by omega, h4⟩
theorem k_chr {p y : Int32} (h : X5_in_f p 0 (y - 1) = true) (hy : ∃ n : Nat, n ≤ 40 ∧ y = nI n) : vp_in p 40 := by
  obtain ⟨n, h1, h2⟩ := hy
  have := k_in0 (n := n) h (by rw [h2, Int32.sub_add_cancel]) (by omega)
  have := vp_in_iff.mp this
  exact vp_in_iff.mpr ⟨this.1, by omega⟩
theorem k_undo {x : Int32} (h : ∃ u : Nat, u ≤ 8 ∧ x = nI u) (c : ¬ x = 0) : ∃ u : Nat, u < 8 ∧ x - 1 = nI u := by
  obtain ⟨u, h1, rfl⟩ := h
  cases u with
  | zero => exact absurd rfl c
  | succ k => exact ⟨k, by omega, by rw [← nI_1, Int32.add_sub_cancel]⟩

theorem kw1450 : Cond.fieldLink RX5 19 "SpiceScaleModel" "saved" "[I" ∈ kW := k_w 7 144 rfl rfl
theorem kw1451 : Cond.fieldLink RX5 230 "SpiceScaleModel" "isSaved" "Z" ∈ kW := k_w 7 145 rfl rfl
theorem kw1452 : Cond.fieldLink RX5 22 "SpiceScaleModel" "line" "[I" ∈ kW := k_w 7 146 rfl rfl
theorem kw1453 : Cond.fieldLink RX5 227 "SpiceScaleModel" "lined" "I" ∈ kW := k_w 7 147 rfl rfl
theorem kw1810 : Cond.methodLink RX5 224 yX5_writesNumber ∈ kW := k_w 9 24 rfl rfl
abbrev wX5_faultPosition : List Cond := Cond.code yX5_faultPosition cX5_faultPosition 1 (some .int) :: kW
def X5_faultPosition_f (vM : Nat → Int32) (aM : Nat → Nat → Int32) : Int32 × (Nat → Int32) :=
  ((vM 13), upd vM 21 0)
set_option maxHeartbeats 4000000 in
set_option maxRecDepth 100000 in
theorem X5_faultPosition_c (l : Launch) (g : kG) (oM : Nat) (rM : Nat → Nat) (vM : Nat → Int32) (aM : Nat → Nat → Int32) : kM l yX5_faultPosition wX5_faultPosition 0 0 0 0 g [.ref oM] [X5W g oM rM vM aM] (fun x u => x = (X5_faultPosition_f vM aM).1 ∧ u = [X5W g oM rM ((X5_faultPosition_f vM aM).2) aM]) := by
  refine kM_of (cc := cX5_faultPosition) (nL := 1) (ret := (some .int)) (lv := [(0, .ref oM)]) (by decide) rfl (Nat.le_of_ble_eq_true rfl) rfl ?_
  intro p e s m args below meth c ls A C hP hD hE hA hS hl
  have C : kC p c cX5_faultPosition s m args meth RX5 g 1 (some .int) := C
  have hx := C.1.1
  have hb := C.1.2.1
  have hts := C.1.2.2.2.2
  refine lv_aload_n hx hb dX5_faultPosition_0 rfl (lv_at hl 0 rfl) ?_
  refine lv_iconst (v := 0) hx hb dX5_faultPosition_1 (by decide) ?_
  refine kg_put C kFX5 (k := 21) kw1467 hP hD hS (i := 0) (q := 0) rfl rfl (by decide) rfl rfl rfl (Nat.le_of_ble_eq_true rfl) X5s_21 rfl dX5_faultPosition_2 (fun H locs hP hD hS => ?_)
  have hP : kp g [X5W g oM rM (upd vM 21 0) aM] H := hP
  have hD : kd A [X5W g oM rM (upd vM 21 0) aM] := hD
  refine lv_aload_n hx hb dX5_faultPosition_5 rfl (lv_at hl 0 rfl) ?_
  refine kg_get C kFX5 (k := 13) kw1459 hP (i := 0) (q := 0) rfl rfl (by decide) rfl dX5_faultPosition_6 ?_
  have hF := (show X5_faultPosition_f vM aM = ((vM 13), upd vM 21 0) from rfl)
  exact kM_ret (x := (vM 13)) C hP hD hS ⟨by rw [hF], by rw [hF]⟩ dX5_faultPosition_9

abbrev wX5_reason : List Cond := Cond.code yX5_reason cX5_reason 2 (some .int) :: kW
def X5_reason_f (vM : Nat → Int32) (aM : Nat → Nat → Int32) (p0 : Int32) : Int32 × (Nat → Int32) :=
  if (X5_in_f p0 0 2) = true then (if (vM 14) = 0 then (0, upd (upd vM 21 0) 21 2)
    else if p0 = 0 then ((vM 14), upd vM 21 0)
    else if p0 = 1 then ((vM 15), upd vM 21 0)
    else ((vM 17), upd vM 21 0))
  else (0, upd (upd vM 21 0) 21 1)
set_option maxHeartbeats 4000000 in
set_option maxRecDepth 100000 in
theorem X5_reason_c (l : Launch) (g : kG) (oM : Nat) (rM : Nat → Nat) (vM : Nat → Int32) (aM : Nat → Nat → Int32) (p0 : Int32) : kM l yX5_reason wX5_reason 1 22 0 0 g [.ref oM, .int p0] [X5W g oM rM vM aM] (fun x u => x = (X5_reason_f vM aM p0).1 ∧ u = [X5W g oM rM ((X5_reason_f vM aM p0).2) aM]) := by
  refine kM_of (cc := cX5_reason) (nL := 2) (ret := (some .int)) (lv := [(0, .ref oM), (1, .int p0)]) (by decide) rfl (Nat.le_of_ble_eq_true rfl) rfl ?_
  intro p e s m args below meth c ls A C hP hD hE hA hS hl
  have C : kC p c cX5_reason s m args meth RX5 g 2 (some .int) := C
  have hx := C.1.1
  have hb := C.1.2.1
  have hts := C.1.2.2.2.2
  refine lv_aload_n hx hb dX5_reason_0 rfl (lv_at hl 0 rfl) ?_
  refine lv_iconst (v := 0) hx hb dX5_reason_1 (by decide) ?_
  refine kg_put C kFX5 (k := 21) kw1467 hP hD hS (i := 0) (q := 0) rfl rfl (by decide) rfl rfl rfl (Nat.le_of_ble_eq_true rfl) X5s_21 rfl dX5_reason_2 (fun H locs hP hD hS => ?_)
  have hP : kp g [X5W g oM rM (upd vM 21 0) aM] H := hP
  have hD : kd A [X5W g oM rM (upd vM 21 0) aM] := hD
  refine lv_iload_n hx hb dX5_reason_5 rfl (lv_at hl 1 rfl) ?_
  refine lv_iconst (v := 0) hx hb dX5_reason_6 (by decide) ?_
  refine lv_iconst (v := 2) hx hb dX5_reason_7 (by decide) ?_
  refine kR_S (As := [.int p0, .int 0, .int 2]) (rest := []) C (X5_in_c l g p0 0 2) (va_cwS 3 hts (k_gS kw1525 cs_X5_in) rfl rfl rfl pnX5_in ⟨Nat.le_of_ble_eq_true rfl, Nat.le_of_ble_eq_true rfl⟩) hE hS (hP.pick [] rfl) rfl hl.1 rfl rfl dX5_reason_8 ⟨Nat.le_of_ble_eq_true rfl, Nat.le_of_ble_eq_true rfl⟩ ?_
  refine lv_if_ne (tgt := 20) hx hb dX5_reason_11 (by decide) (fun c1 => ?_) (fun c1 => ?_)
  · have c1 := b2i_ne0 c1
    refine lv_aload_n hx hb dX5_reason_20 rfl (lv_at hl 0 rfl) ?_
    refine kg_get C kFX5 (k := 14) kw1460 hP (i := 0) (q := 0) rfl rfl (by decide) rfl dX5_reason_21 ?_
    refine lv_if_ne (tgt := 33) hx hb dX5_reason_24 (by decide) (fun c2 => ?_) (fun c2 => ?_)
    · refine lv_iload_n hx hb dX5_reason_33 rfl (lv_at hl 1 rfl) ?_
      refine lv_if_ne (tgt := 44) hx hb dX5_reason_34 (by decide) (fun c3 => ?_) (fun c3 => ?_)
      · refine lv_iload_n hx hb dX5_reason_44 rfl (lv_at hl 1 rfl) ?_
        refine lv_iconst (v := 1) hx hb dX5_reason_45 (by decide) ?_
        refine lv_icmp_ne (tgt := 56) hx hb dX5_reason_46 (by decide) (fun c4 => ?_) (fun c4 => ?_)
        · refine lv_aload_n hx hb dX5_reason_56 rfl (lv_at hl 0 rfl) ?_
          refine kg_get C kFX5 (k := 17) kw1463 hP (i := 0) (q := 0) rfl rfl (by decide) rfl dX5_reason_57 ?_
          have hF := (show X5_reason_f vM aM p0 = ((vM 17), upd vM 21 0) from (if_pos c1).trans ((if_neg c2).trans ((if_neg c3).trans ((if_neg c4).trans (rfl)))))
          exact kM_ret (x := (vM 17)) C hP hD hS ⟨by rw [hF], by rw [hF]⟩ dX5_reason_60
        refine lv_aload_n hx hb dX5_reason_49 rfl (lv_at hl 0 rfl) ?_
        refine kg_get C kFX5 (k := 15) kw1461 hP (i := 0) (q := 0) rfl rfl (by decide) rfl dX5_reason_50 ?_
        refine lv_goto (tgt := 60) hx hb dX5_reason_53 (by decide) ?_
        have hF := (show X5_reason_f vM aM p0 = ((vM 15), upd vM 21 0) from (if_pos c1).trans ((if_neg c2).trans ((if_neg c3).trans ((if_pos c4).trans (rfl)))))
        exact kM_ret (x := (vM 15)) C hP hD hS ⟨by rw [hF], by rw [hF]⟩ dX5_reason_60
      refine lv_aload_n hx hb dX5_reason_37 rfl (lv_at hl 0 rfl) ?_
      refine kg_get C kFX5 (k := 14) kw1460 hP (i := 0) (q := 0) rfl rfl (by decide) rfl dX5_reason_38 ?_
      refine lv_goto (tgt := 60) hx hb dX5_reason_41 (by decide) ?_
      have hF := (show X5_reason_f vM aM p0 = ((vM 14), upd vM 21 0) from (if_pos c1).trans ((if_neg c2).trans ((if_pos c3).trans (rfl))))
      exact kM_ret (x := (vM 14)) C hP hD hS ⟨by rw [hF], by rw [hF]⟩ dX5_reason_60
    refine lv_aload_n hx hb dX5_reason_27 rfl (lv_at hl 0 rfl) ?_
    refine lv_iconst (v := 2) hx hb dX5_reason_28 (by decide) ?_
    refine kM_V (As := [.int 2]) (rest := []) (wr := []) C (X5_raises_c l g oM rM (upd vM 21 0) aM 2) (cwV 1 hts (k_gV kw1540 ca_X5_raises) rfl rfl rfl ⟨rfl, pnX5_raises⟩ ⟨Nat.le_of_ble_eq_true rfl, Nat.le_of_ble_eq_true rfl⟩) hE hS hA hP hD [0] [] rfl rfl ⟨rfl, rfl, by decide⟩ (k_recv C kFX5 hP (i := 0) (q := 0) rfl rfl) rfl hl.1 rfl rfl dX5_reason_29 ⟨Nat.le_of_ble_eq_true rfl, Nat.le_of_ble_eq_true rfl⟩ (fun r5 u5 H locs hp5 hP hD hS => ?_)
    obtain ⟨er5, eu5⟩ := hp5
    have er5 : r5 = 0 := er5
    have eu5 : u5 = [X5W g oM rM (upd (upd vM 21 0) 21 2) aM] := eu5
    subst er5 eu5
    have hP : kp g [X5W g oM rM (upd (upd vM 21 0) 21 2) aM] H := hP
    have hD : kd A [X5W g oM rM (upd (upd vM 21 0) 21 2) aM] := hD
    have hF := (show X5_reason_f vM aM p0 = (0, upd (upd vM 21 0) 21 2) from (if_pos c1).trans ((if_pos c2).trans (rfl)))
    exact kM_ret (x := 0) C hP hD hS ⟨by rw [hF], by rw [hF]⟩ dX5_reason_32
  have c1 := b2i_eq0 c1
  refine lv_aload_n hx hb dX5_reason_14 rfl (lv_at hl 0 rfl) ?_
  refine lv_iconst (v := 1) hx hb dX5_reason_15 (by decide) ?_
  refine kM_V (As := [.int 1]) (rest := []) (wr := []) C (X5_raises_c l g oM rM (upd vM 21 0) aM 1) (cwV 1 hts (k_gV kw1540 ca_X5_raises) rfl rfl rfl ⟨rfl, pnX5_raises⟩ ⟨Nat.le_of_ble_eq_true rfl, Nat.le_of_ble_eq_true rfl⟩) hE hS hA hP hD [0] [] rfl rfl ⟨rfl, rfl, by decide⟩ (k_recv C kFX5 hP (i := 0) (q := 0) rfl rfl) rfl hl.1 rfl rfl dX5_reason_16 ⟨Nat.le_of_ble_eq_true rfl, Nat.le_of_ble_eq_true rfl⟩ (fun r6 u6 H locs hp6 hP hD hS => ?_)
  obtain ⟨er6, eu6⟩ := hp6
  have er6 : r6 = 0 := er6
  have eu6 : u6 = [X5W g oM rM (upd (upd vM 21 0) 21 1) aM] := eu6
  subst er6 eu6
  have hP : kp g [X5W g oM rM (upd (upd vM 21 0) 21 1) aM] H := hP
  have hD : kd A [X5W g oM rM (upd (upd vM 21 0) 21 1) aM] := hD
  have hF := (show X5_reason_f vM aM p0 = (0, upd (upd vM 21 0) 21 1) from (if_neg c1).trans (rfl))
  exact kM_ret (x := 0) C hP hD hS ⟨by rw [hF], by rw [hF]⟩ dX5_reason_19

abbrev wX5_character : List Cond := Cond.code yX5_character cX5_character 2 (some .char) :: kW
def X5_character_f (vM : Nat → Int32) (aM : Nat → Nat → Int32) (p0 : Int32) : Int32 × (Nat → Int32) :=
  if (X5_in_f p0 0 ((vM 7) - 1)) = true then ((((aM 6) p0.toNatClampNeg).toUInt32 % 65536).toInt32, upd vM 21 0)
  else (97, upd vM 21 1)
set_option maxHeartbeats 4000000 in
set_option maxRecDepth 100000 in
theorem X5_character_c (l : Launch) (g : kG) (oM : Nat) (rM : Nat → Nat) (vM : Nat → Int32) (aM : Nat → Nat → Int32) (p0 : Int32) (hl40 : (∃ n : Nat, n ≤ 40 ∧ vM 7 = nI n)) : kM l yX5_character wX5_character 1 22 0 0 g [.ref oM, .int p0] [X5W g oM rM vM aM] (fun x u => x = (X5_character_f vM aM p0).1 ∧ u = [X5W g oM rM ((X5_character_f vM aM p0).2) aM]) := by
  refine kM_of (cc := cX5_character) (nL := 2) (ret := (some .char)) (lv := [(0, .ref oM), (1, .int p0)]) (by decide) rfl (Nat.le_of_ble_eq_true rfl) rfl ?_
  intro p e s m args below meth c ls A C hP hD hE hA hS hl
  have C : kC p c cX5_character s m args meth RX5 g 2 (some .char) := C
  have hx := C.1.1
  have hb := C.1.2.1
  have hts := C.1.2.2.2.2
  refine lv_aload_n hx hb dX5_character_0 rfl (lv_at hl 0 rfl) ?_
  refine lv_iload_n hx hb dX5_character_1 rfl (lv_at hl 1 rfl) ?_
  refine lv_iconst (v := 0) hx hb dX5_character_2 (by decide) ?_
  refine lv_aload_n hx hb dX5_character_3 rfl (lv_at hl 0 rfl) ?_
  refine kg_get C kFX5 (k := 7) kw1453 hP (i := 0) (q := 0) rfl rfl (by decide) rfl dX5_character_4 ?_
  refine lv_iconst (v := 1) hx hb dX5_character_7 (by decide) ?_
  refine lv_isub hx hb dX5_character_8 ?_
  refine kR_S (As := [.int p0, .int 0, .int ((vM 7) - 1)]) (rest := [.ref oM]) C (X5_in_c l g p0 0 ((vM 7) - 1)) (va_cwS 3 hts (k_gS kw1525 cs_X5_in) rfl rfl rfl pnX5_in ⟨Nat.le_of_ble_eq_true rfl, Nat.le_of_ble_eq_true rfl⟩) hE hS (hP.pick [] rfl) rfl hl.1 rfl rfl dX5_character_9 ⟨Nat.le_of_ble_eq_true rfl, Nat.le_of_ble_eq_true rfl⟩ ?_
  refine lv_if_eq (tgt := 19) hx hb dX5_character_12 (by decide) (fun c1 => ?_) (fun c1 => ?_)
  · have c1 := b2i_eq0 c1
    refine lv_iconst (v := 1) hx hb dX5_character_19 (by decide) ?_
    refine kg_put C kFX5 (k := 21) kw1467 hP hD hS (i := 0) (q := 0) rfl rfl (by decide) rfl rfl rfl (Nat.le_of_ble_eq_true rfl) X5s_21 rfl dX5_character_20 (fun H locs hP hD hS => ?_)
    have hP : kp g [X5W g oM rM (upd vM 21 1) aM] H := hP
    have hD : kd A [X5W g oM rM (upd vM 21 1) aM] := hD
    refine lv_aload_n hx hb dX5_character_23 rfl (lv_at hl 0 rfl) ?_
    refine kg_get C kFX5 (k := 21) kw1467 hP (i := 0) (q := 0) rfl rfl (by decide) rfl dX5_character_24 ?_
    refine k_top (y := 1) rfl ?_
    refine lv_if_ne (tgt := 40) hx hb dX5_character_27 (by decide) (fun _ => ?_) (fun z => absurd z (show ¬ ((1 : Int32) = 0) by decide))
    refine lv_bipush (v := 97) hx hb dX5_character_40 (by decide) ?_
    have hF := (show X5_character_f vM aM p0 = (97, upd vM 21 1) from (if_neg c1).trans (rfl))
    exact kM_zret (x := 97) C rfl hP hD hS ⟨by rw [hF], by rw [hF]⟩ dX5_character_42
  have c1 := b2i_ne0 c1
  have z1 : vp_in p0 40 := k_chr c1 hl40
  refine lv_iconst (v := 0) hx hb dX5_character_15 (by decide) ?_
  refine lv_goto (tgt := 20) hx hb dX5_character_16 (by decide) ?_
  refine kg_put C kFX5 (k := 21) kw1467 hP hD hS (i := 0) (q := 0) rfl rfl (by decide) rfl rfl rfl (Nat.le_of_ble_eq_true rfl) X5s_21 rfl dX5_character_20 (fun H locs hP hD hS => ?_)
  have hP : kp g [X5W g oM rM (upd vM 21 0) aM] H := hP
  have hD : kd A [X5W g oM rM (upd vM 21 0) aM] := hD
  refine lv_aload_n hx hb dX5_character_23 rfl (lv_at hl 0 rfl) ?_
  refine kg_get C kFX5 (k := 21) kw1467 hP (i := 0) (q := 0) rfl rfl (by decide) rfl dX5_character_24 ?_
  refine k_top (y := 0) rfl ?_
  refine lv_if_ne (tgt := 40) hx hb dX5_character_27 (by decide) (fun z => absurd (show ((0 : Int32) = 0) by decide) z) (fun _ => ?_)
  refine lv_aload_n hx hb dX5_character_30 rfl (lv_at hl 0 rfl) ?_
  refine kg_get C kFX5 (k := 6) kw1452 hP (i := 0) (q := 0) rfl rfl (by decide) rfl dX5_character_31 ?_
  refine lv_iload_n hx hb dX5_character_34 rfl (lv_at hl 1 rfl) ?_
  refine kg_iald C hP (i := 0) (q := 5) rfl rfl (by first | assumption) dX5_character_35 ?_
  refine lv_i2c (v := (((aM 6) p0.toNatClampNeg).toUInt32 % 65536).toInt32) hx hb dX5_character_36 rfl ?_
  refine lv_goto (tgt := 42) hx hb dX5_character_37 (by decide) ?_
  have hF := (show X5_character_f vM aM p0 = ((((aM 6) p0.toNatClampNeg).toUInt32 % 65536).toInt32, upd vM 21 0) from (if_pos c1).trans (rfl))
  exact kM_zret (x := (((aM 6) p0.toNatClampNeg).toUInt32 % 65536).toInt32) C (pk_nc _) hP hD hS ⟨by rw [hF], by rw [hF]⟩ dX5_character_42

abbrev wX5_wn0 : List Cond := Cond.code yX5_writesNumber cX5_writesNumber 2 none :: kW
def X5_wn0_f (vM : Nat → Int32) (aM : Nat → Nat → Int32) (p0 : Int32) : (Nat → Int32) × (Nat → Nat → Int32) :=
  (upd vM 7 ((vM 7) + 1), va_up aM 6 (upd (aM 6) ((vM 7).toNatClampNeg) (48 + (p0 - p0 / 10 * 10))))
set_option maxHeartbeats 4000000 in
set_option maxRecDepth 100000 in
theorem X5_wn0_c (l : Launch) (g : kG) (oM : Nat) (rM : Nat → Nat) (vM : Nat → Int32) (aM : Nat → Nat → Int32) (p0 : Int32) (hp : (∃ n : Nat, n ≤ 9 ∧ p0 = nI n)) (hl7 : (∃ n : Nat, n + 1 ≤ 40 ∧ vM 7 = nI n)) : kV l yX5_writesNumber wX5_wn0 0 0 0 0 g [.ref oM, .int p0] [X5W g oM rM vM aM] (fun u => u = [X5W g oM rM ((X5_wn0_f vM aM p0).1) ((X5_wn0_f vM aM p0).2)]) := by
  refine kV_of (cc := cX5_writesNumber) (nL := 2) (ret := none) (lv := [(0, .ref oM), (1, .int p0)]) (by decide) rfl (Nat.le_of_ble_eq_true rfl) rfl ?_
  intro p e s m args below meth c ls A hnm C hP hD hE hA hS hl
  have C : kC p c cX5_writesNumber s m args meth RX5 g 2 none := C
  have hx := C.1.1
  have hb := C.1.2.1
  have hts := C.1.2.2.2.2
  refine lv_iload_n hx hb dX5_writesNumber_0 rfl (lv_at hl 1 rfl) ?_
  refine lv_bipush (v := 9) hx hb dX5_writesNumber_1 (by decide) ?_
  refine lv_icmp_le (tgt := 14) hx hb dX5_writesNumber_3 (by decide) (fun _ => ?_) (fun z => absurd (k_le9 hp) z)
  refine lv_aload_n hx hb dX5_writesNumber_14 rfl (lv_at hl 0 rfl) ?_
  refine kg_get C kFX5 (k := 6) kw1452 hP (i := 0) (q := 0) rfl rfl (by decide) rfl dX5_writesNumber_15 ?_
  refine lv_aload_n hx hb dX5_writesNumber_18 rfl (lv_at hl 0 rfl) ?_
  refine lv_dup hx hb dX5_writesNumber_19 rfl ?_
  refine kg_get C kFX5 (k := 7) kw1453 hP (i := 0) (q := 0) rfl rfl (by decide) rfl dX5_writesNumber_20 ?_
  refine lv_dup_x1 hx hb dX5_writesNumber_23 rfl rfl ?_
  refine lv_iconst (v := 1) hx hb dX5_writesNumber_24 (by decide) ?_
  refine lv_iadd hx hb dX5_writesNumber_25 ?_
  refine kg_put C kFX5 (k := 7) kw1453 hP hD hS (i := 0) (q := 0) rfl rfl (by decide) rfl rfl rfl (Nat.le_of_ble_eq_true rfl) X5s_7 rfl dX5_writesNumber_26 (fun H locs hP hD hS => ?_)
  have hP : kp g [X5W g oM rM (upd vM 7 ((vM 7) + 1)) aM] H := hP
  have hD : kd A [X5W g oM rM (upd vM 7 ((vM 7) + 1)) aM] := hD
  refine lv_bipush (v := 48) hx hb dX5_writesNumber_29 (by decide) ?_
  refine lv_iload_n hx hb dX5_writesNumber_31 rfl (lv_at hl 1 rfl) ?_
  refine lv_bipush (v := 10) hx hb dX5_writesNumber_32 (by decide) ?_
  refine lv_irem hx hb dX5_writesNumber_34 (by decide) ?_
  refine lv_iadd hx hb dX5_writesNumber_35 ?_
  refine kg_iast C hP hD hS (i := 0) (q := 5) rfl rfl (k_ex hl7 (by omega) (by omega)) X5t_6 rfl dX5_writesNumber_36 (fun H locs hP hD hS => ?_)
  have hP : kp g [X5W g oM rM (upd vM 7 ((vM 7) + 1)) (va_up aM 6 (upd (aM 6) ((vM 7).toNatClampNeg) (48 + (p0 - p0 / 10 * 10))))] H := hP
  have hD : kd A [X5W g oM rM (upd vM 7 ((vM 7) + 1)) (va_up aM 6 (upd (aM 6) ((vM 7).toNatClampNeg) (48 + (p0 - p0 / 10 * 10))))] := hD
  have hF := (show X5_wn0_f vM aM p0 = (upd vM 7 ((vM 7) + 1), va_up aM 6 (upd (aM 6) ((vM 7).toNatClampNeg) (48 + (p0 - p0 / 10 * 10)))) from rfl)
  exact kV_ret C hP hD hS (by rw [hF]) dX5_writesNumber_37
theorem X5_wn0_7 {v : Nat → Int32} {a : Nat → Nat → Int32} {p : Int32} : ∀ n, v 7 = nI n → ∃ m : Nat, m ≤ n + 1 ∧ (X5_wn0_f v a p).1 7 = nI m := fun n h => ⟨n + 1, by omega, by show v 7 + 1 = _; rw [h]; exact nI_1 n⟩

theorem pnX5_writesNumber : yX5_writesNumber.cls ≠ "java/lang/invoke/MethodHandle" ∧ yX5_writesNumber.cls ≠ "java/lang/invoke/VarHandle" ∧ (parseMethodDescriptor yX5_writesNumber.desc).map (fun d => d.parameters.length) = some 1 := by decide +kernel
theorem ca_X5_writesNumber : kCal yX5_writesNumber (Cond.code yX5_writesNumber cX5_writesNumber 2 none) := ⟨k_w 9 26 rfl rfl, k_w 1 99 rfl rfl, k_w 2 10 rfl rfl, k_w 9 27 rfl rfl⟩

abbrev wX5_wn1 : List Cond := Cond.code yX5_writesNumber cX5_writesNumber 2 none :: kW
def X5_wn1_f (vM : Nat → Int32) (aM : Nat → Nat → Int32) (p0 : Int32) : (Nat → Int32) × (Nat → Nat → Int32) :=
  if p0 ≤ 9 then (upd vM 7 ((vM 7) + 1), va_up aM 6 (upd (aM 6) ((vM 7).toNatClampNeg) (48 + (p0 - p0 / 10 * 10))))
  else (upd ((X5_wn0_f vM aM (p0 / 10)).1) 7 ((((X5_wn0_f vM aM (p0 / 10)).1) 7) + 1), va_up ((X5_wn0_f vM aM (p0 / 10)).2) 6 (upd (((X5_wn0_f vM aM (p0 / 10)).2) 6) ((((X5_wn0_f vM aM (p0 / 10)).1) 7).toNatClampNeg) (48 + (p0 - p0 / 10 * 10))))
set_option maxHeartbeats 4000000 in
set_option maxRecDepth 100000 in
theorem X5_wn1_c (l : Launch) (g : kG) (oM : Nat) (rM : Nat → Nat) (vM : Nat → Int32) (aM : Nat → Nat → Int32) (p0 : Int32) (hp : (∃ n : Nat, n ≤ 99 ∧ p0 = nI n)) (hl7 : (∃ n : Nat, n + 2 ≤ 40 ∧ vM 7 = nI n)) : kV l yX5_writesNumber wX5_wn1 1 21 0 0 g [.ref oM, .int p0] [X5W g oM rM vM aM] (fun u => u = [X5W g oM rM ((X5_wn1_f vM aM p0).1) ((X5_wn1_f vM aM p0).2)]) := by
  refine kV_of (cc := cX5_writesNumber) (nL := 2) (ret := none) (lv := [(0, .ref oM), (1, .int p0)]) (by decide) rfl (Nat.le_of_ble_eq_true rfl) rfl ?_
  intro p e s m args below meth c ls A hnm C hP hD hE hA hS hl
  have C : kC p c cX5_writesNumber s m args meth RX5 g 2 none := C
  have hx := C.1.1
  have hb := C.1.2.1
  have hts := C.1.2.2.2.2
  refine lv_iload_n hx hb dX5_writesNumber_0 rfl (lv_at hl 1 rfl) ?_
  refine lv_bipush (v := 9) hx hb dX5_writesNumber_1 (by decide) ?_
  refine lv_icmp_le (tgt := 14) hx hb dX5_writesNumber_3 (by decide) (fun c1 => ?_) (fun c1 => ?_)
  · refine lv_aload_n hx hb dX5_writesNumber_14 rfl (lv_at hl 0 rfl) ?_
    refine kg_get C kFX5 (k := 6) kw1452 hP (i := 0) (q := 0) rfl rfl (by decide) rfl dX5_writesNumber_15 ?_
    refine lv_aload_n hx hb dX5_writesNumber_18 rfl (lv_at hl 0 rfl) ?_
    refine lv_dup hx hb dX5_writesNumber_19 rfl ?_
    refine kg_get C kFX5 (k := 7) kw1453 hP (i := 0) (q := 0) rfl rfl (by decide) rfl dX5_writesNumber_20 ?_
    refine lv_dup_x1 hx hb dX5_writesNumber_23 rfl rfl ?_
    refine lv_iconst (v := 1) hx hb dX5_writesNumber_24 (by decide) ?_
    refine lv_iadd hx hb dX5_writesNumber_25 ?_
    refine kg_put C kFX5 (k := 7) kw1453 hP hD hS (i := 0) (q := 0) rfl rfl (by decide) rfl rfl rfl (Nat.le_of_ble_eq_true rfl) X5s_7 rfl dX5_writesNumber_26 (fun H locs hP hD hS => ?_)
    have hP : kp g [X5W g oM rM (upd vM 7 ((vM 7) + 1)) aM] H := hP
    have hD : kd A [X5W g oM rM (upd vM 7 ((vM 7) + 1)) aM] := hD
    refine lv_bipush (v := 48) hx hb dX5_writesNumber_29 (by decide) ?_
    refine lv_iload_n hx hb dX5_writesNumber_31 rfl (lv_at hl 1 rfl) ?_
    refine lv_bipush (v := 10) hx hb dX5_writesNumber_32 (by decide) ?_
    refine lv_irem hx hb dX5_writesNumber_34 (by decide) ?_
    refine lv_iadd hx hb dX5_writesNumber_35 ?_
    refine kg_iast C hP hD hS (i := 0) (q := 5) rfl rfl (k_ex hl7 (by omega) (by omega)) X5t_6 rfl dX5_writesNumber_36 (fun H locs hP hD hS => ?_)
    have hP : kp g [X5W g oM rM (upd vM 7 ((vM 7) + 1)) (va_up aM 6 (upd (aM 6) ((vM 7).toNatClampNeg) (48 + (p0 - p0 / 10 * 10))))] H := hP
    have hD : kd A [X5W g oM rM (upd vM 7 ((vM 7) + 1)) (va_up aM 6 (upd (aM 6) ((vM 7).toNatClampNeg) (48 + (p0 - p0 / 10 * 10))))] := hD
    have hF := (show X5_wn1_f vM aM p0 = (upd vM 7 ((vM 7) + 1), va_up aM 6 (upd (aM 6) ((vM 7).toNatClampNeg) (48 + (p0 - p0 / 10 * 10)))) from (if_pos c1).trans (rfl))
    exact kV_ret C hP hD hS (by rw [hF]) dX5_writesNumber_37
  refine lv_aload_n hx hb dX5_writesNumber_6 rfl (lv_at hl 0 rfl) ?_
  refine lv_iload_n hx hb dX5_writesNumber_7 rfl (lv_at hl 1 rfl) ?_
  refine lv_bipush (v := 10) hx hb dX5_writesNumber_8 (by decide) ?_
  refine lv_idiv hx hb dX5_writesNumber_10 (by decide) ?_
  refine kV_V (As := [.int (p0 / 10)]) (rest := []) (wr := []) C (X5_wn0_c l g oM rM vM aM (p0 / 10) (k_div10 hp (by omega)) (k_lw hl7 (by omega))) (cwV 1 hts (k_gV kw1810 ca_X5_writesNumber) rfl rfl rfl ⟨rfl, pnX5_writesNumber⟩ ⟨Nat.le_of_ble_eq_true rfl, Nat.le_of_ble_eq_true rfl⟩) hE hS hA hP hD [0] [] rfl rfl ⟨rfl, rfl, by decide⟩ (k_recv C kFX5 hP (i := 0) (q := 0) rfl rfl) rfl hl.1 rfl rfl dX5_writesNumber_11 ⟨Nat.le_of_ble_eq_true rfl, Nat.le_of_ble_eq_true rfl⟩ (fun u2 H locs hp2 hP hD hS => ?_)
  subst hp2
  have hP : kp g [X5W g oM rM ((X5_wn0_f vM aM (p0 / 10)).1) ((X5_wn0_f vM aM (p0 / 10)).2)] H := hP
  have hD : kd A [X5W g oM rM ((X5_wn0_f vM aM (p0 / 10)).1) ((X5_wn0_f vM aM (p0 / 10)).2)] := hD
  refine lv_aload_n hx hb dX5_writesNumber_14 rfl (lv_at hl 0 rfl) ?_
  refine kg_get C kFX5 (k := 6) kw1452 hP (i := 0) (q := 0) rfl rfl (by decide) rfl dX5_writesNumber_15 ?_
  refine lv_aload_n hx hb dX5_writesNumber_18 rfl (lv_at hl 0 rfl) ?_
  refine lv_dup hx hb dX5_writesNumber_19 rfl ?_
  refine kg_get C kFX5 (k := 7) kw1453 hP (i := 0) (q := 0) rfl rfl (by decide) rfl dX5_writesNumber_20 ?_
  refine lv_dup_x1 hx hb dX5_writesNumber_23 rfl rfl ?_
  refine lv_iconst (v := 1) hx hb dX5_writesNumber_24 (by decide) ?_
  refine lv_iadd hx hb dX5_writesNumber_25 ?_
  refine kg_put C kFX5 (k := 7) kw1453 hP hD hS (i := 0) (q := 0) rfl rfl (by decide) rfl rfl rfl (Nat.le_of_ble_eq_true rfl) X5s_7 rfl dX5_writesNumber_26 (fun H locs hP hD hS => ?_)
  have hP : kp g [X5W g oM rM (upd ((X5_wn0_f vM aM (p0 / 10)).1) 7 ((((X5_wn0_f vM aM (p0 / 10)).1) 7) + 1)) ((X5_wn0_f vM aM (p0 / 10)).2)] H := hP
  have hD : kd A [X5W g oM rM (upd ((X5_wn0_f vM aM (p0 / 10)).1) 7 ((((X5_wn0_f vM aM (p0 / 10)).1) 7) + 1)) ((X5_wn0_f vM aM (p0 / 10)).2)] := hD
  refine lv_bipush (v := 48) hx hb dX5_writesNumber_29 (by decide) ?_
  refine lv_iload_n hx hb dX5_writesNumber_31 rfl (lv_at hl 1 rfl) ?_
  refine lv_bipush (v := 10) hx hb dX5_writesNumber_32 (by decide) ?_
  refine lv_irem hx hb dX5_writesNumber_34 (by decide) ?_
  refine lv_iadd hx hb dX5_writesNumber_35 ?_
  refine kg_iast C hP hD hS (i := 0) (q := 5) rfl rfl (k_wi hl7 X5_wn0_7) X5t_6 rfl dX5_writesNumber_36 (fun H locs hP hD hS => ?_)
  have hP : kp g [X5W g oM rM (upd ((X5_wn0_f vM aM (p0 / 10)).1) 7 ((((X5_wn0_f vM aM (p0 / 10)).1) 7) + 1)) (va_up ((X5_wn0_f vM aM (p0 / 10)).2) 6 (upd (((X5_wn0_f vM aM (p0 / 10)).2) 6) ((((X5_wn0_f vM aM (p0 / 10)).1) 7).toNatClampNeg) (48 + (p0 - p0 / 10 * 10))))] H := hP
  have hD : kd A [X5W g oM rM (upd ((X5_wn0_f vM aM (p0 / 10)).1) 7 ((((X5_wn0_f vM aM (p0 / 10)).1) 7) + 1)) (va_up ((X5_wn0_f vM aM (p0 / 10)).2) 6 (upd (((X5_wn0_f vM aM (p0 / 10)).2) 6) ((((X5_wn0_f vM aM (p0 / 10)).1) 7).toNatClampNeg) (48 + (p0 - p0 / 10 * 10))))] := hD
  have hF := (show X5_wn1_f vM aM p0 = (upd ((X5_wn0_f vM aM (p0 / 10)).1) 7 ((((X5_wn0_f vM aM (p0 / 10)).1) 7) + 1), va_up ((X5_wn0_f vM aM (p0 / 10)).2) 6 (upd (((X5_wn0_f vM aM (p0 / 10)).2) 6) ((((X5_wn0_f vM aM (p0 / 10)).1) 7).toNatClampNeg) (48 + (p0 - p0 / 10 * 10)))) from (if_neg c1).trans (rfl))
  exact kV_ret C hP hD hS (by rw [hF]) dX5_writesNumber_37
theorem X5_wn1_7 {v : Nat → Int32} {a : Nat → Nat → Int32} {p : Int32} : ∀ n, v 7 = nI n → ∃ m : Nat, m ≤ n + 2 ∧ (X5_wn1_f v a p).1 7 = nI m := fun n h => by
  unfold X5_wn1_f
  split
  · exact ⟨n + 1, by omega, by show v 7 + 1 = _; rw [h]; exact nI_1 n⟩
  · obtain ⟨m, h1, h2⟩ := X5_wn0_7 (v := v) (a := a) (p := p / 10) n h
    exact ⟨m + 1, by omega, by show (X5_wn0_f v a (p / 10)).1 7 + 1 = _; rw [h2]; exact nI_1 m⟩

abbrev wX5_wn2 : List Cond := Cond.code yX5_writesNumber cX5_writesNumber 2 none :: kW
def X5_wn2_f (vM : Nat → Int32) (aM : Nat → Nat → Int32) (p0 : Int32) : (Nat → Int32) × (Nat → Nat → Int32) :=
  if p0 ≤ 9 then (upd vM 7 ((vM 7) + 1), va_up aM 6 (upd (aM 6) ((vM 7).toNatClampNeg) (48 + (p0 - p0 / 10 * 10))))
  else (upd ((X5_wn1_f vM aM (p0 / 10)).1) 7 ((((X5_wn1_f vM aM (p0 / 10)).1) 7) + 1), va_up ((X5_wn1_f vM aM (p0 / 10)).2) 6 (upd (((X5_wn1_f vM aM (p0 / 10)).2) 6) ((((X5_wn1_f vM aM (p0 / 10)).1) 7).toNatClampNeg) (48 + (p0 - p0 / 10 * 10))))
set_option maxHeartbeats 4000000 in
set_option maxRecDepth 100000 in
theorem X5_wn2_c (l : Launch) (g : kG) (oM : Nat) (rM : Nat → Nat) (vM : Nat → Int32) (aM : Nat → Nat → Int32) (p0 : Int32) (hp : (∃ n : Nat, n ≤ 999 ∧ p0 = nI n)) (hl7 : (∃ n : Nat, n + 3 ≤ 40 ∧ vM 7 = nI n)) : kV l yX5_writesNumber wX5_wn2 2 42 0 0 g [.ref oM, .int p0] [X5W g oM rM vM aM] (fun u => u = [X5W g oM rM ((X5_wn2_f vM aM p0).1) ((X5_wn2_f vM aM p0).2)]) := by
  refine kV_of (cc := cX5_writesNumber) (nL := 2) (ret := none) (lv := [(0, .ref oM), (1, .int p0)]) (by decide) rfl (Nat.le_of_ble_eq_true rfl) rfl ?_
  intro p e s m args below meth c ls A hnm C hP hD hE hA hS hl
  have C : kC p c cX5_writesNumber s m args meth RX5 g 2 none := C
  have hx := C.1.1
  have hb := C.1.2.1
  have hts := C.1.2.2.2.2
  refine lv_iload_n hx hb dX5_writesNumber_0 rfl (lv_at hl 1 rfl) ?_
  refine lv_bipush (v := 9) hx hb dX5_writesNumber_1 (by decide) ?_
  refine lv_icmp_le (tgt := 14) hx hb dX5_writesNumber_3 (by decide) (fun c1 => ?_) (fun c1 => ?_)
  · refine lv_aload_n hx hb dX5_writesNumber_14 rfl (lv_at hl 0 rfl) ?_
    refine kg_get C kFX5 (k := 6) kw1452 hP (i := 0) (q := 0) rfl rfl (by decide) rfl dX5_writesNumber_15 ?_
    refine lv_aload_n hx hb dX5_writesNumber_18 rfl (lv_at hl 0 rfl) ?_
    refine lv_dup hx hb dX5_writesNumber_19 rfl ?_
    refine kg_get C kFX5 (k := 7) kw1453 hP (i := 0) (q := 0) rfl rfl (by decide) rfl dX5_writesNumber_20 ?_
    refine lv_dup_x1 hx hb dX5_writesNumber_23 rfl rfl ?_
    refine lv_iconst (v := 1) hx hb dX5_writesNumber_24 (by decide) ?_
    refine lv_iadd hx hb dX5_writesNumber_25 ?_
    refine kg_put C kFX5 (k := 7) kw1453 hP hD hS (i := 0) (q := 0) rfl rfl (by decide) rfl rfl rfl (Nat.le_of_ble_eq_true rfl) X5s_7 rfl dX5_writesNumber_26 (fun H locs hP hD hS => ?_)
    have hP : kp g [X5W g oM rM (upd vM 7 ((vM 7) + 1)) aM] H := hP
    have hD : kd A [X5W g oM rM (upd vM 7 ((vM 7) + 1)) aM] := hD
    refine lv_bipush (v := 48) hx hb dX5_writesNumber_29 (by decide) ?_
    refine lv_iload_n hx hb dX5_writesNumber_31 rfl (lv_at hl 1 rfl) ?_
    refine lv_bipush (v := 10) hx hb dX5_writesNumber_32 (by decide) ?_
    refine lv_irem hx hb dX5_writesNumber_34 (by decide) ?_
    refine lv_iadd hx hb dX5_writesNumber_35 ?_
    refine kg_iast C hP hD hS (i := 0) (q := 5) rfl rfl (k_ex hl7 (by omega) (by omega)) X5t_6 rfl dX5_writesNumber_36 (fun H locs hP hD hS => ?_)
    have hP : kp g [X5W g oM rM (upd vM 7 ((vM 7) + 1)) (va_up aM 6 (upd (aM 6) ((vM 7).toNatClampNeg) (48 + (p0 - p0 / 10 * 10))))] H := hP
    have hD : kd A [X5W g oM rM (upd vM 7 ((vM 7) + 1)) (va_up aM 6 (upd (aM 6) ((vM 7).toNatClampNeg) (48 + (p0 - p0 / 10 * 10))))] := hD
    have hF := (show X5_wn2_f vM aM p0 = (upd vM 7 ((vM 7) + 1), va_up aM 6 (upd (aM 6) ((vM 7).toNatClampNeg) (48 + (p0 - p0 / 10 * 10)))) from (if_pos c1).trans (rfl))
    exact kV_ret C hP hD hS (by rw [hF]) dX5_writesNumber_37
  refine lv_aload_n hx hb dX5_writesNumber_6 rfl (lv_at hl 0 rfl) ?_
  refine lv_iload_n hx hb dX5_writesNumber_7 rfl (lv_at hl 1 rfl) ?_
  refine lv_bipush (v := 10) hx hb dX5_writesNumber_8 (by decide) ?_
  refine lv_idiv hx hb dX5_writesNumber_10 (by decide) ?_
  refine kV_V (As := [.int (p0 / 10)]) (rest := []) (wr := []) C (X5_wn1_c l g oM rM vM aM (p0 / 10) (k_div10 hp (by omega)) (k_lw hl7 (by omega))) (cwV 1 hts (k_gV kw1810 ca_X5_writesNumber) rfl rfl rfl ⟨rfl, pnX5_writesNumber⟩ ⟨Nat.le_of_ble_eq_true rfl, Nat.le_of_ble_eq_true rfl⟩) hE hS hA hP hD [0] [] rfl rfl ⟨rfl, rfl, by decide⟩ (k_recv C kFX5 hP (i := 0) (q := 0) rfl rfl) rfl hl.1 rfl rfl dX5_writesNumber_11 ⟨Nat.le_of_ble_eq_true rfl, Nat.le_of_ble_eq_true rfl⟩ (fun u2 H locs hp2 hP hD hS => ?_)
  subst hp2
  have hP : kp g [X5W g oM rM ((X5_wn1_f vM aM (p0 / 10)).1) ((X5_wn1_f vM aM (p0 / 10)).2)] H := hP
  have hD : kd A [X5W g oM rM ((X5_wn1_f vM aM (p0 / 10)).1) ((X5_wn1_f vM aM (p0 / 10)).2)] := hD
  refine lv_aload_n hx hb dX5_writesNumber_14 rfl (lv_at hl 0 rfl) ?_
  refine kg_get C kFX5 (k := 6) kw1452 hP (i := 0) (q := 0) rfl rfl (by decide) rfl dX5_writesNumber_15 ?_
  refine lv_aload_n hx hb dX5_writesNumber_18 rfl (lv_at hl 0 rfl) ?_
  refine lv_dup hx hb dX5_writesNumber_19 rfl ?_
  refine kg_get C kFX5 (k := 7) kw1453 hP (i := 0) (q := 0) rfl rfl (by decide) rfl dX5_writesNumber_20 ?_
  refine lv_dup_x1 hx hb dX5_writesNumber_23 rfl rfl ?_
  refine lv_iconst (v := 1) hx hb dX5_writesNumber_24 (by decide) ?_
  refine lv_iadd hx hb dX5_writesNumber_25 ?_
  refine kg_put C kFX5 (k := 7) kw1453 hP hD hS (i := 0) (q := 0) rfl rfl (by decide) rfl rfl rfl (Nat.le_of_ble_eq_true rfl) X5s_7 rfl dX5_writesNumber_26 (fun H locs hP hD hS => ?_)
  have hP : kp g [X5W g oM rM (upd ((X5_wn1_f vM aM (p0 / 10)).1) 7 ((((X5_wn1_f vM aM (p0 / 10)).1) 7) + 1)) ((X5_wn1_f vM aM (p0 / 10)).2)] H := hP
  have hD : kd A [X5W g oM rM (upd ((X5_wn1_f vM aM (p0 / 10)).1) 7 ((((X5_wn1_f vM aM (p0 / 10)).1) 7) + 1)) ((X5_wn1_f vM aM (p0 / 10)).2)] := hD
  refine lv_bipush (v := 48) hx hb dX5_writesNumber_29 (by decide) ?_
  refine lv_iload_n hx hb dX5_writesNumber_31 rfl (lv_at hl 1 rfl) ?_
  refine lv_bipush (v := 10) hx hb dX5_writesNumber_32 (by decide) ?_
  refine lv_irem hx hb dX5_writesNumber_34 (by decide) ?_
  refine lv_iadd hx hb dX5_writesNumber_35 ?_
  refine kg_iast C hP hD hS (i := 0) (q := 5) rfl rfl (k_wi hl7 X5_wn1_7) X5t_6 rfl dX5_writesNumber_36 (fun H locs hP hD hS => ?_)
  have hP : kp g [X5W g oM rM (upd ((X5_wn1_f vM aM (p0 / 10)).1) 7 ((((X5_wn1_f vM aM (p0 / 10)).1) 7) + 1)) (va_up ((X5_wn1_f vM aM (p0 / 10)).2) 6 (upd (((X5_wn1_f vM aM (p0 / 10)).2) 6) ((((X5_wn1_f vM aM (p0 / 10)).1) 7).toNatClampNeg) (48 + (p0 - p0 / 10 * 10))))] H := hP
  have hD : kd A [X5W g oM rM (upd ((X5_wn1_f vM aM (p0 / 10)).1) 7 ((((X5_wn1_f vM aM (p0 / 10)).1) 7) + 1)) (va_up ((X5_wn1_f vM aM (p0 / 10)).2) 6 (upd (((X5_wn1_f vM aM (p0 / 10)).2) 6) ((((X5_wn1_f vM aM (p0 / 10)).1) 7).toNatClampNeg) (48 + (p0 - p0 / 10 * 10))))] := hD
  have hF := (show X5_wn2_f vM aM p0 = (upd ((X5_wn1_f vM aM (p0 / 10)).1) 7 ((((X5_wn1_f vM aM (p0 / 10)).1) 7) + 1), va_up ((X5_wn1_f vM aM (p0 / 10)).2) 6 (upd (((X5_wn1_f vM aM (p0 / 10)).2) 6) ((((X5_wn1_f vM aM (p0 / 10)).1) 7).toNatClampNeg) (48 + (p0 - p0 / 10 * 10)))) from (if_neg c1).trans (rfl))
  exact kV_ret C hP hD hS (by rw [hF]) dX5_writesNumber_37
theorem X5_wn2_7 {v : Nat → Int32} {a : Nat → Nat → Int32} {p : Int32} : ∀ n, v 7 = nI n → ∃ m : Nat, m ≤ n + 3 ∧ (X5_wn2_f v a p).1 7 = nI m := fun n h => by
  unfold X5_wn2_f
  split
  · exact ⟨n + 1, by omega, by show v 7 + 1 = _; rw [h]; exact nI_1 n⟩
  · obtain ⟨m, h1, h2⟩ := X5_wn1_7 (v := v) (a := a) (p := p / 10) n h
    exact ⟨m + 1, by omega, by show (X5_wn1_f v a (p / 10)).1 7 + 1 = _; rw [h2]; exact nI_1 m⟩

abbrev wX5_line : List Cond := Cond.code yX5_line cX5_line 4 (some .int) :: kW
def X5_line_lp37b (vM : Nat → Int32) (aM : Nat → Nat → Int32) (p0 : Int32) (rec : Int32 → Int32 → (Nat → Int32) → (Nat → Nat → Int32) → (Int32 × (Nat → Int32) × (Nat → Nat → Int32))) (x2_37 x3_37 : Int32) (vM37 : Nat → Int32) (aM37 : Nat → Nat → Int32) : Int32 × (Nat → Int32) × (Nat → Nat → Int32) :=
  if x3_37 < 0 then ((((X5_wn2_f (upd vM37 7 ((vM37 7) + 1)) (va_up aM37 6 (upd (aM37 6) ((vM37 7).toNatClampNeg) 61)) x2_37).1) 7), (X5_wn2_f (upd vM37 7 ((vM37 7) + 1)) (va_up aM37 6 (upd (aM37 6) ((vM37 7).toNatClampNeg) 61)) x2_37).1, (X5_wn2_f (upd vM37 7 ((vM37 7) + 1)) (va_up aM37 6 (upd (aM37 6) ((vM37 7).toNatClampNeg) 61)) x2_37).2)
  else if (((vM37 19) >>> (x3_37 &&& 31)) &&& 1) = 0 then rec x2_37 (x3_37 + (-1)) vM37 aM37
  else if (vM37 7) ≤ 0 then rec x2_37 (x3_37 + (-1)) ((X5_wn2_f vM37 aM37 (X5_weight_f x3_37)).1) ((X5_wn2_f vM37 aM37 (X5_weight_f x3_37)).2)
  else rec x2_37 (x3_37 + (-1)) ((X5_wn2_f (upd vM37 7 ((vM37 7) + 1)) (va_up aM37 6 (upd (aM37 6) ((vM37 7).toNatClampNeg) 43)) (X5_weight_f x3_37)).1) ((X5_wn2_f (upd vM37 7 ((vM37 7) + 1)) (va_up aM37 6 (upd (aM37 6) ((vM37 7).toNatClampNeg) 43)) (X5_weight_f x3_37)).2)
def X5_line_lp37 (vM : Nat → Int32) (aM : Nat → Nat → Int32) (p0 : Int32) : Nat → Int32 → Int32 → (Nat → Int32) → (Nat → Nat → Int32) → (Int32 × (Nat → Int32) × (Nat → Nat → Int32))
  | 0 => fun x2_37 x3_37 vM37 aM37 => (0, vM37, aM37)
  | n + 1 => X5_line_lp37b vM aM p0 (X5_line_lp37 vM aM p0 n)
theorem X5_line_lp37_s (vM : Nat → Int32) (aM : Nat → Nat → Int32) (p0 : Int32) (n : Nat) (x2_37 x3_37 : Int32) (vM37 : Nat → Int32) (aM37 : Nat → Nat → Int32) : X5_line_lp37 vM aM p0 (n + 1) x2_37 x3_37 vM37 aM37 = X5_line_lp37b vM aM p0 (X5_line_lp37 vM aM p0 n) x2_37 x3_37 vM37 aM37 := rfl
def X5_line_f (vM : Nat → Int32) (aM : Nat → Nat → Int32) (p0 : Int32) : Int32 × (Nat → Int32) × (Nat → Nat → Int32) :=
  if (X5_isBag_f (upd vM 21 0) aM p0) = true then X5_line_lp37 vM aM p0 9 ((X5_scales_f (upd vM 21 0) aM (X5_load_f (upd vM 21 0) aM p0)).1) 7 (upd ((X5_scales_f (upd vM 21 0) aM (X5_load_f (upd vM 21 0) aM p0)).2) 7 0) aM
  else (0, upd (upd vM 21 0) 21 1, aM)
set_option maxHeartbeats 4000000 in
set_option maxRecDepth 100000 in
theorem X5_line_c (l : Launch) (g : kG) (oM : Nat) (rM : Nat → Nat) (vM : Nat → Int32) (aM : Nat → Nat → Int32) (p0 : Int32) (hB5 : (∃ n : Nat, n ≤ 6 ∧ aM 0 5 = nI n)) : kM l yX5_line wX5_line 3 66 0 0 g [.ref oM, .int p0] [X5W g oM rM vM aM] (fun x u => x = (X5_line_f vM aM p0).1 ∧ u = [X5W g oM rM ((X5_line_f vM aM p0).2.1) ((X5_line_f vM aM p0).2.2)]) := by
  refine kM_of (cc := cX5_line) (nL := 4) (ret := (some .int)) (lv := [(0, .ref oM), (1, .int p0)]) (by decide) rfl (Nat.le_of_ble_eq_true rfl) rfl ?_
  intro p e s m args below meth c ls A C hP hD hE hA hS hl
  have C : kC p c cX5_line s m args meth RX5 g 4 (some .int) := C
  have hx := C.1.1
  have hb := C.1.2.1
  have hts := C.1.2.2.2.2
  have loop37 : ∀ (n : Nat) (j37 : Nat) (x2_37 x3_37 : Int32) (vM37 : Nat → Int32) (aM37 : Nat → Nat → Int32) (H : Heap) (locs : List Loc) (ls : Array Slot), j37 ≤ 8 → j37 < n → x3_37 + 1 = nI j37 → (∃ n : Nat, n + 4 * j37 ≤ 32 ∧ vM37 7 = nI n) → (∃ n : Nat, n ≤ 999 ∧ x2_37 = nI n) → X5_line_f vM aM p0 = X5_line_lp37 vM aM p0 n x2_37 x3_37 vM37 aM37 → kp g [X5W g oM rM vM37 aM37] H → kd A [X5W g oM rM vM37 aM37] → va_S A s.heap H locs → lv_has ls 4 [(3, .int x3_37), (2, .int x2_37), (0, .ref oM), (1, .int p0)] → W p l e (kRm 3 0 0 66) s m args below meth c H locs 0 0 (MQ below (kQi g (fun x u => x = (X5_line_f vM aM p0).1 ∧ u = [X5W g oM rM ((X5_line_f vM aM p0).2.1) ((X5_line_f vM aM p0).2.2)]) A) args s 0 0 A) (F0 m 37 ls []) := by
    intro n
    induction n with
    | zero =>
      intro j37 x2_37 x3_37 vM37 aM37 H locs ls hi37 hn37 hx37 hl37 hp37 hF37 hP hD hS hl
      exact absurd hn37 (by omega)
    | succ n ih37 =>
      intro j37 x2_37 x3_37 vM37 aM37 H locs ls hi37 hn37 hx37 hl37 hp37 hF37 hP hD hS hl
      refine lv_iload_n hx hb dX5_line_37 rfl (lv_at hl 0 rfl) ?_
      refine lv_if_lt (tgt := 94) hx hb dX5_line_38 (by decide) (fun c3 => ?_) (fun c3 => ?_)
      · refine lv_aload_n hx hb dX5_line_94 rfl (lv_at hl 2 rfl) ?_
        refine kg_get C kFX5 (k := 6) kw1452 hP (i := 0) (q := 0) rfl rfl (by decide) rfl dX5_line_95 ?_
        refine lv_aload_n hx hb dX5_line_98 rfl (lv_at hl 2 rfl) ?_
        refine lv_dup hx hb dX5_line_99 rfl ?_
        refine kg_get C kFX5 (k := 7) kw1453 hP (i := 0) (q := 0) rfl rfl (by decide) rfl dX5_line_100 ?_
        refine lv_dup_x1 hx hb dX5_line_103 rfl rfl ?_
        refine lv_iconst (v := 1) hx hb dX5_line_104 (by decide) ?_
        refine lv_iadd hx hb dX5_line_105 ?_
        refine kg_put C kFX5 (k := 7) kw1453 hP hD hS (i := 0) (q := 0) rfl rfl (by decide) rfl rfl rfl (Nat.le_of_ble_eq_true rfl) X5s_7 rfl dX5_line_106 (fun H locs hP hD hS => ?_)
        have hP : kp g [X5W g oM rM (upd vM37 7 ((vM37 7) + 1)) aM37] H := hP
        have hD : kd A [X5W g oM rM (upd vM37 7 ((vM37 7) + 1)) aM37] := hD
        refine lv_bipush (v := 61) hx hb dX5_line_109 (by decide) ?_
        refine kg_iast C hP hD hS (i := 0) (q := 5) rfl rfl (k_ex2 hl37) X5t_6 rfl dX5_line_111 (fun H locs hP hD hS => ?_)
        have hP : kp g [X5W g oM rM (upd vM37 7 ((vM37 7) + 1)) (va_up aM37 6 (upd (aM37 6) ((vM37 7).toNatClampNeg) 61))] H := hP
        have hD : kd A [X5W g oM rM (upd vM37 7 ((vM37 7) + 1)) (va_up aM37 6 (upd (aM37 6) ((vM37 7).toNatClampNeg) 61))] := hD
        refine lv_aload_n hx hb dX5_line_112 rfl (lv_at hl 2 rfl) ?_
        refine lv_iload_n hx hb dX5_line_113 rfl (lv_at hl 1 rfl) ?_
        refine kV_V (As := [.int x2_37]) (rest := []) (wr := []) C (X5_wn2_c l g oM rM (upd vM37 7 ((vM37 7) + 1)) (va_up aM37 6 (upd (aM37 6) ((vM37 7).toNatClampNeg) 61)) x2_37 hp37 (k_l2 hl37)) (cwV 1 hts (k_gV kw1810 ca_X5_writesNumber) rfl rfl rfl ⟨rfl, pnX5_writesNumber⟩ ⟨Nat.le_of_ble_eq_true rfl, Nat.le_of_ble_eq_true rfl⟩) hE hS hA hP hD [0] [] rfl rfl ⟨rfl, rfl, by decide⟩ (k_recv C kFX5 hP (i := 0) (q := 0) rfl rfl) rfl hl.1 rfl rfl dX5_line_114 ⟨Nat.le_of_ble_eq_true rfl, Nat.le_of_ble_eq_true rfl⟩ (fun u4 H locs hp4 hP hD hS => ?_)
        subst hp4
        have hP : kp g [X5W g oM rM ((X5_wn2_f (upd vM37 7 ((vM37 7) + 1)) (va_up aM37 6 (upd (aM37 6) ((vM37 7).toNatClampNeg) 61)) x2_37).1) ((X5_wn2_f (upd vM37 7 ((vM37 7) + 1)) (va_up aM37 6 (upd (aM37 6) ((vM37 7).toNatClampNeg) 61)) x2_37).2)] H := hP
        have hD : kd A [X5W g oM rM ((X5_wn2_f (upd vM37 7 ((vM37 7) + 1)) (va_up aM37 6 (upd (aM37 6) ((vM37 7).toNatClampNeg) 61)) x2_37).1) ((X5_wn2_f (upd vM37 7 ((vM37 7) + 1)) (va_up aM37 6 (upd (aM37 6) ((vM37 7).toNatClampNeg) 61)) x2_37).2)] := hD
        refine lv_aload_n hx hb dX5_line_117 rfl (lv_at hl 2 rfl) ?_
        refine kg_get C kFX5 (k := 7) kw1453 hP (i := 0) (q := 0) rfl rfl (by decide) rfl dX5_line_118 ?_
        have hF := (show X5_line_f vM aM p0 = ((((X5_wn2_f (upd vM37 7 ((vM37 7) + 1)) (va_up aM37 6 (upd (aM37 6) ((vM37 7).toNatClampNeg) 61)) x2_37).1) 7), (X5_wn2_f (upd vM37 7 ((vM37 7) + 1)) (va_up aM37 6 (upd (aM37 6) ((vM37 7).toNatClampNeg) 61)) x2_37).1, (X5_wn2_f (upd vM37 7 ((vM37 7) + 1)) (va_up aM37 6 (upd (aM37 6) ((vM37 7).toNatClampNeg) 61)) x2_37).2) from hF37.trans ((X5_line_lp37_s vM aM p0 n x2_37 x3_37 vM37 aM37).trans ((if_pos c3).trans (rfl))))
        exact kM_ret (x := (((X5_wn2_f (upd vM37 7 ((vM37 7) + 1)) (va_up aM37 6 (upd (aM37 6) ((vM37 7).toNatClampNeg) 61)) x2_37).1) 7)) C hP hD hS ⟨by rw [hF], by rw [hF]⟩ dX5_line_121
      obtain ⟨j37, rfl, hj37, hx37⟩ := k_desc hx37 hi37 (by omega) c3
      refine lv_aload_n hx hb dX5_line_41 rfl (lv_at hl 2 rfl) ?_
      refine kg_get C kFX5 (k := 19) kw1465 hP (i := 0) (q := 0) rfl rfl (by decide) rfl dX5_line_42 ?_
      refine lv_iload_n hx hb dX5_line_45 rfl (lv_at hl 0 rfl) ?_
      refine lv_ishr hx hb dX5_line_46 ?_
      refine lv_iconst (v := 1) hx hb dX5_line_47 (by decide) ?_
      refine lv_iand hx hb dX5_line_48 ?_
      refine lv_if_ne (tgt := 55) hx hb dX5_line_49 (by decide) (fun c5 => ?_) (fun c5 => ?_)
      · refine lv_aload_n hx hb dX5_line_55 rfl (lv_at hl 2 rfl) ?_
        refine kg_get C kFX5 (k := 7) kw1453 hP (i := 0) (q := 0) rfl rfl (by decide) rfl dX5_line_56 ?_
        refine lv_if_le (tgt := 80) hx hb dX5_line_59 (by decide) (fun c6 => ?_) (fun c6 => ?_)
        · refine lv_aload_n hx hb dX5_line_80 rfl (lv_at hl 2 rfl) ?_
          refine lv_iload_n hx hb dX5_line_81 rfl (lv_at hl 0 rfl) ?_
          refine kR_S (As := [.int x3_37]) (rest := [.ref oM]) C (X5_weight_c l g x3_37) (va_cwS 1 hts (k_gS kw1632 cs_X5_weight) rfl rfl rfl pnX5_weight ⟨Nat.le_of_ble_eq_true rfl, Nat.le_of_ble_eq_true rfl⟩) hE hS (hP.pick [] rfl) rfl hl.1 rfl rfl dX5_line_82 ⟨Nat.le_of_ble_eq_true rfl, Nat.le_of_ble_eq_true rfl⟩ ?_
          refine kV_V (As := [.int (X5_weight_f x3_37)]) (rest := []) (wr := []) C (X5_wn2_c l g oM rM vM37 aM37 (X5_weight_f x3_37) (X5_weight_999 _) (k_l1 hl37)) (cwV 1 hts (k_gV kw1810 ca_X5_writesNumber) rfl rfl rfl ⟨rfl, pnX5_writesNumber⟩ ⟨Nat.le_of_ble_eq_true rfl, Nat.le_of_ble_eq_true rfl⟩) hE hS hA hP hD [0] [] rfl rfl ⟨rfl, rfl, by decide⟩ (k_recv C kFX5 hP (i := 0) (q := 0) rfl rfl) rfl hl.1 rfl rfl dX5_line_85 ⟨Nat.le_of_ble_eq_true rfl, Nat.le_of_ble_eq_true rfl⟩ (fun u7 H locs hp7 hP hD hS => ?_)
          subst hp7
          have hP : kp g [X5W g oM rM ((X5_wn2_f vM37 aM37 (X5_weight_f x3_37)).1) ((X5_wn2_f vM37 aM37 (X5_weight_f x3_37)).2)] H := hP
          have hD : kd A [X5W g oM rM ((X5_wn2_f vM37 aM37 (X5_weight_f x3_37)).1) ((X5_wn2_f vM37 aM37 (X5_weight_f x3_37)).2)] := hD
          refine lv_iinc (v := (x3_37 + (-1))) (lv' := [(3, .int (x3_37 + (-1))), (2, .int x2_37), (0, .ref oM), (1, .int p0)]) hx hb dX5_line_88 hl (k := 0) rfl rfl (by decide) rfl (fun ls hl => ?_)
          refine lv_goto (tgt := 37) hx hb dX5_line_91 (by decide) ?_
          exact ih37 j37 x2_37 (x3_37 + (-1)) ((X5_wn2_f vM37 aM37 (X5_weight_f x3_37)).1) ((X5_wn2_f vM37 aM37 (X5_weight_f x3_37)).2) _ _ ls (by omega) (by omega) (k_down hx37) (k_l4 hl37 X5_wn2_7) hp37 (show X5_line_f vM aM p0 = X5_line_lp37 vM aM p0 n x2_37 (x3_37 + (-1)) ((X5_wn2_f vM37 aM37 (X5_weight_f x3_37)).1) ((X5_wn2_f vM37 aM37 (X5_weight_f x3_37)).2) from hF37.trans ((X5_line_lp37_s vM aM p0 n x2_37 x3_37 vM37 aM37).trans ((if_neg c3).trans ((if_neg c5).trans ((if_pos c6).trans (rfl)))))) hP hD hS (lv_sub hl [0, 1, 2, 3] rfl)
        refine lv_aload_n hx hb dX5_line_62 rfl (lv_at hl 2 rfl) ?_
        refine kg_get C kFX5 (k := 6) kw1452 hP (i := 0) (q := 0) rfl rfl (by decide) rfl dX5_line_63 ?_
        refine lv_aload_n hx hb dX5_line_66 rfl (lv_at hl 2 rfl) ?_
        refine lv_dup hx hb dX5_line_67 rfl ?_
        refine kg_get C kFX5 (k := 7) kw1453 hP (i := 0) (q := 0) rfl rfl (by decide) rfl dX5_line_68 ?_
        refine lv_dup_x1 hx hb dX5_line_71 rfl rfl ?_
        refine lv_iconst (v := 1) hx hb dX5_line_72 (by decide) ?_
        refine lv_iadd hx hb dX5_line_73 ?_
        refine kg_put C kFX5 (k := 7) kw1453 hP hD hS (i := 0) (q := 0) rfl rfl (by decide) rfl rfl rfl (Nat.le_of_ble_eq_true rfl) X5s_7 rfl dX5_line_74 (fun H locs hP hD hS => ?_)
        have hP : kp g [X5W g oM rM (upd vM37 7 ((vM37 7) + 1)) aM37] H := hP
        have hD : kd A [X5W g oM rM (upd vM37 7 ((vM37 7) + 1)) aM37] := hD
        refine lv_bipush (v := 43) hx hb dX5_line_77 (by decide) ?_
        refine kg_iast C hP hD hS (i := 0) (q := 5) rfl rfl (k_ex2 hl37) X5t_6 rfl dX5_line_79 (fun H locs hP hD hS => ?_)
        have hP : kp g [X5W g oM rM (upd vM37 7 ((vM37 7) + 1)) (va_up aM37 6 (upd (aM37 6) ((vM37 7).toNatClampNeg) 43))] H := hP
        have hD : kd A [X5W g oM rM (upd vM37 7 ((vM37 7) + 1)) (va_up aM37 6 (upd (aM37 6) ((vM37 7).toNatClampNeg) 43))] := hD
        refine lv_aload_n hx hb dX5_line_80 rfl (lv_at hl 2 rfl) ?_
        refine lv_iload_n hx hb dX5_line_81 rfl (lv_at hl 0 rfl) ?_
        refine kR_S (As := [.int x3_37]) (rest := [.ref oM]) C (X5_weight_c l g x3_37) (va_cwS 1 hts (k_gS kw1632 cs_X5_weight) rfl rfl rfl pnX5_weight ⟨Nat.le_of_ble_eq_true rfl, Nat.le_of_ble_eq_true rfl⟩) hE hS (hP.pick [] rfl) rfl hl.1 rfl rfl dX5_line_82 ⟨Nat.le_of_ble_eq_true rfl, Nat.le_of_ble_eq_true rfl⟩ ?_
        refine kV_V (As := [.int (X5_weight_f x3_37)]) (rest := []) (wr := []) C (X5_wn2_c l g oM rM (upd vM37 7 ((vM37 7) + 1)) (va_up aM37 6 (upd (aM37 6) ((vM37 7).toNatClampNeg) 43)) (X5_weight_f x3_37) (X5_weight_999 _) (k_l2 hl37)) (cwV 1 hts (k_gV kw1810 ca_X5_writesNumber) rfl rfl rfl ⟨rfl, pnX5_writesNumber⟩ ⟨Nat.le_of_ble_eq_true rfl, Nat.le_of_ble_eq_true rfl⟩) hE hS hA hP hD [0] [] rfl rfl ⟨rfl, rfl, by decide⟩ (k_recv C kFX5 hP (i := 0) (q := 0) rfl rfl) rfl hl.1 rfl rfl dX5_line_85 ⟨Nat.le_of_ble_eq_true rfl, Nat.le_of_ble_eq_true rfl⟩ (fun u8 H locs hp8 hP hD hS => ?_)
        subst hp8
        have hP : kp g [X5W g oM rM ((X5_wn2_f (upd vM37 7 ((vM37 7) + 1)) (va_up aM37 6 (upd (aM37 6) ((vM37 7).toNatClampNeg) 43)) (X5_weight_f x3_37)).1) ((X5_wn2_f (upd vM37 7 ((vM37 7) + 1)) (va_up aM37 6 (upd (aM37 6) ((vM37 7).toNatClampNeg) 43)) (X5_weight_f x3_37)).2)] H := hP
        have hD : kd A [X5W g oM rM ((X5_wn2_f (upd vM37 7 ((vM37 7) + 1)) (va_up aM37 6 (upd (aM37 6) ((vM37 7).toNatClampNeg) 43)) (X5_weight_f x3_37)).1) ((X5_wn2_f (upd vM37 7 ((vM37 7) + 1)) (va_up aM37 6 (upd (aM37 6) ((vM37 7).toNatClampNeg) 43)) (X5_weight_f x3_37)).2)] := hD
        refine lv_iinc (v := (x3_37 + (-1))) (lv' := [(3, .int (x3_37 + (-1))), (2, .int x2_37), (0, .ref oM), (1, .int p0)]) hx hb dX5_line_88 hl (k := 0) rfl rfl (by decide) rfl (fun ls hl => ?_)
        refine lv_goto (tgt := 37) hx hb dX5_line_91 (by decide) ?_
        exact ih37 j37 x2_37 (x3_37 + (-1)) ((X5_wn2_f (upd vM37 7 ((vM37 7) + 1)) (va_up aM37 6 (upd (aM37 6) ((vM37 7).toNatClampNeg) 43)) (X5_weight_f x3_37)).1) ((X5_wn2_f (upd vM37 7 ((vM37 7) + 1)) (va_up aM37 6 (upd (aM37 6) ((vM37 7).toNatClampNeg) 43)) (X5_weight_f x3_37)).2) _ _ ls (by omega) (by omega) (k_down hx37) (k_l5 hl37 (X5_wn2_7 (v := upd vM37 7 ((vM37 7) + 1)))) hp37 (show X5_line_f vM aM p0 = X5_line_lp37 vM aM p0 n x2_37 (x3_37 + (-1)) ((X5_wn2_f (upd vM37 7 ((vM37 7) + 1)) (va_up aM37 6 (upd (aM37 6) ((vM37 7).toNatClampNeg) 43)) (X5_weight_f x3_37)).1) ((X5_wn2_f (upd vM37 7 ((vM37 7) + 1)) (va_up aM37 6 (upd (aM37 6) ((vM37 7).toNatClampNeg) 43)) (X5_weight_f x3_37)).2) from hF37.trans ((X5_line_lp37_s vM aM p0 n x2_37 x3_37 vM37 aM37).trans ((if_neg c3).trans ((if_neg c5).trans ((if_neg c6).trans (rfl)))))) hP hD hS (lv_sub hl [0, 1, 2, 3] rfl)
      refine lv_goto (tgt := 88) hx hb dX5_line_52 (by decide) ?_
      refine lv_iinc (v := (x3_37 + (-1))) (lv' := [(3, .int (x3_37 + (-1))), (2, .int x2_37), (0, .ref oM), (1, .int p0)]) hx hb dX5_line_88 hl (k := 0) rfl rfl (by decide) rfl (fun ls hl => ?_)
      refine lv_goto (tgt := 37) hx hb dX5_line_91 (by decide) ?_
      exact ih37 j37 x2_37 (x3_37 + (-1)) vM37 aM37 _ _ ls (by omega) (by omega) (k_down hx37) (k_l3 hl37) hp37 (show X5_line_f vM aM p0 = X5_line_lp37 vM aM p0 n x2_37 (x3_37 + (-1)) vM37 aM37 from hF37.trans ((X5_line_lp37_s vM aM p0 n x2_37 x3_37 vM37 aM37).trans ((if_neg c3).trans ((if_pos c5).trans (rfl))))) hP hD hS (lv_sub hl [0, 1, 2, 3] rfl)
  refine lv_aload_n hx hb dX5_line_0 rfl (lv_at hl 0 rfl) ?_
  refine lv_iconst (v := 0) hx hb dX5_line_1 (by decide) ?_
  refine kg_put C kFX5 (k := 21) kw1467 hP hD hS (i := 0) (q := 0) rfl rfl (by decide) rfl rfl rfl (Nat.le_of_ble_eq_true rfl) X5s_21 rfl dX5_line_2 (fun H locs hP hD hS => ?_)
  have hP : kp g [X5W g oM rM (upd vM 21 0) aM] H := hP
  have hD : kd A [X5W g oM rM (upd vM 21 0) aM] := hD
  refine lv_aload_n hx hb dX5_line_5 rfl (lv_at hl 0 rfl) ?_
  refine lv_iload_n hx hb dX5_line_6 rfl (lv_at hl 1 rfl) ?_
  refine kR_V (As := [.int p0]) (rest := []) C (X5_isBag_c l g oM rM (upd vM 21 0) aM p0) (cwV 1 hts (k_gV kw1560 ca_X5_isBag) rfl rfl rfl ⟨rfl, pnX5_isBag⟩ ⟨Nat.le_of_ble_eq_true rfl, Nat.le_of_ble_eq_true rfl⟩) hE hS (hP.pick [0] rfl) (k_recv C kFX5 hP (i := 0) (q := 0) rfl rfl) rfl hl.1 rfl rfl dX5_line_7 ⟨Nat.le_of_ble_eq_true rfl, Nat.le_of_ble_eq_true rfl⟩ ?_
  refine lv_if_ne (tgt := 19) hx hb dX5_line_10 (by decide) (fun c1 => ?_) (fun c1 => ?_)
  · have c1 := b2i_ne0 c1
    have z1 := k_isBag c1 hB5
    refine lv_aload_n hx hb dX5_line_19 rfl (lv_at hl 0 rfl) ?_
    refine lv_aload_n hx hb dX5_line_20 rfl (lv_at hl 0 rfl) ?_
    refine lv_iload_n hx hb dX5_line_21 rfl (lv_at hl 1 rfl) ?_
    refine kR_V (As := [.int p0]) (rest := [.ref oM]) C (X5_load_c l g oM rM (upd vM 21 0) aM p0 z1) (cwV 1 hts (k_gV kw1624 ca_X5_load) rfl rfl rfl ⟨rfl, pnX5_load⟩ ⟨Nat.le_of_ble_eq_true rfl, Nat.le_of_ble_eq_true rfl⟩) hE hS (hP.pick [0] rfl) (k_recv C kFX5 hP (i := 0) (q := 0) rfl rfl) rfl hl.1 rfl rfl dX5_line_22 ⟨Nat.le_of_ble_eq_true rfl, Nat.le_of_ble_eq_true rfl⟩ ?_
    refine kM_V (As := [.int (X5_load_f (upd vM 21 0) aM p0)]) (rest := []) (wr := []) C (X5_scales_c l g oM rM (upd vM 21 0) aM (X5_load_f (upd vM 21 0) aM p0)) (cwV 1 hts (k_gV kw1628 ca_X5_scales) rfl rfl rfl ⟨rfl, pnX5_scales⟩ ⟨Nat.le_of_ble_eq_true rfl, Nat.le_of_ble_eq_true rfl⟩) hE hS hA hP hD [0] [] rfl rfl ⟨rfl, rfl, by decide⟩ (k_recv C kFX5 hP (i := 0) (q := 0) rfl rfl) rfl hl.1 rfl rfl dX5_line_25 ⟨Nat.le_of_ble_eq_true rfl, Nat.le_of_ble_eq_true rfl⟩ (fun r2 u2 H locs hp2 hP hD hS => ?_)
    obtain ⟨rfl, rfl⟩ := hp2
    have hP : kp g [X5W g oM rM ((X5_scales_f (upd vM 21 0) aM (X5_load_f (upd vM 21 0) aM p0)).2) aM] H := hP
    have hD : kd A [X5W g oM rM ((X5_scales_f (upd vM 21 0) aM (X5_load_f (upd vM 21 0) aM p0)).2) aM] := hD
    refine lv_istore_n (lv' := [(2, .int ((X5_scales_f (upd vM 21 0) aM (X5_load_f (upd vM 21 0) aM p0)).1)), (0, .ref oM), (1, .int p0)]) hx hb dX5_line_28 rfl hl (by decide) rfl (fun ls hl => ?_)
    refine lv_aload_n hx hb dX5_line_29 rfl (lv_at hl 1 rfl) ?_
    refine lv_iconst (v := 0) hx hb dX5_line_30 (by decide) ?_
    refine kg_put C kFX5 (k := 7) kw1453 hP hD hS (i := 0) (q := 0) rfl rfl (by decide) rfl rfl rfl (Nat.le_of_ble_eq_true rfl) X5s_7 rfl dX5_line_31 (fun H locs hP hD hS => ?_)
    have hP : kp g [X5W g oM rM (upd ((X5_scales_f (upd vM 21 0) aM (X5_load_f (upd vM 21 0) aM p0)).2) 7 0) aM] H := hP
    have hD : kd A [X5W g oM rM (upd ((X5_scales_f (upd vM 21 0) aM (X5_load_f (upd vM 21 0) aM p0)).2) 7 0) aM] := hD
    refine lv_bipush (v := 7) hx hb dX5_line_34 (by decide) ?_
    refine lv_istore_n (lv' := [(3, .int 7), (2, .int ((X5_scales_f (upd vM 21 0) aM (X5_load_f (upd vM 21 0) aM p0)).1)), (0, .ref oM), (1, .int p0)]) hx hb dX5_line_36 rfl hl (by decide) rfl (fun ls hl => ?_)
    exact loop37 9 8 ((X5_scales_f (upd vM 21 0) aM (X5_load_f (upd vM 21 0) aM p0)).1) 7 (upd ((X5_scales_f (upd vM 21 0) aM (X5_load_f (upd vM 21 0) aM p0)).2) 7 0) aM _ _ ls (by omega) (by omega) rfl ⟨0, by omega, rfl⟩ (X5_scales_999 _ _ _) (show X5_line_f vM aM p0 = X5_line_lp37 vM aM p0 9 ((X5_scales_f (upd vM 21 0) aM (X5_load_f (upd vM 21 0) aM p0)).1) 7 (upd ((X5_scales_f (upd vM 21 0) aM (X5_load_f (upd vM 21 0) aM p0)).2) 7 0) aM from (if_pos c1).trans (rfl)) hP hD hS (lv_sub hl [0, 1, 2, 3] rfl)
  have c1 := b2i_eq0 c1
  refine lv_aload_n hx hb dX5_line_13 rfl (lv_at hl 0 rfl) ?_
  refine lv_iconst (v := 1) hx hb dX5_line_14 (by decide) ?_
  refine kM_V (As := [.int 1]) (rest := []) (wr := []) C (X5_raises_c l g oM rM (upd vM 21 0) aM 1) (cwV 1 hts (k_gV kw1540 ca_X5_raises) rfl rfl rfl ⟨rfl, pnX5_raises⟩ ⟨Nat.le_of_ble_eq_true rfl, Nat.le_of_ble_eq_true rfl⟩) hE hS hA hP hD [0] [] rfl rfl ⟨rfl, rfl, by decide⟩ (k_recv C kFX5 hP (i := 0) (q := 0) rfl rfl) rfl hl.1 rfl rfl dX5_line_15 ⟨Nat.le_of_ble_eq_true rfl, Nat.le_of_ble_eq_true rfl⟩ (fun r9 u9 H locs hp9 hP hD hS => ?_)
  obtain ⟨er9, eu9⟩ := hp9
  have er9 : r9 = 0 := er9
  have eu9 : u9 = [X5W g oM rM (upd (upd vM 21 0) 21 1) aM] := eu9
  subst er9 eu9
  have hP : kp g [X5W g oM rM (upd (upd vM 21 0) 21 1) aM] H := hP
  have hD : kd A [X5W g oM rM (upd (upd vM 21 0) 21 1) aM] := hD
  have hF := (show X5_line_f vM aM p0 = (0, upd (upd vM 21 0) 21 1, aM) from (if_neg c1).trans (rfl))
  exact kM_ret (x := 0) C hP hD hS ⟨by rw [hF], by rw [hF]⟩ dX5_line_18

abbrev wX5_account : List Cond := Cond.code yX5_account cX5_account 4 (some .int) :: kW
def X5_account_lp97b (vM : Nat → Int32) (aM : Nat → Nat → Int32) (p0 : Int32) (rec : Int32 → Int32 → (Int32 × (Nat → Int32))) (x2_97 x3_97 : Int32) : Int32 × (Nat → Int32) :=
  if ((aM 0) 4) ≤ x3_97 then (x2_97, upd vM 21 0)
  else rec (x2_97 + ((aM 0) ((22 + (2 * x3_97)) + 1).toNatClampNeg)) (x3_97 + 1)
def X5_account_lp97 (vM : Nat → Int32) (aM : Nat → Nat → Int32) (p0 : Int32) : Nat → Int32 → Int32 → (Int32 × (Nat → Int32))
  | 0 => fun x2_97 x3_97 => (0, vM)
  | n + 1 => X5_account_lp97b vM aM p0 (X5_account_lp97 vM aM p0 n)
theorem X5_account_lp97_s (vM : Nat → Int32) (aM : Nat → Nat → Int32) (p0 : Int32) (n : Nat) (x2_97 x3_97 : Int32) : X5_account_lp97 vM aM p0 (n + 1) x2_97 x3_97 = X5_account_lp97b vM aM p0 (X5_account_lp97 vM aM p0 n) x2_97 x3_97 := rfl
def X5_account_lp133b (vM : Nat → Int32) (aM : Nat → Nat → Int32) (p0 : Int32) (rec : Int32 → Int32 → (Int32 × (Nat → Int32))) (x2_133 x3_133 : Int32) : Int32 × (Nat → Int32) :=
  if ((aM 0) 5) ≤ x3_133 then (x2_133, upd vM 21 0)
  else rec (x2_133 + (X5_of_f (upd vM 21 0) aM x3_133 3)) (x3_133 + 1)
def X5_account_lp133 (vM : Nat → Int32) (aM : Nat → Nat → Int32) (p0 : Int32) : Nat → Int32 → Int32 → (Int32 × (Nat → Int32))
  | 0 => fun x2_133 x3_133 => (0, vM)
  | n + 1 => X5_account_lp133b vM aM p0 (X5_account_lp133 vM aM p0 n)
theorem X5_account_lp133_s (vM : Nat → Int32) (aM : Nat → Nat → Int32) (p0 : Int32) (n : Nat) (x2_133 x3_133 : Int32) : X5_account_lp133 vM aM p0 (n + 1) x2_133 x3_133 = X5_account_lp133b vM aM p0 (X5_account_lp133 vM aM p0 n) x2_133 x3_133 := rfl
def X5_account_lp171b (vM : Nat → Int32) (aM : Nat → Nat → Int32) (p0 : Int32) (rec : Int32 → Int32 → (Int32 × (Nat → Int32))) (x2_171 x3_171 : Int32) : Int32 × (Nat → Int32) :=
  if 4 ≤ x3_171 then (x2_171, upd vM 21 0)
  else if (X5_isSworn_f (upd vM 21 0) aM x3_171) = true then rec (x2_171 + 1) (x3_171 + 1)
  else rec x2_171 (x3_171 + 1)
def X5_account_lp171 (vM : Nat → Int32) (aM : Nat → Nat → Int32) (p0 : Int32) : Nat → Int32 → Int32 → (Int32 × (Nat → Int32))
  | 0 => fun x2_171 x3_171 => (0, vM)
  | n + 1 => X5_account_lp171b vM aM p0 (X5_account_lp171 vM aM p0 n)
theorem X5_account_lp171_s (vM : Nat → Int32) (aM : Nat → Nat → Int32) (p0 : Int32) (n : Nat) (x2_171 x3_171 : Int32) : X5_account_lp171 vM aM p0 (n + 1) x2_171 x3_171 = X5_account_lp171b vM aM p0 (X5_account_lp171 vM aM p0 n) x2_171 x3_171 := rfl
def X5_account_lp197b (vM : Nat → Int32) (aM : Nat → Nat → Int32) (p0 : Int32) (rec : Int32 → Int32 → (Int32 × (Nat → Int32))) (x2_197 x3_197 : Int32) : Int32 × (Nat → Int32) :=
  if 8 ≤ x3_197 then (x2_197, upd vM 21 0)
  else rec (x2_197 + (X5_shortBy_f (upd vM 21 0) aM x3_197)) (x3_197 + 1)
def X5_account_lp197 (vM : Nat → Int32) (aM : Nat → Nat → Int32) (p0 : Int32) : Nat → Int32 → Int32 → (Int32 × (Nat → Int32))
  | 0 => fun x2_197 x3_197 => (0, vM)
  | n + 1 => X5_account_lp197b vM aM p0 (X5_account_lp197 vM aM p0 n)
theorem X5_account_lp197_s (vM : Nat → Int32) (aM : Nat → Nat → Int32) (p0 : Int32) (n : Nat) (x2_197 x3_197 : Int32) : X5_account_lp197 vM aM p0 (n + 1) x2_197 x3_197 = X5_account_lp197b vM aM p0 (X5_account_lp197 vM aM p0 n) x2_197 x3_197 := rfl
def X5_account_f (vM : Nat → Int32) (aM : Nat → Nat → Int32) (p0 : Int32) : Int32 × (Nat → Int32) :=
  if p0 = 0 then (((aM 0) p0.toNatClampNeg), upd vM 21 0)
  else if p0 = 1 then (((aM 0) p0.toNatClampNeg), upd vM 21 0)
  else if p0 = 2 then (((aM 0) p0.toNatClampNeg), upd vM 21 0)
  else if p0 = 3 then (((aM 0) p0.toNatClampNeg), upd vM 21 0)
  else if p0 = 4 then (((aM 0) p0.toNatClampNeg), upd vM 21 0)
  else if p0 = 5 then (((aM 0) p0.toNatClampNeg), upd vM 21 0)
  else if p0 = 6 then X5_account_lp97 vM aM p0 7 0 0
  else if p0 = 7 then X5_account_lp133 vM aM p0 7 0 0
  else if p0 = 8 then (((aM 0) (p0 - 2).toNatClampNeg), upd vM 21 0)
  else if p0 = 9 then (((aM 0) (p0 - 2).toNatClampNeg), upd vM 21 0)
  else if p0 = 10 then (((aM 0) (p0 - 2).toNatClampNeg), upd vM 21 0)
  else if p0 = 11 then (((aM 0) (p0 - 2).toNatClampNeg), upd vM 21 0)
  else if p0 = 12 then X5_account_lp171 vM aM p0 5 0 0
  else if p0 = 13 then X5_account_lp197 vM aM p0 9 0 0
  else if p0 = 14 then ((vM 3), upd vM 21 0)
  else if p0 = 15 then ((vM 9), upd vM 21 0)
  else (0, upd (upd vM 21 0) 21 1)
set_option maxHeartbeats 4000000 in
set_option maxRecDepth 100000 in
theorem X5_account_c (l : Launch) (g : kG) (oM : Nat) (rM : Nat → Nat) (vM : Nat → Int32) (aM : Nat → Nat → Int32) (p0 : Int32) (hB5 : (∃ n : Nat, n ≤ 6 ∧ aM 0 5 = nI n)) (hJ5 : (∃ n : Nat, n ≤ 6 ∧ aM 0 4 = nI n)) : kM l yX5_account wX5_account 2 42 0 0 g [.ref oM, .int p0] [X5W g oM rM vM aM] (fun x u => x = (X5_account_f vM aM p0).1 ∧ u = [X5W g oM rM ((X5_account_f vM aM p0).2) aM]) := by
  refine kM_of (cc := cX5_account) (nL := 4) (ret := (some .int)) (lv := [(0, .ref oM), (1, .int p0)]) (by decide) rfl (Nat.le_of_ble_eq_true rfl) rfl ?_
  intro p e s m args below meth c ls A C hP hD hE hA hS hl
  have C : kC p c cX5_account s m args meth RX5 g 4 (some .int) := C
  have hx := C.1.1
  have hb := C.1.2.1
  have hts := C.1.2.2.2.2
  obtain ⟨nb, hnb, hn5⟩ := hB5
  obtain ⟨nj, hnj, hn4⟩ := hJ5
  have loop97 : ∀ (n : Nat) (j97 : Nat) (x2_97 x3_97 : Int32) (H : Heap) (locs : List Loc) (ls : Array Slot), j97 ≤ nj → nj < j97 + n → x3_97 = nI j97 → X5_account_f vM aM p0 = X5_account_lp97 vM aM p0 n x2_97 x3_97 → kp g [X5W g oM rM (upd vM 21 0) aM] H → kd A [X5W g oM rM (upd vM 21 0) aM] → va_S A s.heap H locs → lv_has ls 4 [(3, .int x3_97), (2, .int x2_97), (0, .ref oM), (1, .int p0)] → W p l e (kRm 2 0 0 42) s m args below meth c H locs 0 0 (MQ below (kQi g (fun x u => x = (X5_account_f vM aM p0).1 ∧ u = [X5W g oM rM ((X5_account_f vM aM p0).2) aM]) A) args s 0 0 A) (F0 m 97 ls []) := by
    intro n
    induction n with
    | zero =>
      intro j97 x2_97 x3_97 H locs ls hi97 hn97 hx97 hF97 hP hD hS hl
      exact absurd hn97 (by omega)
    | succ n ih97 =>
      intro j97 x2_97 x3_97 H locs ls hi97 hn97 hx97 hF97 hP hD hS hl
      refine lv_iload_n hx hb dX5_account_97 rfl (lv_at hl 0 rfl) ?_
      refine lv_aload_n hx hb dX5_account_98 rfl (lv_at hl 2 rfl) ?_
      refine kg_get C kFX5 (k := 0) kw1446 hP (i := 0) (q := 0) rfl rfl (by decide) rfl dX5_account_99 ?_
      refine lv_iconst (v := 4) hx hb dX5_account_102 (by decide) ?_
      refine kg_ialdK C hP (i := 0) (q := 1) rfl rfl (j := 4) rfl (k_vin (j := 4) rfl (by decide) (by decide)) dX5_account_103 ?_
      refine lv_icmp_ge (tgt := 129) hx hb dX5_account_104 (by decide) (fun c8 => ?_) (fun c8 => ?_)
      · refine lv_iload_n hx hb dX5_account_129 rfl (lv_at hl 1 rfl) ?_
        have hF := (show X5_account_f vM aM p0 = (x2_97, upd vM 21 0) from hF97.trans ((X5_account_lp97_s vM aM p0 n x2_97 x3_97).trans ((if_pos c8).trans (rfl))))
        exact kM_ret (x := x2_97) C hP hD hS ⟨by rw [hF], by rw [hF]⟩ dX5_account_130
      have hj97 := k_asc hx97 (y := ((aM 0) 4)) (N := nj) hn4 hi97 (by omega) c8
      refine lv_iload_n hx hb dX5_account_107 rfl (lv_at hl 1 rfl) ?_
      refine lv_aload_n hx hb dX5_account_108 rfl (lv_at hl 2 rfl) ?_
      refine kg_get C kFX5 (k := 0) kw1446 hP (i := 0) (q := 0) rfl rfl (by decide) rfl dX5_account_109 ?_
      refine lv_bipush (v := 22) hx hb dX5_account_112 (by decide) ?_
      refine lv_iconst (v := 2) hx hb dX5_account_114 (by decide) ?_
      refine lv_iload_n hx hb dX5_account_115 rfl (lv_at hl 0 rfl) ?_
      refine lv_imul hx hb dX5_account_116 ?_
      refine lv_iadd hx hb dX5_account_117 ?_
      refine lv_iconst (v := 1) hx hb dX5_account_118 (by decide) ?_
      refine lv_iadd hx hb dX5_account_119 ?_
      refine kg_iald C hP (i := 0) (q := 1) rfl rfl (k_jix1 (k_vin hx97 (by omega) (by decide))) dX5_account_120 ?_
      refine lv_iadd hx hb dX5_account_121 ?_
      refine lv_istore_n (lv' := [(2, .int (x2_97 + ((aM 0) ((22 + (2 * x3_97)) + 1).toNatClampNeg))), (3, .int x3_97), (0, .ref oM), (1, .int p0)]) hx hb dX5_account_122 rfl hl (by decide) rfl (fun ls hl => ?_)
      refine lv_iinc (v := (x3_97 + 1)) (lv' := [(3, .int (x3_97 + 1)), (2, .int (x2_97 + ((aM 0) ((22 + (2 * x3_97)) + 1).toNatClampNeg))), (0, .ref oM), (1, .int p0)]) hx hb dX5_account_123 hl (k := 1) rfl rfl (by decide) rfl (fun ls hl => ?_)
      refine lv_goto (tgt := 97) hx hb dX5_account_126 (by decide) ?_
      exact ih97 (j97 + 1) (x2_97 + ((aM 0) ((22 + (2 * x3_97)) + 1).toNatClampNeg)) (x3_97 + 1) _ _ ls hj97 (by omega) (k_up hx97) (show X5_account_f vM aM p0 = X5_account_lp97 vM aM p0 n (x2_97 + ((aM 0) ((22 + (2 * x3_97)) + 1).toNatClampNeg)) (x3_97 + 1) from hF97.trans ((X5_account_lp97_s vM aM p0 n x2_97 x3_97).trans ((if_neg c8).trans (rfl)))) hP hD hS (lv_sub hl [0, 1, 2, 3] rfl)
  have loop133 : ∀ (n : Nat) (j133 : Nat) (x2_133 x3_133 : Int32) (H : Heap) (locs : List Loc) (ls : Array Slot), j133 ≤ nb → nb < j133 + n → x3_133 = nI j133 → X5_account_f vM aM p0 = X5_account_lp133 vM aM p0 n x2_133 x3_133 → kp g [X5W g oM rM (upd vM 21 0) aM] H → kd A [X5W g oM rM (upd vM 21 0) aM] → va_S A s.heap H locs → lv_has ls 4 [(3, .int x3_133), (2, .int x2_133), (0, .ref oM), (1, .int p0)] → W p l e (kRm 2 0 0 42) s m args below meth c H locs 0 0 (MQ below (kQi g (fun x u => x = (X5_account_f vM aM p0).1 ∧ u = [X5W g oM rM ((X5_account_f vM aM p0).2) aM]) A) args s 0 0 A) (F0 m 133 ls []) := by
    intro n
    induction n with
    | zero =>
      intro j133 x2_133 x3_133 H locs ls hi133 hn133 hx133 hF133 hP hD hS hl
      exact absurd hn133 (by omega)
    | succ n ih133 =>
      intro j133 x2_133 x3_133 H locs ls hi133 hn133 hx133 hF133 hP hD hS hl
      refine lv_iload_n hx hb dX5_account_133 rfl (lv_at hl 0 rfl) ?_
      refine lv_aload_n hx hb dX5_account_134 rfl (lv_at hl 2 rfl) ?_
      refine kg_get C kFX5 (k := 0) kw1446 hP (i := 0) (q := 0) rfl rfl (by decide) rfl dX5_account_135 ?_
      refine lv_iconst (v := 5) hx hb dX5_account_138 (by decide) ?_
      refine kg_ialdK C hP (i := 0) (q := 1) rfl rfl (j := 5) rfl (k_vin (j := 5) rfl (by decide) (by decide)) dX5_account_139 ?_
      refine lv_icmp_ge (tgt := 158) hx hb dX5_account_140 (by decide) (fun c10 => ?_) (fun c10 => ?_)
      · refine lv_iload_n hx hb dX5_account_158 rfl (lv_at hl 1 rfl) ?_
        have hF := (show X5_account_f vM aM p0 = (x2_133, upd vM 21 0) from hF133.trans ((X5_account_lp133_s vM aM p0 n x2_133 x3_133).trans ((if_pos c10).trans (rfl))))
        exact kM_ret (x := x2_133) C hP hD hS ⟨by rw [hF], by rw [hF]⟩ dX5_account_159
      have hj133 := k_asc hx133 (y := ((aM 0) 5)) (N := nb) hn5 hi133 (by omega) c10
      refine lv_iload_n hx hb dX5_account_143 rfl (lv_at hl 1 rfl) ?_
      refine lv_aload_n hx hb dX5_account_144 rfl (lv_at hl 2 rfl) ?_
      refine lv_iload_n hx hb dX5_account_145 rfl (lv_at hl 0 rfl) ?_
      refine lv_iconst (v := 3) hx hb dX5_account_146 (by decide) ?_
      refine kR_V (As := [.int x3_133, .int 3]) (rest := [.int x2_133]) C (X5_of_c l g oM rM (upd vM 21 0) aM x3_133 3 (by first | assumption | exact k_vin hx133 (by omega) (by decide) | exact hB5 | exact hJ5 | exact ⟨0, by omega, rfl⟩ | exact ⟨1, by omega, rfl⟩ | exact ⟨2, by omega, rfl⟩ | exact ⟨3, by omega, rfl⟩ | exact ⟨4, by omega, rfl⟩ | exact ⟨j133, by omega, hx133⟩) (by first | assumption | exact k_vin hx133 (by omega) (by decide) | exact hB5 | exact hJ5 | exact ⟨0, by omega, rfl⟩ | exact ⟨1, by omega, rfl⟩ | exact ⟨2, by omega, rfl⟩ | exact ⟨3, by omega, rfl⟩ | exact ⟨4, by omega, rfl⟩ | exact ⟨j133, by omega, hx133⟩)) (cwV 2 hts (k_gV kw1568 ca_X5_of) rfl rfl rfl ⟨rfl, pnX5_of⟩ ⟨Nat.le_of_ble_eq_true rfl, Nat.le_of_ble_eq_true rfl⟩) hE hS (hP.pick [0] rfl) (k_recv C kFX5 hP (i := 0) (q := 0) rfl rfl) rfl hl.1 rfl rfl dX5_account_147 ⟨Nat.le_of_ble_eq_true rfl, Nat.le_of_ble_eq_true rfl⟩ ?_
      refine lv_iadd hx hb dX5_account_150 ?_
      refine lv_istore_n (lv' := [(2, .int (x2_133 + (X5_of_f (upd vM 21 0) aM x3_133 3))), (3, .int x3_133), (0, .ref oM), (1, .int p0)]) hx hb dX5_account_151 rfl hl (by decide) rfl (fun ls hl => ?_)
      refine lv_iinc (v := (x3_133 + 1)) (lv' := [(3, .int (x3_133 + 1)), (2, .int (x2_133 + (X5_of_f (upd vM 21 0) aM x3_133 3))), (0, .ref oM), (1, .int p0)]) hx hb dX5_account_152 hl (k := 1) rfl rfl (by decide) rfl (fun ls hl => ?_)
      refine lv_goto (tgt := 133) hx hb dX5_account_155 (by decide) ?_
      exact ih133 (j133 + 1) (x2_133 + (X5_of_f (upd vM 21 0) aM x3_133 3)) (x3_133 + 1) _ _ ls hj133 (by omega) (k_up hx133) (show X5_account_f vM aM p0 = X5_account_lp133 vM aM p0 n (x2_133 + (X5_of_f (upd vM 21 0) aM x3_133 3)) (x3_133 + 1) from hF133.trans ((X5_account_lp133_s vM aM p0 n x2_133 x3_133).trans ((if_neg c10).trans (rfl)))) hP hD hS (lv_sub hl [0, 1, 2, 3] rfl)
  have loop171 : ∀ (n : Nat) (j171 : Nat) (x2_171 x3_171 : Int32) (H : Heap) (locs : List Loc) (ls : Array Slot), j171 ≤ 4 → 4 < j171 + n → x3_171 = nI j171 → X5_account_f vM aM p0 = X5_account_lp171 vM aM p0 n x2_171 x3_171 → kp g [X5W g oM rM (upd vM 21 0) aM] H → kd A [X5W g oM rM (upd vM 21 0) aM] → va_S A s.heap H locs → lv_has ls 4 [(3, .int x3_171), (2, .int x2_171), (0, .ref oM), (1, .int p0)] → W p l e (kRm 2 0 0 42) s m args below meth c H locs 0 0 (MQ below (kQi g (fun x u => x = (X5_account_f vM aM p0).1 ∧ u = [X5W g oM rM ((X5_account_f vM aM p0).2) aM]) A) args s 0 0 A) (F0 m 171 ls []) := by
    intro n
    induction n with
    | zero =>
      intro j171 x2_171 x3_171 H locs ls hi171 hn171 hx171 hF171 hP hD hS hl
      exact absurd hn171 (by omega)
    | succ n ih171 =>
      intro j171 x2_171 x3_171 H locs ls hi171 hn171 hx171 hF171 hP hD hS hl
      refine lv_iload_n hx hb dX5_account_171 rfl (lv_at hl 0 rfl) ?_
      refine lv_iconst (v := 4) hx hb dX5_account_172 (by decide) ?_
      refine lv_icmp_ge (tgt := 193) hx hb dX5_account_173 (by decide) (fun c16 => ?_) (fun c16 => ?_)
      · refine lv_iload_n hx hb dX5_account_193 rfl (lv_at hl 1 rfl) ?_
        have hF := (show X5_account_f vM aM p0 = (x2_171, upd vM 21 0) from hF171.trans ((X5_account_lp171_s vM aM p0 n x2_171 x3_171).trans ((if_pos c16).trans (rfl))))
        exact kM_ret (x := x2_171) C hP hD hS ⟨by rw [hF], by rw [hF]⟩ dX5_account_194
      have hj171 := k_asc hx171 (y := 4) (N := 4) rfl hi171 (by omega) c16
      refine lv_aload_n hx hb dX5_account_176 rfl (lv_at hl 2 rfl) ?_
      refine lv_iload_n hx hb dX5_account_177 rfl (lv_at hl 0 rfl) ?_
      refine kR_V (As := [.int x3_171]) (rest := []) C (X5_isSworn_c l g oM rM (upd vM 21 0) aM x3_171 (by first | assumption | exact k_vin hx171 (by omega) (by decide) | exact hB5 | exact hJ5 | exact ⟨0, by omega, rfl⟩ | exact ⟨1, by omega, rfl⟩ | exact ⟨2, by omega, rfl⟩ | exact ⟨3, by omega, rfl⟩ | exact ⟨4, by omega, rfl⟩ | exact ⟨j171, by omega, hx171⟩)) (cwV 1 hts (k_gV kw1604 ca_X5_isSworn) rfl rfl rfl ⟨rfl, pnX5_isSworn⟩ ⟨Nat.le_of_ble_eq_true rfl, Nat.le_of_ble_eq_true rfl⟩) hE hS (hP.pick [0] rfl) (k_recv C kFX5 hP (i := 0) (q := 0) rfl rfl) rfl hl.1 rfl rfl dX5_account_178 ⟨Nat.le_of_ble_eq_true rfl, Nat.le_of_ble_eq_true rfl⟩ ?_
      refine lv_if_eq (tgt := 187) hx hb dX5_account_181 (by decide) (fun c17 => ?_) (fun c17 => ?_)
      · have c17 := b2i_eq0 c17
        refine lv_iinc (v := (x3_171 + 1)) (lv' := [(3, .int (x3_171 + 1)), (2, .int x2_171), (0, .ref oM), (1, .int p0)]) hx hb dX5_account_187 hl (k := 0) rfl rfl (by decide) rfl (fun ls hl => ?_)
        refine lv_goto (tgt := 171) hx hb dX5_account_190 (by decide) ?_
        exact ih171 (j171 + 1) x2_171 (x3_171 + 1) _ _ ls hj171 (by omega) (k_up hx171) (show X5_account_f vM aM p0 = X5_account_lp171 vM aM p0 n x2_171 (x3_171 + 1) from hF171.trans ((X5_account_lp171_s vM aM p0 n x2_171 x3_171).trans ((if_neg c16).trans ((if_neg c17).trans (rfl))))) hP hD hS (lv_sub hl [0, 1, 2, 3] rfl)
      have c17 := b2i_ne0 c17
      refine lv_iinc (v := (x2_171 + 1)) (lv' := [(2, .int (x2_171 + 1)), (3, .int x3_171), (0, .ref oM), (1, .int p0)]) hx hb dX5_account_184 hl (k := 1) rfl rfl (by decide) rfl (fun ls hl => ?_)
      refine lv_iinc (v := (x3_171 + 1)) (lv' := [(3, .int (x3_171 + 1)), (2, .int (x2_171 + 1)), (0, .ref oM), (1, .int p0)]) hx hb dX5_account_187 hl (k := 1) rfl rfl (by decide) rfl (fun ls hl => ?_)
      refine lv_goto (tgt := 171) hx hb dX5_account_190 (by decide) ?_
      exact ih171 (j171 + 1) (x2_171 + 1) (x3_171 + 1) _ _ ls hj171 (by omega) (k_up hx171) (show X5_account_f vM aM p0 = X5_account_lp171 vM aM p0 n (x2_171 + 1) (x3_171 + 1) from hF171.trans ((X5_account_lp171_s vM aM p0 n x2_171 x3_171).trans ((if_neg c16).trans ((if_pos c17).trans (rfl))))) hP hD hS (lv_sub hl [0, 1, 2, 3] rfl)
  have loop197 : ∀ (n : Nat) (j197 : Nat) (x2_197 x3_197 : Int32) (H : Heap) (locs : List Loc) (ls : Array Slot), j197 ≤ 8 → 8 < j197 + n → x3_197 = nI j197 → X5_account_f vM aM p0 = X5_account_lp197 vM aM p0 n x2_197 x3_197 → kp g [X5W g oM rM (upd vM 21 0) aM] H → kd A [X5W g oM rM (upd vM 21 0) aM] → va_S A s.heap H locs → lv_has ls 4 [(3, .int x3_197), (2, .int x2_197), (0, .ref oM), (1, .int p0)] → W p l e (kRm 2 0 0 42) s m args below meth c H locs 0 0 (MQ below (kQi g (fun x u => x = (X5_account_f vM aM p0).1 ∧ u = [X5W g oM rM ((X5_account_f vM aM p0).2) aM]) A) args s 0 0 A) (F0 m 197 ls []) := by
    intro n
    induction n with
    | zero =>
      intro j197 x2_197 x3_197 H locs ls hi197 hn197 hx197 hF197 hP hD hS hl
      exact absurd hn197 (by omega)
    | succ n ih197 =>
      intro j197 x2_197 x3_197 H locs ls hi197 hn197 hx197 hF197 hP hD hS hl
      refine lv_iload_n hx hb dX5_account_197 rfl (lv_at hl 0 rfl) ?_
      refine lv_bipush (v := 8) hx hb dX5_account_198 (by decide) ?_
      refine lv_icmp_ge (tgt := 217) hx hb dX5_account_200 (by decide) (fun c19 => ?_) (fun c19 => ?_)
      · refine lv_iload_n hx hb dX5_account_217 rfl (lv_at hl 1 rfl) ?_
        have hF := (show X5_account_f vM aM p0 = (x2_197, upd vM 21 0) from hF197.trans ((X5_account_lp197_s vM aM p0 n x2_197 x3_197).trans ((if_pos c19).trans (rfl))))
        exact kM_ret (x := x2_197) C hP hD hS ⟨by rw [hF], by rw [hF]⟩ dX5_account_218
      have hj197 := k_asc hx197 (y := 8) (N := 8) rfl hi197 (by omega) c19
      refine lv_iload_n hx hb dX5_account_203 rfl (lv_at hl 1 rfl) ?_
      refine lv_aload_n hx hb dX5_account_204 rfl (lv_at hl 2 rfl) ?_
      refine lv_iload_n hx hb dX5_account_205 rfl (lv_at hl 0 rfl) ?_
      refine kR_V (As := [.int x3_197]) (rest := [.int x2_197]) C (X5_shortBy_c l g oM rM (upd vM 21 0) aM x3_197 (by first | assumption | exact k_vin hx197 (by omega) (by decide) | exact hB5 | exact hJ5 | exact ⟨0, by omega, rfl⟩ | exact ⟨1, by omega, rfl⟩ | exact ⟨2, by omega, rfl⟩ | exact ⟨3, by omega, rfl⟩ | exact ⟨4, by omega, rfl⟩ | exact ⟨j197, by omega, hx197⟩)) (cwV 1 hts (k_gV kw1635 ca_X5_shortBy) rfl rfl rfl ⟨rfl, pnX5_shortBy⟩ ⟨Nat.le_of_ble_eq_true rfl, Nat.le_of_ble_eq_true rfl⟩) hE hS (hP.pick [0] rfl) (k_recv C kFX5 hP (i := 0) (q := 0) rfl rfl) rfl hl.1 rfl rfl dX5_account_206 ⟨Nat.le_of_ble_eq_true rfl, Nat.le_of_ble_eq_true rfl⟩ ?_
      refine lv_iadd hx hb dX5_account_209 ?_
      refine lv_istore_n (lv' := [(2, .int (x2_197 + (X5_shortBy_f (upd vM 21 0) aM x3_197))), (3, .int x3_197), (0, .ref oM), (1, .int p0)]) hx hb dX5_account_210 rfl hl (by decide) rfl (fun ls hl => ?_)
      refine lv_iinc (v := (x3_197 + 1)) (lv' := [(3, .int (x3_197 + 1)), (2, .int (x2_197 + (X5_shortBy_f (upd vM 21 0) aM x3_197))), (0, .ref oM), (1, .int p0)]) hx hb dX5_account_211 hl (k := 1) rfl rfl (by decide) rfl (fun ls hl => ?_)
      refine lv_goto (tgt := 197) hx hb dX5_account_214 (by decide) ?_
      exact ih197 (j197 + 1) (x2_197 + (X5_shortBy_f (upd vM 21 0) aM x3_197)) (x3_197 + 1) _ _ ls hj197 (by omega) (k_up hx197) (show X5_account_f vM aM p0 = X5_account_lp197 vM aM p0 n (x2_197 + (X5_shortBy_f (upd vM 21 0) aM x3_197)) (x3_197 + 1) from hF197.trans ((X5_account_lp197_s vM aM p0 n x2_197 x3_197).trans ((if_neg c19).trans (rfl)))) hP hD hS (lv_sub hl [0, 1, 2, 3] rfl)
  refine lv_aload_n hx hb dX5_account_0 rfl (lv_at hl 0 rfl) ?_
  refine lv_iconst (v := 0) hx hb dX5_account_1 (by decide) ?_
  refine kg_put C kFX5 (k := 21) kw1467 hP hD hS (i := 0) (q := 0) rfl rfl (by decide) rfl rfl rfl (Nat.le_of_ble_eq_true rfl) X5s_21 rfl dX5_account_2 (fun H locs hP hD hS => ?_)
  have hP : kp g [X5W g oM rM (upd vM 21 0) aM] H := hP
  have hD : kd A [X5W g oM rM (upd vM 21 0) aM] := hD
  refine lv_iconst (v := 0) hx hb dX5_account_5 (by decide) ?_
  refine lv_istore_n (lv' := [(2, .int 0), (0, .ref oM), (1, .int p0)]) hx hb dX5_account_6 rfl hl (by decide) rfl (fun ls hl => ?_)
  refine lv_iload_n hx hb dX5_account_7 rfl (lv_at hl 2 rfl) ?_
  by_cases c1 : p0 = 0
  · refine lv_tableIn (off := 80) (tgt := 88) hx hb dX5_account_8 (by show ¬ (p0).toInt < 0; rw [c1]; decide) (by show ¬ 15 < (p0).toInt; rw [c1]; decide) (by rw [c1]; rfl) (by decide) ?_
    have z5 : vp_in p0 64 := by rw [c1]; exact k_vin (j := 0) rfl (by decide) (by decide)
    refine lv_aload_n hx hb dX5_account_88 rfl (lv_at hl 1 rfl) ?_
    refine kg_get C kFX5 (k := 0) kw1446 hP (i := 0) (q := 0) rfl rfl (by decide) rfl dX5_account_89 ?_
    refine lv_iload_n hx hb dX5_account_92 rfl (lv_at hl 2 rfl) ?_
    refine kg_iald C hP (i := 0) (q := 1) rfl rfl (by first | assumption) dX5_account_93 ?_
    have hF := (show X5_account_f vM aM p0 = (((aM 0) p0.toNatClampNeg), upd vM 21 0) from (if_pos c1).trans (rfl))
    exact kM_ret (x := ((aM 0) p0.toNatClampNeg)) C hP hD hS ⟨by rw [hF], by rw [hF]⟩ dX5_account_94
  by_cases c2 : p0 = 1
  · refine lv_tableIn (off := 80) (tgt := 88) hx hb dX5_account_8 (by show ¬ (p0).toInt < 0; rw [c2]; decide) (by show ¬ 15 < (p0).toInt; rw [c2]; decide) (by rw [c2]; rfl) (by decide) ?_
    have z5 : vp_in p0 64 := by rw [c2]; exact k_vin (j := 1) rfl (by decide) (by decide)
    refine lv_aload_n hx hb dX5_account_88 rfl (lv_at hl 1 rfl) ?_
    refine kg_get C kFX5 (k := 0) kw1446 hP (i := 0) (q := 0) rfl rfl (by decide) rfl dX5_account_89 ?_
    refine lv_iload_n hx hb dX5_account_92 rfl (lv_at hl 2 rfl) ?_
    refine kg_iald C hP (i := 0) (q := 1) rfl rfl (by first | assumption) dX5_account_93 ?_
    have hF := (show X5_account_f vM aM p0 = (((aM 0) p0.toNatClampNeg), upd vM 21 0) from (if_neg c1).trans ((if_pos c2).trans (rfl)))
    exact kM_ret (x := ((aM 0) p0.toNatClampNeg)) C hP hD hS ⟨by rw [hF], by rw [hF]⟩ dX5_account_94
  by_cases c3 : p0 = 2
  · refine lv_tableIn (off := 80) (tgt := 88) hx hb dX5_account_8 (by show ¬ (p0).toInt < 0; rw [c3]; decide) (by show ¬ 15 < (p0).toInt; rw [c3]; decide) (by rw [c3]; rfl) (by decide) ?_
    have z5 : vp_in p0 64 := by rw [c3]; exact k_vin (j := 2) rfl (by decide) (by decide)
    refine lv_aload_n hx hb dX5_account_88 rfl (lv_at hl 1 rfl) ?_
    refine kg_get C kFX5 (k := 0) kw1446 hP (i := 0) (q := 0) rfl rfl (by decide) rfl dX5_account_89 ?_
    refine lv_iload_n hx hb dX5_account_92 rfl (lv_at hl 2 rfl) ?_
    refine kg_iald C hP (i := 0) (q := 1) rfl rfl (by first | assumption) dX5_account_93 ?_
    have hF := (show X5_account_f vM aM p0 = (((aM 0) p0.toNatClampNeg), upd vM 21 0) from (if_neg c1).trans ((if_neg c2).trans ((if_pos c3).trans (rfl))))
    exact kM_ret (x := ((aM 0) p0.toNatClampNeg)) C hP hD hS ⟨by rw [hF], by rw [hF]⟩ dX5_account_94
  by_cases c4 : p0 = 3
  · refine lv_tableIn (off := 80) (tgt := 88) hx hb dX5_account_8 (by show ¬ (p0).toInt < 0; rw [c4]; decide) (by show ¬ 15 < (p0).toInt; rw [c4]; decide) (by rw [c4]; rfl) (by decide) ?_
    have z5 : vp_in p0 64 := by rw [c4]; exact k_vin (j := 3) rfl (by decide) (by decide)
    refine lv_aload_n hx hb dX5_account_88 rfl (lv_at hl 1 rfl) ?_
    refine kg_get C kFX5 (k := 0) kw1446 hP (i := 0) (q := 0) rfl rfl (by decide) rfl dX5_account_89 ?_
    refine lv_iload_n hx hb dX5_account_92 rfl (lv_at hl 2 rfl) ?_
    refine kg_iald C hP (i := 0) (q := 1) rfl rfl (by first | assumption) dX5_account_93 ?_
    have hF := (show X5_account_f vM aM p0 = (((aM 0) p0.toNatClampNeg), upd vM 21 0) from (if_neg c1).trans ((if_neg c2).trans ((if_neg c3).trans ((if_pos c4).trans (rfl)))))
    exact kM_ret (x := ((aM 0) p0.toNatClampNeg)) C hP hD hS ⟨by rw [hF], by rw [hF]⟩ dX5_account_94
  by_cases c5 : p0 = 4
  · refine lv_tableIn (off := 80) (tgt := 88) hx hb dX5_account_8 (by show ¬ (p0).toInt < 0; rw [c5]; decide) (by show ¬ 15 < (p0).toInt; rw [c5]; decide) (by rw [c5]; rfl) (by decide) ?_
    have z5 : vp_in p0 64 := by rw [c5]; exact k_vin (j := 4) rfl (by decide) (by decide)
    refine lv_aload_n hx hb dX5_account_88 rfl (lv_at hl 1 rfl) ?_
    refine kg_get C kFX5 (k := 0) kw1446 hP (i := 0) (q := 0) rfl rfl (by decide) rfl dX5_account_89 ?_
    refine lv_iload_n hx hb dX5_account_92 rfl (lv_at hl 2 rfl) ?_
    refine kg_iald C hP (i := 0) (q := 1) rfl rfl (by first | assumption) dX5_account_93 ?_
    have hF := (show X5_account_f vM aM p0 = (((aM 0) p0.toNatClampNeg), upd vM 21 0) from (if_neg c1).trans ((if_neg c2).trans ((if_neg c3).trans ((if_neg c4).trans ((if_pos c5).trans (rfl))))))
    exact kM_ret (x := ((aM 0) p0.toNatClampNeg)) C hP hD hS ⟨by rw [hF], by rw [hF]⟩ dX5_account_94
  by_cases c6 : p0 = 5
  · refine lv_tableIn (off := 80) (tgt := 88) hx hb dX5_account_8 (by show ¬ (p0).toInt < 0; rw [c6]; decide) (by show ¬ 15 < (p0).toInt; rw [c6]; decide) (by rw [c6]; rfl) (by decide) ?_
    have z5 : vp_in p0 64 := by rw [c6]; exact k_vin (j := 5) rfl (by decide) (by decide)
    refine lv_aload_n hx hb dX5_account_88 rfl (lv_at hl 1 rfl) ?_
    refine kg_get C kFX5 (k := 0) kw1446 hP (i := 0) (q := 0) rfl rfl (by decide) rfl dX5_account_89 ?_
    refine lv_iload_n hx hb dX5_account_92 rfl (lv_at hl 2 rfl) ?_
    refine kg_iald C hP (i := 0) (q := 1) rfl rfl (by first | assumption) dX5_account_93 ?_
    have hF := (show X5_account_f vM aM p0 = (((aM 0) p0.toNatClampNeg), upd vM 21 0) from (if_neg c1).trans ((if_neg c2).trans ((if_neg c3).trans ((if_neg c4).trans ((if_neg c5).trans ((if_pos c6).trans (rfl)))))))
    exact kM_ret (x := ((aM 0) p0.toNatClampNeg)) C hP hD hS ⟨by rw [hF], by rw [hF]⟩ dX5_account_94
  by_cases c7 : p0 = 6
  · refine lv_tableIn (off := 87) (tgt := 95) hx hb dX5_account_8 (by show ¬ (p0).toInt < 0; rw [c7]; decide) (by show ¬ 15 < (p0).toInt; rw [c7]; decide) (by rw [c7]; rfl) (by decide) ?_
    refine lv_iconst (v := 0) hx hb dX5_account_95 (by decide) ?_
    refine lv_istore_n (lv' := [(3, .int 0), (2, .int 0), (0, .ref oM), (1, .int p0)]) hx hb dX5_account_96 rfl hl (by decide) rfl (fun ls hl => ?_)
    exact loop97 7 0 0 0 _ _ ls (by omega) (by omega) rfl (show X5_account_f vM aM p0 = X5_account_lp97 vM aM p0 7 0 0 from (if_neg c1).trans ((if_neg c2).trans ((if_neg c3).trans ((if_neg c4).trans ((if_neg c5).trans ((if_neg c6).trans ((if_pos c7).trans (rfl)))))))) hP hD hS (lv_sub hl [0, 1, 2, 3] rfl)
  by_cases c9 : p0 = 7
  · refine lv_tableIn (off := 123) (tgt := 131) hx hb dX5_account_8 (by show ¬ (p0).toInt < 0; rw [c9]; decide) (by show ¬ 15 < (p0).toInt; rw [c9]; decide) (by rw [c9]; rfl) (by decide) ?_
    refine lv_iconst (v := 0) hx hb dX5_account_131 (by decide) ?_
    refine lv_istore_n (lv' := [(3, .int 0), (2, .int 0), (0, .ref oM), (1, .int p0)]) hx hb dX5_account_132 rfl hl (by decide) rfl (fun ls hl => ?_)
    exact loop133 7 0 0 0 _ _ ls (by omega) (by omega) rfl (show X5_account_f vM aM p0 = X5_account_lp133 vM aM p0 7 0 0 from (if_neg c1).trans ((if_neg c2).trans ((if_neg c3).trans ((if_neg c4).trans ((if_neg c5).trans ((if_neg c6).trans ((if_neg c7).trans ((if_pos c9).trans (rfl))))))))) hP hD hS (lv_sub hl [0, 1, 2, 3] rfl)
  by_cases c11 : p0 = 8
  · refine lv_tableIn (off := 152) (tgt := 160) hx hb dX5_account_8 (by show ¬ (p0).toInt < 0; rw [c11]; decide) (by show ¬ 15 < (p0).toInt; rw [c11]; decide) (by rw [c11]; rfl) (by decide) ?_
    have z5 : vp_in (p0 - 2) 64 := by rw [c11]; exact k_vin (j := 6) rfl (by decide) (by decide)
    refine lv_aload_n hx hb dX5_account_160 rfl (lv_at hl 1 rfl) ?_
    refine kg_get C kFX5 (k := 0) kw1446 hP (i := 0) (q := 0) rfl rfl (by decide) rfl dX5_account_161 ?_
    refine lv_iload_n hx hb dX5_account_164 rfl (lv_at hl 2 rfl) ?_
    refine lv_iconst (v := 2) hx hb dX5_account_165 (by decide) ?_
    refine lv_isub hx hb dX5_account_166 ?_
    refine kg_iald C hP (i := 0) (q := 1) rfl rfl (by first | assumption) dX5_account_167 ?_
    have hF := (show X5_account_f vM aM p0 = (((aM 0) (p0 - 2).toNatClampNeg), upd vM 21 0) from (if_neg c1).trans ((if_neg c2).trans ((if_neg c3).trans ((if_neg c4).trans ((if_neg c5).trans ((if_neg c6).trans ((if_neg c7).trans ((if_neg c9).trans ((if_pos c11).trans (rfl))))))))))
    exact kM_ret (x := ((aM 0) (p0 - 2).toNatClampNeg)) C hP hD hS ⟨by rw [hF], by rw [hF]⟩ dX5_account_168
  by_cases c12 : p0 = 9
  · refine lv_tableIn (off := 152) (tgt := 160) hx hb dX5_account_8 (by show ¬ (p0).toInt < 0; rw [c12]; decide) (by show ¬ 15 < (p0).toInt; rw [c12]; decide) (by rw [c12]; rfl) (by decide) ?_
    have z5 : vp_in (p0 - 2) 64 := by rw [c12]; exact k_vin (j := 7) rfl (by decide) (by decide)
    refine lv_aload_n hx hb dX5_account_160 rfl (lv_at hl 1 rfl) ?_
    refine kg_get C kFX5 (k := 0) kw1446 hP (i := 0) (q := 0) rfl rfl (by decide) rfl dX5_account_161 ?_
    refine lv_iload_n hx hb dX5_account_164 rfl (lv_at hl 2 rfl) ?_
    refine lv_iconst (v := 2) hx hb dX5_account_165 (by decide) ?_
    refine lv_isub hx hb dX5_account_166 ?_
    refine kg_iald C hP (i := 0) (q := 1) rfl rfl (by first | assumption) dX5_account_167 ?_
    have hF := (show X5_account_f vM aM p0 = (((aM 0) (p0 - 2).toNatClampNeg), upd vM 21 0) from (if_neg c1).trans ((if_neg c2).trans ((if_neg c3).trans ((if_neg c4).trans ((if_neg c5).trans ((if_neg c6).trans ((if_neg c7).trans ((if_neg c9).trans ((if_neg c11).trans ((if_pos c12).trans (rfl)))))))))))
    exact kM_ret (x := ((aM 0) (p0 - 2).toNatClampNeg)) C hP hD hS ⟨by rw [hF], by rw [hF]⟩ dX5_account_168
  by_cases c13 : p0 = 10
  · refine lv_tableIn (off := 152) (tgt := 160) hx hb dX5_account_8 (by show ¬ (p0).toInt < 0; rw [c13]; decide) (by show ¬ 15 < (p0).toInt; rw [c13]; decide) (by rw [c13]; rfl) (by decide) ?_
    have z5 : vp_in (p0 - 2) 64 := by rw [c13]; exact k_vin (j := 8) rfl (by decide) (by decide)
    refine lv_aload_n hx hb dX5_account_160 rfl (lv_at hl 1 rfl) ?_
    refine kg_get C kFX5 (k := 0) kw1446 hP (i := 0) (q := 0) rfl rfl (by decide) rfl dX5_account_161 ?_
    refine lv_iload_n hx hb dX5_account_164 rfl (lv_at hl 2 rfl) ?_
    refine lv_iconst (v := 2) hx hb dX5_account_165 (by decide) ?_
    refine lv_isub hx hb dX5_account_166 ?_
    refine kg_iald C hP (i := 0) (q := 1) rfl rfl (by first | assumption) dX5_account_167 ?_
    have hF := (show X5_account_f vM aM p0 = (((aM 0) (p0 - 2).toNatClampNeg), upd vM 21 0) from (if_neg c1).trans ((if_neg c2).trans ((if_neg c3).trans ((if_neg c4).trans ((if_neg c5).trans ((if_neg c6).trans ((if_neg c7).trans ((if_neg c9).trans ((if_neg c11).trans ((if_neg c12).trans ((if_pos c13).trans (rfl))))))))))))
    exact kM_ret (x := ((aM 0) (p0 - 2).toNatClampNeg)) C hP hD hS ⟨by rw [hF], by rw [hF]⟩ dX5_account_168
  by_cases c14 : p0 = 11
  · refine lv_tableIn (off := 152) (tgt := 160) hx hb dX5_account_8 (by show ¬ (p0).toInt < 0; rw [c14]; decide) (by show ¬ 15 < (p0).toInt; rw [c14]; decide) (by rw [c14]; rfl) (by decide) ?_
    have z5 : vp_in (p0 - 2) 64 := by rw [c14]; exact k_vin (j := 9) rfl (by decide) (by decide)
    refine lv_aload_n hx hb dX5_account_160 rfl (lv_at hl 1 rfl) ?_
    refine kg_get C kFX5 (k := 0) kw1446 hP (i := 0) (q := 0) rfl rfl (by decide) rfl dX5_account_161 ?_
    refine lv_iload_n hx hb dX5_account_164 rfl (lv_at hl 2 rfl) ?_
    refine lv_iconst (v := 2) hx hb dX5_account_165 (by decide) ?_
    refine lv_isub hx hb dX5_account_166 ?_
    refine kg_iald C hP (i := 0) (q := 1) rfl rfl (by first | assumption) dX5_account_167 ?_
    have hF := (show X5_account_f vM aM p0 = (((aM 0) (p0 - 2).toNatClampNeg), upd vM 21 0) from (if_neg c1).trans ((if_neg c2).trans ((if_neg c3).trans ((if_neg c4).trans ((if_neg c5).trans ((if_neg c6).trans ((if_neg c7).trans ((if_neg c9).trans ((if_neg c11).trans ((if_neg c12).trans ((if_neg c13).trans ((if_pos c14).trans (rfl)))))))))))))
    exact kM_ret (x := ((aM 0) (p0 - 2).toNatClampNeg)) C hP hD hS ⟨by rw [hF], by rw [hF]⟩ dX5_account_168
  by_cases c15 : p0 = 12
  · refine lv_tableIn (off := 161) (tgt := 169) hx hb dX5_account_8 (by show ¬ (p0).toInt < 0; rw [c15]; decide) (by show ¬ 15 < (p0).toInt; rw [c15]; decide) (by rw [c15]; rfl) (by decide) ?_
    refine lv_iconst (v := 0) hx hb dX5_account_169 (by decide) ?_
    refine lv_istore_n (lv' := [(3, .int 0), (2, .int 0), (0, .ref oM), (1, .int p0)]) hx hb dX5_account_170 rfl hl (by decide) rfl (fun ls hl => ?_)
    exact loop171 5 0 0 0 _ _ ls (by omega) (by omega) rfl (show X5_account_f vM aM p0 = X5_account_lp171 vM aM p0 5 0 0 from (if_neg c1).trans ((if_neg c2).trans ((if_neg c3).trans ((if_neg c4).trans ((if_neg c5).trans ((if_neg c6).trans ((if_neg c7).trans ((if_neg c9).trans ((if_neg c11).trans ((if_neg c12).trans ((if_neg c13).trans ((if_neg c14).trans ((if_pos c15).trans (rfl)))))))))))))) hP hD hS (lv_sub hl [0, 1, 2, 3] rfl)
  by_cases c18 : p0 = 13
  · refine lv_tableIn (off := 187) (tgt := 195) hx hb dX5_account_8 (by show ¬ (p0).toInt < 0; rw [c18]; decide) (by show ¬ 15 < (p0).toInt; rw [c18]; decide) (by rw [c18]; rfl) (by decide) ?_
    refine lv_iconst (v := 0) hx hb dX5_account_195 (by decide) ?_
    refine lv_istore_n (lv' := [(3, .int 0), (2, .int 0), (0, .ref oM), (1, .int p0)]) hx hb dX5_account_196 rfl hl (by decide) rfl (fun ls hl => ?_)
    exact loop197 9 0 0 0 _ _ ls (by omega) (by omega) rfl (show X5_account_f vM aM p0 = X5_account_lp197 vM aM p0 9 0 0 from (if_neg c1).trans ((if_neg c2).trans ((if_neg c3).trans ((if_neg c4).trans ((if_neg c5).trans ((if_neg c6).trans ((if_neg c7).trans ((if_neg c9).trans ((if_neg c11).trans ((if_neg c12).trans ((if_neg c13).trans ((if_neg c14).trans ((if_neg c15).trans ((if_pos c18).trans (rfl))))))))))))))) hP hD hS (lv_sub hl [0, 1, 2, 3] rfl)
  by_cases c20 : p0 = 14
  · refine lv_tableIn (off := 211) (tgt := 219) hx hb dX5_account_8 (by show ¬ (p0).toInt < 0; rw [c20]; decide) (by show ¬ 15 < (p0).toInt; rw [c20]; decide) (by rw [c20]; rfl) (by decide) ?_
    refine lv_aload_n hx hb dX5_account_219 rfl (lv_at hl 1 rfl) ?_
    refine kg_get C kFX5 (k := 3) kw1449 hP (i := 0) (q := 0) rfl rfl (by decide) rfl dX5_account_220 ?_
    have hF := (show X5_account_f vM aM p0 = ((vM 3), upd vM 21 0) from (if_neg c1).trans ((if_neg c2).trans ((if_neg c3).trans ((if_neg c4).trans ((if_neg c5).trans ((if_neg c6).trans ((if_neg c7).trans ((if_neg c9).trans ((if_neg c11).trans ((if_neg c12).trans ((if_neg c13).trans ((if_neg c14).trans ((if_neg c15).trans ((if_neg c18).trans ((if_pos c20).trans (rfl))))))))))))))))
    exact kM_ret (x := (vM 3)) C hP hD hS ⟨by rw [hF], by rw [hF]⟩ dX5_account_223
  by_cases c21 : p0 = 15
  · refine lv_tableIn (off := 216) (tgt := 224) hx hb dX5_account_8 (by show ¬ (p0).toInt < 0; rw [c21]; decide) (by show ¬ 15 < (p0).toInt; rw [c21]; decide) (by rw [c21]; rfl) (by decide) ?_
    refine lv_aload_n hx hb dX5_account_224 rfl (lv_at hl 1 rfl) ?_
    refine kg_get C kFX5 (k := 9) kw1455 hP (i := 0) (q := 0) rfl rfl (by decide) rfl dX5_account_225 ?_
    have hF := (show X5_account_f vM aM p0 = ((vM 9), upd vM 21 0) from (if_neg c1).trans ((if_neg c2).trans ((if_neg c3).trans ((if_neg c4).trans ((if_neg c5).trans ((if_neg c6).trans ((if_neg c7).trans ((if_neg c9).trans ((if_neg c11).trans ((if_neg c12).trans ((if_neg c13).trans ((if_neg c14).trans ((if_neg c15).trans ((if_neg c18).trans ((if_neg c20).trans ((if_pos c21).trans (rfl)))))))))))))))))
    exact kM_ret (x := (vM 9)) C hP hD hS ⟨by rw [hF], by rw [hF]⟩ dX5_account_228
  refine lv_tableOut (tgt := 229) hx hb dX5_account_8 (by have n0 := lv_neT (a := 0) c1 (by decide); have n1 := lv_neT (a := 1) c2 (by decide); have n2 := lv_neT (a := 2) c3 (by decide); have n3 := lv_neT (a := 3) c4 (by decide); have n4 := lv_neT (a := 4) c5 (by decide); have n5 := lv_neT (a := 5) c6 (by decide); have n6 := lv_neT (a := 6) c7 (by decide); have n7 := lv_neT (a := 7) c9 (by decide); have n8 := lv_neT (a := 8) c11 (by decide); have n9 := lv_neT (a := 9) c12 (by decide); have n10 := lv_neT (a := 10) c13 (by decide); have n11 := lv_neT (a := 11) c14 (by decide); have n12 := lv_neT (a := 12) c15 (by decide); have n13 := lv_neT (a := 13) c18 (by decide); have n14 := lv_neT (a := 14) c20 (by decide); have n15 := lv_neT (a := 15) c21 (by decide); omega) (by decide) ?_
  refine lv_aload_n hx hb dX5_account_229 rfl (lv_at hl 1 rfl) ?_
  refine lv_iconst (v := 1) hx hb dX5_account_230 (by decide) ?_
  refine kM_V (As := [.int 1]) (rest := []) (wr := []) C (X5_raises_c l g oM rM (upd vM 21 0) aM 1) (cwV 1 hts (k_gV kw1540 ca_X5_raises) rfl rfl rfl ⟨rfl, pnX5_raises⟩ ⟨Nat.le_of_ble_eq_true rfl, Nat.le_of_ble_eq_true rfl⟩) hE hS hA hP hD [0] [] rfl rfl ⟨rfl, rfl, by decide⟩ (k_recv C kFX5 hP (i := 0) (q := 0) rfl rfl) rfl hl.1 rfl rfl dX5_account_231 ⟨Nat.le_of_ble_eq_true rfl, Nat.le_of_ble_eq_true rfl⟩ (fun r22 u22 H locs hp22 hP hD hS => ?_)
  obtain ⟨er22, eu22⟩ := hp22
  have er22 : r22 = 0 := er22
  have eu22 : u22 = [X5W g oM rM (upd (upd vM 21 0) 21 1) aM] := eu22
  subst er22 eu22
  have hP : kp g [X5W g oM rM (upd (upd vM 21 0) 21 1) aM] H := hP
  have hD : kd A [X5W g oM rM (upd (upd vM 21 0) 21 1) aM] := hD
  have hF := (show X5_account_f vM aM p0 = (0, upd (upd vM 21 0) 21 1) from (if_neg c1).trans ((if_neg c2).trans ((if_neg c3).trans ((if_neg c4).trans ((if_neg c5).trans ((if_neg c6).trans ((if_neg c7).trans ((if_neg c9).trans ((if_neg c11).trans ((if_neg c12).trans ((if_neg c13).trans ((if_neg c14).trans ((if_neg c15).trans ((if_neg c18).trans ((if_neg c20).trans ((if_neg c21).trans (rfl)))))))))))))))))
  exact kM_ret (x := 0) C hP hD hS ⟨by rw [hF], by rw [hF]⟩ dX5_account_234

abbrev wX5_undo : List Cond := Cond.code yX5_undo cX5_undo 2 (some .int) :: kW
def X5_undo_lp30b (vM : Nat → Int32) (aM : Nat → Nat → Int32) (rec : Int32 → (Nat → Nat → Int32) → (Int32 × (Nat → Int32) × (Nat → Nat → Int32))) (x1_30 : Int32) (aM30 : Nat → Nat → Int32) : Int32 × (Nat → Int32) × (Nat → Nat → Int32) :=
  if 64 ≤ x1_30 then (((vM 3) - 1), upd (upd vM 21 0) 3 ((vM 3) - 1), aM30)
  else rec (x1_30 + 1) (va_up aM30 0 (upd (aM30 0) x1_30.toNatClampNeg ((aM30 2) ((64 * ((vM 3) - 1)) + x1_30).toNatClampNeg)))
def X5_undo_lp30 (vM : Nat → Int32) (aM : Nat → Nat → Int32) : Nat → Int32 → (Nat → Nat → Int32) → (Int32 × (Nat → Int32) × (Nat → Nat → Int32))
  | 0 => fun x1_30 aM30 => (0, vM, aM30)
  | n + 1 => X5_undo_lp30b vM aM (X5_undo_lp30 vM aM n)
theorem X5_undo_lp30_s (vM : Nat → Int32) (aM : Nat → Nat → Int32) (n : Nat) (x1_30 : Int32) (aM30 : Nat → Nat → Int32) : X5_undo_lp30 vM aM (n + 1) x1_30 aM30 = X5_undo_lp30b vM aM (X5_undo_lp30 vM aM n) x1_30 aM30 := rfl
def X5_undo_f (vM : Nat → Int32) (aM : Nat → Nat → Int32) : Int32 × (Nat → Int32) × (Nat → Nat → Int32) :=
  if (vM 3) = 0 then (0, upd (upd vM 21 0) 21 1, aM)
  else X5_undo_lp30 vM aM 65 0 aM
set_option maxHeartbeats 4000000 in
set_option maxRecDepth 100000 in
theorem X5_undo_c (l : Launch) (g : kG) (oM : Nat) (rM : Nat → Nat) (vM : Nat → Int32) (aM : Nat → Nat → Int32) (hu : (∃ u : Nat, u ≤ 8 ∧ vM 3 = nI u)) : kM l yX5_undo wX5_undo 1 21 0 0 g [.ref oM] [X5W g oM rM vM aM] (fun x u => x = (X5_undo_f vM aM).1 ∧ u = [X5W g oM rM ((X5_undo_f vM aM).2.1) ((X5_undo_f vM aM).2.2)]) := by
  refine kM_of (cc := cX5_undo) (nL := 2) (ret := (some .int)) (lv := [(0, .ref oM)]) (by decide) rfl (Nat.le_of_ble_eq_true rfl) rfl ?_
  intro p e s m args below meth c ls A C hP hD hE hA hS hl
  have C : kC p c cX5_undo s m args meth RX5 g 2 (some .int) := C
  have hx := C.1.1
  have hb := C.1.2.1
  have hts := C.1.2.2.2.2
  have loop30 : ∀ (n : Nat) (j30 : Nat) (x1_30 : Int32) (aM30 : Nat → Nat → Int32) (H : Heap) (locs : List Loc) (ls : Array Slot), j30 ≤ 64 → 64 < j30 + n → x1_30 = nI j30 → (∃ u : Nat, u < 8 ∧ vM 3 - 1 = nI u) → X5_undo_f vM aM = X5_undo_lp30 vM aM n x1_30 aM30 → kp g [X5W g oM rM (upd (upd vM 21 0) 3 ((vM 3) - 1)) aM30] H → kd A [X5W g oM rM (upd (upd vM 21 0) 3 ((vM 3) - 1)) aM30] → va_S A s.heap H locs → lv_has ls 2 [(1, .int x1_30), (0, .ref oM)] → W p l e (kRm 1 0 0 21) s m args below meth c H locs 0 0 (MQ below (kQi g (fun x u => x = (X5_undo_f vM aM).1 ∧ u = [X5W g oM rM ((X5_undo_f vM aM).2.1) ((X5_undo_f vM aM).2.2)]) A) args s 0 0 A) (F0 m 30 ls []) := by
    intro n
    induction n with
    | zero =>
      intro j30 x1_30 aM30 H locs ls hi30 hn30 hx30 hu30 hF30 hP hD hS hl
      exact absurd hn30 (by omega)
    | succ n ih30 =>
      intro j30 x1_30 aM30 H locs ls hi30 hn30 hx30 hu30 hF30 hP hD hS hl
      refine lv_iload_n hx hb dX5_undo_30 rfl (lv_at hl 0 rfl) ?_
      refine lv_bipush (v := 64) hx hb dX5_undo_31 (by decide) ?_
      refine lv_icmp_ge (tgt := 62) hx hb dX5_undo_33 (by decide) (fun c2 => ?_) (fun c2 => ?_)
      · refine lv_aload_n hx hb dX5_undo_62 rfl (lv_at hl 1 rfl) ?_
        refine kg_get C kFX5 (k := 3) kw1449 hP (i := 0) (q := 0) rfl rfl (by decide) rfl dX5_undo_63 ?_
        have hF := (show X5_undo_f vM aM = (((vM 3) - 1), upd (upd vM 21 0) 3 ((vM 3) - 1), aM30) from hF30.trans ((X5_undo_lp30_s vM aM n x1_30 aM30).trans ((if_pos c2).trans (rfl))))
        exact kM_ret (x := ((vM 3) - 1)) C hP hD hS ⟨by rw [hF], by rw [hF]⟩ dX5_undo_66
      have hj30 := k_asc hx30 (y := 64) (N := 64) rfl hi30 (by omega) c2
      refine lv_aload_n hx hb dX5_undo_36 rfl (lv_at hl 1 rfl) ?_
      refine kg_get C kFX5 (k := 0) kw1446 hP (i := 0) (q := 0) rfl rfl (by decide) rfl dX5_undo_37 ?_
      refine lv_iload_n hx hb dX5_undo_40 rfl (lv_at hl 0 rfl) ?_
      refine lv_aload_n hx hb dX5_undo_41 rfl (lv_at hl 1 rfl) ?_
      refine kg_get C kFX5 (k := 2) kw1448 hP (i := 0) (q := 0) rfl rfl (by decide) rfl dX5_undo_42 ?_
      refine lv_bipush (v := 64) hx hb dX5_undo_45 (by decide) ?_
      refine lv_aload_n hx hb dX5_undo_47 rfl (lv_at hl 1 rfl) ?_
      refine kg_get C kFX5 (k := 3) kw1449 hP (i := 0) (q := 0) rfl rfl (by decide) rfl dX5_undo_48 ?_
      refine lv_imul hx hb dX5_undo_51 ?_
      refine lv_iload_n hx hb dX5_undo_52 rfl (lv_at hl 0 rfl) ?_
      refine lv_iadd hx hb dX5_undo_53 ?_
      refine kg_iald C hP (i := 0) (q := 3) rfl rfl (k_kept hu30 hx30 (by omega)) dX5_undo_54 ?_
      refine kg_iast C hP hD hS (i := 0) (q := 1) rfl rfl (by first | assumption | exact k_vin (M := 64) hx30 (by omega) (by decide)) X5t_0 rfl dX5_undo_55 (fun H locs hP hD hS => ?_)
      have hP : kp g [X5W g oM rM (upd (upd vM 21 0) 3 ((vM 3) - 1)) (va_up aM30 0 (upd (aM30 0) x1_30.toNatClampNeg ((aM30 2) ((64 * ((vM 3) - 1)) + x1_30).toNatClampNeg)))] H := hP
      have hD : kd A [X5W g oM rM (upd (upd vM 21 0) 3 ((vM 3) - 1)) (va_up aM30 0 (upd (aM30 0) x1_30.toNatClampNeg ((aM30 2) ((64 * ((vM 3) - 1)) + x1_30).toNatClampNeg)))] := hD
      refine lv_iinc (v := (x1_30 + 1)) (lv' := [(1, .int (x1_30 + 1)), (0, .ref oM)]) hx hb dX5_undo_56 hl (k := 0) rfl rfl (by decide) rfl (fun ls hl => ?_)
      refine lv_goto (tgt := 30) hx hb dX5_undo_59 (by decide) ?_
      exact ih30 (j30 + 1) (x1_30 + 1) (va_up aM30 0 (upd (aM30 0) x1_30.toNatClampNeg ((aM30 2) ((64 * ((vM 3) - 1)) + x1_30).toNatClampNeg))) _ _ ls hj30 (by omega) (k_up hx30) hu30 (show X5_undo_f vM aM = X5_undo_lp30 vM aM n (x1_30 + 1) (va_up aM30 0 (upd (aM30 0) x1_30.toNatClampNeg ((aM30 2) ((64 * ((vM 3) - 1)) + x1_30).toNatClampNeg))) from hF30.trans ((X5_undo_lp30_s vM aM n x1_30 aM30).trans ((if_neg c2).trans (rfl)))) hP hD hS (lv_sub hl [0, 1] rfl)
  refine lv_aload_n hx hb dX5_undo_0 rfl (lv_at hl 0 rfl) ?_
  refine lv_iconst (v := 0) hx hb dX5_undo_1 (by decide) ?_
  refine kg_put C kFX5 (k := 21) kw1467 hP hD hS (i := 0) (q := 0) rfl rfl (by decide) rfl rfl rfl (Nat.le_of_ble_eq_true rfl) X5s_21 rfl dX5_undo_2 (fun H locs hP hD hS => ?_)
  have hP : kp g [X5W g oM rM (upd vM 21 0) aM] H := hP
  have hD : kd A [X5W g oM rM (upd vM 21 0) aM] := hD
  refine lv_aload_n hx hb dX5_undo_5 rfl (lv_at hl 0 rfl) ?_
  refine kg_get C kFX5 (k := 3) kw1449 hP (i := 0) (q := 0) rfl rfl (by decide) rfl dX5_undo_6 ?_
  refine lv_if_ne (tgt := 18) hx hb dX5_undo_9 (by decide) (fun c1 => ?_) (fun c1 => ?_)
  · have z6 : ∃ u : Nat, u < 8 ∧ vM 3 - 1 = nI u := k_undo hu c1
    refine lv_aload_n hx hb dX5_undo_18 rfl (lv_at hl 0 rfl) ?_
    refine lv_dup hx hb dX5_undo_19 rfl ?_
    refine kg_get C kFX5 (k := 3) kw1449 hP (i := 0) (q := 0) rfl rfl (by decide) rfl dX5_undo_20 ?_
    refine lv_iconst (v := 1) hx hb dX5_undo_23 (by decide) ?_
    refine lv_isub hx hb dX5_undo_24 ?_
    refine kg_put C kFX5 (k := 3) kw1449 hP hD hS (i := 0) (q := 0) rfl rfl (by decide) rfl rfl rfl (Nat.le_of_ble_eq_true rfl) X5s_3 rfl dX5_undo_25 (fun H locs hP hD hS => ?_)
    have hP : kp g [X5W g oM rM (upd (upd vM 21 0) 3 ((vM 3) - 1)) aM] H := hP
    have hD : kd A [X5W g oM rM (upd (upd vM 21 0) 3 ((vM 3) - 1)) aM] := hD
    refine lv_iconst (v := 0) hx hb dX5_undo_28 (by decide) ?_
    refine lv_istore_n (lv' := [(1, .int 0), (0, .ref oM)]) hx hb dX5_undo_29 rfl hl (by decide) rfl (fun ls hl => ?_)
    exact loop30 65 0 0 aM _ _ ls (by omega) (by omega) rfl z6 (show X5_undo_f vM aM = X5_undo_lp30 vM aM 65 0 aM from (if_neg c1).trans (rfl)) hP hD hS (lv_sub hl [0, 1] rfl)
  refine lv_aload_n hx hb dX5_undo_12 rfl (lv_at hl 0 rfl) ?_
  refine lv_iconst (v := 1) hx hb dX5_undo_13 (by decide) ?_
  refine kM_V (As := [.int 1]) (rest := []) (wr := []) C (X5_raises_c l g oM rM (upd vM 21 0) aM 1) (cwV 1 hts (k_gV kw1540 ca_X5_raises) rfl rfl rfl ⟨rfl, pnX5_raises⟩ ⟨Nat.le_of_ble_eq_true rfl, Nat.le_of_ble_eq_true rfl⟩) hE hS hA hP hD [0] [] rfl rfl ⟨rfl, rfl, by decide⟩ (k_recv C kFX5 hP (i := 0) (q := 0) rfl rfl) rfl hl.1 rfl rfl dX5_undo_14 ⟨Nat.le_of_ble_eq_true rfl, Nat.le_of_ble_eq_true rfl⟩ (fun r3 u3 H locs hp3 hP hD hS => ?_)
  obtain ⟨er3, eu3⟩ := hp3
  have er3 : r3 = 0 := er3
  have eu3 : u3 = [X5W g oM rM (upd (upd vM 21 0) 21 1) aM] := eu3
  subst er3 eu3
  have hP : kp g [X5W g oM rM (upd (upd vM 21 0) 21 1) aM] H := hP
  have hD : kd A [X5W g oM rM (upd (upd vM 21 0) 21 1) aM] := hD
  have hF := (show X5_undo_f vM aM = (0, upd (upd vM 21 0) 21 1, aM) from (if_pos c1).trans (rfl))
  exact kM_ret (x := 0) C hP hD hS ⟨by rw [hF], by rw [hF]⟩ dX5_undo_17

abbrev wX5_save : List Cond := Cond.code yX5_save cX5_save 2 (some .int) :: kW
def X5_save_lp12b (vM : Nat → Int32) (aM : Nat → Nat → Int32) (rec : Int32 → (Nat → Nat → Int32) → (Int32 × (Nat → Int32) × (Nat → Nat → Int32))) (x1_12 : Int32) (aM12 : Nat → Nat → Int32) : Int32 × (Nat → Int32) × (Nat → Nat → Int32) :=
  if 64 ≤ x1_12 then (((aM12 0) 0), upd (upd vM 21 0) 5 1, aM12)
  else rec (x1_12 + 1) (va_up aM12 4 (upd (aM12 4) x1_12.toNatClampNeg ((aM12 0) x1_12.toNatClampNeg)))
def X5_save_lp12 (vM : Nat → Int32) (aM : Nat → Nat → Int32) : Nat → Int32 → (Nat → Nat → Int32) → (Int32 × (Nat → Int32) × (Nat → Nat → Int32))
  | 0 => fun x1_12 aM12 => (0, vM, aM12)
  | n + 1 => X5_save_lp12b vM aM (X5_save_lp12 vM aM n)
theorem X5_save_lp12_s (vM : Nat → Int32) (aM : Nat → Nat → Int32) (n : Nat) (x1_12 : Int32) (aM12 : Nat → Nat → Int32) : X5_save_lp12 vM aM (n + 1) x1_12 aM12 = X5_save_lp12b vM aM (X5_save_lp12 vM aM n) x1_12 aM12 := rfl
def X5_save_f (vM : Nat → Int32) (aM : Nat → Nat → Int32) : Int32 × (Nat → Int32) × (Nat → Nat → Int32) :=
  X5_save_lp12 vM aM 65 0 aM
set_option maxHeartbeats 4000000 in
set_option maxRecDepth 100000 in
theorem X5_save_c (l : Launch) (g : kG) (oM : Nat) (rM : Nat → Nat) (vM : Nat → Int32) (aM : Nat → Nat → Int32) : kM l yX5_save wX5_save 0 0 0 0 g [.ref oM] [X5W g oM rM vM aM] (fun x u => x = (X5_save_f vM aM).1 ∧ u = [X5W g oM rM ((X5_save_f vM aM).2.1) ((X5_save_f vM aM).2.2)]) := by
  refine kM_of (cc := cX5_save) (nL := 2) (ret := (some .int)) (lv := [(0, .ref oM)]) (by decide) rfl (Nat.le_of_ble_eq_true rfl) rfl ?_
  intro p e s m args below meth c ls A C hP hD hE hA hS hl
  have C : kC p c cX5_save s m args meth RX5 g 2 (some .int) := C
  have hx := C.1.1
  have hb := C.1.2.1
  have hts := C.1.2.2.2.2
  have loop12 : ∀ (n : Nat) (j12 : Nat) (x1_12 : Int32) (aM12 : Nat → Nat → Int32) (H : Heap) (locs : List Loc) (ls : Array Slot), j12 ≤ 64 → 64 < j12 + n → x1_12 = nI j12 → X5_save_f vM aM = X5_save_lp12 vM aM n x1_12 aM12 → kp g [X5W g oM rM (upd (upd vM 21 0) 5 1) aM12] H → kd A [X5W g oM rM (upd (upd vM 21 0) 5 1) aM12] → va_S A s.heap H locs → lv_has ls 2 [(1, .int x1_12), (0, .ref oM)] → W p l e (kRm 0 0 0 0) s m args below meth c H locs 0 0 (MQ below (kQi g (fun x u => x = (X5_save_f vM aM).1 ∧ u = [X5W g oM rM ((X5_save_f vM aM).2.1) ((X5_save_f vM aM).2.2)]) A) args s 0 0 A) (F0 m 12 ls []) := by
    intro n
    induction n with
    | zero =>
      intro j12 x1_12 aM12 H locs ls hi12 hn12 hx12 hF12 hP hD hS hl
      exact absurd hn12 (by omega)
    | succ n ih12 =>
      intro j12 x1_12 aM12 H locs ls hi12 hn12 hx12 hF12 hP hD hS hl
      refine lv_iload_n hx hb dX5_save_12 rfl (lv_at hl 0 rfl) ?_
      refine lv_bipush (v := 64) hx hb dX5_save_13 (by decide) ?_
      refine lv_icmp_ge (tgt := 36) hx hb dX5_save_15 (by decide) (fun c1 => ?_) (fun c1 => ?_)
      · refine lv_aload_n hx hb dX5_save_36 rfl (lv_at hl 1 rfl) ?_
        refine kg_get C kFX5 (k := 0) kw1446 hP (i := 0) (q := 0) rfl rfl (by decide) rfl dX5_save_37 ?_
        refine lv_iconst (v := 0) hx hb dX5_save_40 (by decide) ?_
        refine kg_ialdK C hP (i := 0) (q := 1) rfl rfl (j := 0) rfl (k_vin (j := 0) rfl (by decide) (by decide)) dX5_save_41 ?_
        have hF := (show X5_save_f vM aM = (((aM12 0) 0), upd (upd vM 21 0) 5 1, aM12) from hF12.trans ((X5_save_lp12_s vM aM n x1_12 aM12).trans ((if_pos c1).trans (rfl))))
        exact kM_ret (x := ((aM12 0) 0)) C hP hD hS ⟨by rw [hF], by rw [hF]⟩ dX5_save_42
      have hj12 := k_asc hx12 (y := 64) (N := 64) rfl hi12 (by omega) c1
      refine lv_aload_n hx hb dX5_save_18 rfl (lv_at hl 1 rfl) ?_
      refine kg_get C kFX5 (k := 4) kw1450 hP (i := 0) (q := 0) rfl rfl (by decide) rfl dX5_save_19 ?_
      refine lv_iload_n hx hb dX5_save_22 rfl (lv_at hl 0 rfl) ?_
      refine lv_aload_n hx hb dX5_save_23 rfl (lv_at hl 1 rfl) ?_
      refine kg_get C kFX5 (k := 0) kw1446 hP (i := 0) (q := 0) rfl rfl (by decide) rfl dX5_save_24 ?_
      refine lv_iload_n hx hb dX5_save_27 rfl (lv_at hl 0 rfl) ?_
      refine kg_iald C hP (i := 0) (q := 1) rfl rfl (by first | assumption | exact k_vin (M := 64) hx12 (by omega) (by decide)) dX5_save_28 ?_
      refine kg_iast C hP hD hS (i := 0) (q := 4) rfl rfl (by first | assumption | exact k_vin (M := 64) hx12 (by omega) (by decide)) X5t_4 rfl dX5_save_29 (fun H locs hP hD hS => ?_)
      have hP : kp g [X5W g oM rM (upd (upd vM 21 0) 5 1) (va_up aM12 4 (upd (aM12 4) x1_12.toNatClampNeg ((aM12 0) x1_12.toNatClampNeg)))] H := hP
      have hD : kd A [X5W g oM rM (upd (upd vM 21 0) 5 1) (va_up aM12 4 (upd (aM12 4) x1_12.toNatClampNeg ((aM12 0) x1_12.toNatClampNeg)))] := hD
      refine lv_iinc (v := (x1_12 + 1)) (lv' := [(1, .int (x1_12 + 1)), (0, .ref oM)]) hx hb dX5_save_30 hl (k := 0) rfl rfl (by decide) rfl (fun ls hl => ?_)
      refine lv_goto (tgt := 12) hx hb dX5_save_33 (by decide) ?_
      exact ih12 (j12 + 1) (x1_12 + 1) (va_up aM12 4 (upd (aM12 4) x1_12.toNatClampNeg ((aM12 0) x1_12.toNatClampNeg))) _ _ ls hj12 (by omega) (k_up hx12) (show X5_save_f vM aM = X5_save_lp12 vM aM n (x1_12 + 1) (va_up aM12 4 (upd (aM12 4) x1_12.toNatClampNeg ((aM12 0) x1_12.toNatClampNeg))) from hF12.trans ((X5_save_lp12_s vM aM n x1_12 aM12).trans ((if_neg c1).trans (rfl)))) hP hD hS (lv_sub hl [0, 1] rfl)
  refine lv_aload_n hx hb dX5_save_0 rfl (lv_at hl 0 rfl) ?_
  refine lv_iconst (v := 0) hx hb dX5_save_1 (by decide) ?_
  refine kg_put C kFX5 (k := 21) kw1467 hP hD hS (i := 0) (q := 0) rfl rfl (by decide) rfl rfl rfl (Nat.le_of_ble_eq_true rfl) X5s_21 rfl dX5_save_2 (fun H locs hP hD hS => ?_)
  have hP : kp g [X5W g oM rM (upd vM 21 0) aM] H := hP
  have hD : kd A [X5W g oM rM (upd vM 21 0) aM] := hD
  refine lv_aload_n hx hb dX5_save_5 rfl (lv_at hl 0 rfl) ?_
  refine lv_iconst (v := 1) hx hb dX5_save_6 (by decide) ?_
  refine kg_put C kFX5 (k := 5) kw1451 hP hD hS (i := 0) (q := 0) rfl rfl (by decide) rfl rfl rfl (Nat.le_of_ble_eq_true rfl) X5s_5 rfl dX5_save_7 (fun H locs hP hD hS => ?_)
  have hP : kp g [X5W g oM rM (upd (upd vM 21 0) 5 1) aM] H := hP
  have hD : kd A [X5W g oM rM (upd (upd vM 21 0) 5 1) aM] := hD
  refine lv_iconst (v := 0) hx hb dX5_save_10 (by decide) ?_
  refine lv_istore_n (lv' := [(1, .int 0), (0, .ref oM)]) hx hb dX5_save_11 rfl hl (by decide) rfl (fun ls hl => ?_)
  exact loop12 65 0 0 aM _ _ ls (by omega) (by omega) rfl (show X5_save_f vM aM = X5_save_lp12 vM aM 65 0 aM from rfl) hP hD hS (lv_sub hl [0, 1] rfl)

abbrev wX5_restore : List Cond := Cond.code yX5_restore cX5_restore 2 (some .int) :: kW
def X5_restore_lp20b (vM : Nat → Int32) (aM : Nat → Nat → Int32) (rec : Int32 → (Nat → Nat → Int32) → (Int32 × (Nat → Int32) × (Nat → Nat → Int32))) (x1_20 : Int32) (aM20 : Nat → Nat → Int32) : Int32 × (Nat → Int32) × (Nat → Nat → Int32) :=
  if 64 ≤ x1_20 then (((aM20 0) 0), upd (upd vM 21 0) 3 0, aM20)
  else rec (x1_20 + 1) (va_up aM20 0 (upd (aM20 0) x1_20.toNatClampNeg ((aM20 4) x1_20.toNatClampNeg)))
def X5_restore_lp20 (vM : Nat → Int32) (aM : Nat → Nat → Int32) : Nat → Int32 → (Nat → Nat → Int32) → (Int32 × (Nat → Int32) × (Nat → Nat → Int32))
  | 0 => fun x1_20 aM20 => (0, vM, aM20)
  | n + 1 => X5_restore_lp20b vM aM (X5_restore_lp20 vM aM n)
theorem X5_restore_lp20_s (vM : Nat → Int32) (aM : Nat → Nat → Int32) (n : Nat) (x1_20 : Int32) (aM20 : Nat → Nat → Int32) : X5_restore_lp20 vM aM (n + 1) x1_20 aM20 = X5_restore_lp20b vM aM (X5_restore_lp20 vM aM n) x1_20 aM20 := rfl
def X5_restore_f (vM : Nat → Int32) (aM : Nat → Nat → Int32) : Int32 × (Nat → Int32) × (Nat → Nat → Int32) :=
  if (vM 5) = 0 then (0, upd (upd vM 21 0) 21 1, aM)
  else X5_restore_lp20 vM aM 65 0 aM
set_option maxHeartbeats 4000000 in
set_option maxRecDepth 100000 in
theorem X5_restore_c (l : Launch) (g : kG) (oM : Nat) (rM : Nat → Nat) (vM : Nat → Int32) (aM : Nat → Nat → Int32) : kM l yX5_restore wX5_restore 1 21 0 0 g [.ref oM] [X5W g oM rM vM aM] (fun x u => x = (X5_restore_f vM aM).1 ∧ u = [X5W g oM rM ((X5_restore_f vM aM).2.1) ((X5_restore_f vM aM).2.2)]) := by
  refine kM_of (cc := cX5_restore) (nL := 2) (ret := (some .int)) (lv := [(0, .ref oM)]) (by decide) rfl (Nat.le_of_ble_eq_true rfl) rfl ?_
  intro p e s m args below meth c ls A C hP hD hE hA hS hl
  have C : kC p c cX5_restore s m args meth RX5 g 2 (some .int) := C
  have hx := C.1.1
  have hb := C.1.2.1
  have hts := C.1.2.2.2.2
  have loop20 : ∀ (n : Nat) (j20 : Nat) (x1_20 : Int32) (aM20 : Nat → Nat → Int32) (H : Heap) (locs : List Loc) (ls : Array Slot), j20 ≤ 64 → 64 < j20 + n → x1_20 = nI j20 → X5_restore_f vM aM = X5_restore_lp20 vM aM n x1_20 aM20 → kp g [X5W g oM rM (upd vM 21 0) aM20] H → kd A [X5W g oM rM (upd vM 21 0) aM20] → va_S A s.heap H locs → lv_has ls 2 [(1, .int x1_20), (0, .ref oM)] → W p l e (kRm 1 0 0 21) s m args below meth c H locs 0 0 (MQ below (kQi g (fun x u => x = (X5_restore_f vM aM).1 ∧ u = [X5W g oM rM ((X5_restore_f vM aM).2.1) ((X5_restore_f vM aM).2.2)]) A) args s 0 0 A) (F0 m 20 ls []) := by
    intro n
    induction n with
    | zero =>
      intro j20 x1_20 aM20 H locs ls hi20 hn20 hx20 hF20 hP hD hS hl
      exact absurd hn20 (by omega)
    | succ n ih20 =>
      intro j20 x1_20 aM20 H locs ls hi20 hn20 hx20 hF20 hP hD hS hl
      refine lv_iload_n hx hb dX5_restore_20 rfl (lv_at hl 0 rfl) ?_
      refine lv_bipush (v := 64) hx hb dX5_restore_21 (by decide) ?_
      refine lv_icmp_ge (tgt := 44) hx hb dX5_restore_23 (by decide) (fun c2 => ?_) (fun c2 => ?_)
      · refine lv_aload_n hx hb dX5_restore_44 rfl (lv_at hl 1 rfl) ?_
        refine lv_iconst (v := 0) hx hb dX5_restore_45 (by decide) ?_
        refine kg_put C kFX5 (k := 3) kw1449 hP hD hS (i := 0) (q := 0) rfl rfl (by decide) rfl rfl rfl (Nat.le_of_ble_eq_true rfl) X5s_3 rfl dX5_restore_46 (fun H locs hP hD hS => ?_)
        have hP : kp g [X5W g oM rM (upd (upd vM 21 0) 3 0) aM20] H := hP
        have hD : kd A [X5W g oM rM (upd (upd vM 21 0) 3 0) aM20] := hD
        refine lv_aload_n hx hb dX5_restore_49 rfl (lv_at hl 1 rfl) ?_
        refine kg_get C kFX5 (k := 0) kw1446 hP (i := 0) (q := 0) rfl rfl (by decide) rfl dX5_restore_50 ?_
        refine lv_iconst (v := 0) hx hb dX5_restore_53 (by decide) ?_
        refine kg_ialdK C hP (i := 0) (q := 1) rfl rfl (j := 0) rfl (k_vin (j := 0) rfl (by decide) (by decide)) dX5_restore_54 ?_
        have hF := (show X5_restore_f vM aM = (((aM20 0) 0), upd (upd vM 21 0) 3 0, aM20) from hF20.trans ((X5_restore_lp20_s vM aM n x1_20 aM20).trans ((if_pos c2).trans (rfl))))
        exact kM_ret (x := ((aM20 0) 0)) C hP hD hS ⟨by rw [hF], by rw [hF]⟩ dX5_restore_55
      have hj20 := k_asc hx20 (y := 64) (N := 64) rfl hi20 (by omega) c2
      refine lv_aload_n hx hb dX5_restore_26 rfl (lv_at hl 1 rfl) ?_
      refine kg_get C kFX5 (k := 0) kw1446 hP (i := 0) (q := 0) rfl rfl (by decide) rfl dX5_restore_27 ?_
      refine lv_iload_n hx hb dX5_restore_30 rfl (lv_at hl 0 rfl) ?_
      refine lv_aload_n hx hb dX5_restore_31 rfl (lv_at hl 1 rfl) ?_
      refine kg_get C kFX5 (k := 4) kw1450 hP (i := 0) (q := 0) rfl rfl (by decide) rfl dX5_restore_32 ?_
      refine lv_iload_n hx hb dX5_restore_35 rfl (lv_at hl 0 rfl) ?_
      refine kg_iald C hP (i := 0) (q := 4) rfl rfl (by first | assumption | exact k_vin (M := 64) hx20 (by omega) (by decide)) dX5_restore_36 ?_
      refine kg_iast C hP hD hS (i := 0) (q := 1) rfl rfl (by first | assumption | exact k_vin (M := 64) hx20 (by omega) (by decide)) X5t_0 rfl dX5_restore_37 (fun H locs hP hD hS => ?_)
      have hP : kp g [X5W g oM rM (upd vM 21 0) (va_up aM20 0 (upd (aM20 0) x1_20.toNatClampNeg ((aM20 4) x1_20.toNatClampNeg)))] H := hP
      have hD : kd A [X5W g oM rM (upd vM 21 0) (va_up aM20 0 (upd (aM20 0) x1_20.toNatClampNeg ((aM20 4) x1_20.toNatClampNeg)))] := hD
      refine lv_iinc (v := (x1_20 + 1)) (lv' := [(1, .int (x1_20 + 1)), (0, .ref oM)]) hx hb dX5_restore_38 hl (k := 0) rfl rfl (by decide) rfl (fun ls hl => ?_)
      refine lv_goto (tgt := 20) hx hb dX5_restore_41 (by decide) ?_
      exact ih20 (j20 + 1) (x1_20 + 1) (va_up aM20 0 (upd (aM20 0) x1_20.toNatClampNeg ((aM20 4) x1_20.toNatClampNeg))) _ _ ls hj20 (by omega) (k_up hx20) (show X5_restore_f vM aM = X5_restore_lp20 vM aM n (x1_20 + 1) (va_up aM20 0 (upd (aM20 0) x1_20.toNatClampNeg ((aM20 4) x1_20.toNatClampNeg))) from hF20.trans ((X5_restore_lp20_s vM aM n x1_20 aM20).trans ((if_neg c2).trans (rfl)))) hP hD hS (lv_sub hl [0, 1] rfl)
  refine lv_aload_n hx hb dX5_restore_0 rfl (lv_at hl 0 rfl) ?_
  refine lv_iconst (v := 0) hx hb dX5_restore_1 (by decide) ?_
  refine kg_put C kFX5 (k := 21) kw1467 hP hD hS (i := 0) (q := 0) rfl rfl (by decide) rfl rfl rfl (Nat.le_of_ble_eq_true rfl) X5s_21 rfl dX5_restore_2 (fun H locs hP hD hS => ?_)
  have hP : kp g [X5W g oM rM (upd vM 21 0) aM] H := hP
  have hD : kd A [X5W g oM rM (upd vM 21 0) aM] := hD
  refine lv_aload_n hx hb dX5_restore_5 rfl (lv_at hl 0 rfl) ?_
  refine kg_get C kFX5 (k := 5) kw1451 hP (i := 0) (q := 0) rfl rfl (by decide) rfl dX5_restore_6 ?_
  refine lv_if_ne (tgt := 18) hx hb dX5_restore_9 (by decide) (fun c1 => ?_) (fun c1 => ?_)
  · refine lv_iconst (v := 0) hx hb dX5_restore_18 (by decide) ?_
    refine lv_istore_n (lv' := [(1, .int 0), (0, .ref oM)]) hx hb dX5_restore_19 rfl hl (by decide) rfl (fun ls hl => ?_)
    exact loop20 65 0 0 aM _ _ ls (by omega) (by omega) rfl (show X5_restore_f vM aM = X5_restore_lp20 vM aM 65 0 aM from (if_neg c1).trans (rfl)) hP hD hS (lv_sub hl [0, 1] rfl)
  refine lv_aload_n hx hb dX5_restore_12 rfl (lv_at hl 0 rfl) ?_
  refine lv_iconst (v := 1) hx hb dX5_restore_13 (by decide) ?_
  refine kM_V (As := [.int 1]) (rest := []) (wr := []) C (X5_raises_c l g oM rM (upd vM 21 0) aM 1) (cwV 1 hts (k_gV kw1540 ca_X5_raises) rfl rfl rfl ⟨rfl, pnX5_raises⟩ ⟨Nat.le_of_ble_eq_true rfl, Nat.le_of_ble_eq_true rfl⟩) hE hS hA hP hD [0] [] rfl rfl ⟨rfl, rfl, by decide⟩ (k_recv C kFX5 hP (i := 0) (q := 0) rfl rfl) rfl hl.1 rfl rfl dX5_restore_14 ⟨Nat.le_of_ble_eq_true rfl, Nat.le_of_ble_eq_true rfl⟩ (fun r3 u3 H locs hp3 hP hD hS => ?_)
  obtain ⟨er3, eu3⟩ := hp3
  have er3 : r3 = 0 := er3
  have eu3 : u3 = [X5W g oM rM (upd (upd vM 21 0) 21 1) aM] := eu3
  subst er3 eu3
  have hP : kp g [X5W g oM rM (upd (upd vM 21 0) 21 1) aM] H := hP
  have hD : kd A [X5W g oM rM (upd (upd vM 21 0) 21 1) aM] := hD
  have hF := (show X5_restore_f vM aM = (0, upd (upd vM 21 0) 21 1, aM) from (if_pos c1).trans (rfl))
  exact kM_ret (x := 0) C hP hD hS ⟨by rw [hF], by rw [hF]⟩ dX5_restore_17
