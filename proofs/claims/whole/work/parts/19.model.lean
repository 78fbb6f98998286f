theorem k_if {α : Type} {c : Prop} {dc : Decidable c} {P : α → Prop} {x y : α} (h1 : c → P x) (h2 : ¬ c → P y) : P (@ite α c dc x y) := by
  cases dc with
  | isTrue h => exact h1 h
  | isFalse h => exact h2 h
theorem k_top {p : Program} {l : Launch} {e : Env} {R : Room} {s : State} {m : MethodId} {args : Array Value} {below : List Frame} {meth : Method} {c : Code} {H : Heap} {locs : List Loc} {cells slots : Nat} {Q : State → Prop} {pc : Nat} {ls : Array Slot} {rest : List Value} {x : Int32} (y : Int32) (h : x = y) (k : W p l e R s m args below meth c H locs cells slots Q (F0 m pc ls (.int y :: rest))) : W p l e R s m args below meth c H locs cells slots Q (F0 m pc ls (.int x :: rest)) := by
  subst h; exact k
/-- the reference's text: how long, and where it is read -/
def kOK5 (v : Nat → Int32) : Prop := ∃ ln ps : Nat, ps ≤ ln ∧ ln ≤ 60 ∧ v 9 = nI ln ∧ v 10 = nI ps
def kCh5 (a : Nat → Nat → Int32) : Prop := ∀ i, ∃ n : Nat, n < 65536 ∧ a 8 i = nI n
def kMe5 (v : Nat → Int32) : Nat := (v 9).toNatClampNeg - (v 10).toNatClampNeg
/-- reading goes on -/
def k5to (v v' : Nat → Int32) : Prop := ∃ ln p q : Nat, v 9 = nI ln ∧ v 10 = nI p ∧ v' 9 = nI ln ∧ v' 10 = nI q ∧ p ≤ q ∧ q ≤ ln ∧ ln ≤ 60
def k5tx (v : Nat → Int32) (a : Nat → Nat → Int32) (v' : Nat → Int32) (a' : Nat → Nat → Int32) : Prop := k5to v v' ∧ (∀ k, k ≠ 10 → k ≠ 11 → v' k = v k) ∧ ∀ k, k ≠ 12 → a' k = a k
theorem k5to.ok {v v' : Nat → Int32} (h : k5to v v') : kOK5 v' := by
  obtain ⟨ln, p, q, h1, h2, h3, h4, h5, h6, h7⟩ := h
  exact ⟨ln, q, h6, h7, h3, h4⟩
theorem k5to.rf {v : Nat → Int32} (h : kOK5 v) : k5to v v := by
  obtain ⟨ln, p, h1, h2, h3, h4⟩ := h
  exact ⟨ln, p, p, h3, h4, h3, h4, Nat.le_refl _, h1, h2⟩
theorem k5to.tr {v v' v'' : Nat → Int32} (h : k5to v v') (h' : k5to v' v'') : k5to v v'' := by
  obtain ⟨ln, p, q, h1, h2, h3, h4, h5, h6, h7⟩ := h
  obtain ⟨ln', p', q', g1, g2, g3, g4, g5, g6, g7⟩ := h'
  have e1 : ln = ln' := by
    have := h3.symm.trans g1
    have := congrArg Int32.toNatClampNeg this
    rwa [nI_clamp (by omega), nI_clamp (by omega)] at this
  have e2 : q = p' := by
    have := h4.symm.trans g2
    have := congrArg Int32.toNatClampNeg this
    rwa [nI_clamp (by omega), nI_clamp (by omega)] at this
  subst e1; subst e2
  exact ⟨ln, p, q', h1, h2, g3, g4, by omega, g6, h7⟩
theorem k5tx.rf {v : Nat → Int32} {a : Nat → Nat → Int32} (h : kOK5 v) : k5tx v a v a := ⟨k5to.rf h, fun _ _ _ => rfl, fun _ _ => rfl⟩
theorem k5tx.tr {v v' v'' : Nat → Int32} {a a' a'' : Nat → Nat → Int32} (h : k5tx v a v' a') (h' : k5tx v' a' v'' a'') : k5tx v a v'' a'' :=
  ⟨h.1.tr h'.1, fun k h1 h2 => (h'.2.1 k h1 h2).trans (h.2.1 k h1 h2), fun k h1 => (h'.2.2 k h1).trans (h.2.2 k h1)⟩
theorem k5tx.ok {v v' : Nat → Int32} {a a' : Nat → Nat → Int32} (h : k5tx v a v' a') : kOK5 v' := h.1.ok
theorem k5tx.ch {v v' : Nat → Int32} {a a' : Nat → Nat → Int32} (h : k5tx v a v' a') (hc : kCh5 a) : kCh5 a' := fun i => by rw [h.2.2 8 (by omega)]; exact hc i
theorem k5_lt {v : Nat → Int32} (h : kOK5 v) (c : ¬ v 9 ≤ v 10) : ∃ ln ps : Nat, ps < ln ∧ ln ≤ 60 ∧ v 9 = nI ln ∧ v 10 = nI ps := by
  obtain ⟨ln, ps, h1, h2, h3, h4⟩ := h
  refine ⟨ln, ps, ?_, h2, h3, h4⟩
  rw [h3, h4] at c
  rcases Nat.lt_or_ge ps ln with h | h
  · exact h
  · exact absurd ((nI_leI (by omega) (by omega)).mpr h) c
theorem k5_nle {v : Nat → Int32} (h : kOK5 v) (c : ¬ v 10 = v 9) : ¬ v 9 ≤ v 10 := by
  obtain ⟨ln, ps, h1, h2, h3, h4⟩ := h
  rw [h3, h4] at c ⊢
  intro c2
  have := (nI_leI (by omega) (by omega)).mp c2
  exact c (by rw [show ps = ln by omega])
theorem k5_in60 {v : Nat → Int32} (h : kOK5 v) (c : ¬ v 9 ≤ v 10) : vp_in (v 10) 60 := by
  obtain ⟨ln, ps, h1, h2, h3, h4⟩ := k5_lt h c
  rw [h4]; exact vp_in_nI (by omega) (by omega)
theorem k5_up {v : Nat → Int32} (h : kOK5 v) (c : ¬ v 9 ≤ v 10) : k5to v (upd v 10 (v 10 + 1)) := by
  obtain ⟨ln, ps, h1, h2, h3, h4⟩ := k5_lt h c
  exact ⟨ln, ps, ps + 1, h3, h4, h3, by show v 10 + 1 = _; rw [h4]; exact nI_1 ps, by omega, h1, h2⟩
theorem k5_upx {v : Nat → Int32} {a : Nat → Nat → Int32} (h : kOK5 v) (c : ¬ v 9 ≤ v 10) : k5tx v a (upd v 10 (v 10 + 1)) a := ⟨k5_up h c, fun k h1 _ => pk_un h1, fun _ _ => rfl⟩
theorem k5_rd {v : Nat → Int32} {x : Int32} (h : kOK5 v) (c : ¬ v 9 ≤ v 10) : k5to v (upd (upd v 11 x) 10 (v 10 + 1)) := by
  obtain ⟨ln, ps, h1, h2, h3, h4⟩ := k5_lt h c
  exact ⟨ln, ps, ps + 1, h3, h4, h3, by show v 10 + 1 = _; rw [h4]; exact nI_1 ps, by omega, h1, h2⟩
theorem k5_rdx {v : Nat → Int32} {a : Nat → Nat → Int32} {x : Int32} (h : kOK5 v) (c : ¬ v 9 ≤ v 10) : k5tx v a (upd (upd v 11 x) 10 (v 10 + 1)) a := ⟨k5_rd h c, fun k h1 h2 => (pk_un h1).trans (pk_un h2), fun _ _ => rfl⟩
theorem k5_act {v : Nat → Int32} {a : Nat → Nat → Int32} {x : Int32} (h : kOK5 v) : k5tx v a (upd v 11 x) a := ⟨k5to.rf h, fun k h1 h2 => pk_un h2, fun _ _ => rfl⟩
theorem k5_giv {v : Nat → Int32} {a : Nat → Nat → Int32} {f : Nat → Int32} (h : kOK5 v) : k5tx v a v (va_up a 12 f) := ⟨k5to.rf h, fun _ _ _ => rfl, fun k h1 => if_neg h1⟩
theorem k5_0 {v : Nat → Int32} (h : ∃ n : Nat, n ≤ 60 ∧ v 9 = nI n) : kOK5 (upd v 10 0) := by
  obtain ⟨ln, h1, h2⟩ := h
  exact ⟨ln, 0, by omega, h1, h2, rfl⟩
theorem k5_len {v : Nat → Int32} (h : kOK5 v) : ∃ n : Nat, n ≤ 60 ∧ v 9 = nI n := by
  obtain ⟨ln, p, h1, h2, h3, h4⟩ := h
  exact ⟨ln, h2, h3⟩
theorem k5_meUp {v : Nat → Int32} {n : Nat} (h : kOK5 v) (c : ¬ v 9 ≤ v 10) (hn : kMe5 v < n + 1) : kMe5 (upd v 10 (v 10 + 1)) < n := by
  obtain ⟨ln, ps, h1, h2, h3, h4⟩ := k5_lt h c
  unfold kMe5 at hn ⊢
  show (v 9).toNatClampNeg - (v 10 + 1).toNatClampNeg < n
  rw [h3, h4] at hn ⊢
  rw [nI_1, nI_clamp (by omega), nI_clamp (by omega)] at *
  omega
theorem k5_me {v v' : Nat → Int32} (h : k5to v v') : kMe5 v' ≤ kMe5 v := by
  obtain ⟨ln, p, q, h1, h2, h3, h4, h5, h6, h7⟩ := h
  unfold kMe5
  rw [h1, h2, h3, h4, nI_clamp (by omega), nI_clamp (by omega), nI_clamp (by omega)]
  omega
theorem k5_me61 {v : Nat → Int32} (h : kOK5 v) : kMe5 v < 61 := by
  obtain ⟨ln, ps, h1, h2, h3, h4⟩ := h
  unfold kMe5
  rw [h3, nI_clamp (by omega)]
  omega
theorem k5_nar {x : Int32} (h : ∃ n : Nat, n < 65536 ∧ x = nI n) : narrow .char (.int x) = .int x := by
  obtain ⟨n, h1, rfl⟩ := h
  exact (pk_charN h1).1
theorem k5_fit {x : Int32} (h : ∃ n : Nat, n < 65536 ∧ x = nI n) : fits .char (.int x) = true := by
  obtain ⟨n, h1, rfl⟩ := h
  exact (pk_charN h1).2
theorem k_n60 {x : Int32} (h : ∃ n : Nat, n ≤ 60 ∧ x = nI n) (c : ¬ x = 60) : vp_in x 60 := by
  obtain ⟨n, h1, rfl⟩ := h
  refine vp_in_nI ?_ (by omega)
  rcases Nat.lt_or_ge n 60 with h | h
  · exact h
  · exact absurd (by rw [show n = 60 by omega]; rfl) c
theorem k_ex {x : Int32} {m N : Nat} (h : ∃ n : Nat, n + m ≤ N ∧ x = nI n) (hm : 0 < m) (hN : N < 2 ^ 31) : vp_in x N := by
  obtain ⟨n, h1, rfl⟩ := h
  exact vp_in_nI (by omega) (by omega)
theorem k_div10 {x : Int32} {c : Nat} (h : ∃ n : Nat, n ≤ 10 * c + 9 ∧ x = nI n) (hc : c < 1000) : ∃ n : Nat, n ≤ c ∧ x / 10 = nI n := by
  obtain ⟨n, h1, rfl⟩ := h
  refine ⟨n / 10, by omega, ?_⟩
  rw [show (10 : Int32) = nI 10 from rfl, pk_div (by omega) (by omega) (by omega)]
theorem k_le9 {x : Int32} (h : ∃ n : Nat, n ≤ 9 ∧ x = nI n) : x ≤ 9 := by
  obtain ⟨n, h1, rfl⟩ := h
  exact (nI_leI (b := 9) (by omega) (by omega)).mpr h1

theorem kw1454 : Cond.fieldLink RX5 25 "SpiceScaleModel" "text" "[C" ∈ kW := k_w 7 148 rfl rfl
theorem kw1455 : Cond.fieldLink RX5 198 "SpiceScaleModel" "length" "I" ∈ kW := k_w 7 149 rfl rfl
theorem kw1456 : Cond.fieldLink RX5 201 "SpiceScaleModel" "at" "I" ∈ kW := k_w 7 150 rfl rfl
theorem kw1457 : Cond.fieldLink RX5 204 "SpiceScaleModel" "order" "C" ∈ kW := k_w 7 151 rfl rfl
theorem kw1458 : Cond.fieldLink RX5 29 "SpiceScaleModel" "given" "[I" ∈ kW := k_w 7 152 rfl rfl
theorem kw1782 : Cond.methodLink RX5 208 yX5_digits ∈ kW := k_w 8 236 rfl rfl
theorem kw1786 : Cond.methodLink RX5 211 yX5_isNext ∈ kW := k_w 9 0 rfl rfl
abbrev wX5_append : List Cond := Cond.code yX5_append cX5_append 2 (some .int) :: kW
def X5_append_f (vM : Nat → Int32) (aM : Nat → Nat → Int32) (p0 : Int32) : Int32 × (Nat → Int32) × (Nat → Nat → Int32) :=
  if (vM 9) = 60 then (0, upd (upd vM 21 0) 21 1, aM)
  else (((vM 9) + 1), upd (upd vM 21 0) 9 ((vM 9) + 1), va_up aM 8 (upd (aM 8) ((vM 9).toNatClampNeg) (vp_nar .char p0)))
set_option maxHeartbeats 4000000 in
set_option maxRecDepth 100000 in
theorem X5_append_c (l : Launch) (g : kG) (oM : Nat) (rM : Nat → Nat) (vM : Nat → Int32) (aM : Nat → Nat → Int32) (p0 : Int32) (hL9 : (∃ n : Nat, n ≤ 60 ∧ vM 9 = nI n)) : kM l yX5_append wX5_append 1 21 0 0 g [.ref oM, .int p0] [X5W g oM rM vM aM] (fun x u => x = (X5_append_f vM aM p0).1 ∧ u = [X5W g oM rM ((X5_append_f vM aM p0).2.1) ((X5_append_f vM aM p0).2.2)]) := by
  refine kM_of (cc := cX5_append) (nL := 2) (ret := (some .int)) (lv := [(0, .ref oM), (1, .int p0)]) (by decide) rfl (Nat.le_of_ble_eq_true rfl) rfl ?_
  intro p e s m args below meth c ls A C hP hD hE hA hS hl
  have C : kC p c cX5_append s m args meth RX5 g 2 (some .int) := C
  have hx := C.1.1
  have hb := C.1.2.1
  have hts := C.1.2.2.2.2
  refine lv_aload_n hx hb dX5_append_0 rfl (lv_at hl 0 rfl) ?_
  refine lv_iconst (v := 0) hx hb dX5_append_1 (by decide) ?_
  refine kg_put C kFX5 (k := 21) kw1467 hP hD hS (i := 0) (q := 0) rfl rfl (by decide) rfl rfl rfl (Nat.le_of_ble_eq_true rfl) X5s_21 rfl dX5_append_2 (fun H locs hP hD hS => ?_)
  have hP : kp g [X5W g oM rM (upd vM 21 0) aM] H := hP
  have hD : kd A [X5W g oM rM (upd vM 21 0) aM] := hD
  refine lv_aload_n hx hb dX5_append_5 rfl (lv_at hl 0 rfl) ?_
  refine kg_get C kFX5 (k := 9) kw1455 hP (i := 0) (q := 0) rfl rfl (by decide) rfl dX5_append_6 ?_
  refine lv_bipush (v := 60) hx hb dX5_append_9 (by decide) ?_
  refine lv_icmp_ne (tgt := 20) hx hb dX5_append_11 (by decide) (fun c1 => ?_) (fun c1 => ?_)
  · have z1 := k_n60 hL9 c1
    refine lv_aload_n hx hb dX5_append_20 rfl (lv_at hl 0 rfl) ?_
    refine kg_get C kFX5 (k := 8) kw1454 hP (i := 0) (q := 0) rfl rfl (by decide) rfl dX5_append_21 ?_
    refine lv_aload_n hx hb dX5_append_24 rfl (lv_at hl 0 rfl) ?_
    refine lv_dup hx hb dX5_append_25 rfl ?_
    refine kg_get C kFX5 (k := 9) kw1455 hP (i := 0) (q := 0) rfl rfl (by decide) rfl dX5_append_26 ?_
    refine lv_dup_x1 hx hb dX5_append_29 rfl rfl ?_
    refine lv_iconst (v := 1) hx hb dX5_append_30 (by decide) ?_
    refine lv_iadd hx hb dX5_append_31 ?_
    refine kg_put C kFX5 (k := 9) kw1455 hP hD hS (i := 0) (q := 0) rfl rfl (by decide) rfl rfl rfl (Nat.le_of_ble_eq_true rfl) X5s_9 rfl dX5_append_32 (fun H locs hP hD hS => ?_)
    have hP : kp g [X5W g oM rM (upd (upd vM 21 0) 9 ((vM 9) + 1)) aM] H := hP
    have hD : kd A [X5W g oM rM (upd (upd vM 21 0) 9 ((vM 9) + 1)) aM] := hD
    refine lv_iload_n hx hb dX5_append_35 rfl (lv_at hl 1 rfl) ?_
    refine kg_cast C hP hD hS (i := 0) (q := 6) rfl rfl (by first | assumption) X5t_8 rfl dX5_append_36 (fun H locs hP hD hS => ?_)
    have hP : kp g [X5W g oM rM (upd (upd vM 21 0) 9 ((vM 9) + 1)) (va_up aM 8 (upd (aM 8) ((vM 9).toNatClampNeg) (vp_nar .char p0)))] H := hP
    have hD : kd A [X5W g oM rM (upd (upd vM 21 0) 9 ((vM 9) + 1)) (va_up aM 8 (upd (aM 8) ((vM 9).toNatClampNeg) (vp_nar .char p0)))] := hD
    refine lv_aload_n hx hb dX5_append_37 rfl (lv_at hl 0 rfl) ?_
    refine kg_get C kFX5 (k := 9) kw1455 hP (i := 0) (q := 0) rfl rfl (by decide) rfl dX5_append_38 ?_
    have hF := (show X5_append_f vM aM p0 = (((vM 9) + 1), upd (upd vM 21 0) 9 ((vM 9) + 1), va_up aM 8 (upd (aM 8) ((vM 9).toNatClampNeg) (vp_nar .char p0))) from (if_neg c1).trans (rfl))
    exact kM_ret (x := ((vM 9) + 1)) C hP hD hS ⟨by rw [hF], by rw [hF]⟩ dX5_append_41
  refine lv_aload_n hx hb dX5_append_14 rfl (lv_at hl 0 rfl) ?_
  refine lv_iconst (v := 1) hx hb dX5_append_15 (by decide) ?_
  refine kM_V (As := [.int 1]) (rest := []) (wr := []) C (X5_raises_c l g oM rM (upd vM 21 0) aM 1) (cwV 1 hts (k_gV kw1540 ca_X5_raises) rfl rfl rfl ⟨rfl, pnX5_raises⟩ ⟨Nat.le_of_ble_eq_true rfl, Nat.le_of_ble_eq_true rfl⟩) hE hS hA hP hD [0] [] rfl rfl ⟨rfl, rfl, by decide⟩ (k_recv C kFX5 hP (i := 0) (q := 0) rfl rfl) rfl hl.1 rfl rfl dX5_append_16 ⟨Nat.le_of_ble_eq_true rfl, Nat.le_of_ble_eq_true rfl⟩ (fun r2 u2 H locs hp2 hP hD hS => ?_)
  obtain ⟨er2, eu2⟩ := hp2
  have er2 : r2 = 0 := er2
  have eu2 : u2 = [X5W g oM rM (upd (upd vM 21 0) 21 1) aM] := eu2
  subst er2 eu2
  have hP : kp g [X5W g oM rM (upd (upd vM 21 0) 21 1) aM] H := hP
  have hD : kd A [X5W g oM rM (upd (upd vM 21 0) 21 1) aM] := hD
  have hF := (show X5_append_f vM aM p0 = (0, upd (upd vM 21 0) 21 1, aM) from (if_pos c1).trans (rfl))
  exact kM_ret (x := 0) C hP hD hS ⟨by rw [hF], by rw [hF]⟩ dX5_append_19

abbrev wX5_isNext : List Cond := Cond.code yX5_isNext cX5_isNext 2 (some .boolean) :: kW
def X5_isNext_f (vM : Nat → Int32) (aM : Nat → Nat → Int32) (p0 : Int32) : Bool × (Nat → Int32) :=
  if (vM 10) = (vM 9) then (false, vM)
  else if ((aM 8) (vM 10).toNatClampNeg) = p0 then (true, upd vM 10 ((vM 10) + 1))
  else (false, vM)
set_option maxHeartbeats 4000000 in
set_option maxRecDepth 100000 in
theorem X5_isNext_c (l : Launch) (g : kG) (oM : Nat) (rM : Nat → Nat) (vM : Nat → Int32) (aM : Nat → Nat → Int32) (p0 : Int32) (hok : kOK5 vM) : kM l yX5_isNext wX5_isNext 0 0 0 0 g [.ref oM, .int p0] [X5W g oM rM vM aM] (fun x u => x = b2i (X5_isNext_f vM aM p0).1 ∧ u = [X5W g oM rM ((X5_isNext_f vM aM p0).2) aM]) := by
  refine kM_of (cc := cX5_isNext) (nL := 2) (ret := (some .boolean)) (lv := [(0, .ref oM), (1, .int p0)]) (by decide) rfl (Nat.le_of_ble_eq_true rfl) rfl ?_
  intro p e s m args below meth c ls A C hP hD hE hA hS hl
  have C : kC p c cX5_isNext s m args meth RX5 g 2 (some .boolean) := C
  have hx := C.1.1
  have hb := C.1.2.1
  have hts := C.1.2.2.2.2
  refine lv_aload_n hx hb dX5_isNext_0 rfl (lv_at hl 0 rfl) ?_
  refine kg_get C kFX5 (k := 10) kw1456 hP (i := 0) (q := 0) rfl rfl (by decide) rfl dX5_isNext_1 ?_
  refine lv_aload_n hx hb dX5_isNext_4 rfl (lv_at hl 0 rfl) ?_
  refine kg_get C kFX5 (k := 9) kw1455 hP (i := 0) (q := 0) rfl rfl (by decide) rfl dX5_isNext_5 ?_
  refine lv_icmp_eq (tgt := 24) hx hb dX5_isNext_8 (by decide) (fun c1 => ?_) (fun c1 => ?_)
  · refine lv_iconst (v := 0) hx hb dX5_isNext_24 (by decide) ?_
    have hF := (show X5_isNext_f vM aM p0 = (false, vM) from (if_pos c1).trans (rfl))
    exact kM_zret (x := b2i false) C (b2i_nar _) hP hD hS ⟨by rw [hF], by rw [hF]⟩ dX5_isNext_25
  have hz1 := k5_nle hok c1
  have z1 := k5_in60 hok hz1
  refine lv_aload_n hx hb dX5_isNext_11 rfl (lv_at hl 0 rfl) ?_
  refine kg_get C kFX5 (k := 8) kw1454 hP (i := 0) (q := 0) rfl rfl (by decide) rfl dX5_isNext_12 ?_
  refine lv_aload_n hx hb dX5_isNext_15 rfl (lv_at hl 0 rfl) ?_
  refine kg_get C kFX5 (k := 10) kw1456 hP (i := 0) (q := 0) rfl rfl (by decide) rfl dX5_isNext_16 ?_
  refine kg_cald C hP (i := 0) (q := 6) rfl rfl (by first | assumption) dX5_isNext_19 ?_
  refine lv_iload_n hx hb dX5_isNext_20 rfl (lv_at hl 1 rfl) ?_
  refine lv_icmp_eq (tgt := 26) hx hb dX5_isNext_21 (by decide) (fun c2 => ?_) (fun c2 => ?_)
  · refine lv_aload_n hx hb dX5_isNext_26 rfl (lv_at hl 0 rfl) ?_
    refine lv_dup hx hb dX5_isNext_27 rfl ?_
    refine kg_get C kFX5 (k := 10) kw1456 hP (i := 0) (q := 0) rfl rfl (by decide) rfl dX5_isNext_28 ?_
    refine lv_iconst (v := 1) hx hb dX5_isNext_31 (by decide) ?_
    refine lv_iadd hx hb dX5_isNext_32 ?_
    refine kg_put C kFX5 (k := 10) kw1456 hP hD hS (i := 0) (q := 0) rfl rfl (by decide) rfl rfl rfl (Nat.le_of_ble_eq_true rfl) X5s_10 rfl dX5_isNext_33 (fun H locs hP hD hS => ?_)
    have hP : kp g [X5W g oM rM (upd vM 10 ((vM 10) + 1)) aM] H := hP
    have hD : kd A [X5W g oM rM (upd vM 10 ((vM 10) + 1)) aM] := hD
    refine lv_iconst (v := 1) hx hb dX5_isNext_36 (by decide) ?_
    have hF := (show X5_isNext_f vM aM p0 = (true, upd vM 10 ((vM 10) + 1)) from (if_neg c1).trans ((if_pos c2).trans (rfl)))
    exact kM_zret (x := b2i true) C (b2i_nar _) hP hD hS ⟨by rw [hF], by rw [hF]⟩ dX5_isNext_37
  refine lv_iconst (v := 0) hx hb dX5_isNext_24 (by decide) ?_
  have hF := (show X5_isNext_f vM aM p0 = (false, vM) from (if_neg c1).trans ((if_neg c2).trans (rfl)))
  exact kM_zret (x := b2i false) C (b2i_nar _) hP hD hS ⟨by rw [hF], by rw [hF]⟩ dX5_isNext_25
theorem X5_isNext_x {vM : Nat → Int32} {aM : Nat → Nat → Int32} {p0 : Int32} (h : kOK5 vM) : k5tx vM aM (X5_isNext_f vM aM p0).2 aM := by
  unfold X5_isNext_f
  split
  · exact k5tx.rf h
  · rename_i c
    split
    · exact k5_upx h (k5_nle h c)
    · exact k5tx.rf h
theorem X5_isNext_t {vM : Nat → Int32} {aM : Nat → Nat → Int32} {p0 : Int32} (h : kOK5 vM) (ht : (X5_isNext_f vM aM p0).1 = true) : kMe5 (X5_isNext_f vM aM p0).2 < kMe5 vM := by
  unfold X5_isNext_f at ht ⊢
  split
  · rename_i c; rw [if_pos c] at ht; cases ht
  · rename_i c
    rw [if_neg c] at ht
    split
    · exact k5_meUp h (k5_nle h c) (Nat.lt_succ_self _)
    · rename_i c2; rw [if_neg c2] at ht; cases ht

abbrev wX5_digits : List Cond := Cond.code yX5_digits cX5_digits 4 (some .boolean) :: kW
def X5_digits_lp9b (vM : Nat → Int32) (aM : Nat → Nat → Int32) (p0 : Int32) (p1 : Int32) (rec : Int32 → (Nat → Int32) → (Nat → Nat → Int32) → (Bool × (Nat → Int32) × (Nat → Nat → Int32))) (x3_9 : Int32) (vM9 : Nat → Int32) (aM9 : Nat → Nat → Int32) : Bool × (Nat → Int32) × (Nat → Nat → Int32) :=
  if p1 ≤ x3_9 then (if x3_9 ≤ 0 then (false, vM9, aM9)
    else (true, vM9, aM9))
  else if (vM9 9) ≤ (vM9 10) then (if x3_9 ≤ 0 then (false, vM9, aM9)
    else (true, vM9, aM9))
  else if (X5_in_f ((aM9 8) (vM9 10).toNatClampNeg) 48 57) = true then rec (x3_9 + 1) (upd vM9 10 ((vM9 10) + 1)) (va_up aM9 12 (upd (aM9 12) p0.toNatClampNeg (((10 * ((aM9 12) p0.toNatClampNeg)) + ((aM9 8) (vM9 10).toNatClampNeg)) - 48)))
  else if x3_9 ≤ 0 then (false, vM9, aM9)
  else (true, vM9, aM9)
def X5_digits_lp9 (vM : Nat → Int32) (aM : Nat → Nat → Int32) (p0 : Int32) (p1 : Int32) : Nat → Int32 → (Nat → Int32) → (Nat → Nat → Int32) → (Bool × (Nat → Int32) × (Nat → Nat → Int32))
  | 0 => fun x3_9 vM9 aM9 => (false, vM9, aM9)
  | n + 1 => X5_digits_lp9b vM aM p0 p1 (X5_digits_lp9 vM aM p0 p1 n)
theorem X5_digits_lp9_s (vM : Nat → Int32) (aM : Nat → Nat → Int32) (p0 : Int32) (p1 : Int32) (n : Nat) (x3_9 : Int32) (vM9 : Nat → Int32) (aM9 : Nat → Nat → Int32) : X5_digits_lp9 vM aM p0 p1 (n + 1) x3_9 vM9 aM9 = X5_digits_lp9b vM aM p0 p1 (X5_digits_lp9 vM aM p0 p1 n) x3_9 vM9 aM9 := rfl
def X5_digits_f (vM : Nat → Int32) (aM : Nat → Nat → Int32) (p0 : Int32) (p1 : Int32) : Bool × (Nat → Int32) × (Nat → Nat → Int32) :=
  X5_digits_lp9 vM aM p0 p1 61 0 vM (va_up aM 12 (upd (aM 12) p0.toNatClampNeg 0))
set_option maxHeartbeats 4000000 in
set_option maxRecDepth 100000 in
theorem X5_digits_c (l : Launch) (g : kG) (oM : Nat) (rM : Nat → Nat) (vM : Nat → Int32) (aM : Nat → Nat → Int32) (p0 : Int32) (p1 : Int32) (hok : kOK5 vM) (hi3 : vp_in p0 3) : kM l yX5_digits wX5_digits 1 22 0 0 g [.ref oM, .int p0, .int p1] [X5W g oM rM vM aM] (fun x u => x = b2i (X5_digits_f vM aM p0 p1).1 ∧ u = [X5W g oM rM ((X5_digits_f vM aM p0 p1).2.1) ((X5_digits_f vM aM p0 p1).2.2)]) := by
  refine kM_of (cc := cX5_digits) (nL := 4) (ret := (some .boolean)) (lv := [(0, .ref oM), (1, .int p0), (2, .int p1)]) (by decide) rfl (Nat.le_of_ble_eq_true rfl) rfl ?_
  intro p e s m args below meth c ls A C hP hD hE hA hS hl
  have C : kC p c cX5_digits s m args meth RX5 g 4 (some .boolean) := C
  have hx := C.1.1
  have hb := C.1.2.1
  have hts := C.1.2.2.2.2
  have loop9 : ∀ (n : Nat) (x3_9 : Int32) (vM9 : Nat → Int32) (aM9 : Nat → Nat → Int32) (H : Heap) (locs : List Loc) (ls : Array Slot), kOK5 vM9 → kMe5 vM9 < n → X5_digits_f vM aM p0 p1 = X5_digits_lp9 vM aM p0 p1 n x3_9 vM9 aM9 → kp g [X5W g oM rM vM9 aM9] H → kd A [X5W g oM rM vM9 aM9] → va_S A s.heap H locs → lv_has ls 4 [(3, .int x3_9), (0, .ref oM), (1, .int p0), (2, .int p1)] → W p l e (kRm 1 0 0 22) s m args below meth c H locs 0 0 (MQ below (kQi g (fun x u => x = b2i (X5_digits_f vM aM p0 p1).1 ∧ u = [X5W g oM rM ((X5_digits_f vM aM p0 p1).2.1) ((X5_digits_f vM aM p0 p1).2.2)]) A) args s 0 0 A) (F0 m 9 ls []) := by
    intro n
    induction n with
    | zero =>
      intro x3_9 vM9 aM9 H locs ls hok9 hm9 hF9 hP hD hS hl
      exact absurd hm9 (Nat.not_lt_zero _)
    | succ n ih9 =>
      intro x3_9 vM9 aM9 H locs ls hok9 hm9 hF9 hP hD hS hl
      refine lv_iload_n hx hb dX5_digits_9 rfl (lv_at hl 0 rfl) ?_
      refine lv_iload_n hx hb dX5_digits_10 rfl (lv_at hl 3 rfl) ?_
      refine lv_icmp_ge (tgt := 85) hx hb dX5_digits_11 (by decide) (fun c1 => ?_) (fun c1 => ?_)
      · refine lv_iload_n hx hb dX5_digits_85 rfl (lv_at hl 0 rfl) ?_
        refine lv_if_le (tgt := 93) hx hb dX5_digits_86 (by decide) (fun c2 => ?_) (fun c2 => ?_)
        · refine lv_iconst (v := 0) hx hb dX5_digits_93 (by decide) ?_
          have hF := (show X5_digits_f vM aM p0 p1 = (false, vM9, aM9) from hF9.trans ((X5_digits_lp9_s vM aM p0 p1 n x3_9 vM9 aM9).trans ((if_pos c1).trans ((if_pos c2).trans (rfl)))))
          exact kM_zret (x := b2i false) C (b2i_nar _) hP hD hS ⟨by rw [hF], by rw [hF]⟩ dX5_digits_94
        refine lv_iconst (v := 1) hx hb dX5_digits_89 (by decide) ?_
        refine lv_goto (tgt := 94) hx hb dX5_digits_90 (by decide) ?_
        have hF := (show X5_digits_f vM aM p0 p1 = (true, vM9, aM9) from hF9.trans ((X5_digits_lp9_s vM aM p0 p1 n x3_9 vM9 aM9).trans ((if_pos c1).trans ((if_neg c2).trans (rfl)))))
        exact kM_zret (x := b2i true) C (b2i_nar _) hP hD hS ⟨by rw [hF], by rw [hF]⟩ dX5_digits_94
      refine lv_aload_n hx hb dX5_digits_14 rfl (lv_at hl 1 rfl) ?_
      refine kg_get C kFX5 (k := 10) kw1456 hP (i := 0) (q := 0) rfl rfl (by decide) rfl dX5_digits_15 ?_
      refine lv_aload_n hx hb dX5_digits_18 rfl (lv_at hl 1 rfl) ?_
      refine kg_get C kFX5 (k := 9) kw1455 hP (i := 0) (q := 0) rfl rfl (by decide) rfl dX5_digits_19 ?_
      refine lv_icmp_ge (tgt := 85) hx hb dX5_digits_22 (by decide) (fun c3 => ?_) (fun c3 => ?_)
      · refine lv_iload_n hx hb dX5_digits_85 rfl (lv_at hl 0 rfl) ?_
        refine lv_if_le (tgt := 93) hx hb dX5_digits_86 (by decide) (fun c4 => ?_) (fun c4 => ?_)
        · refine lv_iconst (v := 0) hx hb dX5_digits_93 (by decide) ?_
          have hF := (show X5_digits_f vM aM p0 p1 = (false, vM9, aM9) from hF9.trans ((X5_digits_lp9_s vM aM p0 p1 n x3_9 vM9 aM9).trans ((if_neg c1).trans ((if_pos c3).trans ((if_pos c4).trans (rfl))))))
          exact kM_zret (x := b2i false) C (b2i_nar _) hP hD hS ⟨by rw [hF], by rw [hF]⟩ dX5_digits_94
        refine lv_iconst (v := 1) hx hb dX5_digits_89 (by decide) ?_
        refine lv_goto (tgt := 94) hx hb dX5_digits_90 (by decide) ?_
        have hF := (show X5_digits_f vM aM p0 p1 = (true, vM9, aM9) from hF9.trans ((X5_digits_lp9_s vM aM p0 p1 n x3_9 vM9 aM9).trans ((if_neg c1).trans ((if_pos c3).trans ((if_neg c4).trans (rfl))))))
        exact kM_zret (x := b2i true) C (b2i_nar _) hP hD hS ⟨by rw [hF], by rw [hF]⟩ dX5_digits_94
      have hz9 := c3
      have z1 := k5_in60 hok9 hz9
      refine lv_aload_n hx hb dX5_digits_25 rfl (lv_at hl 1 rfl) ?_
      refine kg_get C kFX5 (k := 8) kw1454 hP (i := 0) (q := 0) rfl rfl (by decide) rfl dX5_digits_26 ?_
      refine lv_aload_n hx hb dX5_digits_29 rfl (lv_at hl 1 rfl) ?_
      refine kg_get C kFX5 (k := 10) kw1456 hP (i := 0) (q := 0) rfl rfl (by decide) rfl dX5_digits_30 ?_
      refine kg_cald C hP (i := 0) (q := 6) rfl rfl (by first | assumption | exact k_vin (M := 60) hx9 (by omega) (by decide)) dX5_digits_33 ?_
      refine lv_bipush (v := 48) hx hb dX5_digits_34 (by decide) ?_
      refine lv_bipush (v := 57) hx hb dX5_digits_36 (by decide) ?_
      refine kR_S (As := [.int ((aM9 8) (vM9 10).toNatClampNeg), .int 48, .int 57]) (rest := []) C (X5_in_c l g ((aM9 8) (vM9 10).toNatClampNeg) 48 57) (va_cwS 3 hts (k_gS kw1525 cs_X5_in) rfl rfl rfl pnX5_in ⟨Nat.le_of_ble_eq_true rfl, Nat.le_of_ble_eq_true rfl⟩) hE hS (hP.pick [] rfl) rfl hl.1 rfl rfl dX5_digits_38 ⟨Nat.le_of_ble_eq_true rfl, Nat.le_of_ble_eq_true rfl⟩ ?_
      refine lv_if_eq (tgt := 85) hx hb dX5_digits_41 (by decide) (fun c5 => ?_) (fun c5 => ?_)
      · have c5 := b2i_eq0 c5
        refine lv_iload_n hx hb dX5_digits_85 rfl (lv_at hl 0 rfl) ?_
        refine lv_if_le (tgt := 93) hx hb dX5_digits_86 (by decide) (fun c6 => ?_) (fun c6 => ?_)
        · refine lv_iconst (v := 0) hx hb dX5_digits_93 (by decide) ?_
          have hF := (show X5_digits_f vM aM p0 p1 = (false, vM9, aM9) from hF9.trans ((X5_digits_lp9_s vM aM p0 p1 n x3_9 vM9 aM9).trans ((if_neg c1).trans ((if_neg c3).trans ((if_neg c5).trans ((if_pos c6).trans (rfl)))))))
          exact kM_zret (x := b2i false) C (b2i_nar _) hP hD hS ⟨by rw [hF], by rw [hF]⟩ dX5_digits_94
        refine lv_iconst (v := 1) hx hb dX5_digits_89 (by decide) ?_
        refine lv_goto (tgt := 94) hx hb dX5_digits_90 (by decide) ?_
        have hF := (show X5_digits_f vM aM p0 p1 = (true, vM9, aM9) from hF9.trans ((X5_digits_lp9_s vM aM p0 p1 n x3_9 vM9 aM9).trans ((if_neg c1).trans ((if_neg c3).trans ((if_neg c5).trans ((if_neg c6).trans (rfl)))))))
        exact kM_zret (x := b2i true) C (b2i_nar _) hP hD hS ⟨by rw [hF], by rw [hF]⟩ dX5_digits_94
      have c5 := b2i_ne0 c5
      refine lv_aload_n hx hb dX5_digits_44 rfl (lv_at hl 1 rfl) ?_
      refine kg_get C kFX5 (k := 12) kw1458 hP (i := 0) (q := 0) rfl rfl (by decide) rfl dX5_digits_45 ?_
      refine lv_iload_n hx hb dX5_digits_48 rfl (lv_at hl 2 rfl) ?_
      refine lv_bipush (v := 10) hx hb dX5_digits_49 (by decide) ?_
      refine lv_aload_n hx hb dX5_digits_51 rfl (lv_at hl 1 rfl) ?_
      refine kg_get C kFX5 (k := 12) kw1458 hP (i := 0) (q := 0) rfl rfl (by decide) rfl dX5_digits_52 ?_
      refine lv_iload_n hx hb dX5_digits_55 rfl (lv_at hl 2 rfl) ?_
      refine kg_iald C hP (i := 0) (q := 7) rfl rfl (by first | assumption | exact k_vin (M := 3) hx9 (by omega) (by decide)) dX5_digits_56 ?_
      refine lv_imul hx hb dX5_digits_57 ?_
      refine lv_aload_n hx hb dX5_digits_58 rfl (lv_at hl 1 rfl) ?_
      refine kg_get C kFX5 (k := 8) kw1454 hP (i := 0) (q := 0) rfl rfl (by decide) rfl dX5_digits_59 ?_
      refine lv_aload_n hx hb dX5_digits_62 rfl (lv_at hl 1 rfl) ?_
      refine lv_dup hx hb dX5_digits_63 rfl ?_
      refine kg_get C kFX5 (k := 10) kw1456 hP (i := 0) (q := 0) rfl rfl (by decide) rfl dX5_digits_64 ?_
      refine lv_dup_x1 hx hb dX5_digits_67 rfl rfl ?_
      refine lv_iconst (v := 1) hx hb dX5_digits_68 (by decide) ?_
      refine lv_iadd hx hb dX5_digits_69 ?_
      refine kg_put C kFX5 (k := 10) kw1456 hP hD hS (i := 0) (q := 0) rfl rfl (by decide) rfl rfl rfl (Nat.le_of_ble_eq_true rfl) X5s_10 rfl dX5_digits_70 (fun H locs hP hD hS => ?_)
      have hP : kp g [X5W g oM rM (upd vM9 10 ((vM9 10) + 1)) aM9] H := hP
      have hD : kd A [X5W g oM rM (upd vM9 10 ((vM9 10) + 1)) aM9] := hD
      refine kg_cald C hP (i := 0) (q := 6) rfl rfl (by first | assumption | exact k_vin (M := 60) hx9 (by omega) (by decide)) dX5_digits_73 ?_
      refine lv_iadd hx hb dX5_digits_74 ?_
      refine lv_bipush (v := 48) hx hb dX5_digits_75 (by decide) ?_
      refine lv_isub hx hb dX5_digits_77 ?_
      refine kg_iast C hP hD hS (i := 0) (q := 7) rfl rfl (by first | assumption | exact k_vin (M := 3) hx9 (by omega) (by decide)) X5t_12 rfl dX5_digits_78 (fun H locs hP hD hS => ?_)
      have hP : kp g [X5W g oM rM (upd vM9 10 ((vM9 10) + 1)) (va_up aM9 12 (upd (aM9 12) p0.toNatClampNeg (((10 * ((aM9 12) p0.toNatClampNeg)) + ((aM9 8) (vM9 10).toNatClampNeg)) - 48)))] H := hP
      have hD : kd A [X5W g oM rM (upd vM9 10 ((vM9 10) + 1)) (va_up aM9 12 (upd (aM9 12) p0.toNatClampNeg (((10 * ((aM9 12) p0.toNatClampNeg)) + ((aM9 8) (vM9 10).toNatClampNeg)) - 48)))] := hD
      refine lv_iinc (v := (x3_9 + 1)) (lv' := [(3, .int (x3_9 + 1)), (0, .ref oM), (1, .int p0), (2, .int p1)]) hx hb dX5_digits_79 hl (k := 0) rfl rfl (by decide) rfl (fun ls hl => ?_)
      refine lv_goto (tgt := 9) hx hb dX5_digits_82 (by decide) ?_
      exact ih9 (x3_9 + 1) (upd vM9 10 ((vM9 10) + 1)) (va_up aM9 12 (upd (aM9 12) p0.toNatClampNeg (((10 * ((aM9 12) p0.toNatClampNeg)) + ((aM9 8) (vM9 10).toNatClampNeg)) - 48))) _ _ ls (k5_up hok9 hz9).ok (k5_meUp hok9 hz9 hm9) (show X5_digits_f vM aM p0 p1 = X5_digits_lp9 vM aM p0 p1 n (x3_9 + 1) (upd vM9 10 ((vM9 10) + 1)) (va_up aM9 12 (upd (aM9 12) p0.toNatClampNeg (((10 * ((aM9 12) p0.toNatClampNeg)) + ((aM9 8) (vM9 10).toNatClampNeg)) - 48))) from hF9.trans ((X5_digits_lp9_s vM aM p0 p1 n x3_9 vM9 aM9).trans ((if_neg c1).trans ((if_neg c3).trans ((if_pos c5).trans (rfl)))))) hP hD hS (lv_sub hl [0, 1, 2, 3] rfl)
  refine lv_iconst (v := 0) hx hb dX5_digits_0 (by decide) ?_
  refine lv_istore_n (lv' := [(3, .int 0), (0, .ref oM), (1, .int p0), (2, .int p1)]) hx hb dX5_digits_1 rfl hl (by decide) rfl (fun ls hl => ?_)
  refine lv_aload_n hx hb dX5_digits_2 rfl (lv_at hl 1 rfl) ?_
  refine kg_get C kFX5 (k := 12) kw1458 hP (i := 0) (q := 0) rfl rfl (by decide) rfl dX5_digits_3 ?_
  refine lv_iload_n hx hb dX5_digits_6 rfl (lv_at hl 2 rfl) ?_
  refine lv_iconst (v := 0) hx hb dX5_digits_7 (by decide) ?_
  refine kg_iast C hP hD hS (i := 0) (q := 7) rfl rfl (by first | assumption) X5t_12 rfl dX5_digits_8 (fun H locs hP hD hS => ?_)
  have hP : kp g [X5W g oM rM vM (va_up aM 12 (upd (aM 12) p0.toNatClampNeg 0))] H := hP
  have hD : kd A [X5W g oM rM vM (va_up aM 12 (upd (aM 12) p0.toNatClampNeg 0))] := hD
  exact loop9 61 0 vM (va_up aM 12 (upd (aM 12) p0.toNatClampNeg 0)) _ _ ls hok (k5_me61 hok) (show X5_digits_f vM aM p0 p1 = X5_digits_lp9 vM aM p0 p1 61 0 vM (va_up aM 12 (upd (aM 12) p0.toNatClampNeg 0)) from rfl) hP hD hS (lv_sub hl [0, 1, 2, 3] rfl)
theorem X5_digits_lx {vM0 : Nat → Int32} {aM0 : Nat → Nat → Int32} {p0 p1 : Int32} : ∀ (n : Nat) (x : Int32) (vM : Nat → Int32) (aM : Nat → Nat → Int32), kOK5 vM → k5tx vM aM (X5_digits_lp9 vM0 aM0 p0 p1 n x vM aM).2.1 (X5_digits_lp9 vM0 aM0 p0 p1 n x vM aM).2.2 := by
  intro n
  induction n with
  | zero => intro x vM aM h; exact k5tx.rf h
  | succ n ih =>
    intro x vM aM h
    rw [X5_digits_lp9_s]
    unfold X5_digits_lp9b
    repeat' split
    all_goals first | exact k5tx.rf h | exact ((k5_upx h (by assumption)).tr (k5_giv (k5_up h (by assumption)).ok)).tr (ih _ _ _ (k5_up h (by assumption)).ok)
theorem X5_digits_x {vM : Nat → Int32} {aM : Nat → Nat → Int32} {p0 p1 : Int32} (h : kOK5 vM) : k5tx vM aM (X5_digits_f vM aM p0 p1).2.1 (X5_digits_f vM aM p0 p1).2.2 := (k5_giv h).tr (X5_digits_lx _ _ _ _ h)

theorem pnX5_digits : yX5_digits.cls ≠ "java/lang/invoke/MethodHandle" ∧ yX5_digits.cls ≠ "java/lang/invoke/VarHandle" ∧ (parseMethodDescriptor yX5_digits.desc).map (fun d => d.parameters.length) = some 2 := by decide +kernel
theorem ca_X5_digits : kCal yX5_digits (Cond.code yX5_digits cX5_digits 4 (some .boolean)) := ⟨k_w 8 238 rfl rfl, k_w 1 95 rfl rfl, k_w 2 10 rfl rfl, k_w 8 239 rfl rfl⟩

theorem pnX5_isNext : yX5_isNext.cls ≠ "java/lang/invoke/MethodHandle" ∧ yX5_isNext.cls ≠ "java/lang/invoke/VarHandle" ∧ (parseMethodDescriptor yX5_isNext.desc).map (fun d => d.parameters.length) = some 1 := by decide +kernel
theorem ca_X5_isNext : kCal yX5_isNext (Cond.code yX5_isNext cX5_isNext 2 (some .boolean)) := ⟨k_w 9 2 rfl rfl, k_w 1 96 rfl rfl, k_w 2 10 rfl rfl, k_w 9 3 rfl rfl⟩

abbrev wX5_isCommand : List Cond := Cond.code yX5_isCommand cX5_isCommand 1 (some .boolean) :: kW
def X5_isCommand_j225 (vM : Nat → Int32) (aM : Nat → Nat → Int32) (vM225 : Nat → Int32) (aM225 : Nat → Nat → Int32) : Bool × (Nat → Int32) × (Nat → Nat → Int32) :=
  if (X5_digits_f vM225 aM225 1 1).1 = true then (true, (X5_digits_f vM225 aM225 1 1).2.1, (X5_digits_f vM225 aM225 1 1).2.2)
  else (false, (X5_digits_f vM225 aM225 1 1).2.1, (X5_digits_f vM225 aM225 1 1).2.2)
def X5_isCommand_j216 (vM : Nat → Int32) (aM : Nat → Nat → Int32) (vM216 : Nat → Int32) (aM216 : Nat → Nat → Int32) : Bool × (Nat → Int32) × (Nat → Nat → Int32) :=
  if (X5_isNext_f vM216 aM216 62).1 = true then X5_isCommand_j225 vM aM ((X5_isNext_f vM216 aM216 62).2) aM216
  else (false, (X5_isNext_f vM216 aM216 62).2, aM216)
def X5_isCommand_j182 (vM : Nat → Int32) (aM : Nat → Nat → Int32) (vM182 : Nat → Int32) (aM182 : Nat → Nat → Int32) : Bool × (Nat → Int32) × (Nat → Nat → Int32) :=
  if (X5_digits_f vM182 aM182 2 3).1 = true then (true, (X5_digits_f vM182 aM182 2 3).2.1, (X5_digits_f vM182 aM182 2 3).2.2)
  else (false, (X5_digits_f vM182 aM182 2 3).2.1, (X5_digits_f vM182 aM182 2 3).2.2)
def X5_isCommand_j173 (vM : Nat → Int32) (aM : Nat → Nat → Int32) (vM173 : Nat → Int32) (aM173 : Nat → Nat → Int32) : Bool × (Nat → Int32) × (Nat → Nat → Int32) :=
  if (X5_isNext_f vM173 aM173 43).1 = true then X5_isCommand_j182 vM aM ((X5_isNext_f vM173 aM173 43).2) aM173
  else (false, (X5_isNext_f vM173 aM173 43).2, aM173)
def X5_isCommand_j164 (vM : Nat → Int32) (aM : Nat → Nat → Int32) (vM164 : Nat → Int32) (aM164 : Nat → Nat → Int32) : Bool × (Nat → Int32) × (Nat → Nat → Int32) :=
  if (X5_digits_f vM164 aM164 1 1).1 = true then X5_isCommand_j173 vM aM ((X5_digits_f vM164 aM164 1 1).2.1) ((X5_digits_f vM164 aM164 1 1).2.2)
  else (false, (X5_digits_f vM164 aM164 1 1).2.1, (X5_digits_f vM164 aM164 1 1).2.2)
def X5_isCommand_j155 (vM : Nat → Int32) (aM : Nat → Nat → Int32) (vM155 : Nat → Int32) (aM155 : Nat → Nat → Int32) : Bool × (Nat → Int32) × (Nat → Nat → Int32) :=
  if (X5_isNext_f vM155 aM155 60).1 = true then X5_isCommand_j164 vM aM ((X5_isNext_f vM155 aM155 60).2) aM155
  else (false, (X5_isNext_f vM155 aM155 60).2, aM155)
def X5_isCommand_f (vM : Nat → Int32) (aM : Nat → Nat → Int32) : Bool × (Nat → Int32) × (Nat → Nat → Int32) :=
  if (vM 10) = (vM 9) then (false, vM, aM)
  else if ((aM 8) (vM 10).toNatClampNeg) = 98 then ((X5_digits_f (upd (upd vM 11 ((aM 8) (vM 10).toNatClampNeg)) 10 ((vM 10) + 1)) aM 0 1).1, (X5_digits_f (upd (upd vM 11 ((aM 8) (vM 10).toNatClampNeg)) 10 ((vM 10) + 1)) aM 0 1).2.1, (X5_digits_f (upd (upd vM 11 ((aM 8) (vM 10).toNatClampNeg)) 10 ((vM 10) + 1)) aM 0 1).2.2)
  else if ((aM 8) (vM 10).toNatClampNeg) = 101 then (if (X5_digits_f (upd (upd vM 11 ((aM 8) (vM 10).toNatClampNeg)) 10 ((vM 10) + 1)) aM 0 1).1 = true then X5_isCommand_j216 vM aM ((X5_digits_f (upd (upd vM 11 ((aM 8) (vM 10).toNatClampNeg)) 10 ((vM 10) + 1)) aM 0 1).2.1) ((X5_digits_f (upd (upd vM 11 ((aM 8) (vM 10).toNatClampNeg)) 10 ((vM 10) + 1)) aM 0 1).2.2)
    else (false, (X5_digits_f (upd (upd vM 11 ((aM 8) (vM 10).toNatClampNeg)) 10 ((vM 10) + 1)) aM 0 1).2.1, (X5_digits_f (upd (upd vM 11 ((aM 8) (vM 10).toNatClampNeg)) 10 ((vM 10) + 1)) aM 0 1).2.2))
  else if ((aM 8) (vM 10).toNatClampNeg) = 102 then (if (X5_digits_f (upd (upd vM 11 ((aM 8) (vM 10).toNatClampNeg)) 10 ((vM 10) + 1)) aM 0 1).1 = true then X5_isCommand_j155 vM aM ((X5_digits_f (upd (upd vM 11 ((aM 8) (vM 10).toNatClampNeg)) 10 ((vM 10) + 1)) aM 0 1).2.1) ((X5_digits_f (upd (upd vM 11 ((aM 8) (vM 10).toNatClampNeg)) 10 ((vM 10) + 1)) aM 0 1).2.2)
    else (false, (X5_digits_f (upd (upd vM 11 ((aM 8) (vM 10).toNatClampNeg)) 10 ((vM 10) + 1)) aM 0 1).2.1, (X5_digits_f (upd (upd vM 11 ((aM 8) (vM 10).toNatClampNeg)) 10 ((vM 10) + 1)) aM 0 1).2.2))
  else if ((aM 8) (vM 10).toNatClampNeg) = 103 then ((X5_digits_f (upd (upd vM 11 ((aM 8) (vM 10).toNatClampNeg)) 10 ((vM 10) + 1)) aM 0 1).1, (X5_digits_f (upd (upd vM 11 ((aM 8) (vM 10).toNatClampNeg)) 10 ((vM 10) + 1)) aM 0 1).2.1, (X5_digits_f (upd (upd vM 11 ((aM 8) (vM 10).toNatClampNeg)) 10 ((vM 10) + 1)) aM 0 1).2.2)
  else if ((aM 8) (vM 10).toNatClampNeg) = 110 then ((X5_digits_f (upd (upd vM 11 ((aM 8) (vM 10).toNatClampNeg)) 10 ((vM 10) + 1)) aM 0 2).1, (X5_digits_f (upd (upd vM 11 ((aM 8) (vM 10).toNatClampNeg)) 10 ((vM 10) + 1)) aM 0 2).2.1, (X5_digits_f (upd (upd vM 11 ((aM 8) (vM 10).toNatClampNeg)) 10 ((vM 10) + 1)) aM 0 2).2.2)
  else if ((aM 8) (vM 10).toNatClampNeg) = 111 then (true, upd (upd vM 11 ((aM 8) (vM 10).toNatClampNeg)) 10 ((vM 10) + 1), aM)
  else if ((aM 8) (vM 10).toNatClampNeg) = 115 then ((X5_digits_f (upd (upd vM 11 ((aM 8) (vM 10).toNatClampNeg)) 10 ((vM 10) + 1)) aM 0 1).1, (X5_digits_f (upd (upd vM 11 ((aM 8) (vM 10).toNatClampNeg)) 10 ((vM 10) + 1)) aM 0 1).2.1, (X5_digits_f (upd (upd vM 11 ((aM 8) (vM 10).toNatClampNeg)) 10 ((vM 10) + 1)) aM 0 1).2.2)
  else if ((aM 8) (vM 10).toNatClampNeg) = 116 then ((X5_digits_f (upd (upd vM 11 ((aM 8) (vM 10).toNatClampNeg)) 10 ((vM 10) + 1)) aM 0 2).1, (X5_digits_f (upd (upd vM 11 ((aM 8) (vM 10).toNatClampNeg)) 10 ((vM 10) + 1)) aM 0 2).2.1, (X5_digits_f (upd (upd vM 11 ((aM 8) (vM 10).toNatClampNeg)) 10 ((vM 10) + 1)) aM 0 2).2.2)
  else if ((aM 8) (vM 10).toNatClampNeg) = 119 then ((X5_digits_f (upd (upd vM 11 ((aM 8) (vM 10).toNatClampNeg)) 10 ((vM 10) + 1)) aM 0 1).1, (X5_digits_f (upd (upd vM 11 ((aM 8) (vM 10).toNatClampNeg)) 10 ((vM 10) + 1)) aM 0 1).2.1, (X5_digits_f (upd (upd vM 11 ((aM 8) (vM 10).toNatClampNeg)) 10 ((vM 10) + 1)) aM 0 1).2.2)
  else if ((aM 8) (vM 10).toNatClampNeg) = 120 then ((X5_digits_f (upd (upd vM 11 ((aM 8) (vM 10).toNatClampNeg)) 10 ((vM 10) + 1)) aM 0 1).1, (X5_digits_f (upd (upd vM 11 ((aM 8) (vM 10).toNatClampNeg)) 10 ((vM 10) + 1)) aM 0 1).2.1, (X5_digits_f (upd (upd vM 11 ((aM 8) (vM 10).toNatClampNeg)) 10 ((vM 10) + 1)) aM 0 1).2.2)
  else (false, upd vM 11 ((aM 8) (vM 10).toNatClampNeg), aM)
set_option maxHeartbeats 4000000 in
set_option maxRecDepth 100000 in
theorem X5_isCommand_c (l : Launch) (g : kG) (oM : Nat) (rM : Nat → Nat) (vM : Nat → Int32) (aM : Nat → Nat → Int32) (hok : kOK5 vM) (hch : kCh5 aM) : kM l yX5_isCommand wX5_isCommand 2 45 0 0 g [.ref oM] [X5W g oM rM vM aM] (fun x u => x = b2i (X5_isCommand_f vM aM).1 ∧ u = [X5W g oM rM ((X5_isCommand_f vM aM).2.1) ((X5_isCommand_f vM aM).2.2)]) := by
  refine kM_of (cc := cX5_isCommand) (nL := 1) (ret := (some .boolean)) (lv := [(0, .ref oM)]) (by decide) rfl (Nat.le_of_ble_eq_true rfl) rfl ?_
  intro p e s m args below meth c ls A C hP hD hE hA hS hl
  have C : kC p c cX5_isCommand s m args meth RX5 g 1 (some .boolean) := C
  have hx := C.1.1
  have hb := C.1.2.1
  have hts := C.1.2.2.2.2
  have jn225 : ∀ (vM225 : Nat → Int32) (aM225 : Nat → Nat → Int32) (H : Heap) (locs : List Loc) (ls : Array Slot), kOK5 vM225 → X5_isCommand_f vM aM = X5_isCommand_j225 vM aM vM225 aM225 → kp g [X5W g oM rM vM225 aM225] H → kd A [X5W g oM rM vM225 aM225] → va_S A s.heap H locs → lv_has ls 1 [(0, .ref oM)] → W p l e (kRm 2 0 0 45) s m args below meth c H locs 0 0 (MQ below (kQi g (fun x u => x = b2i (X5_isCommand_f vM aM).1 ∧ u = [X5W g oM rM ((X5_isCommand_f vM aM).2.1) ((X5_isCommand_f vM aM).2.2)]) A) args s 0 0 A) (F0 m 225 ls []) := by
    intro vM225 aM225 H locs ls hok225 hF225 hP hD hS hl
    refine lv_aload_n hx hb dX5_isCommand_225 rfl (lv_at hl 0 rfl) ?_
    refine lv_iconst (v := 1) hx hb dX5_isCommand_226 (by decide) ?_
    refine lv_iconst (v := 1) hx hb dX5_isCommand_227 (by decide) ?_
    refine kM_V (As := [.int 1, .int 1]) (rest := []) (wr := []) C (X5_digits_c l g oM rM vM225 aM225 1 1 hok225 (k_vin (j := 1) rfl (by decide) (by decide))) (cwV 2 hts (k_gV kw1782 ca_X5_digits) rfl rfl rfl ⟨rfl, pnX5_digits⟩ ⟨Nat.le_of_ble_eq_true rfl, Nat.le_of_ble_eq_true rfl⟩) hE hS hA hP hD [0] [] rfl rfl ⟨rfl, rfl, by decide⟩ (k_recv C kFX5 hP (i := 0) (q := 0) rfl rfl) rfl hl.1 rfl rfl dX5_isCommand_228 ⟨Nat.le_of_ble_eq_true rfl, Nat.le_of_ble_eq_true rfl⟩ (fun r9 u9 H locs hp9 hP hD hS => ?_)
    obtain ⟨rfl, rfl⟩ := hp9
    have hP : kp g [X5W g oM rM ((X5_digits_f vM225 aM225 1 1).2.1) ((X5_digits_f vM225 aM225 1 1).2.2)] H := hP
    have hD : kd A [X5W g oM rM ((X5_digits_f vM225 aM225 1 1).2.1) ((X5_digits_f vM225 aM225 1 1).2.2)] := hD
    refine lv_if_eq (tgt := 238) hx hb dX5_isCommand_231 (by decide) (fun c10 => ?_) (fun c10 => ?_)
    · have c10 := b2i_eq0 c10
      refine lv_iconst (v := 0) hx hb dX5_isCommand_238 (by decide) ?_
      have hF := (show X5_isCommand_f vM aM = (false, (X5_digits_f vM225 aM225 1 1).2.1, (X5_digits_f vM225 aM225 1 1).2.2) from hF225.trans (show X5_isCommand_j225 vM aM vM225 aM225 = (false, (X5_digits_f vM225 aM225 1 1).2.1, (X5_digits_f vM225 aM225 1 1).2.2) from (if_neg c10).trans (rfl)))
      exact kM_zret (x := b2i false) C (b2i_nar _) hP hD hS ⟨by rw [hF], by rw [hF]⟩ dX5_isCommand_239
    have c10 := b2i_ne0 c10
    refine lv_iconst (v := 1) hx hb dX5_isCommand_234 (by decide) ?_
    refine lv_goto (tgt := 239) hx hb dX5_isCommand_235 (by decide) ?_
    have hF := (show X5_isCommand_f vM aM = (true, (X5_digits_f vM225 aM225 1 1).2.1, (X5_digits_f vM225 aM225 1 1).2.2) from hF225.trans (show X5_isCommand_j225 vM aM vM225 aM225 = (true, (X5_digits_f vM225 aM225 1 1).2.1, (X5_digits_f vM225 aM225 1 1).2.2) from (if_pos c10).trans (rfl)))
    exact kM_zret (x := b2i true) C (b2i_nar _) hP hD hS ⟨by rw [hF], by rw [hF]⟩ dX5_isCommand_239
  have jn216 : ∀ (vM216 : Nat → Int32) (aM216 : Nat → Nat → Int32) (H : Heap) (locs : List Loc) (ls : Array Slot), kOK5 vM216 → X5_isCommand_f vM aM = X5_isCommand_j216 vM aM vM216 aM216 → kp g [X5W g oM rM vM216 aM216] H → kd A [X5W g oM rM vM216 aM216] → va_S A s.heap H locs → lv_has ls 1 [(0, .ref oM)] → W p l e (kRm 2 0 0 45) s m args below meth c H locs 0 0 (MQ below (kQi g (fun x u => x = b2i (X5_isCommand_f vM aM).1 ∧ u = [X5W g oM rM ((X5_isCommand_f vM aM).2.1) ((X5_isCommand_f vM aM).2.2)]) A) args s 0 0 A) (F0 m 216 ls []) := by
    intro vM216 aM216 H locs ls hok216 hF216 hP hD hS hl
    refine lv_aload_n hx hb dX5_isCommand_216 rfl (lv_at hl 0 rfl) ?_
    refine lv_bipush (v := 62) hx hb dX5_isCommand_217 (by decide) ?_
    refine kM_V (As := [.int 62]) (rest := []) (wr := []) C (X5_isNext_c l g oM rM vM216 aM216 62 hok216) (cwV 1 hts (k_gV kw1786 ca_X5_isNext) rfl rfl rfl ⟨rfl, pnX5_isNext⟩ ⟨Nat.le_of_ble_eq_true rfl, Nat.le_of_ble_eq_true rfl⟩) hE hS hA hP hD [0] [] rfl rfl ⟨rfl, rfl, by decide⟩ (k_recv C kFX5 hP (i := 0) (q := 0) rfl rfl) rfl hl.1 rfl rfl dX5_isCommand_219 ⟨Nat.le_of_ble_eq_true rfl, Nat.le_of_ble_eq_true rfl⟩ (fun r7 u7 H locs hp7 hP hD hS => ?_)
    obtain ⟨rfl, rfl⟩ := hp7
    have hP : kp g [X5W g oM rM ((X5_isNext_f vM216 aM216 62).2) aM216] H := hP
    have hD : kd A [X5W g oM rM ((X5_isNext_f vM216 aM216 62).2) aM216] := hD
    refine lv_if_eq (tgt := 238) hx hb dX5_isCommand_222 (by decide) (fun c8 => ?_) (fun c8 => ?_)
    · have c8 := b2i_eq0 c8
      refine lv_iconst (v := 0) hx hb dX5_isCommand_238 (by decide) ?_
      have hF := (show X5_isCommand_f vM aM = (false, (X5_isNext_f vM216 aM216 62).2, aM216) from hF216.trans (show X5_isCommand_j216 vM aM vM216 aM216 = (false, (X5_isNext_f vM216 aM216 62).2, aM216) from (if_neg c8).trans (rfl)))
      exact kM_zret (x := b2i false) C (b2i_nar _) hP hD hS ⟨by rw [hF], by rw [hF]⟩ dX5_isCommand_239
    have c8 := b2i_ne0 c8
    exact jn225 ((X5_isNext_f vM216 aM216 62).2) aM216 _ _ ls ((X5_isNext_x (aM := aM216) hok216).ok) (show X5_isCommand_f vM aM = X5_isCommand_j225 vM aM ((X5_isNext_f vM216 aM216 62).2) aM216 from hF216.trans (show X5_isCommand_j216 vM aM vM216 aM216 = X5_isCommand_j225 vM aM ((X5_isNext_f vM216 aM216 62).2) aM216 from (if_pos c8).trans (rfl))) hP hD hS (lv_sub hl [0] rfl)
  have jn182 : ∀ (vM182 : Nat → Int32) (aM182 : Nat → Nat → Int32) (H : Heap) (locs : List Loc) (ls : Array Slot), kOK5 vM182 → X5_isCommand_f vM aM = X5_isCommand_j182 vM aM vM182 aM182 → kp g [X5W g oM rM vM182 aM182] H → kd A [X5W g oM rM vM182 aM182] → va_S A s.heap H locs → lv_has ls 1 [(0, .ref oM)] → W p l e (kRm 2 0 0 45) s m args below meth c H locs 0 0 (MQ below (kQi g (fun x u => x = b2i (X5_isCommand_f vM aM).1 ∧ u = [X5W g oM rM ((X5_isCommand_f vM aM).2.1) ((X5_isCommand_f vM aM).2.2)]) A) args s 0 0 A) (F0 m 182 ls []) := by
    intro vM182 aM182 H locs ls hok182 hF182 hP hD hS hl
    refine lv_aload_n hx hb dX5_isCommand_182 rfl (lv_at hl 0 rfl) ?_
    refine lv_iconst (v := 2) hx hb dX5_isCommand_183 (by decide) ?_
    refine lv_iconst (v := 3) hx hb dX5_isCommand_184 (by decide) ?_
    refine kM_V (As := [.int 2, .int 3]) (rest := []) (wr := []) C (X5_digits_c l g oM rM vM182 aM182 2 3 hok182 (k_vin (j := 2) rfl (by decide) (by decide))) (cwV 2 hts (k_gV kw1782 ca_X5_digits) rfl rfl rfl ⟨rfl, pnX5_digits⟩ ⟨Nat.le_of_ble_eq_true rfl, Nat.le_of_ble_eq_true rfl⟩) hE hS hA hP hD [0] [] rfl rfl ⟨rfl, rfl, by decide⟩ (k_recv C kFX5 hP (i := 0) (q := 0) rfl rfl) rfl hl.1 rfl rfl dX5_isCommand_185 ⟨Nat.le_of_ble_eq_true rfl, Nat.le_of_ble_eq_true rfl⟩ (fun r20 u20 H locs hp20 hP hD hS => ?_)
    obtain ⟨rfl, rfl⟩ := hp20
    have hP : kp g [X5W g oM rM ((X5_digits_f vM182 aM182 2 3).2.1) ((X5_digits_f vM182 aM182 2 3).2.2)] H := hP
    have hD : kd A [X5W g oM rM ((X5_digits_f vM182 aM182 2 3).2.1) ((X5_digits_f vM182 aM182 2 3).2.2)] := hD
    refine lv_if_eq (tgt := 195) hx hb dX5_isCommand_188 (by decide) (fun c21 => ?_) (fun c21 => ?_)
    · have c21 := b2i_eq0 c21
      refine lv_iconst (v := 0) hx hb dX5_isCommand_195 (by decide) ?_
      have hF := (show X5_isCommand_f vM aM = (false, (X5_digits_f vM182 aM182 2 3).2.1, (X5_digits_f vM182 aM182 2 3).2.2) from hF182.trans (show X5_isCommand_j182 vM aM vM182 aM182 = (false, (X5_digits_f vM182 aM182 2 3).2.1, (X5_digits_f vM182 aM182 2 3).2.2) from (if_neg c21).trans (rfl)))
      exact kM_zret (x := b2i false) C (b2i_nar _) hP hD hS ⟨by rw [hF], by rw [hF]⟩ dX5_isCommand_196
    have c21 := b2i_ne0 c21
    refine lv_iconst (v := 1) hx hb dX5_isCommand_191 (by decide) ?_
    refine lv_goto (tgt := 196) hx hb dX5_isCommand_192 (by decide) ?_
    have hF := (show X5_isCommand_f vM aM = (true, (X5_digits_f vM182 aM182 2 3).2.1, (X5_digits_f vM182 aM182 2 3).2.2) from hF182.trans (show X5_isCommand_j182 vM aM vM182 aM182 = (true, (X5_digits_f vM182 aM182 2 3).2.1, (X5_digits_f vM182 aM182 2 3).2.2) from (if_pos c21).trans (rfl)))
    exact kM_zret (x := b2i true) C (b2i_nar _) hP hD hS ⟨by rw [hF], by rw [hF]⟩ dX5_isCommand_196
  have jn173 : ∀ (vM173 : Nat → Int32) (aM173 : Nat → Nat → Int32) (H : Heap) (locs : List Loc) (ls : Array Slot), kOK5 vM173 → X5_isCommand_f vM aM = X5_isCommand_j173 vM aM vM173 aM173 → kp g [X5W g oM rM vM173 aM173] H → kd A [X5W g oM rM vM173 aM173] → va_S A s.heap H locs → lv_has ls 1 [(0, .ref oM)] → W p l e (kRm 2 0 0 45) s m args below meth c H locs 0 0 (MQ below (kQi g (fun x u => x = b2i (X5_isCommand_f vM aM).1 ∧ u = [X5W g oM rM ((X5_isCommand_f vM aM).2.1) ((X5_isCommand_f vM aM).2.2)]) A) args s 0 0 A) (F0 m 173 ls []) := by
    intro vM173 aM173 H locs ls hok173 hF173 hP hD hS hl
    refine lv_aload_n hx hb dX5_isCommand_173 rfl (lv_at hl 0 rfl) ?_
    refine lv_bipush (v := 43) hx hb dX5_isCommand_174 (by decide) ?_
    refine kM_V (As := [.int 43]) (rest := []) (wr := []) C (X5_isNext_c l g oM rM vM173 aM173 43 hok173) (cwV 1 hts (k_gV kw1786 ca_X5_isNext) rfl rfl rfl ⟨rfl, pnX5_isNext⟩ ⟨Nat.le_of_ble_eq_true rfl, Nat.le_of_ble_eq_true rfl⟩) hE hS hA hP hD [0] [] rfl rfl ⟨rfl, rfl, by decide⟩ (k_recv C kFX5 hP (i := 0) (q := 0) rfl rfl) rfl hl.1 rfl rfl dX5_isCommand_176 ⟨Nat.le_of_ble_eq_true rfl, Nat.le_of_ble_eq_true rfl⟩ (fun r18 u18 H locs hp18 hP hD hS => ?_)
    obtain ⟨rfl, rfl⟩ := hp18
    have hP : kp g [X5W g oM rM ((X5_isNext_f vM173 aM173 43).2) aM173] H := hP
    have hD : kd A [X5W g oM rM ((X5_isNext_f vM173 aM173 43).2) aM173] := hD
    refine lv_if_eq (tgt := 195) hx hb dX5_isCommand_179 (by decide) (fun c19 => ?_) (fun c19 => ?_)
    · have c19 := b2i_eq0 c19
      refine lv_iconst (v := 0) hx hb dX5_isCommand_195 (by decide) ?_
      have hF := (show X5_isCommand_f vM aM = (false, (X5_isNext_f vM173 aM173 43).2, aM173) from hF173.trans (show X5_isCommand_j173 vM aM vM173 aM173 = (false, (X5_isNext_f vM173 aM173 43).2, aM173) from (if_neg c19).trans (rfl)))
      exact kM_zret (x := b2i false) C (b2i_nar _) hP hD hS ⟨by rw [hF], by rw [hF]⟩ dX5_isCommand_196
    have c19 := b2i_ne0 c19
    exact jn182 ((X5_isNext_f vM173 aM173 43).2) aM173 _ _ ls ((X5_isNext_x (aM := aM173) hok173).ok) (show X5_isCommand_f vM aM = X5_isCommand_j182 vM aM ((X5_isNext_f vM173 aM173 43).2) aM173 from hF173.trans (show X5_isCommand_j173 vM aM vM173 aM173 = X5_isCommand_j182 vM aM ((X5_isNext_f vM173 aM173 43).2) aM173 from (if_pos c19).trans (rfl))) hP hD hS (lv_sub hl [0] rfl)
  have jn164 : ∀ (vM164 : Nat → Int32) (aM164 : Nat → Nat → Int32) (H : Heap) (locs : List Loc) (ls : Array Slot), kOK5 vM164 → X5_isCommand_f vM aM = X5_isCommand_j164 vM aM vM164 aM164 → kp g [X5W g oM rM vM164 aM164] H → kd A [X5W g oM rM vM164 aM164] → va_S A s.heap H locs → lv_has ls 1 [(0, .ref oM)] → W p l e (kRm 2 0 0 45) s m args below meth c H locs 0 0 (MQ below (kQi g (fun x u => x = b2i (X5_isCommand_f vM aM).1 ∧ u = [X5W g oM rM ((X5_isCommand_f vM aM).2.1) ((X5_isCommand_f vM aM).2.2)]) A) args s 0 0 A) (F0 m 164 ls []) := by
    intro vM164 aM164 H locs ls hok164 hF164 hP hD hS hl
    refine lv_aload_n hx hb dX5_isCommand_164 rfl (lv_at hl 0 rfl) ?_
    refine lv_iconst (v := 1) hx hb dX5_isCommand_165 (by decide) ?_
    refine lv_iconst (v := 1) hx hb dX5_isCommand_166 (by decide) ?_
    refine kM_V (As := [.int 1, .int 1]) (rest := []) (wr := []) C (X5_digits_c l g oM rM vM164 aM164 1 1 hok164 (k_vin (j := 1) rfl (by decide) (by decide))) (cwV 2 hts (k_gV kw1782 ca_X5_digits) rfl rfl rfl ⟨rfl, pnX5_digits⟩ ⟨Nat.le_of_ble_eq_true rfl, Nat.le_of_ble_eq_true rfl⟩) hE hS hA hP hD [0] [] rfl rfl ⟨rfl, rfl, by decide⟩ (k_recv C kFX5 hP (i := 0) (q := 0) rfl rfl) rfl hl.1 rfl rfl dX5_isCommand_167 ⟨Nat.le_of_ble_eq_true rfl, Nat.le_of_ble_eq_true rfl⟩ (fun r16 u16 H locs hp16 hP hD hS => ?_)
    obtain ⟨rfl, rfl⟩ := hp16
    have hP : kp g [X5W g oM rM ((X5_digits_f vM164 aM164 1 1).2.1) ((X5_digits_f vM164 aM164 1 1).2.2)] H := hP
    have hD : kd A [X5W g oM rM ((X5_digits_f vM164 aM164 1 1).2.1) ((X5_digits_f vM164 aM164 1 1).2.2)] := hD
    refine lv_if_eq (tgt := 195) hx hb dX5_isCommand_170 (by decide) (fun c17 => ?_) (fun c17 => ?_)
    · have c17 := b2i_eq0 c17
      refine lv_iconst (v := 0) hx hb dX5_isCommand_195 (by decide) ?_
      have hF := (show X5_isCommand_f vM aM = (false, (X5_digits_f vM164 aM164 1 1).2.1, (X5_digits_f vM164 aM164 1 1).2.2) from hF164.trans (show X5_isCommand_j164 vM aM vM164 aM164 = (false, (X5_digits_f vM164 aM164 1 1).2.1, (X5_digits_f vM164 aM164 1 1).2.2) from (if_neg c17).trans (rfl)))
      exact kM_zret (x := b2i false) C (b2i_nar _) hP hD hS ⟨by rw [hF], by rw [hF]⟩ dX5_isCommand_196
    have c17 := b2i_ne0 c17
    exact jn173 ((X5_digits_f vM164 aM164 1 1).2.1) ((X5_digits_f vM164 aM164 1 1).2.2) _ _ ls ((X5_digits_x hok164).ok) (show X5_isCommand_f vM aM = X5_isCommand_j173 vM aM ((X5_digits_f vM164 aM164 1 1).2.1) ((X5_digits_f vM164 aM164 1 1).2.2) from hF164.trans (show X5_isCommand_j164 vM aM vM164 aM164 = X5_isCommand_j173 vM aM ((X5_digits_f vM164 aM164 1 1).2.1) ((X5_digits_f vM164 aM164 1 1).2.2) from (if_pos c17).trans (rfl))) hP hD hS (lv_sub hl [0] rfl)
  have jn155 : ∀ (vM155 : Nat → Int32) (aM155 : Nat → Nat → Int32) (H : Heap) (locs : List Loc) (ls : Array Slot), kOK5 vM155 → X5_isCommand_f vM aM = X5_isCommand_j155 vM aM vM155 aM155 → kp g [X5W g oM rM vM155 aM155] H → kd A [X5W g oM rM vM155 aM155] → va_S A s.heap H locs → lv_has ls 1 [(0, .ref oM)] → W p l e (kRm 2 0 0 45) s m args below meth c H locs 0 0 (MQ below (kQi g (fun x u => x = b2i (X5_isCommand_f vM aM).1 ∧ u = [X5W g oM rM ((X5_isCommand_f vM aM).2.1) ((X5_isCommand_f vM aM).2.2)]) A) args s 0 0 A) (F0 m 155 ls []) := by
    intro vM155 aM155 H locs ls hok155 hF155 hP hD hS hl
    refine lv_aload_n hx hb dX5_isCommand_155 rfl (lv_at hl 0 rfl) ?_
    refine lv_bipush (v := 60) hx hb dX5_isCommand_156 (by decide) ?_
    refine kM_V (As := [.int 60]) (rest := []) (wr := []) C (X5_isNext_c l g oM rM vM155 aM155 60 hok155) (cwV 1 hts (k_gV kw1786 ca_X5_isNext) rfl rfl rfl ⟨rfl, pnX5_isNext⟩ ⟨Nat.le_of_ble_eq_true rfl, Nat.le_of_ble_eq_true rfl⟩) hE hS hA hP hD [0] [] rfl rfl ⟨rfl, rfl, by decide⟩ (k_recv C kFX5 hP (i := 0) (q := 0) rfl rfl) rfl hl.1 rfl rfl dX5_isCommand_158 ⟨Nat.le_of_ble_eq_true rfl, Nat.le_of_ble_eq_true rfl⟩ (fun r14 u14 H locs hp14 hP hD hS => ?_)
    obtain ⟨rfl, rfl⟩ := hp14
    have hP : kp g [X5W g oM rM ((X5_isNext_f vM155 aM155 60).2) aM155] H := hP
    have hD : kd A [X5W g oM rM ((X5_isNext_f vM155 aM155 60).2) aM155] := hD
    refine lv_if_eq (tgt := 195) hx hb dX5_isCommand_161 (by decide) (fun c15 => ?_) (fun c15 => ?_)
    · have c15 := b2i_eq0 c15
      refine lv_iconst (v := 0) hx hb dX5_isCommand_195 (by decide) ?_
      have hF := (show X5_isCommand_f vM aM = (false, (X5_isNext_f vM155 aM155 60).2, aM155) from hF155.trans (show X5_isCommand_j155 vM aM vM155 aM155 = (false, (X5_isNext_f vM155 aM155 60).2, aM155) from (if_neg c15).trans (rfl)))
      exact kM_zret (x := b2i false) C (b2i_nar _) hP hD hS ⟨by rw [hF], by rw [hF]⟩ dX5_isCommand_196
    have c15 := b2i_ne0 c15
    exact jn164 ((X5_isNext_f vM155 aM155 60).2) aM155 _ _ ls ((X5_isNext_x (aM := aM155) hok155).ok) (show X5_isCommand_f vM aM = X5_isCommand_j164 vM aM ((X5_isNext_f vM155 aM155 60).2) aM155 from hF155.trans (show X5_isCommand_j155 vM aM vM155 aM155 = X5_isCommand_j164 vM aM ((X5_isNext_f vM155 aM155 60).2) aM155 from (if_pos c15).trans (rfl))) hP hD hS (lv_sub hl [0] rfl)
  refine lv_aload_n hx hb dX5_isCommand_0 rfl (lv_at hl 0 rfl) ?_
  refine kg_get C kFX5 (k := 10) kw1456 hP (i := 0) (q := 0) rfl rfl (by decide) rfl dX5_isCommand_1 ?_
  refine lv_aload_n hx hb dX5_isCommand_4 rfl (lv_at hl 0 rfl) ?_
  refine kg_get C kFX5 (k := 9) kw1455 hP (i := 0) (q := 0) rfl rfl (by decide) rfl dX5_isCommand_5 ?_
  refine lv_icmp_ne (tgt := 13) hx hb dX5_isCommand_8 (by decide) (fun c1 => ?_) (fun c1 => ?_)
  · have hz1 := k5_nle hok c1
    have z1 := k5_in60 hok hz1
    have hz : ∀ x, k5tx vM aM (upd (upd vM 11 x) 10 (vM 10 + 1)) aM := fun x => k5_rdx hok hz1
    refine lv_aload_n hx hb dX5_isCommand_13 rfl (lv_at hl 0 rfl) ?_
    refine lv_aload_n hx hb dX5_isCommand_14 rfl (lv_at hl 0 rfl) ?_
    refine kg_get C kFX5 (k := 8) kw1454 hP (i := 0) (q := 0) rfl rfl (by decide) rfl dX5_isCommand_15 ?_
    refine lv_aload_n hx hb dX5_isCommand_18 rfl (lv_at hl 0 rfl) ?_
    refine kg_get C kFX5 (k := 10) kw1456 hP (i := 0) (q := 0) rfl rfl (by decide) rfl dX5_isCommand_19 ?_
    refine kg_cald C hP (i := 0) (q := 6) rfl rfl (by first | assumption) dX5_isCommand_22 ?_
    refine kg_put C kFX5 (k := 11) kw1457 hP hD hS (i := 0) (q := 0) rfl rfl (by decide) rfl (k5_nar (hch _)) (k5_fit (hch _)) (Nat.le_of_ble_eq_true rfl) X5s_11 rfl dX5_isCommand_23 (fun H locs hP hD hS => ?_)
    have hP : kp g [X5W g oM rM (upd vM 11 ((aM 8) (vM 10).toNatClampNeg)) aM] H := hP
    have hD : kd A [X5W g oM rM (upd vM 11 ((aM 8) (vM 10).toNatClampNeg)) aM] := hD
    refine lv_aload_n hx hb dX5_isCommand_26 rfl (lv_at hl 0 rfl) ?_
    refine kg_get C kFX5 (k := 11) kw1457 hP (i := 0) (q := 0) rfl rfl (by decide) rfl dX5_isCommand_27 ?_
    refine k_top (y := ((aM 8) (vM 10).toNatClampNeg)) rfl ?_
    by_cases c2 : ((aM 8) (vM 10).toNatClampNeg) = 98
    · refine lv_tableIn (off := 210) (tgt := 240) hx hb dX5_isCommand_30 (by show ¬ (((aM 8) (vM 10).toNatClampNeg)).toInt < 98; rw [c2]; decide) (by show ¬ 120 < (((aM 8) (vM 10).toNatClampNeg)).toInt; rw [c2]; decide) (by rw [c2]; rfl) (by decide) ?_
      refine lv_aload_n hx hb dX5_isCommand_240 rfl (lv_at hl 0 rfl) ?_
      refine lv_dup hx hb dX5_isCommand_241 rfl ?_
      refine kg_get C kFX5 (k := 10) kw1456 hP (i := 0) (q := 0) rfl rfl (by decide) rfl dX5_isCommand_242 ?_
      refine lv_iconst (v := 1) hx hb dX5_isCommand_245 (by decide) ?_
      refine lv_iadd hx hb dX5_isCommand_246 ?_
      refine kg_put C kFX5 (k := 10) kw1456 hP hD hS (i := 0) (q := 0) rfl rfl (by decide) rfl rfl rfl (Nat.le_of_ble_eq_true rfl) X5s_10 rfl dX5_isCommand_247 (fun H locs hP hD hS => ?_)
      have hP : kp g [X5W g oM rM (upd (upd vM 11 ((aM 8) (vM 10).toNatClampNeg)) 10 ((vM 10) + 1)) aM] H := hP
      have hD : kd A [X5W g oM rM (upd (upd vM 11 ((aM 8) (vM 10).toNatClampNeg)) 10 ((vM 10) + 1)) aM] := hD
      refine lv_aload_n hx hb dX5_isCommand_250 rfl (lv_at hl 0 rfl) ?_
      refine lv_iconst (v := 0) hx hb dX5_isCommand_251 (by decide) ?_
      refine lv_iconst (v := 1) hx hb dX5_isCommand_252 (by decide) ?_
      refine kM_V (As := [.int 0, .int 1]) (rest := []) (wr := []) C (X5_digits_c l g oM rM (upd (upd vM 11 ((aM 8) (vM 10).toNatClampNeg)) 10 ((vM 10) + 1)) aM 0 1 (hz _).ok (k_vin (j := 0) rfl (by decide) (by decide))) (cwV 2 hts (k_gV kw1782 ca_X5_digits) rfl rfl rfl ⟨rfl, pnX5_digits⟩ ⟨Nat.le_of_ble_eq_true rfl, Nat.le_of_ble_eq_true rfl⟩) hE hS hA hP hD [0] [] rfl rfl ⟨rfl, rfl, by decide⟩ (k_recv C kFX5 hP (i := 0) (q := 0) rfl rfl) rfl hl.1 rfl rfl dX5_isCommand_253 ⟨Nat.le_of_ble_eq_true rfl, Nat.le_of_ble_eq_true rfl⟩ (fun r3 u3 H locs hp3 hP hD hS => ?_)
      obtain ⟨rfl, rfl⟩ := hp3
      have hP : kp g [X5W g oM rM ((X5_digits_f (upd (upd vM 11 ((aM 8) (vM 10).toNatClampNeg)) 10 ((vM 10) + 1)) aM 0 1).2.1) ((X5_digits_f (upd (upd vM 11 ((aM 8) (vM 10).toNatClampNeg)) 10 ((vM 10) + 1)) aM 0 1).2.2)] H := hP
      have hD : kd A [X5W g oM rM ((X5_digits_f (upd (upd vM 11 ((aM 8) (vM 10).toNatClampNeg)) 10 ((vM 10) + 1)) aM 0 1).2.1) ((X5_digits_f (upd (upd vM 11 ((aM 8) (vM 10).toNatClampNeg)) 10 ((vM 10) + 1)) aM 0 1).2.2)] := hD
      have hF := (show X5_isCommand_f vM aM = ((X5_digits_f (upd (upd vM 11 ((aM 8) (vM 10).toNatClampNeg)) 10 ((vM 10) + 1)) aM 0 1).1, (X5_digits_f (upd (upd vM 11 ((aM 8) (vM 10).toNatClampNeg)) 10 ((vM 10) + 1)) aM 0 1).2.1, (X5_digits_f (upd (upd vM 11 ((aM 8) (vM 10).toNatClampNeg)) 10 ((vM 10) + 1)) aM 0 1).2.2) from (if_neg c1).trans ((if_pos c2).trans (rfl)))
      exact kM_zret (x := b2i ((X5_digits_f (upd (upd vM 11 ((aM 8) (vM 10).toNatClampNeg)) 10 ((vM 10) + 1)) aM 0 1).1)) C (b2i_nar _) hP hD hS ⟨by rw [hF], by rw [hF]⟩ dX5_isCommand_256
    by_cases c4 : ((aM 8) (vM 10).toNatClampNeg) = 101
    · refine lv_tableIn (off := 167) (tgt := 197) hx hb dX5_isCommand_30 (by show ¬ (((aM 8) (vM 10).toNatClampNeg)).toInt < 98; rw [c4]; decide) (by show ¬ 120 < (((aM 8) (vM 10).toNatClampNeg)).toInt; rw [c4]; decide) (by rw [c4]; rfl) (by decide) ?_
      refine lv_aload_n hx hb dX5_isCommand_197 rfl (lv_at hl 0 rfl) ?_
      refine lv_dup hx hb dX5_isCommand_198 rfl ?_
      refine kg_get C kFX5 (k := 10) kw1456 hP (i := 0) (q := 0) rfl rfl (by decide) rfl dX5_isCommand_199 ?_
      refine lv_iconst (v := 1) hx hb dX5_isCommand_202 (by decide) ?_
      refine lv_iadd hx hb dX5_isCommand_203 ?_
      refine kg_put C kFX5 (k := 10) kw1456 hP hD hS (i := 0) (q := 0) rfl rfl (by decide) rfl rfl rfl (Nat.le_of_ble_eq_true rfl) X5s_10 rfl dX5_isCommand_204 (fun H locs hP hD hS => ?_)
      have hP : kp g [X5W g oM rM (upd (upd vM 11 ((aM 8) (vM 10).toNatClampNeg)) 10 ((vM 10) + 1)) aM] H := hP
      have hD : kd A [X5W g oM rM (upd (upd vM 11 ((aM 8) (vM 10).toNatClampNeg)) 10 ((vM 10) + 1)) aM] := hD
      refine lv_aload_n hx hb dX5_isCommand_207 rfl (lv_at hl 0 rfl) ?_
      refine lv_iconst (v := 0) hx hb dX5_isCommand_208 (by decide) ?_
      refine lv_iconst (v := 1) hx hb dX5_isCommand_209 (by decide) ?_
      refine kM_V (As := [.int 0, .int 1]) (rest := []) (wr := []) C (X5_digits_c l g oM rM (upd (upd vM 11 ((aM 8) (vM 10).toNatClampNeg)) 10 ((vM 10) + 1)) aM 0 1 (hz _).ok (k_vin (j := 0) rfl (by decide) (by decide))) (cwV 2 hts (k_gV kw1782 ca_X5_digits) rfl rfl rfl ⟨rfl, pnX5_digits⟩ ⟨Nat.le_of_ble_eq_true rfl, Nat.le_of_ble_eq_true rfl⟩) hE hS hA hP hD [0] [] rfl rfl ⟨rfl, rfl, by decide⟩ (k_recv C kFX5 hP (i := 0) (q := 0) rfl rfl) rfl hl.1 rfl rfl dX5_isCommand_210 ⟨Nat.le_of_ble_eq_true rfl, Nat.le_of_ble_eq_true rfl⟩ (fun r5 u5 H locs hp5 hP hD hS => ?_)
      obtain ⟨rfl, rfl⟩ := hp5
      have hP : kp g [X5W g oM rM ((X5_digits_f (upd (upd vM 11 ((aM 8) (vM 10).toNatClampNeg)) 10 ((vM 10) + 1)) aM 0 1).2.1) ((X5_digits_f (upd (upd vM 11 ((aM 8) (vM 10).toNatClampNeg)) 10 ((vM 10) + 1)) aM 0 1).2.2)] H := hP
      have hD : kd A [X5W g oM rM ((X5_digits_f (upd (upd vM 11 ((aM 8) (vM 10).toNatClampNeg)) 10 ((vM 10) + 1)) aM 0 1).2.1) ((X5_digits_f (upd (upd vM 11 ((aM 8) (vM 10).toNatClampNeg)) 10 ((vM 10) + 1)) aM 0 1).2.2)] := hD
      refine lv_if_eq (tgt := 238) hx hb dX5_isCommand_213 (by decide) (fun c6 => ?_) (fun c6 => ?_)
      · have c6 := b2i_eq0 c6
        refine lv_iconst (v := 0) hx hb dX5_isCommand_238 (by decide) ?_
        have hF := (show X5_isCommand_f vM aM = (false, (X5_digits_f (upd (upd vM 11 ((aM 8) (vM 10).toNatClampNeg)) 10 ((vM 10) + 1)) aM 0 1).2.1, (X5_digits_f (upd (upd vM 11 ((aM 8) (vM 10).toNatClampNeg)) 10 ((vM 10) + 1)) aM 0 1).2.2) from (if_neg c1).trans ((if_neg c2).trans ((if_pos c4).trans ((if_neg c6).trans (rfl)))))
        exact kM_zret (x := b2i false) C (b2i_nar _) hP hD hS ⟨by rw [hF], by rw [hF]⟩ dX5_isCommand_239
      have c6 := b2i_ne0 c6
      exact jn216 ((X5_digits_f (upd (upd vM 11 ((aM 8) (vM 10).toNatClampNeg)) 10 ((vM 10) + 1)) aM 0 1).2.1) ((X5_digits_f (upd (upd vM 11 ((aM 8) (vM 10).toNatClampNeg)) 10 ((vM 10) + 1)) aM 0 1).2.2) _ _ ls ((X5_digits_x (hz _).ok).ok) (show X5_isCommand_f vM aM = X5_isCommand_j216 vM aM ((X5_digits_f (upd (upd vM 11 ((aM 8) (vM 10).toNatClampNeg)) 10 ((vM 10) + 1)) aM 0 1).2.1) ((X5_digits_f (upd (upd vM 11 ((aM 8) (vM 10).toNatClampNeg)) 10 ((vM 10) + 1)) aM 0 1).2.2) from (if_neg c1).trans ((if_neg c2).trans ((if_pos c4).trans ((if_pos c6).trans (rfl))))) hP hD hS (lv_sub hl [0] rfl)
    by_cases c11 : ((aM 8) (vM 10).toNatClampNeg) = 102
    · refine lv_tableIn (off := 106) (tgt := 136) hx hb dX5_isCommand_30 (by show ¬ (((aM 8) (vM 10).toNatClampNeg)).toInt < 98; rw [c11]; decide) (by show ¬ 120 < (((aM 8) (vM 10).toNatClampNeg)).toInt; rw [c11]; decide) (by rw [c11]; rfl) (by decide) ?_
      refine lv_aload_n hx hb dX5_isCommand_136 rfl (lv_at hl 0 rfl) ?_
      refine lv_dup hx hb dX5_isCommand_137 rfl ?_
      refine kg_get C kFX5 (k := 10) kw1456 hP (i := 0) (q := 0) rfl rfl (by decide) rfl dX5_isCommand_138 ?_
      refine lv_iconst (v := 1) hx hb dX5_isCommand_141 (by decide) ?_
      refine lv_iadd hx hb dX5_isCommand_142 ?_
      refine kg_put C kFX5 (k := 10) kw1456 hP hD hS (i := 0) (q := 0) rfl rfl (by decide) rfl rfl rfl (Nat.le_of_ble_eq_true rfl) X5s_10 rfl dX5_isCommand_143 (fun H locs hP hD hS => ?_)
      have hP : kp g [X5W g oM rM (upd (upd vM 11 ((aM 8) (vM 10).toNatClampNeg)) 10 ((vM 10) + 1)) aM] H := hP
      have hD : kd A [X5W g oM rM (upd (upd vM 11 ((aM 8) (vM 10).toNatClampNeg)) 10 ((vM 10) + 1)) aM] := hD
      refine lv_aload_n hx hb dX5_isCommand_146 rfl (lv_at hl 0 rfl) ?_
      refine lv_iconst (v := 0) hx hb dX5_isCommand_147 (by decide) ?_
      refine lv_iconst (v := 1) hx hb dX5_isCommand_148 (by decide) ?_
      refine kM_V (As := [.int 0, .int 1]) (rest := []) (wr := []) C (X5_digits_c l g oM rM (upd (upd vM 11 ((aM 8) (vM 10).toNatClampNeg)) 10 ((vM 10) + 1)) aM 0 1 (hz _).ok (k_vin (j := 0) rfl (by decide) (by decide))) (cwV 2 hts (k_gV kw1782 ca_X5_digits) rfl rfl rfl ⟨rfl, pnX5_digits⟩ ⟨Nat.le_of_ble_eq_true rfl, Nat.le_of_ble_eq_true rfl⟩) hE hS hA hP hD [0] [] rfl rfl ⟨rfl, rfl, by decide⟩ (k_recv C kFX5 hP (i := 0) (q := 0) rfl rfl) rfl hl.1 rfl rfl dX5_isCommand_149 ⟨Nat.le_of_ble_eq_true rfl, Nat.le_of_ble_eq_true rfl⟩ (fun r12 u12 H locs hp12 hP hD hS => ?_)
      obtain ⟨rfl, rfl⟩ := hp12
      have hP : kp g [X5W g oM rM ((X5_digits_f (upd (upd vM 11 ((aM 8) (vM 10).toNatClampNeg)) 10 ((vM 10) + 1)) aM 0 1).2.1) ((X5_digits_f (upd (upd vM 11 ((aM 8) (vM 10).toNatClampNeg)) 10 ((vM 10) + 1)) aM 0 1).2.2)] H := hP
      have hD : kd A [X5W g oM rM ((X5_digits_f (upd (upd vM 11 ((aM 8) (vM 10).toNatClampNeg)) 10 ((vM 10) + 1)) aM 0 1).2.1) ((X5_digits_f (upd (upd vM 11 ((aM 8) (vM 10).toNatClampNeg)) 10 ((vM 10) + 1)) aM 0 1).2.2)] := hD
      refine lv_if_eq (tgt := 195) hx hb dX5_isCommand_152 (by decide) (fun c13 => ?_) (fun c13 => ?_)
      · have c13 := b2i_eq0 c13
        refine lv_iconst (v := 0) hx hb dX5_isCommand_195 (by decide) ?_
        have hF := (show X5_isCommand_f vM aM = (false, (X5_digits_f (upd (upd vM 11 ((aM 8) (vM 10).toNatClampNeg)) 10 ((vM 10) + 1)) aM 0 1).2.1, (X5_digits_f (upd (upd vM 11 ((aM 8) (vM 10).toNatClampNeg)) 10 ((vM 10) + 1)) aM 0 1).2.2) from (if_neg c1).trans ((if_neg c2).trans ((if_neg c4).trans ((if_pos c11).trans ((if_neg c13).trans (rfl))))))
        exact kM_zret (x := b2i false) C (b2i_nar _) hP hD hS ⟨by rw [hF], by rw [hF]⟩ dX5_isCommand_196
      have c13 := b2i_ne0 c13
      exact jn155 ((X5_digits_f (upd (upd vM 11 ((aM 8) (vM 10).toNatClampNeg)) 10 ((vM 10) + 1)) aM 0 1).2.1) ((X5_digits_f (upd (upd vM 11 ((aM 8) (vM 10).toNatClampNeg)) 10 ((vM 10) + 1)) aM 0 1).2.2) _ _ ls ((X5_digits_x (hz _).ok).ok) (show X5_isCommand_f vM aM = X5_isCommand_j155 vM aM ((X5_digits_f (upd (upd vM 11 ((aM 8) (vM 10).toNatClampNeg)) 10 ((vM 10) + 1)) aM 0 1).2.1) ((X5_digits_f (upd (upd vM 11 ((aM 8) (vM 10).toNatClampNeg)) 10 ((vM 10) + 1)) aM 0 1).2.2) from (if_neg c1).trans ((if_neg c2).trans ((if_neg c4).trans ((if_pos c11).trans ((if_pos c13).trans (rfl)))))) hP hD hS (lv_sub hl [0] rfl)
    by_cases c22 : ((aM 8) (vM 10).toNatClampNeg) = 103
    · refine lv_tableIn (off := 210) (tgt := 240) hx hb dX5_isCommand_30 (by show ¬ (((aM 8) (vM 10).toNatClampNeg)).toInt < 98; rw [c22]; decide) (by show ¬ 120 < (((aM 8) (vM 10).toNatClampNeg)).toInt; rw [c22]; decide) (by rw [c22]; rfl) (by decide) ?_
      refine lv_aload_n hx hb dX5_isCommand_240 rfl (lv_at hl 0 rfl) ?_
      refine lv_dup hx hb dX5_isCommand_241 rfl ?_
      refine kg_get C kFX5 (k := 10) kw1456 hP (i := 0) (q := 0) rfl rfl (by decide) rfl dX5_isCommand_242 ?_
      refine lv_iconst (v := 1) hx hb dX5_isCommand_245 (by decide) ?_
      refine lv_iadd hx hb dX5_isCommand_246 ?_
      refine kg_put C kFX5 (k := 10) kw1456 hP hD hS (i := 0) (q := 0) rfl rfl (by decide) rfl rfl rfl (Nat.le_of_ble_eq_true rfl) X5s_10 rfl dX5_isCommand_247 (fun H locs hP hD hS => ?_)
      have hP : kp g [X5W g oM rM (upd (upd vM 11 ((aM 8) (vM 10).toNatClampNeg)) 10 ((vM 10) + 1)) aM] H := hP
      have hD : kd A [X5W g oM rM (upd (upd vM 11 ((aM 8) (vM 10).toNatClampNeg)) 10 ((vM 10) + 1)) aM] := hD
      refine lv_aload_n hx hb dX5_isCommand_250 rfl (lv_at hl 0 rfl) ?_
      refine lv_iconst (v := 0) hx hb dX5_isCommand_251 (by decide) ?_
      refine lv_iconst (v := 1) hx hb dX5_isCommand_252 (by decide) ?_
      refine kM_V (As := [.int 0, .int 1]) (rest := []) (wr := []) C (X5_digits_c l g oM rM (upd (upd vM 11 ((aM 8) (vM 10).toNatClampNeg)) 10 ((vM 10) + 1)) aM 0 1 (hz _).ok (k_vin (j := 0) rfl (by decide) (by decide))) (cwV 2 hts (k_gV kw1782 ca_X5_digits) rfl rfl rfl ⟨rfl, pnX5_digits⟩ ⟨Nat.le_of_ble_eq_true rfl, Nat.le_of_ble_eq_true rfl⟩) hE hS hA hP hD [0] [] rfl rfl ⟨rfl, rfl, by decide⟩ (k_recv C kFX5 hP (i := 0) (q := 0) rfl rfl) rfl hl.1 rfl rfl dX5_isCommand_253 ⟨Nat.le_of_ble_eq_true rfl, Nat.le_of_ble_eq_true rfl⟩ (fun r23 u23 H locs hp23 hP hD hS => ?_)
      obtain ⟨rfl, rfl⟩ := hp23
      have hP : kp g [X5W g oM rM ((X5_digits_f (upd (upd vM 11 ((aM 8) (vM 10).toNatClampNeg)) 10 ((vM 10) + 1)) aM 0 1).2.1) ((X5_digits_f (upd (upd vM 11 ((aM 8) (vM 10).toNatClampNeg)) 10 ((vM 10) + 1)) aM 0 1).2.2)] H := hP
      have hD : kd A [X5W g oM rM ((X5_digits_f (upd (upd vM 11 ((aM 8) (vM 10).toNatClampNeg)) 10 ((vM 10) + 1)) aM 0 1).2.1) ((X5_digits_f (upd (upd vM 11 ((aM 8) (vM 10).toNatClampNeg)) 10 ((vM 10) + 1)) aM 0 1).2.2)] := hD
      have hF := (show X5_isCommand_f vM aM = ((X5_digits_f (upd (upd vM 11 ((aM 8) (vM 10).toNatClampNeg)) 10 ((vM 10) + 1)) aM 0 1).1, (X5_digits_f (upd (upd vM 11 ((aM 8) (vM 10).toNatClampNeg)) 10 ((vM 10) + 1)) aM 0 1).2.1, (X5_digits_f (upd (upd vM 11 ((aM 8) (vM 10).toNatClampNeg)) 10 ((vM 10) + 1)) aM 0 1).2.2) from (if_neg c1).trans ((if_neg c2).trans ((if_neg c4).trans ((if_neg c11).trans ((if_pos c22).trans (rfl))))))
      exact kM_zret (x := b2i ((X5_digits_f (upd (upd vM 11 ((aM 8) (vM 10).toNatClampNeg)) 10 ((vM 10) + 1)) aM 0 1).1)) C (b2i_nar _) hP hD hS ⟨by rw [hF], by rw [hF]⟩ dX5_isCommand_256
    by_cases c24 : ((aM 8) (vM 10).toNatClampNeg) = 110
    · refine lv_tableIn (off := 227) (tgt := 257) hx hb dX5_isCommand_30 (by show ¬ (((aM 8) (vM 10).toNatClampNeg)).toInt < 98; rw [c24]; decide) (by show ¬ 120 < (((aM 8) (vM 10).toNatClampNeg)).toInt; rw [c24]; decide) (by rw [c24]; rfl) (by decide) ?_
      refine lv_aload_n hx hb dX5_isCommand_257 rfl (lv_at hl 0 rfl) ?_
      refine lv_dup hx hb dX5_isCommand_258 rfl ?_
      refine kg_get C kFX5 (k := 10) kw1456 hP (i := 0) (q := 0) rfl rfl (by decide) rfl dX5_isCommand_259 ?_
      refine lv_iconst (v := 1) hx hb dX5_isCommand_262 (by decide) ?_
      refine lv_iadd hx hb dX5_isCommand_263 ?_
      refine kg_put C kFX5 (k := 10) kw1456 hP hD hS (i := 0) (q := 0) rfl rfl (by decide) rfl rfl rfl (Nat.le_of_ble_eq_true rfl) X5s_10 rfl dX5_isCommand_264 (fun H locs hP hD hS => ?_)
      have hP : kp g [X5W g oM rM (upd (upd vM 11 ((aM 8) (vM 10).toNatClampNeg)) 10 ((vM 10) + 1)) aM] H := hP
      have hD : kd A [X5W g oM rM (upd (upd vM 11 ((aM 8) (vM 10).toNatClampNeg)) 10 ((vM 10) + 1)) aM] := hD
      refine lv_aload_n hx hb dX5_isCommand_267 rfl (lv_at hl 0 rfl) ?_
      refine lv_iconst (v := 0) hx hb dX5_isCommand_268 (by decide) ?_
      refine lv_iconst (v := 2) hx hb dX5_isCommand_269 (by decide) ?_
      refine kM_V (As := [.int 0, .int 2]) (rest := []) (wr := []) C (X5_digits_c l g oM rM (upd (upd vM 11 ((aM 8) (vM 10).toNatClampNeg)) 10 ((vM 10) + 1)) aM 0 2 (hz _).ok (k_vin (j := 0) rfl (by decide) (by decide))) (cwV 2 hts (k_gV kw1782 ca_X5_digits) rfl rfl rfl ⟨rfl, pnX5_digits⟩ ⟨Nat.le_of_ble_eq_true rfl, Nat.le_of_ble_eq_true rfl⟩) hE hS hA hP hD [0] [] rfl rfl ⟨rfl, rfl, by decide⟩ (k_recv C kFX5 hP (i := 0) (q := 0) rfl rfl) rfl hl.1 rfl rfl dX5_isCommand_270 ⟨Nat.le_of_ble_eq_true rfl, Nat.le_of_ble_eq_true rfl⟩ (fun r25 u25 H locs hp25 hP hD hS => ?_)
      obtain ⟨rfl, rfl⟩ := hp25
      have hP : kp g [X5W g oM rM ((X5_digits_f (upd (upd vM 11 ((aM 8) (vM 10).toNatClampNeg)) 10 ((vM 10) + 1)) aM 0 2).2.1) ((X5_digits_f (upd (upd vM 11 ((aM 8) (vM 10).toNatClampNeg)) 10 ((vM 10) + 1)) aM 0 2).2.2)] H := hP
      have hD : kd A [X5W g oM rM ((X5_digits_f (upd (upd vM 11 ((aM 8) (vM 10).toNatClampNeg)) 10 ((vM 10) + 1)) aM 0 2).2.1) ((X5_digits_f (upd (upd vM 11 ((aM 8) (vM 10).toNatClampNeg)) 10 ((vM 10) + 1)) aM 0 2).2.2)] := hD
      have hF := (show X5_isCommand_f vM aM = ((X5_digits_f (upd (upd vM 11 ((aM 8) (vM 10).toNatClampNeg)) 10 ((vM 10) + 1)) aM 0 2).1, (X5_digits_f (upd (upd vM 11 ((aM 8) (vM 10).toNatClampNeg)) 10 ((vM 10) + 1)) aM 0 2).2.1, (X5_digits_f (upd (upd vM 11 ((aM 8) (vM 10).toNatClampNeg)) 10 ((vM 10) + 1)) aM 0 2).2.2) from (if_neg c1).trans ((if_neg c2).trans ((if_neg c4).trans ((if_neg c11).trans ((if_neg c22).trans ((if_pos c24).trans (rfl)))))))
      exact kM_zret (x := b2i ((X5_digits_f (upd (upd vM 11 ((aM 8) (vM 10).toNatClampNeg)) 10 ((vM 10) + 1)) aM 0 2).1)) C (b2i_nar _) hP hD hS ⟨by rw [hF], by rw [hF]⟩ dX5_isCommand_273
    by_cases c26 : ((aM 8) (vM 10).toNatClampNeg) = 111
    · refine lv_tableIn (off := 244) (tgt := 274) hx hb dX5_isCommand_30 (by show ¬ (((aM 8) (vM 10).toNatClampNeg)).toInt < 98; rw [c26]; decide) (by show ¬ 120 < (((aM 8) (vM 10).toNatClampNeg)).toInt; rw [c26]; decide) (by rw [c26]; rfl) (by decide) ?_
      refine lv_aload_n hx hb dX5_isCommand_274 rfl (lv_at hl 0 rfl) ?_
      refine lv_dup hx hb dX5_isCommand_275 rfl ?_
      refine kg_get C kFX5 (k := 10) kw1456 hP (i := 0) (q := 0) rfl rfl (by decide) rfl dX5_isCommand_276 ?_
      refine lv_iconst (v := 1) hx hb dX5_isCommand_279 (by decide) ?_
      refine lv_iadd hx hb dX5_isCommand_280 ?_
      refine kg_put C kFX5 (k := 10) kw1456 hP hD hS (i := 0) (q := 0) rfl rfl (by decide) rfl rfl rfl (Nat.le_of_ble_eq_true rfl) X5s_10 rfl dX5_isCommand_281 (fun H locs hP hD hS => ?_)
      have hP : kp g [X5W g oM rM (upd (upd vM 11 ((aM 8) (vM 10).toNatClampNeg)) 10 ((vM 10) + 1)) aM] H := hP
      have hD : kd A [X5W g oM rM (upd (upd vM 11 ((aM 8) (vM 10).toNatClampNeg)) 10 ((vM 10) + 1)) aM] := hD
      refine lv_iconst (v := 1) hx hb dX5_isCommand_284 (by decide) ?_
      have hF := (show X5_isCommand_f vM aM = (true, upd (upd vM 11 ((aM 8) (vM 10).toNatClampNeg)) 10 ((vM 10) + 1), aM) from (if_neg c1).trans ((if_neg c2).trans ((if_neg c4).trans ((if_neg c11).trans ((if_neg c22).trans ((if_neg c24).trans ((if_pos c26).trans (rfl))))))))
      exact kM_zret (x := b2i true) C (b2i_nar _) hP hD hS ⟨by rw [hF], by rw [hF]⟩ dX5_isCommand_285
    by_cases c27 : ((aM 8) (vM 10).toNatClampNeg) = 115
    · refine lv_tableIn (off := 210) (tgt := 240) hx hb dX5_isCommand_30 (by show ¬ (((aM 8) (vM 10).toNatClampNeg)).toInt < 98; rw [c27]; decide) (by show ¬ 120 < (((aM 8) (vM 10).toNatClampNeg)).toInt; rw [c27]; decide) (by rw [c27]; rfl) (by decide) ?_
      refine lv_aload_n hx hb dX5_isCommand_240 rfl (lv_at hl 0 rfl) ?_
      refine lv_dup hx hb dX5_isCommand_241 rfl ?_
      refine kg_get C kFX5 (k := 10) kw1456 hP (i := 0) (q := 0) rfl rfl (by decide) rfl dX5_isCommand_242 ?_
      refine lv_iconst (v := 1) hx hb dX5_isCommand_245 (by decide) ?_
      refine lv_iadd hx hb dX5_isCommand_246 ?_
      refine kg_put C kFX5 (k := 10) kw1456 hP hD hS (i := 0) (q := 0) rfl rfl (by decide) rfl rfl rfl (Nat.le_of_ble_eq_true rfl) X5s_10 rfl dX5_isCommand_247 (fun H locs hP hD hS => ?_)
      have hP : kp g [X5W g oM rM (upd (upd vM 11 ((aM 8) (vM 10).toNatClampNeg)) 10 ((vM 10) + 1)) aM] H := hP
      have hD : kd A [X5W g oM rM (upd (upd vM 11 ((aM 8) (vM 10).toNatClampNeg)) 10 ((vM 10) + 1)) aM] := hD
      refine lv_aload_n hx hb dX5_isCommand_250 rfl (lv_at hl 0 rfl) ?_
      refine lv_iconst (v := 0) hx hb dX5_isCommand_251 (by decide) ?_
      refine lv_iconst (v := 1) hx hb dX5_isCommand_252 (by decide) ?_
      refine kM_V (As := [.int 0, .int 1]) (rest := []) (wr := []) C (X5_digits_c l g oM rM (upd (upd vM 11 ((aM 8) (vM 10).toNatClampNeg)) 10 ((vM 10) + 1)) aM 0 1 (hz _).ok (k_vin (j := 0) rfl (by decide) (by decide))) (cwV 2 hts (k_gV kw1782 ca_X5_digits) rfl rfl rfl ⟨rfl, pnX5_digits⟩ ⟨Nat.le_of_ble_eq_true rfl, Nat.le_of_ble_eq_true rfl⟩) hE hS hA hP hD [0] [] rfl rfl ⟨rfl, rfl, by decide⟩ (k_recv C kFX5 hP (i := 0) (q := 0) rfl rfl) rfl hl.1 rfl rfl dX5_isCommand_253 ⟨Nat.le_of_ble_eq_true rfl, Nat.le_of_ble_eq_true rfl⟩ (fun r28 u28 H locs hp28 hP hD hS => ?_)
      obtain ⟨rfl, rfl⟩ := hp28
      have hP : kp g [X5W g oM rM ((X5_digits_f (upd (upd vM 11 ((aM 8) (vM 10).toNatClampNeg)) 10 ((vM 10) + 1)) aM 0 1).2.1) ((X5_digits_f (upd (upd vM 11 ((aM 8) (vM 10).toNatClampNeg)) 10 ((vM 10) + 1)) aM 0 1).2.2)] H := hP
      have hD : kd A [X5W g oM rM ((X5_digits_f (upd (upd vM 11 ((aM 8) (vM 10).toNatClampNeg)) 10 ((vM 10) + 1)) aM 0 1).2.1) ((X5_digits_f (upd (upd vM 11 ((aM 8) (vM 10).toNatClampNeg)) 10 ((vM 10) + 1)) aM 0 1).2.2)] := hD
      have hF := (show X5_isCommand_f vM aM = ((X5_digits_f (upd (upd vM 11 ((aM 8) (vM 10).toNatClampNeg)) 10 ((vM 10) + 1)) aM 0 1).1, (X5_digits_f (upd (upd vM 11 ((aM 8) (vM 10).toNatClampNeg)) 10 ((vM 10) + 1)) aM 0 1).2.1, (X5_digits_f (upd (upd vM 11 ((aM 8) (vM 10).toNatClampNeg)) 10 ((vM 10) + 1)) aM 0 1).2.2) from (if_neg c1).trans ((if_neg c2).trans ((if_neg c4).trans ((if_neg c11).trans ((if_neg c22).trans ((if_neg c24).trans ((if_neg c26).trans ((if_pos c27).trans (rfl)))))))))
      exact kM_zret (x := b2i ((X5_digits_f (upd (upd vM 11 ((aM 8) (vM 10).toNatClampNeg)) 10 ((vM 10) + 1)) aM 0 1).1)) C (b2i_nar _) hP hD hS ⟨by rw [hF], by rw [hF]⟩ dX5_isCommand_256
    by_cases c29 : ((aM 8) (vM 10).toNatClampNeg) = 116
    · refine lv_tableIn (off := 227) (tgt := 257) hx hb dX5_isCommand_30 (by show ¬ (((aM 8) (vM 10).toNatClampNeg)).toInt < 98; rw [c29]; decide) (by show ¬ 120 < (((aM 8) (vM 10).toNatClampNeg)).toInt; rw [c29]; decide) (by rw [c29]; rfl) (by decide) ?_
      refine lv_aload_n hx hb dX5_isCommand_257 rfl (lv_at hl 0 rfl) ?_
      refine lv_dup hx hb dX5_isCommand_258 rfl ?_
      refine kg_get C kFX5 (k := 10) kw1456 hP (i := 0) (q := 0) rfl rfl (by decide) rfl dX5_isCommand_259 ?_
      refine lv_iconst (v := 1) hx hb dX5_isCommand_262 (by decide) ?_
      refine lv_iadd hx hb dX5_isCommand_263 ?_
      refine kg_put C kFX5 (k := 10) kw1456 hP hD hS (i := 0) (q := 0) rfl rfl (by decide) rfl rfl rfl (Nat.le_of_ble_eq_true rfl) X5s_10 rfl dX5_isCommand_264 (fun H locs hP hD hS => ?_)
      have hP : kp g [X5W g oM rM (upd (upd vM 11 ((aM 8) (vM 10).toNatClampNeg)) 10 ((vM 10) + 1)) aM] H := hP
      have hD : kd A [X5W g oM rM (upd (upd vM 11 ((aM 8) (vM 10).toNatClampNeg)) 10 ((vM 10) + 1)) aM] := hD
      refine lv_aload_n hx hb dX5_isCommand_267 rfl (lv_at hl 0 rfl) ?_
      refine lv_iconst (v := 0) hx hb dX5_isCommand_268 (by decide) ?_
      refine lv_iconst (v := 2) hx hb dX5_isCommand_269 (by decide) ?_
      refine kM_V (As := [.int 0, .int 2]) (rest := []) (wr := []) C (X5_digits_c l g oM rM (upd (upd vM 11 ((aM 8) (vM 10).toNatClampNeg)) 10 ((vM 10) + 1)) aM 0 2 (hz _).ok (k_vin (j := 0) rfl (by decide) (by decide))) (cwV 2 hts (k_gV kw1782 ca_X5_digits) rfl rfl rfl ⟨rfl, pnX5_digits⟩ ⟨Nat.le_of_ble_eq_true rfl, Nat.le_of_ble_eq_true rfl⟩) hE hS hA hP hD [0] [] rfl rfl ⟨rfl, rfl, by decide⟩ (k_recv C kFX5 hP (i := 0) (q := 0) rfl rfl) rfl hl.1 rfl rfl dX5_isCommand_270 ⟨Nat.le_of_ble_eq_true rfl, Nat.le_of_ble_eq_true rfl⟩ (fun r30 u30 H locs hp30 hP hD hS => ?_)
      obtain ⟨rfl, rfl⟩ := hp30
      have hP : kp g [X5W g oM rM ((X5_digits_f (upd (upd vM 11 ((aM 8) (vM 10).toNatClampNeg)) 10 ((vM 10) + 1)) aM 0 2).2.1) ((X5_digits_f (upd (upd vM 11 ((aM 8) (vM 10).toNatClampNeg)) 10 ((vM 10) + 1)) aM 0 2).2.2)] H := hP
      have hD : kd A [X5W g oM rM ((X5_digits_f (upd (upd vM 11 ((aM 8) (vM 10).toNatClampNeg)) 10 ((vM 10) + 1)) aM 0 2).2.1) ((X5_digits_f (upd (upd vM 11 ((aM 8) (vM 10).toNatClampNeg)) 10 ((vM 10) + 1)) aM 0 2).2.2)] := hD
      have hF := (show X5_isCommand_f vM aM = ((X5_digits_f (upd (upd vM 11 ((aM 8) (vM 10).toNatClampNeg)) 10 ((vM 10) + 1)) aM 0 2).1, (X5_digits_f (upd (upd vM 11 ((aM 8) (vM 10).toNatClampNeg)) 10 ((vM 10) + 1)) aM 0 2).2.1, (X5_digits_f (upd (upd vM 11 ((aM 8) (vM 10).toNatClampNeg)) 10 ((vM 10) + 1)) aM 0 2).2.2) from (if_neg c1).trans ((if_neg c2).trans ((if_neg c4).trans ((if_neg c11).trans ((if_neg c22).trans ((if_neg c24).trans ((if_neg c26).trans ((if_neg c27).trans ((if_pos c29).trans (rfl))))))))))
      exact kM_zret (x := b2i ((X5_digits_f (upd (upd vM 11 ((aM 8) (vM 10).toNatClampNeg)) 10 ((vM 10) + 1)) aM 0 2).1)) C (b2i_nar _) hP hD hS ⟨by rw [hF], by rw [hF]⟩ dX5_isCommand_273
    by_cases c31 : ((aM 8) (vM 10).toNatClampNeg) = 119
    · refine lv_tableIn (off := 210) (tgt := 240) hx hb dX5_isCommand_30 (by show ¬ (((aM 8) (vM 10).toNatClampNeg)).toInt < 98; rw [c31]; decide) (by show ¬ 120 < (((aM 8) (vM 10).toNatClampNeg)).toInt; rw [c31]; decide) (by rw [c31]; rfl) (by decide) ?_
      refine lv_aload_n hx hb dX5_isCommand_240 rfl (lv_at hl 0 rfl) ?_
      refine lv_dup hx hb dX5_isCommand_241 rfl ?_
      refine kg_get C kFX5 (k := 10) kw1456 hP (i := 0) (q := 0) rfl rfl (by decide) rfl dX5_isCommand_242 ?_
      refine lv_iconst (v := 1) hx hb dX5_isCommand_245 (by decide) ?_
      refine lv_iadd hx hb dX5_isCommand_246 ?_
      refine kg_put C kFX5 (k := 10) kw1456 hP hD hS (i := 0) (q := 0) rfl rfl (by decide) rfl rfl rfl (Nat.le_of_ble_eq_true rfl) X5s_10 rfl dX5_isCommand_247 (fun H locs hP hD hS => ?_)
      have hP : kp g [X5W g oM rM (upd (upd vM 11 ((aM 8) (vM 10).toNatClampNeg)) 10 ((vM 10) + 1)) aM] H := hP
      have hD : kd A [X5W g oM rM (upd (upd vM 11 ((aM 8) (vM 10).toNatClampNeg)) 10 ((vM 10) + 1)) aM] := hD
      refine lv_aload_n hx hb dX5_isCommand_250 rfl (lv_at hl 0 rfl) ?_
      refine lv_iconst (v := 0) hx hb dX5_isCommand_251 (by decide) ?_
      refine lv_iconst (v := 1) hx hb dX5_isCommand_252 (by decide) ?_
      refine kM_V (As := [.int 0, .int 1]) (rest := []) (wr := []) C (X5_digits_c l g oM rM (upd (upd vM 11 ((aM 8) (vM 10).toNatClampNeg)) 10 ((vM 10) + 1)) aM 0 1 (hz _).ok (k_vin (j := 0) rfl (by decide) (by decide))) (cwV 2 hts (k_gV kw1782 ca_X5_digits) rfl rfl rfl ⟨rfl, pnX5_digits⟩ ⟨Nat.le_of_ble_eq_true rfl, Nat.le_of_ble_eq_true rfl⟩) hE hS hA hP hD [0] [] rfl rfl ⟨rfl, rfl, by decide⟩ (k_recv C kFX5 hP (i := 0) (q := 0) rfl rfl) rfl hl.1 rfl rfl dX5_isCommand_253 ⟨Nat.le_of_ble_eq_true rfl, Nat.le_of_ble_eq_true rfl⟩ (fun r32 u32 H locs hp32 hP hD hS => ?_)
      obtain ⟨rfl, rfl⟩ := hp32
      have hP : kp g [X5W g oM rM ((X5_digits_f (upd (upd vM 11 ((aM 8) (vM 10).toNatClampNeg)) 10 ((vM 10) + 1)) aM 0 1).2.1) ((X5_digits_f (upd (upd vM 11 ((aM 8) (vM 10).toNatClampNeg)) 10 ((vM 10) + 1)) aM 0 1).2.2)] H := hP
      have hD : kd A [X5W g oM rM ((X5_digits_f (upd (upd vM 11 ((aM 8) (vM 10).toNatClampNeg)) 10 ((vM 10) + 1)) aM 0 1).2.1) ((X5_digits_f (upd (upd vM 11 ((aM 8) (vM 10).toNatClampNeg)) 10 ((vM 10) + 1)) aM 0 1).2.2)] := hD
      have hF := (show X5_isCommand_f vM aM = ((X5_digits_f (upd (upd vM 11 ((aM 8) (vM 10).toNatClampNeg)) 10 ((vM 10) + 1)) aM 0 1).1, (X5_digits_f (upd (upd vM 11 ((aM 8) (vM 10).toNatClampNeg)) 10 ((vM 10) + 1)) aM 0 1).2.1, (X5_digits_f (upd (upd vM 11 ((aM 8) (vM 10).toNatClampNeg)) 10 ((vM 10) + 1)) aM 0 1).2.2) from (if_neg c1).trans ((if_neg c2).trans ((if_neg c4).trans ((if_neg c11).trans ((if_neg c22).trans ((if_neg c24).trans ((if_neg c26).trans ((if_neg c27).trans ((if_neg c29).trans ((if_pos c31).trans (rfl)))))))))))
      exact kM_zret (x := b2i ((X5_digits_f (upd (upd vM 11 ((aM 8) (vM 10).toNatClampNeg)) 10 ((vM 10) + 1)) aM 0 1).1)) C (b2i_nar _) hP hD hS ⟨by rw [hF], by rw [hF]⟩ dX5_isCommand_256
    by_cases c33 : ((aM 8) (vM 10).toNatClampNeg) = 120
    · refine lv_tableIn (off := 210) (tgt := 240) hx hb dX5_isCommand_30 (by show ¬ (((aM 8) (vM 10).toNatClampNeg)).toInt < 98; rw [c33]; decide) (by show ¬ 120 < (((aM 8) (vM 10).toNatClampNeg)).toInt; rw [c33]; decide) (by rw [c33]; rfl) (by decide) ?_
      refine lv_aload_n hx hb dX5_isCommand_240 rfl (lv_at hl 0 rfl) ?_
      refine lv_dup hx hb dX5_isCommand_241 rfl ?_
      refine kg_get C kFX5 (k := 10) kw1456 hP (i := 0) (q := 0) rfl rfl (by decide) rfl dX5_isCommand_242 ?_
      refine lv_iconst (v := 1) hx hb dX5_isCommand_245 (by decide) ?_
      refine lv_iadd hx hb dX5_isCommand_246 ?_
      refine kg_put C kFX5 (k := 10) kw1456 hP hD hS (i := 0) (q := 0) rfl rfl (by decide) rfl rfl rfl (Nat.le_of_ble_eq_true rfl) X5s_10 rfl dX5_isCommand_247 (fun H locs hP hD hS => ?_)
      have hP : kp g [X5W g oM rM (upd (upd vM 11 ((aM 8) (vM 10).toNatClampNeg)) 10 ((vM 10) + 1)) aM] H := hP
      have hD : kd A [X5W g oM rM (upd (upd vM 11 ((aM 8) (vM 10).toNatClampNeg)) 10 ((vM 10) + 1)) aM] := hD
      refine lv_aload_n hx hb dX5_isCommand_250 rfl (lv_at hl 0 rfl) ?_
      refine lv_iconst (v := 0) hx hb dX5_isCommand_251 (by decide) ?_
      refine lv_iconst (v := 1) hx hb dX5_isCommand_252 (by decide) ?_
      refine kM_V (As := [.int 0, .int 1]) (rest := []) (wr := []) C (X5_digits_c l g oM rM (upd (upd vM 11 ((aM 8) (vM 10).toNatClampNeg)) 10 ((vM 10) + 1)) aM 0 1 (hz _).ok (k_vin (j := 0) rfl (by decide) (by decide))) (cwV 2 hts (k_gV kw1782 ca_X5_digits) rfl rfl rfl ⟨rfl, pnX5_digits⟩ ⟨Nat.le_of_ble_eq_true rfl, Nat.le_of_ble_eq_true rfl⟩) hE hS hA hP hD [0] [] rfl rfl ⟨rfl, rfl, by decide⟩ (k_recv C kFX5 hP (i := 0) (q := 0) rfl rfl) rfl hl.1 rfl rfl dX5_isCommand_253 ⟨Nat.le_of_ble_eq_true rfl, Nat.le_of_ble_eq_true rfl⟩ (fun r34 u34 H locs hp34 hP hD hS => ?_)
      obtain ⟨rfl, rfl⟩ := hp34
      have hP : kp g [X5W g oM rM ((X5_digits_f (upd (upd vM 11 ((aM 8) (vM 10).toNatClampNeg)) 10 ((vM 10) + 1)) aM 0 1).2.1) ((X5_digits_f (upd (upd vM 11 ((aM 8) (vM 10).toNatClampNeg)) 10 ((vM 10) + 1)) aM 0 1).2.2)] H := hP
      have hD : kd A [X5W g oM rM ((X5_digits_f (upd (upd vM 11 ((aM 8) (vM 10).toNatClampNeg)) 10 ((vM 10) + 1)) aM 0 1).2.1) ((X5_digits_f (upd (upd vM 11 ((aM 8) (vM 10).toNatClampNeg)) 10 ((vM 10) + 1)) aM 0 1).2.2)] := hD
      have hF := (show X5_isCommand_f vM aM = ((X5_digits_f (upd (upd vM 11 ((aM 8) (vM 10).toNatClampNeg)) 10 ((vM 10) + 1)) aM 0 1).1, (X5_digits_f (upd (upd vM 11 ((aM 8) (vM 10).toNatClampNeg)) 10 ((vM 10) + 1)) aM 0 1).2.1, (X5_digits_f (upd (upd vM 11 ((aM 8) (vM 10).toNatClampNeg)) 10 ((vM 10) + 1)) aM 0 1).2.2) from (if_neg c1).trans ((if_neg c2).trans ((if_neg c4).trans ((if_neg c11).trans ((if_neg c22).trans ((if_neg c24).trans ((if_neg c26).trans ((if_neg c27).trans ((if_neg c29).trans ((if_neg c31).trans ((if_pos c33).trans (rfl))))))))))))
      exact kM_zret (x := b2i ((X5_digits_f (upd (upd vM 11 ((aM 8) (vM 10).toNatClampNeg)) 10 ((vM 10) + 1)) aM 0 1).1)) C (b2i_nar _) hP hD hS ⟨by rw [hF], by rw [hF]⟩ dX5_isCommand_256
    by_cases c35 : ((aM 8) (vM 10).toNatClampNeg).toInt < 98 ∨ 120 < ((aM 8) (vM 10).toNatClampNeg).toInt
    · refine lv_tableOut (tgt := 286) hx hb dX5_isCommand_30 c35 (by decide) ?_
      refine lv_iconst (v := 0) hx hb dX5_isCommand_286 (by decide) ?_
      have hF := (show X5_isCommand_f vM aM = (false, upd vM 11 ((aM 8) (vM 10).toNatClampNeg), aM) from (if_neg c1).trans ((if_neg c2).trans ((if_neg c4).trans ((if_neg c11).trans ((if_neg c22).trans ((if_neg c24).trans ((if_neg c26).trans ((if_neg c27).trans ((if_neg c29).trans ((if_neg c31).trans ((if_neg c33).trans (rfl))))))))))))
      exact kM_zret (x := b2i false) C (b2i_nar _) hP hD hS ⟨by rw [hF], by rw [hF]⟩ dX5_isCommand_287
    refine lv_tableIn (off := 256) (tgt := 286) hx hb dX5_isCommand_30 (fun h => c35 (Or.inl h)) (fun h => c35 (Or.inr h)) (by have n0 := lv_neT (a := 98) c2 (by decide); have n1 := lv_neT (a := 101) c4 (by decide); have n2 := lv_neT (a := 102) c11 (by decide); have n3 := lv_neT (a := 103) c22 (by decide); have n4 := lv_neT (a := 110) c24 (by decide); have n5 := lv_neT (a := 111) c26 (by decide); have n6 := lv_neT (a := 115) c27 (by decide); have n7 := lv_neT (a := 116) c29 (by decide); have n8 := lv_neT (a := 119) c31 (by decide); have n9 := lv_neT (a := 120) c33 (by decide); have hh : ((aM 8) (vM 10).toNatClampNeg).toInt = 99 ∨ ((aM 8) (vM 10).toNatClampNeg).toInt = 100 ∨ ((aM 8) (vM 10).toNatClampNeg).toInt = 104 ∨ ((aM 8) (vM 10).toNatClampNeg).toInt = 105 ∨ ((aM 8) (vM 10).toNatClampNeg).toInt = 106 ∨ ((aM 8) (vM 10).toNatClampNeg).toInt = 107 ∨ ((aM 8) (vM 10).toNatClampNeg).toInt = 108 ∨ ((aM 8) (vM 10).toNatClampNeg).toInt = 109 ∨ ((aM 8) (vM 10).toNatClampNeg).toInt = 112 ∨ ((aM 8) (vM 10).toNatClampNeg).toInt = 113 ∨ ((aM 8) (vM 10).toNatClampNeg).toInt = 114 ∨ ((aM 8) (vM 10).toNatClampNeg).toInt = 117 ∨ ((aM 8) (vM 10).toNatClampNeg).toInt = 118 := (by omega); rcases hh with h | h | h | h | h | h | h | h | h | h | h | h | h <;> (rw [h]; rfl)) (by decide) ?_
    refine lv_iconst (v := 0) hx hb dX5_isCommand_286 (by decide) ?_
    have hF := (show X5_isCommand_f vM aM = (false, upd vM 11 ((aM 8) (vM 10).toNatClampNeg), aM) from (if_neg c1).trans ((if_neg c2).trans ((if_neg c4).trans ((if_neg c11).trans ((if_neg c22).trans ((if_neg c24).trans ((if_neg c26).trans ((if_neg c27).trans ((if_neg c29).trans ((if_neg c31).trans ((if_neg c33).trans (rfl))))))))))))
    exact kM_zret (x := b2i false) C (b2i_nar _) hP hD hS ⟨by rw [hF], by rw [hF]⟩ dX5_isCommand_287
  refine lv_iconst (v := 0) hx hb dX5_isCommand_11 (by decide) ?_
  have hF := (show X5_isCommand_f vM aM = (false, vM, aM) from (if_pos c1).trans (rfl))
  exact kM_zret (x := b2i false) C (b2i_nar _) hP hD hS ⟨by rw [hF], by rw [hF]⟩ dX5_isCommand_12
set_option maxHeartbeats 4000000 in
theorem X5_isCommand_x {vM : Nat → Int32} {aM : Nat → Nat → Int32} (h : kOK5 vM) : k5tx vM aM (X5_isCommand_f vM aM).2.1 (X5_isCommand_f vM aM).2.2 := by
  have D : ∀ {v a p q}, kOK5 v → k5tx v a (X5_digits_f v a p q).2.1 (X5_digits_f v a p q).2.2 := fun h => X5_digits_x h
  have N : ∀ {v a p}, kOK5 v → k5tx v a (X5_isNext_f v a p).2 a := fun h => X5_isNext_x h
  have j182 : ∀ v a, kOK5 v → k5tx v a (X5_isCommand_j182 vM aM v a).2.1 (X5_isCommand_j182 vM aM v a).2.2 := fun v a h => by
    unfold X5_isCommand_j182
    split
    · exact D h
    · exact D h
  have j173 : ∀ v a, kOK5 v → k5tx v a (X5_isCommand_j173 vM aM v a).2.1 (X5_isCommand_j173 vM aM v a).2.2 := fun v a h => by
    unfold X5_isCommand_j173
    split
    · exact (N h).tr (j182 _ _ (N (a := a) h).ok)
    · exact N h
  have j164 : ∀ v a, kOK5 v → k5tx v a (X5_isCommand_j164 vM aM v a).2.1 (X5_isCommand_j164 vM aM v a).2.2 := fun v a h => by
    unfold X5_isCommand_j164
    split
    · exact (D h).tr (j173 _ _ (D (a := a) h).ok)
    · exact D h
  have j155 : ∀ v a, kOK5 v → k5tx v a (X5_isCommand_j155 vM aM v a).2.1 (X5_isCommand_j155 vM aM v a).2.2 := fun v a h => by
    unfold X5_isCommand_j155
    split
    · exact (N h).tr (j164 _ _ (N (a := a) h).ok)
    · exact N h
  have j225 : ∀ v a, kOK5 v → k5tx v a (X5_isCommand_j225 vM aM v a).2.1 (X5_isCommand_j225 vM aM v a).2.2 := fun v a h => by
    unfold X5_isCommand_j225
    split
    · exact D h
    · exact D h
  have j216 : ∀ v a, kOK5 v → k5tx v a (X5_isCommand_j216 vM aM v a).2.1 (X5_isCommand_j216 vM aM v a).2.2 := fun v a h => by
    unfold X5_isCommand_j216
    split
    · exact (N h).tr (j225 _ _ (N (a := a) h).ok)
    · exact N h
  by_cases c : vM 10 = vM 9
  · have e : X5_isCommand_f vM aM = (false, vM, aM) := if_pos c
    rw [e]
    exact k5tx.rf h
  have hz : ∀ x, k5tx vM aM (upd (upd vM 11 x) 10 (vM 10 + 1)) aM := fun x => k5_rdx h (k5_nle h c)
  have DD : ∀ x p q, k5tx vM aM (X5_digits_f (upd (upd vM 11 x) 10 (vM 10 + 1)) aM p q).2.1 (X5_digits_f (upd (upd vM 11 x) 10 (vM 10 + 1)) aM p q).2.2 := fun x p q => (hz x).tr (D (hz x).ok)
  generalize hP : (fun r : Bool × (Nat → Int32) × (Nat → Nat → Int32) => k5tx vM aM r.2.1 r.2.2) = P
  have key : P (X5_isCommand_f vM aM) := by
    refine k_if (c := vM 10 = vM 9) (fun z => absurd z c) (fun _ => ?_)
    refine k_if (fun _ => ?_) (fun _ => ?_)
    · rw [← hP]; exact DD _ _ _
    refine k_if (fun _ => k_if (fun _ => ?_) (fun _ => ?_)) (fun _ => ?_)
    · rw [← hP]; exact (DD _ _ _).tr (j216 _ _ (DD _ _ _).ok)
    · rw [← hP]; exact DD _ _ _
    refine k_if (fun _ => k_if (fun _ => ?_) (fun _ => ?_)) (fun _ => ?_)
    · rw [← hP]; exact (DD _ _ _).tr (j155 _ _ (DD _ _ _).ok)
    · rw [← hP]; exact DD _ _ _
    refine k_if (fun _ => ?_) (fun _ => ?_)
    · rw [← hP]; exact DD _ _ _
    refine k_if (fun _ => ?_) (fun _ => ?_)
    · rw [← hP]; exact DD _ _ _
    refine k_if (fun _ => ?_) (fun _ => ?_)
    · rw [← hP]; exact hz _
    refine k_if (fun _ => ?_) (fun _ => ?_)
    · rw [← hP]; exact DD _ _ _
    refine k_if (fun _ => ?_) (fun _ => ?_)
    · rw [← hP]; exact DD _ _ _
    refine k_if (fun _ => ?_) (fun _ => ?_)
    · rw [← hP]; exact DD _ _ _
    refine k_if (fun _ => ?_) (fun _ => ?_)
    · rw [← hP]; exact DD _ _ _
    · rw [← hP]; exact k5_act h
  rw [← hP] at key
  exact key
