theorem kw1032 : Cond.methodLink RX4 225 yX4_writeLine ∈ kW := k_w 6 4 rfl rfl
theorem kw1291 : Cond.methodLink RX4 232 yJ4_charAt_5068e ∈ kW := k_w 7 23 rfl rfl
def X4_line_w (vC : Nat → Int32) (aC : Nat → Nat → Int32) (p0 : Int32) : Int32 := X0_weightsFor_f vC aC (X0_loadOf_f vC aC p0)
theorem pnX4_line : yX4_line.cls ≠ "java/lang/invoke/MethodHandle" ∧ yX4_line.cls ≠ "java/lang/invoke/VarHandle" ∧ (parseMethodDescriptor yX4_line.desc).map (fun d => d.parameters.length) = some 1 := by decide +kernel
theorem ca_X4_line : kCal yX4_line (Cond.code yX4_line cX4_line 2 (some .int)) := ⟨k_w 6 1 rfl rfl, k_w 6 2 rfl rfl, k_w 2 1 rfl rfl, k_w 6 3 rfl rfl⟩
abbrev wX4_line : List Cond := Cond.code yX4_line cX4_line 2 (some .int) :: kW
theorem X4_line_c (l : Launch) (g : kG) (oF : Nat) (vF : Nat → Int32) (oS oH oR oT oB : Nat) (oC : Nat) (rC : Nat → Nat) (vC : Nat → Int32) (aC : Nat → Nat → Int32) (q n : Nat) (ml : Int32) (f : Nat → Int32) (k : Nat) (hn : n = 16 ∨ n = 34) (hk : k ≤ n) (hf : sb_Fit f) (p0 : Int32) (nb : Nat) (hnb : nb ≤ 6) (hv7 : vC 7 = nI nb) (hfl : l.stackTraces = false) : kX l yX4_line wX4_line 8 500 21 690 g [.ref oF, .int p0] [X4W g oF (kFr oC oS oH oR oT oB) vF, X0W g oC rC vC aC, JOW oB q ml (nI k), JAW g q n f] (fun x u => X4_checkBag_f vF vC aC p0 = 0 ∧ x = nI (kLine (X4_line_w vC aC p0)).2 ∧ ∃ v, u = X4W g oF (kFr oC oS oH oR oT oB) vF :: X0W g oC rC vC aC :: v ∧ kSBt g oB (kLine (X4_line_w vC aC p0)) v) (fun E u => X4_checkBag_f vF vC aC p0 ≠ 0 ∧ E = kEx (X4_checkBag_f vF vC aC p0) ∧ u = [X4W g oF (kFr oC oS oH oR oT oB) vF, X0W g oC rC vC aC, JOW oB q ml (nI k), JAW g q n f]) := by
  refine kX_of (cc := cX4_line) (nL := 2) (ret := (some .int)) (lv := [(0, .ref oF), (1, .int p0)]) (by decide) rfl (Nat.le_of_ble_eq_true rfl) rfl ?_
  intro p e s m args below meth c ls A htb C hP hD hE hA hS hl
  have C : kC p c cX4_line s m args meth RX4 g 2 (some .int) := C
  have hx := C.1.1
  have hb := C.1.2.1
  have hts := C.1.2.2.2.2
  refine lv_aload_n hx hb dX4_line_0 rfl (lv_at hl 0 rfl) ?_
  refine lv_iload_n hx hb dX4_line_1 rfl (lv_at hl 1 rfl) ?_
  refine kXV_V (As := [.int p0]) (rest := []) (wr := [JOW oB q ml (nI k), JAW g q n f]) C (X4_checkBag_c l g oF vF oS oH oR oT oB oC rC vC aC p0 hfl) (cwV 1 hts (k_gV kw779 ca_X4_checkBag) rfl rfl rfl ⟨rfl, pnX4_checkBag⟩ ⟨Nat.le_of_ble_eq_true rfl, Nat.le_of_ble_eq_true rfl⟩) hE hS hA hP hD [0, 1] [2, 3] rfl rfl ⟨rfl, rfl, by decide⟩ (k_recv C kFX4 hP (i := 0) (q := 0) rfl rfl) rfl hl.1 rfl rfl dX4_line_2 ⟨Nat.le_of_ble_eq_true rfl, Nat.le_of_ble_eq_true rfl⟩ (fun E1 u1 H locs q1 ce1 hp1 hP hD hS hce1 hcv1 hcl1 => ?_) (fun u1 H locs hp1 hP hD hS => ?_)
  · obtain ⟨c1, hE1, hu1⟩ := hp1
    subst hu1
    subst hE1
    have hP : kp g [X4W g oF (kFr oC oS oH oR oT oB) vF, X0W g oC rC vC aC, JOW oB q ml (nI k), JAW g q n f] H := hP.pick [2, 3, 0, 1] rfl
    have hD : kd A [X4W g oF (kFr oC oS oH oR oT oB) vF, X0W g oC rC vC aC, JOW oB q ml (nI k), JAW g q n f] := hD.pick [2, 3, 0, 1] rfl rfl
    exact kX_out C htb hce1 hcv1 hcl1 hP hD hS ⟨c1, rfl, rfl⟩ ⟨Nat.le_of_ble_eq_true rfl, Nat.le_of_ble_eq_true rfl⟩
  obtain ⟨c1, hu1⟩ := hp1
  subst hu1
  have hP : kp g [X4W g oF (kFr oC oS oH oR oT oB) vF, X0W g oC rC vC aC, JOW oB q ml (nI k), JAW g q n f] H := hP.pick [2, 3, 0, 1] rfl
  have hD : kd A [X4W g oF (kFr oC oS oH oR oT oB) vF, X0W g oC rC vC aC, JOW oB q ml (nI k), JAW g q n f] := hD.pick [2, 3, 0, 1] rfl rfl
  have z1 := X4_cb c1 hv7 hnb
  refine lv_aload_n hx hb dX4_line_5 rfl (lv_at hl 0 rfl) ?_
  refine lv_aload_n hx hb dX4_line_6 rfl (lv_at hl 0 rfl) ?_
  refine kg_get (v := .ref oC) C kFX4 (k := 0) kw301 hP (i := 0) (q := 0) rfl rfl (by decide) rfl dX4_line_7 ?_
  refine lv_aload_n hx hb dX4_line_10 rfl (lv_at hl 0 rfl) ?_
  refine kg_get (v := .ref oC) C kFX4 (k := 0) kw301 hP (i := 0) (q := 0) rfl rfl (by decide) rfl dX4_line_11 ?_
  refine lv_iload_n hx hb dX4_line_14 rfl (lv_at hl 1 rfl) ?_
  refine kR_VN (As := [.int p0]) (rest := [.ref oC, .ref oF]) C (X0_loadOf_c l g oC rC vC aC p0 z1) ⟨va_cnB (host := "SpiceScale") 1 hts (k_gI ca_X0_loadOf.2.2.2) rfl rfl rfl (C.2.1.2 _ (List.mem_of_getElem? (i := 68) rfl)) (hts _ ca_X0_loadOf.2.2.1) pnX0_loadOf ⟨Nat.le_of_ble_eq_true rfl, Nat.le_of_ble_eq_true rfl⟩, hts _ ca_X0_loadOf.1, hts _ ca_X0_loadOf.2.1⟩ hE hS (hP.pick [1] rfl) (k_recv C kFX0 hP (i := 1) (q := 0) rfl rfl) rfl hl.1 rfl rfl dX4_line_15 ⟨Nat.le_of_ble_eq_true rfl, Nat.le_of_ble_eq_true rfl⟩ ?_
  refine kR_VN (As := [.int (X0_loadOf_f vC aC p0)]) (rest := [.ref oF]) C (X0_weightsFor_c l g oC rC vC aC (X0_loadOf_f vC aC p0)) ⟨va_cnB (host := "SpiceScale") 1 hts (k_gI ca_X0_weightsFor.2.2.2) rfl rfl rfl (C.2.1.2 _ (List.mem_of_getElem? (i := 69) rfl)) (hts _ ca_X0_weightsFor.2.2.1) pnX0_weightsFor ⟨Nat.le_of_ble_eq_true rfl, Nat.le_of_ble_eq_true rfl⟩, hts _ ca_X0_weightsFor.1, hts _ ca_X0_weightsFor.2.1⟩ hE hS (hP.pick [1] rfl) (k_recv C kFX0 hP (i := 1) (q := 0) rfl rfl) rfl hl.1 rfl rfl dX4_line_18 ⟨Nat.le_of_ble_eq_true rfl, Nat.le_of_ble_eq_true rfl⟩ ?_
  refine kV_V (As := [.int (X4_line_w vC aC p0)]) (rest := []) (wr := [X0W g oC rC vC aC]) C (X4_writeLine_c l g oF vF oC oS oH oR oT oB q n ml f k hn hk hf (X4_line_w vC aC p0)) (cwV 1 hts (k_gV kw1032 ca_X4_writeLine) rfl rfl rfl ⟨rfl, pnX4_writeLine⟩ ⟨Nat.le_of_ble_eq_true rfl, Nat.le_of_ble_eq_true rfl⟩) hE hS hA hP hD [0, 2, 3] [1] rfl rfl ⟨rfl, rfl, by decide⟩ (k_recv C kFX4 hP (i := 0) (q := 0) rfl rfl) rfl hl.1 rfl rfl dX4_line_21 ⟨Nat.le_of_ble_eq_true rfl, Nat.le_of_ble_eq_true rfl⟩ (fun u H locs hp hP hD hS => ?_)
  obtain ⟨v2, rfl, q2, n2, ml2, f2, rfl, hn2, hk2, hf2, hl2⟩ := hp
  have hP : kp g [X4W g oF (kFr oC oS oH oR oT oB) vF, X0W g oC rC vC aC, JOW oB q2 ml2 (nI (kLine (X4_line_w vC aC p0)).2), JAW g q2 n2 f2] H := hP.pick [1, 0, 2, 3] rfl
  have hD : kd A [X4W g oF (kFr oC oS oH oR oT oB) vF, X0W g oC rC vC aC, JOW oB q2 ml2 (nI (kLine (X4_line_w vC aC p0)).2), JAW g q2 n2 f2] := hD.pick [1, 0, 2, 3] rfl rfl
  refine lv_aload_n hx hb dX4_line_24 rfl (lv_at hl 0 rfl) ?_
  refine kg_get (v := .ref oB) C kFX4 (k := 7) kw308 hP (i := 0) (q := 0) rfl rfl (by decide) rfl dX4_line_25 ?_
  refine kR_V (As := []) (rest := []) C (J4_length_8abf5_c l g oB q2 ml2 (nI (kLine (X4_line_w vC aC p0)).2)) (cwV 0 hts (k_gV kw1267 ca_J4_length_8abf5) rfl rfl rfl ⟨rfl, pnJ4_length_8abf5⟩ ⟨Nat.le_of_ble_eq_true rfl, Nat.le_of_ble_eq_true rfl⟩) hE hS (hP.pick [2] rfl) (k_recv C kFJ4 hP (i := 2) (q := 0) rfl rfl) rfl hl.1 rfl rfl dX4_line_28 ⟨Nat.le_of_ble_eq_true rfl, Nat.le_of_ble_eq_true rfl⟩ ?_
  exact kX_ret C hP hD hS ⟨c1, rfl, _, rfl, q2, n2, ml2, f2, rfl, hn2, hk2, hf2, hl2⟩ ⟨Nat.le_of_ble_eq_true rfl, Nat.le_of_ble_eq_true rfl⟩ dX4_line_31
theorem k_inl {x : Int32} {n : Nat} (h0 : ¬ x < 0) (h1 : x < nI n) (hn : n < 2 ^ 31) : vp_in x n := by
  rintro (h | h)
  · exact h0 h
  · have h2 : x.toNatClampNeg = x.toInt.toNat := rfl
    rw [Int32.lt_iff_toInt_lt, Int32.toInt_zero] at h0
    rw [Int32.lt_iff_toInt_lt, nI_toInt hn] at h1
    omega
theorem pnX4_character : yX4_character.cls ≠ "java/lang/invoke/MethodHandle" ∧ yX4_character.cls ≠ "java/lang/invoke/VarHandle" ∧ (parseMethodDescriptor yX4_character.desc).map (fun d => d.parameters.length) = some 1 := by decide +kernel
theorem ca_X4_character : kCal yX4_character (Cond.code yX4_character cX4_character 2 (some .char)) := ⟨k_w 7 19 rfl rfl, k_w 7 20 rfl rfl, k_w 2 1 rfl rfl, k_w 7 21 rfl rfl⟩
def X4_character_f (s : kTx) (p0 : Int32) : Nat × Int32 := if p0 < 0 then (2, 0) else if p0 < nI s.2 then (0, nI (s.1 p0.toNatClampNeg)) else (2, 0)
abbrev wX4_character : List Cond := Cond.code yX4_character cX4_character 2 (some .char) :: kW
theorem X4_character_c (l : Launch) (g : kG) (oF : Nat) (vF : Nat → Int32) (oC oS oH oR oT oB : Nat) (q n : Nat) (ml : Int32) (f : Nat → Int32) (t : Nat → Nat) (k : Nat) (hn : n = 16 ∨ n = 34) (hk : k ≤ n) (hf : sb_Fit f) (hL : sb_Lat t k f) (p0 : Int32) (hfl : l.stackTraces = false) : kX l yX4_character wX4_character 7 400 1 6 g [.ref oF, .int p0] [X4W g oF (kFr oC oS oH oR oT oB) vF, JOW oB q ml (nI k), JAW g q n f] (fun x u => (X4_character_f (t, k) p0).1 = 0 ∧ x = (X4_character_f (t, k) p0).2 ∧ u = [X4W g oF (kFr oC oS oH oR oT oB) vF, JOW oB q ml (nI k), JAW g q n f]) (fun E u => (X4_character_f (t, k) p0).1 ≠ 0 ∧ E = kEx (X4_character_f (t, k) p0).1 ∧ u = [X4W g oF (kFr oC oS oH oR oT oB) vF, JOW oB q ml (nI k), JAW g q n f]) := by
  refine kX_of (cc := cX4_character) (nL := 2) (ret := (some .char)) (lv := [(0, .ref oF), (1, .int p0)]) (by decide) rfl (Nat.le_of_ble_eq_true rfl) rfl ?_
  intro p e s m args below meth c ls A htb C hP hD hE hA hS hl
  have C : kC p c cX4_character s m args meth RX4 g 2 (some .char) := C
  have hx := C.1.1
  have hb := C.1.2.1
  have hts := C.1.2.2.2.2
  refine lv_iload_n hx hb dX4_character_0 rfl (lv_at hl 1 rfl) ?_
  by_cases c0 : p0 < 0
  · refine lv_if_lt (tgt := 15) hx hb dX4_character_1 (by decide) (fun z => ?_) (fun z => absurd c0 z)
    have hF : X4_character_f (t, k) p0 = (2, 0) := if_pos c0
    exact kX_throwS (names := ["java/lang/RuntimeException", "java/lang/Exception"]) C hfl htb (by decide) (by decide) kw738 kw89 (List.mem_of_getElem? (i := 19) rfl) kx_at_IndexOutOfBoundsException hE hS hl.1 hP hD ⟨by rw [hF]; exact (by decide : (2 : Nat) ≠ 0), by rw [hF]; rfl, rfl⟩ dX4_character_15 dX4_character_18 dX4_character_19 dX4_character_21 dX4_character_24 (by decide) (Nat.le_of_ble_eq_true rfl) ⟨Nat.le_of_ble_eq_true rfl, Nat.le_of_ble_eq_true rfl⟩ ⟨Nat.le_of_ble_eq_true rfl, Nat.le_of_ble_eq_true rfl⟩
  refine lv_if_lt (tgt := 15) hx hb dX4_character_1 (by decide) (fun z => absurd z c0) (fun z => ?_)
  refine lv_iload_n hx hb dX4_character_4 rfl (lv_at hl 1 rfl) ?_
  refine lv_aload_n hx hb dX4_character_5 rfl (lv_at hl 0 rfl) ?_
  refine kg_get (v := .ref oB) C kFX4 (k := 7) kw308 hP (i := 0) (q := 0) rfl rfl (by decide) rfl dX4_character_6 ?_
  refine kR_V (As := []) (rest := [.int p0]) C (J4_length_8abf5_c l g oB q ml (nI k)) (cwV 0 hts (k_gV kw1267 ca_J4_length_8abf5) rfl rfl rfl ⟨rfl, pnJ4_length_8abf5⟩ ⟨Nat.le_of_ble_eq_true rfl, Nat.le_of_ble_eq_true rfl⟩) hE hS (hP.pick [1] rfl) (k_recv C kFJ4 hP (i := 1) (q := 0) rfl rfl) rfl hl.1 rfl rfl dX4_character_9 ⟨Nat.le_of_ble_eq_true rfl, Nat.le_of_ble_eq_true rfl⟩ ?_
  by_cases c1 : p0 < nI k
  rotate_left
  · refine lv_icmp_lt (tgt := 25) hx hb dX4_character_12 (by decide) (fun z => absurd z c1) (fun z => ?_)
    have hF : X4_character_f (t, k) p0 = (2, 0) := (if_neg c0).trans (if_neg c1)
    exact kX_throwS (names := ["java/lang/RuntimeException", "java/lang/Exception"]) C hfl htb (by decide) (by decide) kw738 kw89 (List.mem_of_getElem? (i := 19) rfl) kx_at_IndexOutOfBoundsException hE hS hl.1 hP hD ⟨by rw [hF]; exact (by decide : (2 : Nat) ≠ 0), by rw [hF]; rfl, rfl⟩ dX4_character_15 dX4_character_18 dX4_character_19 dX4_character_21 dX4_character_24 (by decide) (Nat.le_of_ble_eq_true rfl) ⟨Nat.le_of_ble_eq_true rfl, Nat.le_of_ble_eq_true rfl⟩ ⟨Nat.le_of_ble_eq_true rfl, Nat.le_of_ble_eq_true rfl⟩
  refine lv_icmp_lt (tgt := 25) hx hb dX4_character_12 (by decide) (fun z => ?_) (fun z => absurd c1 z)
  refine lv_aload_n hx hb dX4_character_25 rfl (lv_at hl 0 rfl) ?_
  refine kg_get (v := .ref oB) C kFX4 (k := 7) kw308 hP (i := 0) (q := 0) rfl rfl (by decide) rfl dX4_character_26 ?_
  refine lv_iload_n hx hb dX4_character_29 rfl (lv_at hl 1 rfl) ?_
  have hin : vp_in p0 k := k_inl c0 c1 (by omega)
  obtain ⟨i, hi, rfl⟩ := vp_in_of hin (by omega)
  refine kR_V (As := [.int (nI i)]) (rest := []) C (J4_charAt_5068e_c l g oB q n ml f t k hn hk hf hL i hi) (cwV 1 hts (k_gV kw1291 ca_J4_charAt_5068e) rfl rfl rfl ⟨rfl, pnJ4_charAt_5068e⟩ ⟨Nat.le_of_ble_eq_true rfl, Nat.le_of_ble_eq_true rfl⟩) hE hS (hP.pick [1, 2] rfl) (k_recv C kFJ4 hP (i := 1) (q := 0) rfl rfl) rfl hl.1 rfl rfl dX4_character_30 ⟨Nat.le_of_ble_eq_true rfl, Nat.le_of_ble_eq_true rfl⟩ ?_
  have hF : X4_character_f (t, k) (nI i) = (0, nI (t i)) := (if_neg c0).trans ((if_pos c1).trans (by rw [nI_clamp (by omega)]))
  have h0 := (hL i hi).1
  exact kX_zret C (pk_charN (q := t i) (by omega)).1 hP hD hS ⟨by rw [hF], by rw [hF], rfl⟩ ⟨Nat.le_of_ble_eq_true rfl, Nat.le_of_ble_eq_true rfl⟩ dX4_character_33
