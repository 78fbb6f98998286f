/-- the weights' grains -/
def kWt (i : Nat) : Nat := ([1, 2, 5, 10, 20, 50, 100, 200] : List Nat).getD i 0
def kPs (i : Nat) : Nat := ([0, 1, 3, 8, 18, 38, 88, 188, 388] : List Nat).getD i 0
def kBd (i : Nat) : Nat := ([23, 21, 19, 17, 14, 11, 8, 4, 0] : List Nat).getD i 0
theorem k_wt (i : Nat) (hi : i < 8) : k_tab 2 (nI i).toNatClampNeg = nI (kWt i) := (by decide +kernel : ∀ i, i < 8 → k_tab 2 (nI i).toNatClampNeg = nI (kWt i)) i hi
theorem k_wt2 (i : Nat) (hi : i < 8) : kWt i < 1000 ∧ kBd (i + 1) + 1 + sb_dg (kWt i) ≤ kBd i ∧ kBd i ≤ 23 ∧ kPs i + kWt i ≤ kPs (i + 1) := (by decide +kernel : ∀ i, i < 8 → kWt i < 1000 ∧ kBd (i + 1) + 1 + sb_dg (kWt i) ≤ kBd i ∧ kBd i ≤ 23 ∧ kPs i + kWt i ≤ kPs (i + 1)) i hi
theorem k_told_lp (w : Int32) : ∀ (d j a : Nat), j + d = 8 → a ≤ kPs j → ∃ v, v ≤ 388 ∧ X4_toldBy_lp4 w (d + 1) (nI a) (nI j) = nI v := by
  intro d
  induction d with
  | zero =>
    intro j a h ha
    obtain rfl : j = 8 := by omega
    refine ⟨a, ha, ?_⟩
    rw [X4_toldBy_lp4_s]
    unfold X4_toldBy_lp4b
    exact if_pos (by decide)
  | succ d ih =>
    intro j a h ha
    rw [X4_toldBy_lp4_s]
    unfold X4_toldBy_lp4b
    rw [if_neg (fun z => by have := (nI_leI (a := 8) (b := j) (by omega) (by omega)).mp z; omega), k_wt j (by omega), nI_1, nI_add]
    have hb := (k_wt2 j (by omega)).2.2.2
    have hm : kPs j ≤ kPs (j + 1) := by omega
    split
    · exact ih (j + 1) (a + kWt j) (by omega) (by omega)
    · exact ih (j + 1) a (by omega) (by omega)
theorem k_toldBy (w : Int32) : ∃ v, v ≤ 388 ∧ X4_toldBy_f w = nI v := k_told_lp w 8 0 0 rfl (Nat.le_refl _)
def kTold (w : Int32) : Nat := (X4_toldBy_f w).toNatClampNeg
theorem kTold_eq (w : Int32) : X4_toldBy_f w = nI (kTold w) := by
  obtain ⟨v, h1, h2⟩ := k_toldBy w
  unfold kTold
  rw [h2, nI_clamp (by omega)]
theorem kTold_le (w : Int32) : kTold w ≤ 388 := by
  obtain ⟨v, h1, h2⟩ := k_toldBy w
  unfold kTold
  rw [h2, nI_clamp (by omega)]
  exact h1
abbrev kTx : Type := (Nat → Nat) × Nat
def kPlus (s : kTx) : kTx := if s.2 = 0 then s else (sb_cat s.1 s.2 (fun _ => 43), s.2 + 1)
def kNum (s : kTx) (v : Nat) : kTx := (sb_cat s.1 s.2 (sb_dec v), s.2 + sb_dg v)
/-- one weight of the line -/
def kLs (w : Int32) (i : Nat) (s : kTx) : kTx := if X4_isAmong_f (nI i) w = true then kNum (kPlus s) (kWt i) else s
def kLr (w : Int32) : Nat → kTx → kTx
  | 0, s => s
  | i + 1, s => kLr w i (kLs w i s)
def kLine (w : Int32) : kTx := kNum (sb_cat (kLr w 8 (fun _ => 0, 0)).1 (kLr w 8 (fun _ => 0, 0)).2 (fun _ => 61), (kLr w 8 (fun _ => 0, 0)).2 + 1) (kTold w)
/-- a text in the StringBuilder -/
def kSBt (g : kG) (o : Nat) (s : kTx) (u : List va_W) : Prop := ∃ (q n : Nat) (ml : Int32) (f : Nat → Int32), u = [JOW o q ml (nI s.2), JAW g q n f] ∧ (n = 16 ∨ n = 34) ∧ s.2 ≤ n ∧ sb_Fit f ∧ sb_Lat s.1 s.2 f
theorem kBd23 (i : Nat) (hi : i < 9) : kBd i ≤ 23 := (by decide +kernel : ∀ i, i < 9 → kBd i ≤ 23) i hi
theorem kLs_bd (w : Int32) (i : Nat) (hi : i < 8) (s : kTx) (h : s.2 ≤ kBd (i + 1)) : (kLs w i s).2 ≤ kBd i := by
  have := k_wt2 i hi
  unfold kLs kNum kPlus
  (repeat' split) <;> ((try simp only []); omega)
theorem kLr_bd (w : Int32) : ∀ (i : Nat) (s : kTx), i ≤ 8 → s.2 ≤ kBd i → (kLr w i s).2 ≤ 23 := by
  intro i
  induction i with
  | zero => intro s _ h; exact h
  | succ i ih => intro s hi h; exact ih _ (by omega) (kLs_bd w i (by omega) s h)
theorem kLine_len (w : Int32) : (kLine w).2 ≤ 27 := by
  have h1 := kLr_bd w 8 (fun _ => 0, 0) (Nat.le_refl _) (Nat.le_refl _)
  have h2 : sb_dg (kTold w) ≤ 3 := by
    have := kTold_le w
    unfold sb_dg; (repeat' split) <;> omega
  unfold kLine kNum
  simp only []
  omega
theorem kw308 : Cond.fieldLink RX4 51 "SpiceScale" "lineText" "Ljava/lang/StringBuilder;" ∈ kW := k_w 3 0 rfl rfl
theorem kw1036 : Cond.methodLink RX4 336 yJ4_setLength_d00df ∈ kW := k_w 6 8 rfl rfl
theorem kw1267 : Cond.methodLink RX4 228 yJ4_length_8abf5 ∈ kW := k_w 6 239 rfl rfl
theorem kw1268 : Cond.methodLink RX4 343 yJ4_append_cf468 ∈ kW := k_w 7 0 rfl rfl
theorem kw1281 : Cond.methodLink RX4 347 yJ4_append_bf812 ∈ kW := k_w 7 13 rfl rfl
theorem pnX4_writeLine : yX4_writeLine.cls ≠ "java/lang/invoke/MethodHandle" ∧ yX4_writeLine.cls ≠ "java/lang/invoke/VarHandle" ∧ (parseMethodDescriptor yX4_writeLine.desc).map (fun d => d.parameters.length) = some 1 := by decide +kernel
theorem ca_X4_writeLine : kCal yX4_writeLine (Cond.code yX4_writeLine cX4_writeLine 3 none) := ⟨k_w 6 6 rfl rfl, k_w 1 57 rfl rfl, k_w 2 1 rfl rfl, k_w 6 7 rfl rfl⟩
set_option maxHeartbeats 4000000 in
abbrev wX4_writeLine : List Cond := Cond.code yX4_writeLine cX4_writeLine 3 none :: kW
theorem X4_writeLine_c (l : Launch) (g : kG) (oF : Nat) (vF : Nat → Int32) (oC oS oH oR oT oB : Nat) (q n : Nat) (ml : Int32) (f : Nat → Int32) (k : Nat) (hn : n = 16 ∨ n = 34) (hk : k ≤ n) (hf : sb_Fit f) (w : Int32) : kV l yX4_writeLine wX4_writeLine 6 400 20 680 g [.ref oF, .int w] [X4W g oF (kFr oC oS oH oR oT oB) vF, JOW oB q ml (nI k), JAW g q n f] (fun u => ∃ v, u = X4W g oF (kFr oC oS oH oR oT oB) vF :: v ∧ kSBt g oB (kLine w) v) := by
  refine kV_of (cc := cX4_writeLine) (nL := 3) (ret := none) (lv := [(0, .ref oF), (1, .int w)]) (by decide) rfl (Nat.le_of_ble_eq_true rfl) rfl ?_
  intro p e s m args below meth c ls A hnm C hP hD hE hA hS hl
  have C : kC p c cX4_writeLine s m args meth RX4 g 3 none := C
  have hx := C.1.1
  have hb := C.1.2.1
  have hts := C.1.2.2.2.2
  have loop : ∀ (i : Nat) (x : Int32) (t : Nat → Nat) (k q n : Nat) (ml : Int32) (f : Nat → Int32) (H : Heap) (locs : List Loc) (ls : Array Slot) (cells slots : Nat), i ≤ 8 → x = nI i + Int32.ofInt (-1) → k ≤ kBd i → (kLine w) = kNum (sb_cat (kLr w i (t, k)).1 (kLr w i (t, k)).2 (fun _ => 61), (kLr w i (t, k)).2 + 1) (kTold w) → (n = 16 ∨ n = 34) → k ≤ n → sb_Fit f → sb_Lat t k f → cells + 2 * i + 2 ≤ 20 → slots + 68 * i + 68 ≤ 680 →
      kp g [X4W g oF (kFr oC oS oH oR oT oB) vF, JOW oB q ml (nI k), JAW g q n f] H → kd A [X4W g oF (kFr oC oS oH oR oT oB) vF, JOW oB q ml (nI k), JAW g q n f] → va_S A s.heap H locs → lv_has ls 3 [(2, .int x), (0, .ref oF), (1, .int w)] →
      W p l e (kRm 6 20 680 400) s m args below meth c H locs cells slots (MQ below (kQv g (fun u => ∃ v, u = X4W g oF (kFr oC oS oH oR oT oB) vF :: v ∧ kSBt g oB (kLine w) v) A) args s 20 680 A) (F0 m 11 ls []) := by
    intro i
    induction i with
    | zero =>
      intro x t k q n ml f H locs ls cells slots hi hx0 hk hL hn hkn hf hl1 hc hs hP hD hS hl
      have hk23 : k ≤ 23 := hk
      have hxn : x < 0 := by rw [hx0]; decide
      have h3 : sb_dg (kTold w) ≤ 3 := by
        have := kTold_le w
        unfold sb_dg; (repeat' split) <;> omega
      refine lv_iload_n hx hb dX4_writeLine_11 rfl (lv_at hl 0 rfl) ?_
      refine lv_if_lt (tgt := 62) hx hb dX4_writeLine_12 (by decide) (fun z => ?_) (fun z => absurd hxn z)
      refine lv_aload_n hx hb dX4_writeLine_62 rfl (lv_at hl 1 rfl) ?_
      refine kg_get (v := .ref oB) C kFX4 (k := 7) kw308 hP (i := 0) (q := 0) rfl rfl (by decide) rfl dX4_writeLine_63 ?_
      refine lv_bipush (v := 61) hx hb dX4_writeLine_66 (by decide) ?_
      refine kA_V (As := [.int (nI 61)]) (rest := []) (wr := [X4W g oF (kFr oC oS oH oR oT oB) vF]) C (J4_append_cf468_c l g oB q n ml f t k hn hkn hf hl1 61 (by decide) (by omega)) (cwV 1 hts (k_gV kw1268 ca_J4_append_cf468) rfl rfl rfl ⟨rfl, pnJ4_append_cf468⟩ ⟨Nat.le_of_ble_eq_true rfl, Nat.le_of_ble_eq_true rfl⟩) hE hS hA hP hD [1, 2] [0] rfl rfl ⟨rfl, rfl, by decide⟩ (k_recv C kFJ4 hP (i := 1) (q := 0) rfl rfl) rfl hl.1 rfl rfl dX4_writeLine_68 ⟨by show _ ≤ 20; omega, by show _ ≤ 680; omega⟩ (fun ra u H locs hp hP hD hS => ?_)
      obtain ⟨q1, n1, ml1, f1, rfl, hn1, hk1, hf1, hl1'⟩ := hp
      have hP : kp g [X4W g oF (kFr oC oS oH oR oT oB) vF, JOW oB q1 ml1 (nI (k + 1)), JAW g q1 n1 f1] H := hP
      have hD : kd A [X4W g oF (kFr oC oS oH oR oT oB) vF, JOW oB q1 ml1 (nI (k + 1)), JAW g q1 n1 f1] := hD
      refine lv_pop hx hb dX4_writeLine_71 rfl ?_
      refine lv_aload_n hx hb dX4_writeLine_72 rfl (lv_at hl 1 rfl) ?_
      refine kg_get (v := .ref oB) C kFX4 (k := 7) kw308 hP (i := 0) (q := 0) rfl rfl (by decide) rfl dX4_writeLine_73 ?_
      refine lv_iload_n hx hb dX4_writeLine_76 rfl (lv_at hl 2 rfl) ?_
      refine kR_S (As := [.int w]) (rest := [.ref oB]) C (X4_toldBy_c l g w) (va_cwS 1 hts (k_gS kw787 cs_X4_toldBy) rfl rfl rfl pnX4_toldBy ⟨Nat.le_of_ble_eq_true rfl, Nat.le_of_ble_eq_true rfl⟩) hE hS (hP.pick [] rfl) rfl hl.1 rfl rfl dX4_writeLine_77 ⟨by show _ ≤ 20; omega, by show _ ≤ 680; omega⟩ ?_
      rw [kTold_eq]
      have hLe : kLine w = (sb_cat (sb_cat t k (fun _ => 61)) (k + 1) (sb_dec (kTold w)), k + 1 + sb_dg (kTold w)) := hL
      refine kA_V (As := [.int (nI (kTold w))]) (rest := []) (wr := [X4W g oF (kFr oC oS oH oR oT oB) vF]) C (J4_append_bf812_c l g oB q1 n1 ml1 f1 (sb_cat t k (fun _ => 61)) (k + 1) hn1 hk1 hf1 hl1' (kTold w) (by have := kTold_le w; omega) (by omega)) (cwV 1 hts (k_gV kw1281 ca_J4_append_bf812) rfl rfl rfl ⟨rfl, pnJ4_append_bf812⟩ ⟨Nat.le_of_ble_eq_true rfl, Nat.le_of_ble_eq_true rfl⟩) hE hS hA hP hD [1, 2] [0] rfl rfl ⟨rfl, rfl, by decide⟩ (k_recv C kFJ4 hP (i := 1) (q := 0) rfl rfl) rfl hl.1 rfl rfl dX4_writeLine_80 ⟨by show _ ≤ 20; omega, by show _ ≤ 680; omega⟩ (fun ra u H locs hp hP hD hS => ?_)
      obtain ⟨q2, n2, ml2, f2, rfl, hn2, hk2, hf2, hl2⟩ := hp
      refine lv_pop hx hb dX4_writeLine_83 rfl ?_
      exact kV_retW C hP hD hS ⟨_, rfl, q2, n2, ml2, f2, by rw [hLe]; rfl, hn2, by rw [hLe]; exact hk2, hf2, by rw [hLe]; exact hl2⟩ ⟨by omega, by omega⟩ dX4_writeLine_84
    | succ i ih =>
      intro x t k q n ml f H locs ls cells slots hi hx0 hk hL hn hkn hf hl1 hc hs hP hD hS hl
      obtain rfl : x = nI i := hx0.trans (k_dec (Nat.succ_pos i))
      have hbw := k_wt2 i (by omega)
      refine lv_iload_n hx hb dX4_writeLine_11 rfl (lv_at hl 0 rfl) ?_
      refine lv_if_lt (tgt := 62) hx hb dX4_writeLine_12 (by decide) (fun z => absurd z (nI_pos (by omega))) (fun z => ?_)
      refine lv_iload_n hx hb dX4_writeLine_15 rfl (lv_at hl 0 rfl) ?_
      refine lv_iload_n hx hb dX4_writeLine_16 rfl (lv_at hl 2 rfl) ?_
      refine kR_S (As := [.int (nI i), .int w]) (rest := []) C (X4_isAmong_c l g (nI i) w) (va_cwS 2 hts (k_gS kw447 cs_X4_isAmong) rfl rfl rfl pnX4_isAmong ⟨Nat.le_of_ble_eq_true rfl, Nat.le_of_ble_eq_true rfl⟩) hE hS (hP.pick [] rfl) rfl hl.1 rfl rfl dX4_writeLine_17 ⟨by show _ ≤ 20; omega, by show _ ≤ 680; omega⟩ ?_
      by_cases ham : X4_isAmong_f (nI i) w = true
      rotate_left
      · have es : kLs w i (t, k) = (t, k) := if_neg ham
        rw [Bool.eq_false_iff.mpr ham]
        refine lv_if_eq (tgt := 56) hx hb dX4_writeLine_20 (by decide) (fun z => ?_) (fun z => absurd rfl z)
        refine lv_iinc (v := (nI i + Int32.ofInt (-1))) (lv' := [(2, .int (nI i + Int32.ofInt (-1))), (0, .ref oF), (1, .int w)]) hx hb dX4_writeLine_56 hl (k := 0) rfl rfl (by decide) rfl (fun ls hl => ?_)
        refine lv_goto (tgt := 11) hx hb dX4_writeLine_59 (by decide) ?_
        exact ih _ t k q n ml f H locs ls cells slots (by omega) rfl (by omega) (by have := hL; rw [kLr, es] at this; exact this) hn hkn hf hl1 (by omega) (by omega) hP hD hS (lv_sub hl [0, 1, 2] rfl)
      rw [ham]
      refine lv_if_eq (tgt := 56) hx hb dX4_writeLine_20 (by decide) (fun z => absurd z (by decide)) (fun z => ?_)
      have tail : ∀ (t1 : Nat → Nat) (k1 q1 n1 : Nat) (ml1 : Int32) (f1 : Nat → Int32) (H : Heap) (locs : List Loc) (cells1 slots1 : Nat), kPlus (t, k) = (t1, k1) → k1 + sb_dg (kWt i) ≤ kBd i → (n1 = 16 ∨ n1 = 34) → k1 ≤ n1 → sb_Fit f1 → sb_Lat t1 k1 f1 → cells1 ≤ cells + 1 → slots1 ≤ slots + 34 → kp g [X4W g oF (kFr oC oS oH oR oT oB) vF, JOW oB q1 ml1 (nI k1), JAW g q1 n1 f1] H → kd A [X4W g oF (kFr oC oS oH oR oT oB) vF, JOW oB q1 ml1 (nI k1), JAW g q1 n1 f1] → va_S A s.heap H locs →
          W p l e (kRm 6 20 680 400) s m args below meth c H locs cells1 slots1 (MQ below (kQv g (fun u => ∃ v, u = X4W g oF (kFr oC oS oH oR oT oB) vF :: v ∧ kSBt g oB (kLine w) v) A) args s 20 680 A) (F0 m 43 ls []) := by
        intro t1 k1 q1 n1 ml1 f1 H locs cells1 slots1 hp1 hkb hn1 hk1 hf1 hl1 hc1 hs1 hP hD hS
        refine lv_aload_n hx hb dX4_writeLine_43 rfl (lv_at hl 1 rfl) ?_
        refine kg_get (v := .ref oB) C kFX4 (k := 7) kw308 hP (i := 0) (q := 0) rfl rfl (by decide) rfl dX4_writeLine_44 ?_
        refine kg_tab C 2 (by decide) hE hS kw450 dX4_writeLine_47 ?_
        refine lv_iload_n hx hb dX4_writeLine_50 rfl (lv_at hl 0 rfl) ?_
        refine kg_tald C 2 (by decide) hE hS (vp_in_nI (by show i < 8; omega) (by decide)) dX4_writeLine_51 ?_
        rw [k_wt i (by omega)]
        refine kA_V (As := [.int (nI (kWt i))]) (rest := []) (wr := [X4W g oF (kFr oC oS oH oR oT oB) vF]) C (J4_append_bf812_c l g oB q1 n1 ml1 f1 t1 k1 hn1 hk1 hf1 hl1 (kWt i) hbw.1 (by omega)) (cwV 1 hts (k_gV kw1281 ca_J4_append_bf812) rfl rfl rfl ⟨rfl, pnJ4_append_bf812⟩ ⟨Nat.le_of_ble_eq_true rfl, Nat.le_of_ble_eq_true rfl⟩) hE hS hA hP hD [1, 2] [0] rfl rfl ⟨rfl, rfl, by decide⟩ (k_recv C kFJ4 hP (i := 1) (q := 0) rfl rfl) rfl hl.1 rfl rfl dX4_writeLine_52 ⟨by show _ ≤ 20; omega, by show _ ≤ 680; omega⟩ (fun ra u H locs hp hP hD hS => ?_)
        obtain ⟨q2, n2, ml2, f2, rfl, hn2, hk2, hf2, hl2⟩ := hp
        refine lv_pop hx hb dX4_writeLine_55 rfl ?_
        refine lv_iinc (v := (nI i + Int32.ofInt (-1))) (lv' := [(2, .int (nI i + Int32.ofInt (-1))), (0, .ref oF), (1, .int w)]) hx hb dX4_writeLine_56 hl (k := 0) rfl rfl (by decide) rfl (fun ls hl => ?_)
        refine lv_goto (tgt := 11) hx hb dX4_writeLine_59 (by decide) ?_
        exact ih _ _ _ q2 n2 ml2 f2 H locs ls _ _ (by omega) rfl (by omega) (by have := hL; rw [kLr, show kLs w i (t, k) = _ from if_pos ham, hp1] at this; exact this) hn2 hk2 hf2 hl2 (by omega) (by omega) hP hD hS (lv_sub hl [0, 1, 2] rfl)
      refine lv_aload_n hx hb dX4_writeLine_23 rfl (lv_at hl 1 rfl) ?_
      refine kg_get (v := .ref oB) C kFX4 (k := 7) kw308 hP (i := 0) (q := 0) rfl rfl (by decide) rfl dX4_writeLine_24 ?_
      refine kR_V (As := []) (rest := []) C (J4_length_8abf5_c l g oB q ml (nI k)) (cwV 0 hts (k_gV kw1267 ca_J4_length_8abf5) rfl rfl rfl ⟨rfl, pnJ4_length_8abf5⟩ ⟨Nat.le_of_ble_eq_true rfl, Nat.le_of_ble_eq_true rfl⟩) hE hS (hP.pick [1] rfl) (k_recv C kFJ4 hP (i := 1) (q := 0) rfl rfl) rfl hl.1 rfl rfl dX4_writeLine_27 ⟨by show _ ≤ 20; omega, by show _ ≤ 680; omega⟩ ?_
      by_cases hk0 : k = 0
      · subst hk0
        refine lv_if_le (tgt := 43) hx hb dX4_writeLine_30 (by decide) (fun z => ?_) (fun z => absurd (by decide) z)
        exact tail t 0 q n ml f H locs cells slots (if_pos rfl) (by omega) hn hkn hf hl1 (by omega) (by omega) hP hD hS
      refine lv_if_le (tgt := 43) hx hb dX4_writeLine_30 (by decide) (fun z => absurd z (nI_nle (by omega) (by omega))) (fun z => ?_)
      refine lv_aload_n hx hb dX4_writeLine_33 rfl (lv_at hl 1 rfl) ?_
      refine kg_get (v := .ref oB) C kFX4 (k := 7) kw308 hP (i := 0) (q := 0) rfl rfl (by decide) rfl dX4_writeLine_34 ?_
      refine lv_bipush (v := 43) hx hb dX4_writeLine_37 (by decide) ?_
      refine kA_V (As := [.int (nI 43)]) (rest := []) (wr := [X4W g oF (kFr oC oS oH oR oT oB) vF]) C (J4_append_cf468_c l g oB q n ml f t k hn hkn hf hl1 43 (by decide) (by omega)) (cwV 1 hts (k_gV kw1268 ca_J4_append_cf468) rfl rfl rfl ⟨rfl, pnJ4_append_cf468⟩ ⟨Nat.le_of_ble_eq_true rfl, Nat.le_of_ble_eq_true rfl⟩) hE hS hA hP hD [1, 2] [0] rfl rfl ⟨rfl, rfl, by decide⟩ (k_recv C kFJ4 hP (i := 1) (q := 0) rfl rfl) rfl hl.1 rfl rfl dX4_writeLine_39 ⟨by show _ ≤ 20; omega, by show _ ≤ 680; omega⟩ (fun ra u H locs hp hP hD hS => ?_)
      obtain ⟨q1, n1, ml1, f1, rfl, hn1, hk1, hf1, hl1'⟩ := hp
      refine lv_pop hx hb dX4_writeLine_42 rfl ?_
      exact tail _ _ q1 n1 ml1 f1 H locs _ _ (if_neg hk0) (by omega) hn1 hk1 hf1 hl1' (by omega) (by omega) hP hD hS
  refine lv_aload_n hx hb dX4_writeLine_0 rfl (lv_at hl 0 rfl) ?_
  refine kg_get (v := .ref oB) C kFX4 (k := 7) kw308 hP (i := 0) (q := 0) rfl rfl (by decide) rfl dX4_writeLine_1 ?_
  refine lv_iconst (v := 0) hx hb dX4_writeLine_4 (by decide) ?_
  refine kV_V (As := [.int 0]) (rest := []) (wr := [X4W g oF (kFr oC oS oH oR oT oB) vF]) C (J4_setLength_d00df_c l g oB q n ml f k hn hk hf) (cwV 1 hts (k_gV kw1036 ca_J4_setLength_d00df) rfl rfl rfl ⟨rfl, pnJ4_setLength_d00df⟩ ⟨Nat.le_of_ble_eq_true rfl, Nat.le_of_ble_eq_true rfl⟩) hE hS hA hP hD [1, 2] [0] rfl rfl ⟨rfl, rfl, by decide⟩ (k_recv C kFJ4 hP (i := 1) (q := 0) rfl rfl) rfl hl.1 rfl rfl dX4_writeLine_5 ⟨Nat.le_of_ble_eq_true rfl, Nat.le_of_ble_eq_true rfl⟩ (fun u H locs hp hP hD hS => ?_)
  obtain ⟨q1, n1, ml1, f1, rfl, hn1, hf1⟩ := hp
  refine lv_bipush (v := 7) hx hb dX4_writeLine_8 (by decide) ?_
  refine lv_istore_n (lv' := [(2, .int 7), (0, .ref oF), (1, .int w)]) hx hb dX4_writeLine_10 rfl hl (by decide) rfl (fun ls hl => ?_)
  exact loop 8 7 (fun _ => 0) 0 q1 n1 ml1 f1 H locs ls _ _ (Nat.le_refl _) (by decide) (Nat.le_refl _) rfl hn1 (Nat.zero_le _) hf1 (fun j hj => absurd hj (Nat.not_lt_zero _)) (by decide) (by decide) hP hD hS (lv_sub hl [0, 1, 2] rfl)
