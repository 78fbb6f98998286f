
abbrev wL_asks : List Cond := Cond.code yL_asks cL_asks 6 (some .long) :: kW
set_option maxHeartbeats 8000000 in
set_option maxRecDepth 100000 in
theorem L_asks_c (l : Launch) (hfl : l.stackTraces = false) (g : kG) (oF : Nat) (F : Nat → Int32) (C S : kK) (h : List kK) (R : Nat → Int32) (T : kK) (ln : kTx) (cs : List va_W) (hO : kOb g oF F C S h R T ln cs)  : kLl kX0 l yL_asks wL_asks 10 543 574 6828 g [.ref oF] cs (fun x u => x = kAsk C ∧ ∃ ln1 : kTx, kOb g oF F C S h R T ln1 u) := by
  refine kLg_ofC (cc := cL_asks) (nL := 6) (ret := some .long) (lv := [(0, .ref oF)]) (by decide) rfl (Nat.le_of_ble_eq_true rfl) rfl ?_
  intro p e s m args below meth c ls A hN hX K hP hD hE hA hS hl
  have K : kC p c cL_asks s m args meth RL g 6 (some .long) := K
  have hx := K.1.1
  have hb := K.1.2.1
  have hts := K.1.2.2.2.2
  obtain ⟨hnb, hnj⟩ : (kNb C ≤ 6 ∧ C.1 7 = nI (kNb C)) ∧ (kNj C ≤ 6 ∧ C.1 4 = nI (kNj C)) := by
    obtain ⟨oC, oS, oH, oR, oT, oB, rC, rS, rH, rR, rT, oQ, rQ, vH, aH, q, n, ml, f, -, -, -, hIv⟩ := hO
    exact kNb_ok hIv
  refine lv_ldc2 (v := 31) hx hb K.1.2.2.2.1 (hts _ kw1308) dL_asks_0 ?_
  refine lv_aload_n hx hb dL_asks_3 rfl (lv_at hl 0 rfl) ?_
  refine kLd_SW (As := [.ref oF]) (rest := [.long 31]) (wr := []) K kX0_s (L_honestShare_c l hfl g oF F C S h R T ln _ hO ) hN kX0_fr (vx_cwSW 1 hts (k_gS kw1309 cs_L_honestShare) rfl rfl rfl pnL_honestShare ⟨Nat.le_of_ble_eq_true rfl, Nat.le_of_ble_eq_true rfl⟩) hE hS hA hP hD rfl hl.1 rfl rfl dL_asks_4 ⟨Nat.le_of_ble_eq_true rfl, Nat.le_of_ble_eq_true rfl⟩ (fun r u H locs hp hP hD hS => ?_)
  have hP : kp g u H := hP
  have hD : kd A u := hD
  obtain ⟨hr, hO⟩ := hp
  subst hr
  refine kO_S (As := [.double (kHs C)]) (rest := [.long 31]) K (Jxe99ae_doubleToLongBits_ccdee_c l g (kHs C)) (va_cwS 1 hts (k_gS kw1334 cs_Jxe99ae_doubleToLongBits_ccdee) rfl rfl rfl pnJxe99ae_doubleToLongBits_ccdee ⟨Nat.le_of_ble_eq_true rfl, Nat.le_of_ble_eq_true rfl⟩) hE hS (hP.pick [] rfl) rfl hl.1 rfl rfl dL_asks_7 ⟨Nat.le_of_ble_eq_true rfl, Nat.le_of_ble_eq_true rfl⟩ ?_
  refine lv_lmul hx hb dL_asks_10 ?_
  refine lv_aload_n hx hb dL_asks_11 rfl (lv_at hl 0 rfl) ?_
  refine kLf_SW (As := [.ref oF]) (rest := [.long (31 * (kBitD (kHs C)))]) (wr := []) K kX0_s (L_meanDust_c l hfl g oF F C S h R T ln _ hO ) hN kX0_fr (vx_cwSW 1 hts (k_gS kw1344 cs_L_meanDust) rfl rfl rfl pnL_meanDust ⟨Nat.le_of_ble_eq_true rfl, Nat.le_of_ble_eq_true rfl⟩) hE hS hA hP hD rfl hl.1 rfl rfl dL_asks_12 ⟨Nat.le_of_ble_eq_true rfl, Nat.le_of_ble_eq_true rfl⟩ (fun r u H locs hp hP hD hS => ?_)
  have hP : kp g u H := hP
  have hD : kd A u := hD
  obtain ⟨hr, hO⟩ := hp
  subst hr
  refine kR_S (As := [.float (kMd C)]) (rest := [.long (31 * (kBitD (kHs C)))]) K (Jxf58ca_floatToIntBits_5c35a_c l g (kMd C)) (va_cwS 1 hts (k_gS kw1354 cs_Jxf58ca_floatToIntBits_5c35a) rfl rfl rfl pnJxf58ca_floatToIntBits_5c35a ⟨Nat.le_of_ble_eq_true rfl, Nat.le_of_ble_eq_true rfl⟩) hE hS (hP.pick [] rfl) rfl hl.1 rfl rfl dL_asks_15 ⟨Nat.le_of_ble_eq_true rfl, Nat.le_of_ble_eq_true rfl⟩ ?_
  refine lv_i2l hx hb dL_asks_18 rfl ?_
  refine lv_ladd hx hb dL_asks_19 ?_
  refine lv_lstore_n (lv' := [(1, .long (kAs0 C)), (0, .ref oF)]) hx hb dL_asks_20 rfl hl (by decide) rfl (fun ls hl => ?_)
  refine lv_iconst (v := 0) hx hb dL_asks_21 (by decide) ?_
  refine lv_istore_n (lv' := [(3, .int 0), (1, .long (kAs0 C)), (0, .ref oF)]) hx hb dL_asks_22 rfl hl (by decide) rfl (fun ls hl => ?_)
  refine al1 hfl K hN hE hA hnb hnj (CX := 16) (SX := 96) (by omega) (by omega) (FIN := kIt (kAs1 C) 14 0 (kAs0 C)) (fun ln u H locs ls hO hP hD hS hl => ?_) 14 0 2 12 (kAs0 C) ln _ _ _ _ (by omega) (by omega) (by omega) rfl hO hP hD hS (lv_sub hl [0, 1, 2] rfl)
  refine lv_iconst (v := 0) hx hb dL_asks_48 (by decide) ?_
  refine lv_istore_n (lv' := [(3, .int 0), (1, .long (kIt (kAs1 C) 14 0 (kAs0 C))), (0, .ref oF)]) hx hb dL_asks_49 rfl hl (by decide) rfl (fun ls hl => ?_)
  refine al2 hfl K hN hE hA hnb hnj (CX := 35) (SX := 210) (by omega) (by omega) (FIN := kIt (kAs2 C) (kNj C) 0 (kIt (kAs1 C) 14 0 (kAs0 C))) (fun ln u H locs ls hO hP hD hS hl => ?_) (kNj C) 0 16 96 (kIt (kAs1 C) 14 0 (kAs0 C)) ln _ _ _ _ (by omega) (by omega) (by omega) rfl hO hP hD hS (lv_sub hl [0, 1, 2] rfl)
  refine lv_iconst (v := 0) hx hb dL_asks_91 (by decide) ?_
  refine lv_istore_n (lv' := [(3, .int 0), (1, .long (kIt (kAs2 C) (kNj C) 0 (kIt (kAs1 C) 14 0 (kAs0 C)))), (0, .ref oF)]) hx hb dL_asks_92 rfl hl (by decide) rfl (fun ls hl => ?_)
  refine al3 hfl K hN hE hA hnb hnj (CX := 522) (SX := 6516) (by omega) (by omega) (FIN := kIt (kAs3 C) (kNb C) 0 (kIt (kAs2 C) (kNj C) 0 (kIt (kAs1 C) 14 0 (kAs0 C)))) (fun ln u H locs ls hO hP hD hS hl => ?_) (kNb C) 0 35 210 (kIt (kAs2 C) (kNj C) 0 (kIt (kAs1 C) 14 0 (kAs0 C))) ln _ _ _ _ (by omega) (by omega) (by omega) rfl hO hP hD hS (lv_sub hl [0, 1, 2] rfl)
  refine lv_iconst (v := 0) hx hb dL_asks_287 (by decide) ?_
  refine lv_istore_n (lv' := [(3, .int 0), (1, .long (kIt (kAs3 C) (kNb C) 0 (kIt (kAs2 C) (kNj C) 0 (kIt (kAs1 C) 14 0 (kAs0 C))))), (0, .ref oF)]) hx hb dL_asks_288 rfl hl (by decide) rfl (fun ls hl => ?_)
  refine al4 hfl K hN hE hA hnb hnj (CX := 554) (SX := 6708) (by omega) (by omega) (FIN := kIt (kAs4 C) 8 0 (kIt (kAs3 C) (kNb C) 0 (kIt (kAs2 C) (kNj C) 0 (kIt (kAs1 C) 14 0 (kAs0 C))))) (fun ln u H locs ls hO hP hD hS hl => ?_) 8 0 522 6516 (kIt (kAs3 C) (kNb C) 0 (kIt (kAs2 C) (kNj C) 0 (kIt (kAs1 C) 14 0 (kAs0 C)))) ln _ _ _ _ (by omega) (by omega) (by omega) rfl hO hP hD hS (lv_sub hl [0, 1, 2] rfl)
  refine lv_iconst (v := 0) hx hb dL_asks_331 (by decide) ?_
  refine lv_istore_n (lv' := [(3, .int 0), (1, .long (kIt (kAs4 C) 8 0 (kIt (kAs3 C) (kNb C) 0 (kIt (kAs2 C) (kNj C) 0 (kIt (kAs1 C) 14 0 (kAs0 C)))))), (0, .ref oF)]) hx hb dL_asks_332 rfl hl (by decide) rfl (fun ls hl => ?_)
  refine al5 hfl K hN hE hA hnb hnj (CX := 574) (SX := 6828) (by omega) (by omega) (FIN := kAsk C) (fun ln u H locs ls hO hP hD hS hl => ?_) 4 0 554 6708 (kIt (kAs4 C) 8 0 (kIt (kAs3 C) (kNb C) 0 (kIt (kAs2 C) (kNj C) 0 (kIt (kAs1 C) 14 0 (kAs0 C))))) ln _ _ _ _ (by omega) (by omega) (by omega) rfl hO hP hD hS (lv_sub hl [0, 1, 2] rfl)
  refine lv_lload_n hx hb dL_asks_380 rfl (lv_at hl 0 rfl) ?_
  exact kLl_ret K hP hD hS ⟨rfl, ln, hO⟩ ⟨Nat.le_of_ble_eq_true rfl, Nat.le_of_ble_eq_true rfl⟩ dL_asks_381
