/-! the first object: refusals, answers, the text of sixty letters -/
section EF
variable (R : Nat → Int32)
theorem er_jar : kAp kE19 R 74 0 0 0 = (true, kR3 R 2 6) := rfl
theorem er_bag : kAp kE19 R 66 5 0 0 = (true, kR3 R 2 6) := rfl
theorem er_fill : kAp kE19 R 102 0 0 1 = (true, kR3 R 7 0) := by rw [kap_102]; rfl
theorem er_empty : kAp kE20 R 101 1 1 0 = (true, kR3 R 7 0) := by rw [kap_101]; rfl
theorem er_oath1 : kAp kE184 R 111 0 0 0 = (true, kR3 R 9 30) := rfl
theorem er_oath2 : kAp kE187 R 111 0 0 0 = (true, kR3 R 8 20) := rfl
end EF
theorem eq_told : kA1 (X4_told_f kF0 kE21.1 kE21.2 0) = 388 := by decide +kernel
theorem eq_rest : kA1 (X4_rest_f kF0 kE21.1 kE21.2 0) = 62 := by decide +kernel
theorem eq_onPan : kA1 (X4_onPan_f kF0 kE21.1 kE21.2 0) = 255 := by decide +kernel
theorem eq_pays : kA2 2 (X4_pays_f kF0 kE21.1 kE21.2 0 1) = 5 := by decide +kernel
theorem eq_w1 : kA2 2 (X4_weightOf_f kF0 (kEw 159).1 (kEw 159).2 7 1) = 20 := by decide +kernel
theorem eq_w3 : kA2 2 (X4_weightOf_f kF0 (kEw 159).1 (kEw 159).2 7 3) = -1 := by decide +kernel
theorem eq_w2 : kA2 2 (X4_weightOf_f kF0 (kEw 159).1 (kEw 159).2 7 2) = 160 := by decide +kernel
theorem eq_rest1 : kA1 (X4_rest_f kF0 (kEw 159).1 (kEw 159).2 1) = 100 := by decide +kernel
theorem eq_again : kA1 (X4_toldAgain_f kF0 (kEw 159).1 (kEw 159).2 1) = 388 := by decide +kernel
theorem eq_not1 : kA1 ((X4_isNoticed_f kF0 kE184.1 kE184.2 3).1, b2i (X4_isNoticed_f kF0 kE184.1 kE184.2 3).2) = 1 := by decide +kernel
theorem eq_not0 : kA1 ((X4_isNoticed_f kF0 kE185.1 kE185.2 3).1, b2i (X4_isNoticed_f kF0 kE185.1 kE185.2 3).2) = 0 := by decide +kernel
section EA
variable (h : List kK) (T : kK)
theorem ec_0 : kAcc kE1 h T 0 = 60 := (kAcc_lt (i := 0) (by decide)).trans (by decide +kernel)
theorem ec_6 : kAcc kE21 h T 6 = 3000 := (kAcc_lt (i := 6) (by decide)).trans (by decide +kernel)
theorem ec_7 : kAcc kE21 h T 7 = 2400 := (kAcc_lt (i := 7) (by decide)).trans (by decide +kernel)
theorem ec_2 : kAcc kE22 h T 2 = 189 := (kAcc_lt (i := 2) (by decide)).trans (by decide +kernel)
theorem ec_13 : kAcc (kEw 159) h T 13 = 38 := (kAcc_lt (i := 13) (by decide)).trans (by decide +kernel)
theorem ec_13b : kAcc kE182 h T 13 = 18 := (kAcc_lt (i := 13) (by decide)).trans (by decide +kernel)
theorem ec_2b : kAcc kE182 h T 2 = 187 := (kAcc_lt (i := 2) (by decide)).trans (by decide +kernel)
theorem ec_4 : kAcc kC0 h T 4 = 0 := (kAcc_lt (i := 4) (by decide)).trans (by decide +kernel)
theorem ec_2c : kAcc kC0 h T 2 = 20 := (kAcc_lt (i := 2) (by decide)).trans (by decide +kernel)
theorem ec_14 {C : kK} {h : List kK} {n : Nat} (hh : h.length = n) : kAcc C h T 14 = nI n := by rw [← hh]; rfl
theorem ec_15 {C : kK} : kAcc C h T 15 = T.1 1 := rfl
end EA
theorem el_1 : X4_checkBag_f kF0 kE21.1 kE21.2 0 = 0 := by decide +kernel
theorem el_2 : (kLine (X4_line_w kE21.1 kE21.2 0)).2 = 26 := by decide +kernel
theorem el_3 : ∀ i, i < 26 → kA1 (X4_character_f (kLine (X4_line_w kE21.1 kE21.2 0)) (nI i)) = kChr (([50, 48, 48, 43, 49, 48, 48, 43, 53, 48, 43, 50, 48, 43, 49, 48, 43, 53, 43, 50, 43, 49, 61, 51, 56, 56] : List Int32).getD i 0) := by decide +kernel
/-- the buffer after i letters -/
def kEt (T0 : kK) : Nat → kK
  | 0 => T0
  | i + 1 => (X4_append_f kF0 (kEt T0 i).1 (kEt T0 i).2 (nI (65 + i))).2.2
theorem kEt_len {T0 : kK} (h0 : T0.1 1 = 0) : ∀ i : Nat, i ≤ 60 → (kEt T0 i).1 1 = nI i
  | 0, _ => h0
  | i + 1, h => (kApp_at (by omega) (kEt_len h0 i (by omega)) _).2.2
theorem kEt_c0 {T0 : kK} (h0 : T0.1 1 = 0) : ∀ i : Nat, i < 60 → (kEt T0 (i + 1)).2 0 0 = 65
  | 0, _ => by
    have hc : T0.1 1 < 60 := by rw [h0]; decide
    have e : kEt T0 1 = (upd T0.1 1 (T0.1 1 + 1), va_up T0.2 0 (upd (T0.2 0) (T0.1 1).toNatClampNeg (vp_nar .char (nI 65)))) := congrArg (fun z : Nat × Int32 × kK => z.2.2) (if_pos hc)
    rw [e, h0]
    show upd (T0.2 0) 0 (vp_nar .char (nI 65)) 0 = 65
    unfold upd
    rw [if_pos rfl]
    decide +kernel
  | i + 1, h => by
    have h1 := kEt_len h0 (i + 1) (by omega)
    have hc : (kEt T0 (i + 1)).1 1 < 60 := by rw [h1]; exact (nI_ltI (b := 60) (by omega) (by omega)).mpr (by omega)
    have e : kEt T0 (i + 1 + 1) = (upd (kEt T0 (i + 1)).1 1 ((kEt T0 (i + 1)).1 1 + 1), va_up (kEt T0 (i + 1)).2 0 (upd ((kEt T0 (i + 1)).2 0) ((kEt T0 (i + 1)).1 1).toNatClampNeg (vp_nar .char (nI (65 + (i + 1)))))) := congrArg (fun z : Nat × Int32 × kK => z.2.2) (if_pos hc)
    rw [e, h1, nI_clamp (by omega)]
    show upd ((kEt T0 (i + 1)).2 0) (i + 1) (vp_nar .char (nI (65 + (i + 1)))) 0 = 65
    unfold upd
    rw [if_neg (by omega)]
    exact kEt_c0 h0 i (by omega)
theorem et_full {T : kK} (h : T.1 1 = 60) (p : Int32) : kA1 ((X4_append_f kF0 T.1 T.2 p).1, (X4_append_f kF0 T.1 T.2 p).2.1) = -1001 ∧ (X4_append_f kF0 T.1 T.2 p).2.2 = T := by
  have e : X4_append_f kF0 T.1 T.2 p = (5, 0, T.1, T.2) := if_neg (by rw [h]; decide)
  rw [e]
  exact ⟨rfl, rfl⟩
theorem et_ct {T : kK} (h : T.1 1 = 60) (h0 : T.2 0 0 = 65) : (kCt T).1 = -1 ∧ (kCt T).2.1 2 = 0 := by
  have cl : (0 : Int32).toNatClampNeg = 0 := rfl
  have e : X1_readCommand_f (upd T.1 2 0) T.2 = (false, upd (upd T.1 2 0) 3 65, T.2) := by
    unfold X1_readCommand_f
    have q2 : (upd T.1 2 0) 2 = 0 := rfl
    have q1 : (upd T.1 2 0) 1 = 60 := h
    rw [if_pos (by rw [q2]; decide), if_pos (by rw [q1, q2]; decide), q2, cl, h0, if_neg (by decide +kernel)]
  have f : kCt T = (-1, upd (upd T.1 2 0) 3 65, T.2) := by
    show X1_countCommands_lp7b T.1 T.2 (X1_countCommands_lp7 T.1 T.2 60) 1 (upd T.1 2 0) T.2 = _
    unfold X1_countCommands_lp7b
    rw [if_neg (by decide), e, if_neg (by intro z; cases z)]
  rw [f]
  exact ⟨rfl, rfl⟩
theorem et_cmd {g : kG} {oF : Nat} {F : Nat → Int32} {C S : kK} {h : List kK} {R : Nat → Int32} {T : kK} {ln : kTx} {x : Int32} {u : List va_W} (h1 : T.1 1 = 60) (h0 : T.2 0 0 = 65) (hp : kCmd g oF F C S h R T ln x u) : x = -1001 ∧ ∃ (F1 : Nat → Int32) (T1 : kK), F1 2 = F 2 ∧ F1 6 = 0 ∧ T1.1 1 = 0 ∧ kOb g oF F1 C S h R T1 ln u := by
  obtain ⟨c1, c2⟩ := et_ct h1 h0
  obtain ⟨T', hT', ⟨-, hx, hO⟩ | ⟨hne, -⟩ | ⟨n, h1, h60, hn, -⟩⟩ := hp
  · exact ⟨hx, upd F 6 ((kCt T).2.1 2), T', rfl, c2, hT', hO⟩
  · exact absurd c1 hne
  · rw [c1] at hn
    exact absurd hn.symm ((by decide +kernel : ∀ k, k < 61 → nI k ≠ -1) n (by omega))
