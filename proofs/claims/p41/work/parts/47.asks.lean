/-! asks: what it answers of a Caravan -/
def h31 (s : Int64) (x : Int32) : Int64 := 31 * s + x.toInt64
def kIt (f : Nat → Int64 → Int64) : Nat → Nat → Int64 → Int64
  | 0, _, s => s
  | n + 1, i, s => kIt f n (i + 1) (f i s)
def kNb (C : kK) : Nat := (C.1 7).toNatClampNeg
def kNj (C : kK) : Nat := (C.1 4).toNatClampNeg
def kHs (C : kK) : UInt64 := if (X4_honestShare_f C.1 C.2).1 = 0 then (X4_honestShare_f C.1 C.2).2 else 13875388141788987392
def kMd (C : kK) : UInt32 := if (X4_meanDust_f C.1 C.2).1 = 0 then (X4_meanDust_f C.1 C.2).2 else 3296346112
def kAs0 (C : kK) : Int64 := 31 * kBitD (kHs C) + (kBitF (kMd C)).toInt64
def kAs1 (C : kK) (i : Nat) (s : Int64) : Int64 := h31 s (kAcc C [] (kF0, kA0) (nI i))
def kAs2 (C : kK) (j : Nat) (s : Int64) : Int64 := h31 (h31 s (kA1 (X4_jarOf_f kF0 C.1 C.2 (nI j) true))) (kA1 (X4_jarOf_f kF0 C.1 C.2 (nI j) false))
def kAs31 (C : kK) (b : Nat) (w : Nat) (s : Int64) : Int64 := h31 s (kA2 2 (X4_bagOf_f kF0 C.1 C.2 (nI b) (nI w)))
def kAs32 (C : kK) (b : Nat) (s : Int64) : Int64 := h31 (h31 (h31 (h31 (h31 s (kA1 (X4_told_f kF0 C.1 C.2 (nI b)))) (kA1 (X4_toldAgain_f kF0 C.1 C.2 (nI b)))) (kA1 (X4_onPan_f kF0 C.1 C.2 (nI b)))) (kA1 (X4_rest_f kF0 C.1 C.2 (nI b)))) (kA1 (X4_honest_f kF0 C.1 C.2 (nI b)))
def kAs33 (C : kK) (b : Nat) (w : Nat) (s : Int64) : Int64 := h31 s (kA2 2 (X4_wouldGet_f kF0 C.1 C.2 (nI b) (nI w)))
def kAs34 (C : kK) (b : Nat) (s : Int64) : Int64 := h31 (h31 s (kA2 2 (X4_bestMarket_f kF0 C.1 C.2 (nI b)))) (kA1 (X4_ranked_f kF0 C.1 C.2 (nI b)))
def kLnb (C : kK) (b : Nat) : kTx := kLine (X4_line_w C.1 C.2 (nI b))
def kAs35 (C : kK) (b : Nat) (w : Nat) (s : Int64) : Int64 := h31 s (kA1 (X4_character_f (kLnb C b) (nI w)))
def kAs3 (C : kK) (b : Nat) (s : Int64) : Int64 := kIt (kAs35 C b) (kLnb C b).2 0 (kAs34 C b (kIt (kAs33 C b) 4 0 (kAs32 C b (kIt (kAs31 C b) 6 0 s))))
def kAs41 (C : kK) (b : Nat) (w : Nat) (s : Int64) : Int64 := h31 s (kA2 2 (X4_weightOf_f kF0 C.1 C.2 (nI b) (nI w)))
def kAs4 (C : kK) (k : Nat) (s : Int64) : Int64 := kIt (kAs41 C k) 4 0 s
def kAs5 (C : kK) (j : Nat) (s : Int64) : Int64 := h31 (h31 (h31 s (kA2 2 (X4_oathUntil_f kF0 C.1 C.2 (nI j)))) (kA1 ((X4_isNoticed_f kF0 C.1 C.2 (nI j)).1, b2i (X4_isNoticed_f kF0 C.1 C.2 (nI j)).2))) (kA2 2 (X4_pays_f kF0 C.1 C.2 (nI j) (nI j)))
def kAsk (C : kK) : Int64 := kIt (kAs5 C) 4 0 (kIt (kAs4 C) 8 0 (kIt (kAs3 C) (kNb C) 0 (kIt (kAs2 C) (kNj C) 0 (kIt (kAs1 C) 14 0 (kAs0 C)))))
theorem kAcc_4 {C : kK} {h : List kK} {T : kK} : kAcc C h T 4 = C.1 4 := rfl
theorem kAcc_5 {C : kK} {h : List kK} {T : kK} : kAcc C h T 5 = C.1 7 := rfl
theorem kAcc_lt {C : kK} {h : List kK} {T : kK} {i : Nat} (hi : i < 14) : kAcc C h T (nI i) = kAcc C [] (kF0, kA0) (nI i) :=
  match i, hi with
  | 0, _ => rfl | 1, _ => rfl | 2, _ => rfl | 3, _ => rfl | 4, _ => rfl | 5, _ => rfl | 6, _ => rfl | 7, _ => rfl | 8, _ => rfl | 9, _ => rfl | 10, _ => rfl | 11, _ => rfl | 12, _ => rfl | 13, _ => rfl
  | n + 14, hh => absurd hh (by omega)
theorem kNb_ok {C S : kK} {h : List kK} {T : kK} (H : kIv C S h T) : (kNb C ≤ 6 ∧ C.1 7 = nI (kNb C)) ∧ (kNj C ≤ 6 ∧ C.1 4 = nI (kNj C)) := by
  obtain ⟨⟨nb, h1, h2⟩, ⟨nj, h3, h4⟩, -⟩ := H.1
  unfold kNb kNj
  rw [h2, h4, nI_clamp (by omega), nI_clamp (by omega)]
  exact ⟨⟨h1, rfl⟩, h3, rfl⟩
theorem kcb_ok {C : kK} {b : Nat} (hnb : kNb C ≤ 6 ∧ C.1 7 = nI (kNb C)) (hb : b < kNb C) : X4_checkBag_f kF0 C.1 C.2 (nI b) = 0 := by
  have e : X0_hasBag_f C.1 C.2 (nI b) = true := by
    unfold X0_hasBag_f
    rw [if_neg (nI_pos (by omega)), hnb.2, if_neg (nI_ge hb (by omega))]
  exact if_pos e
theorem pnL_account : yL_account.cls ≠ "java/lang/invoke/MethodHandle" ∧ yL_account.cls ≠ "java/lang/invoke/VarHandle" ∧ (parseMethodDescriptor yL_account.desc).map (fun d => d.parameters.length) = some 2 := by decide +kernel
theorem cs_L_account : kCst yL_account (Cond.codeWith yL_account cL_account 3 (some .int) [(0, 5, 6, 60)]) := ⟨k_w 5 174 rfl rfl, k_w 2 0 rfl rfl, k_w 5 175 rfl rfl⟩
theorem pnL_jarOf : yL_jarOf.cls ≠ "java/lang/invoke/MethodHandle" ∧ yL_jarOf.cls ≠ "java/lang/invoke/VarHandle" ∧ (parseMethodDescriptor yL_jarOf.desc).map (fun d => d.parameters.length) = some 3 := by decide +kernel
theorem cs_L_jarOf : kCst yL_jarOf (Cond.codeWith yL_jarOf cL_jarOf 4 (some .int) [(0, 6, 7, 55)]) := ⟨k_w 7 97 rfl rfl, k_w 2 0 rfl rfl, k_w 7 98 rfl rfl⟩
theorem pnL_bagOf : yL_bagOf.cls ≠ "java/lang/invoke/MethodHandle" ∧ yL_bagOf.cls ≠ "java/lang/invoke/VarHandle" ∧ (parseMethodDescriptor yL_bagOf.desc).map (fun d => d.parameters.length) = some 3 := by decide +kernel
theorem cs_L_bagOf : kCst yL_bagOf (Cond.codeWith yL_bagOf cL_bagOf 4 (some .int) [(0, 6, 7, 55), (0, 6, 12, 60)]) := ⟨k_w 7 106 rfl rfl, k_w 2 0 rfl rfl, k_w 7 107 rfl rfl⟩
theorem pnL_told : yL_told.cls ≠ "java/lang/invoke/MethodHandle" ∧ yL_told.cls ≠ "java/lang/invoke/VarHandle" ∧ (parseMethodDescriptor yL_told.desc).map (fun d => d.parameters.length) = some 2 := by decide +kernel
theorem cs_L_told : kCst yL_told (Cond.codeWith yL_told cL_told 3 (some .int) [(0, 5, 6, 55)]) := ⟨k_w 4 225 rfl rfl, k_w 2 0 rfl rfl, k_w 4 226 rfl rfl⟩
theorem pnL_toldAgain : yL_toldAgain.cls ≠ "java/lang/invoke/MethodHandle" ∧ yL_toldAgain.cls ≠ "java/lang/invoke/VarHandle" ∧ (parseMethodDescriptor yL_toldAgain.desc).map (fun d => d.parameters.length) = some 2 := by decide +kernel
theorem cs_L_toldAgain : kCst yL_toldAgain (Cond.codeWith yL_toldAgain cL_toldAgain 3 (some .int) [(0, 5, 6, 55)]) := ⟨k_w 5 1 rfl rfl, k_w 2 0 rfl rfl, k_w 5 2 rfl rfl⟩
theorem pnL_onPan : yL_onPan.cls ≠ "java/lang/invoke/MethodHandle" ∧ yL_onPan.cls ≠ "java/lang/invoke/VarHandle" ∧ (parseMethodDescriptor yL_onPan.desc).map (fun d => d.parameters.length) = some 2 := by decide +kernel
theorem cs_L_onPan : kCst yL_onPan (Cond.codeWith yL_onPan cL_onPan 3 (some .int) [(0, 5, 6, 55)]) := ⟨k_w 5 17 rfl rfl, k_w 2 0 rfl rfl, k_w 5 18 rfl rfl⟩
theorem pnL_rest : yL_rest.cls ≠ "java/lang/invoke/MethodHandle" ∧ yL_rest.cls ≠ "java/lang/invoke/VarHandle" ∧ (parseMethodDescriptor yL_rest.desc).map (fun d => d.parameters.length) = some 2 := by decide +kernel
theorem cs_L_rest : kCst yL_rest (Cond.codeWith yL_rest cL_rest 3 (some .int) [(0, 5, 6, 55)]) := ⟨k_w 5 24 rfl rfl, k_w 2 0 rfl rfl, k_w 5 25 rfl rfl⟩
theorem pnL_honest : yL_honest.cls ≠ "java/lang/invoke/MethodHandle" ∧ yL_honest.cls ≠ "java/lang/invoke/VarHandle" ∧ (parseMethodDescriptor yL_honest.desc).map (fun d => d.parameters.length) = some 2 := by decide +kernel
theorem cs_L_honest : kCst yL_honest (Cond.codeWith yL_honest cL_honest 3 (some .int) [(0, 5, 6, 55)]) := ⟨k_w 7 114 rfl rfl, k_w 2 0 rfl rfl, k_w 7 115 rfl rfl⟩
theorem pnL_wouldGet : yL_wouldGet.cls ≠ "java/lang/invoke/MethodHandle" ∧ yL_wouldGet.cls ≠ "java/lang/invoke/VarHandle" ∧ (parseMethodDescriptor yL_wouldGet.desc).map (fun d => d.parameters.length) = some 3 := by decide +kernel
theorem cs_L_wouldGet : kCst yL_wouldGet (Cond.codeWith yL_wouldGet cL_wouldGet 4 (some .int) [(0, 6, 7, 55), (0, 6, 12, 86)]) := ⟨k_w 7 121 rfl rfl, k_w 2 0 rfl rfl, k_w 7 122 rfl rfl⟩
theorem pnL_bestMarket : yL_bestMarket.cls ≠ "java/lang/invoke/MethodHandle" ∧ yL_bestMarket.cls ≠ "java/lang/invoke/VarHandle" ∧ (parseMethodDescriptor yL_bestMarket.desc).map (fun d => d.parameters.length) = some 2 := by decide +kernel
theorem cs_L_bestMarket : kCst yL_bestMarket (Cond.codeWith yL_bestMarket cL_bestMarket 3 (some .int) [(0, 5, 6, 55), (0, 5, 11, 86)]) := ⟨k_w 7 135 rfl rfl, k_w 2 0 rfl rfl, k_w 7 136 rfl rfl⟩
theorem pnL_ranked : yL_ranked.cls ≠ "java/lang/invoke/MethodHandle" ∧ yL_ranked.cls ≠ "java/lang/invoke/VarHandle" ∧ (parseMethodDescriptor yL_ranked.desc).map (fun d => d.parameters.length) = some 2 := by decide +kernel
theorem cs_L_ranked : kCst yL_ranked (Cond.codeWith yL_ranked cL_ranked 3 (some .int) [(0, 5, 6, 86)]) := ⟨k_w 7 147 rfl rfl, k_w 2 0 rfl rfl, k_w 7 148 rfl rfl⟩
theorem pnL_line : yL_line.cls ≠ "java/lang/invoke/MethodHandle" ∧ yL_line.cls ≠ "java/lang/invoke/VarHandle" ∧ (parseMethodDescriptor yL_line.desc).map (fun d => d.parameters.length) = some 2 := by decide +kernel
theorem cs_L_line : kCst yL_line (Cond.codeWith yL_line cL_line 3 (some .int) [(0, 5, 6, 55)]) := ⟨k_w 5 238 rfl rfl, k_w 2 0 rfl rfl, k_w 5 239 rfl rfl⟩
theorem pnL_character : yL_character.cls ≠ "java/lang/invoke/MethodHandle" ∧ yL_character.cls ≠ "java/lang/invoke/VarHandle" ∧ (parseMethodDescriptor yL_character.desc).map (fun d => d.parameters.length) = some 2 := by decide +kernel
theorem cs_L_character : kCst yL_character (Cond.codeWith yL_character cL_character 3 (some .int) [(0, 5, 6, 55)]) := ⟨k_w 7 16 rfl rfl, k_w 2 0 rfl rfl, k_w 7 17 rfl rfl⟩
theorem pnL_weightOf : yL_weightOf.cls ≠ "java/lang/invoke/MethodHandle" ∧ yL_weightOf.cls ≠ "java/lang/invoke/VarHandle" ∧ (parseMethodDescriptor yL_weightOf.desc).map (fun d => d.parameters.length) = some 3 := by decide +kernel
theorem cs_L_weightOf : kCst yL_weightOf (Cond.codeWith yL_weightOf cL_weightOf 4 (some .int) [(0, 6, 7, 55), (0, 6, 12, 60)]) := ⟨k_w 4 158 rfl rfl, k_w 2 0 rfl rfl, k_w 4 159 rfl rfl⟩
theorem pnL_oathUntil : yL_oathUntil.cls ≠ "java/lang/invoke/MethodHandle" ∧ yL_oathUntil.cls ≠ "java/lang/invoke/VarHandle" ∧ (parseMethodDescriptor yL_oathUntil.desc).map (fun d => d.parameters.length) = some 2 := by decide +kernel
theorem cs_L_oathUntil : kCst yL_oathUntil (Cond.codeWith yL_oathUntil cL_oathUntil 3 (some .int) [(0, 5, 6, 55), (0, 5, 11, 86)]) := ⟨k_w 7 163 rfl rfl, k_w 2 0 rfl rfl, k_w 7 164 rfl rfl⟩
theorem pnL_isNoticed : yL_isNoticed.cls ≠ "java/lang/invoke/MethodHandle" ∧ yL_isNoticed.cls ≠ "java/lang/invoke/VarHandle" ∧ (parseMethodDescriptor yL_isNoticed.desc).map (fun d => d.parameters.length) = some 2 := by decide +kernel
theorem cs_L_isNoticed : kCst yL_isNoticed (Cond.codeWith yL_isNoticed cL_isNoticed 3 (some .int) [(0, 13, 14, 55)]) := ⟨k_w 5 46 rfl rfl, k_w 2 0 rfl rfl, k_w 5 47 rfl rfl⟩
theorem pnL_pays : yL_pays.cls ≠ "java/lang/invoke/MethodHandle" ∧ yL_pays.cls ≠ "java/lang/invoke/VarHandle" ∧ (parseMethodDescriptor yL_pays.desc).map (fun d => d.parameters.length) = some 3 := by decide +kernel
theorem cs_L_pays : kCst yL_pays (Cond.codeWith yL_pays cL_pays 4 (some .int) [(0, 6, 7, 55), (0, 6, 12, 60)]) := ⟨k_w 5 31 rfl rfl, k_w 2 0 rfl rfl, k_w 5 32 rfl rfl⟩
theorem pnL_honestShare : yL_honestShare.cls ≠ "java/lang/invoke/MethodHandle" ∧ yL_honestShare.cls ≠ "java/lang/invoke/VarHandle" ∧ (parseMethodDescriptor yL_honestShare.desc).map (fun d => d.parameters.length) = some 1 := by decide +kernel
theorem cs_L_honestShare : kCst yL_honestShare (Cond.codeWith yL_honestShare cL_honestShare 2 (some .double) [(0, 4, 5, 124)]) := ⟨k_w 7 42 rfl rfl, k_w 2 0 rfl rfl, k_w 7 43 rfl rfl⟩
theorem pnL_meanDust : yL_meanDust.cls ≠ "java/lang/invoke/MethodHandle" ∧ yL_meanDust.cls ≠ "java/lang/invoke/VarHandle" ∧ (parseMethodDescriptor yL_meanDust.desc).map (fun d => d.parameters.length) = some 1 := by decide +kernel
theorem cs_L_meanDust : kCst yL_meanDust (Cond.codeWith yL_meanDust cL_meanDust 2 (some .float) [(0, 4, 5, 124)]) := ⟨k_w 7 77 rfl rfl, k_w 2 0 rfl rfl, k_w 7 78 rfl rfl⟩
theorem pnJxe99ae_doubleToLongBits_ccdee : yJxe99ae_doubleToLongBits_ccdee.cls ≠ "java/lang/invoke/MethodHandle" ∧ yJxe99ae_doubleToLongBits_ccdee.cls ≠ "java/lang/invoke/VarHandle" ∧ (parseMethodDescriptor yJxe99ae_doubleToLongBits_ccdee.desc).map (fun d => d.parameters.length) = some 1 := by decide +kernel
theorem cs_Jxe99ae_doubleToLongBits_ccdee : kCst yJxe99ae_doubleToLongBits_ccdee (Cond.code yJxe99ae_doubleToLongBits_ccdee cJxe99ae_doubleToLongBits_ccdee 2 (some .long)) := ⟨k_w 7 67 rfl rfl, k_w 2 29 rfl rfl, k_w 7 68 rfl rfl⟩
theorem pnJxf58ca_floatToIntBits_5c35a : yJxf58ca_floatToIntBits_5c35a.cls ≠ "java/lang/invoke/MethodHandle" ∧ yJxf58ca_floatToIntBits_5c35a.cls ≠ "java/lang/invoke/VarHandle" ∧ (parseMethodDescriptor yJxf58ca_floatToIntBits_5c35a.desc).map (fun d => d.parameters.length) = some 1 := by decide +kernel
theorem cs_Jxf58ca_floatToIntBits_5c35a : kCst yJxf58ca_floatToIntBits_5c35a (Cond.code yJxf58ca_floatToIntBits_5c35a cJxf58ca_floatToIntBits_5c35a 1 (some .int)) := ⟨k_w 7 87 rfl rfl, k_w 2 30 rfl rfl, k_w 7 88 rfl rfl⟩
theorem kw705 : Cond.methodLink RL 227 yL_weightOf ∈ kW := k_w 4 157 rfl rfl
theorem kw772 : Cond.methodLink RL 211 yL_told ∈ kW := k_w 4 224 rfl rfl
theorem kw788 : Cond.methodLink RL 213 yL_toldAgain ∈ kW := k_w 5 0 rfl rfl
theorem kw804 : Cond.methodLink RL 215 yL_onPan ∈ kW := k_w 5 16 rfl rfl
theorem kw811 : Cond.methodLink RL 217 yL_rest ∈ kW := k_w 5 23 rfl rfl
theorem kw818 : Cond.methodLink RL 233 yL_pays ∈ kW := k_w 5 30 rfl rfl
theorem kw833 : Cond.methodLink RL 231 yL_isNoticed ∈ kW := k_w 5 45 rfl rfl
theorem kw961 : Cond.methodLink RL 204 yL_account ∈ kW := k_w 5 173 rfl rfl
theorem kw1025 : Cond.methodLink RL 161 yL_line ∈ kW := k_w 5 237 rfl rfl
theorem kw1283 : Cond.methodLink RL 163 yL_character ∈ kW := k_w 7 15 rfl rfl
theorem kw1308 : Cond.constantLong RL 184 (31 : Int64) ∈ kW := k_w 7 40 rfl rfl
theorem kw1309 : Cond.methodLink RL 186 yL_honestShare ∈ kW := k_w 7 41 rfl rfl
theorem kw1334 : Cond.methodLink RL 189 yJxe99ae_doubleToLongBits_ccdee ∈ kW := k_w 7 66 rfl rfl
theorem kw1344 : Cond.methodLink RL 195 yL_meanDust ∈ kW := k_w 7 76 rfl rfl
theorem kw1354 : Cond.methodLink RL 198 yJxf58ca_floatToIntBits_5c35a ∈ kW := k_w 7 86 rfl rfl
theorem kw1364 : Cond.methodLink RL 206 yL_jarOf ∈ kW := k_w 7 96 rfl rfl
theorem kw1373 : Cond.methodLink RL 209 yL_bagOf ∈ kW := k_w 7 105 rfl rfl
theorem kw1381 : Cond.methodLink RL 219 yL_honest ∈ kW := k_w 7 113 rfl rfl
theorem kw1388 : Cond.methodLink RL 221 yL_wouldGet ∈ kW := k_w 7 120 rfl rfl
theorem kw1402 : Cond.methodLink RL 223 yL_bestMarket ∈ kW := k_w 7 134 rfl rfl
theorem kw1414 : Cond.methodLink RL 225 yL_ranked ∈ kW := k_w 7 146 rfl rfl
theorem kw1430 : Cond.methodLink RL 229 yL_oathUntil ∈ kW := k_w 7 162 rfl rfl
set_option maxHeartbeats 4000000 in
set_option maxRecDepth 100000 in
theorem al1 {p : Program} {l : Launch} (hfl : l.stackTraces = false) {e : Env} {s : State} {m : MethodId} {args : Array Value} {below : List Frame} {meth : Method} {c : Code} {A : Nat → Prop} {Q : State → Prop} {g : kG} (K : kC p c cL_asks s m args meth RL g 6 (some .long)) (hN : kNc s) (hE : kE g A s s.heap) (hA : ∀ q, s.heap.size ≤ q → A q) {oF : Nat} {F : Nat → Int32} {C S : kK} {h : List kK} {R : Nat → Int32} {T : kK} (hnb : kNb C ≤ 6 ∧ C.1 7 = nI (kNb C)) (hnj : kNj C ≤ 6 ∧ C.1 4 = nI (kNj C)) {CX SX : Nat} (hCX : CX ≤ 574) (hSX : SX ≤ 6828) {FIN : Int64} (kk : ∀ (ln : kTx) (u : List va_W) (H : Heap) (locs : List Loc) (ls : Array Slot), kOb g oF F C S h R T ln u → kp g u H → kd A u → va_S A s.heap H locs → lv_has ls 6 [(1, .long FIN), (0, .ref oF)] → W p l e (kRm 10 574 6828 543) s m args below meth c H locs CX SX Q (F0 m 48 ls [])) :
    ∀ (n i cells slots : Nat) (sm : Int64) (ln : kTx) (u : List va_W) (H : Heap) (locs : List Loc) (ls : Array Slot), i + n = 14 → cells + 1 * n + 0 ≤ CX → slots + 6 * n + 0 ≤ SX → kIt (kAs1 C) n i sm = FIN → kOb g oF F C S h R T ln u → kp g u H → kd A u → va_S A s.heap H locs → lv_has ls 6 [(3, .int (nI i)), (1, .long sm), (0, .ref oF)] → W p l e (kRm 10 574 6828 543) s m args below meth c H locs cells slots Q (F0 m 23 ls []) := by
  have hx := K.1.1
  have hb := K.1.2.1
  have hts := K.1.2.2.2.2
  intro n
  induction n with
  | zero =>
    intro i cells slots sm ln u H locs ls hin hc hs1 hs hO hP hD hS hl
    have hs : sm = FIN := hs
    subst hs
    refine lv_iload_n hx hb dL_asks_23 rfl (lv_at hl 0 rfl) ?_
    refine lv_bipush (v := 14) hx hb dL_asks_24 (by decide) ?_
    refine lv_icmp_ge (tgt := 48) hx hb dL_asks_26 (by decide) (fun z => ?_) (fun z => absurd (nI_le (a := 14) (b := i) (show 14 ≤ i by omega) (by omega)) z)
    exact W.widen (by omega) (by omega) (kk ln _ _ _ _ hO hP hD hS (lv_sub hl [1, 2] rfl))
  | succ n IH =>
    intro i cells slots sm ln u H locs ls hin hc hs1 hs hO hP hD hS hl
    refine lv_iload_n hx hb dL_asks_23 rfl (lv_at hl 0 rfl) ?_
    refine lv_bipush (v := 14) hx hb dL_asks_24 (by decide) ?_
    refine lv_icmp_ge (tgt := 48) hx hb dL_asks_26 (by decide) (fun z => absurd z (nI_ge (a := i) (b := 14) (show i < 14 by omega) (by omega))) (fun z => ?_)
    refine lv_ldc2 (v := 31) hx hb K.1.2.2.2.1 (hts _ kw1308) dL_asks_29 ?_
    refine lv_lload_n hx hb dL_asks_32 rfl (lv_at hl 1 rfl) ?_
    refine lv_lmul hx hb dL_asks_33 ?_
    refine lv_aload_n hx hb dL_asks_34 rfl (lv_at hl 2 rfl) ?_
    refine lv_iload_n hx hb dL_asks_35 rfl (lv_at hl 0 rfl) ?_
    refine kL_SW (As := [.ref oF, .int (nI i)]) (rest := [.long (31 * sm)]) (wr := []) K kX0_s (L_account_c l hfl g oF F C S h R T ln _ hO (nI i)) hN kX0_fr (vx_cwSW 2 hts (k_gS kw961 cs_L_account) rfl rfl rfl pnL_account ⟨Nat.le_of_ble_eq_true rfl, Nat.le_of_ble_eq_true rfl⟩) hE hS hA hP hD rfl hl.1 rfl rfl dL_asks_36 ⟨(show cells + 1 ≤ 574 from by omega), (show slots + 6 ≤ 6828 from by omega)⟩ (fun r u H locs hp hP hD hS => ?_)
    have hP : kp g u H := hP
    have hD : kd A u := hD
    obtain ⟨hr, hO⟩ := hp
    rw [kAcc_lt (by omega)] at hr
    subst hr
    refine lv_i2l hx hb dL_asks_39 rfl ?_
    refine lv_ladd hx hb dL_asks_40 ?_
    refine lv_lstore_n (lv' := [(1, .long (kAs1 C i sm)), (3, .int (nI i)), (0, .ref oF)]) hx hb dL_asks_41 rfl hl (by decide) rfl (fun ls hl => ?_)
    refine lv_iinc (v := nI (i + 1)) (lv' := [(3, .int (nI (i + 1))), (1, .long (kAs1 C i sm)), (0, .ref oF)]) hx hb dL_asks_42 hl (k := 1) rfl (nI_1 i) (by decide) rfl (fun ls hl => ?_)
    refine lv_goto (tgt := 23) hx hb dL_asks_45 (by decide) ?_
    exact IH (i + 1) (cells + 1) (slots + 6) (kAs1 C i sm) ln _ _ _ _ (by omega) (by omega) (by omega) hs hO hP hD hS (lv_sub hl [0, 1, 2] rfl)
set_option maxHeartbeats 4000000 in
set_option maxRecDepth 100000 in
theorem al2 {p : Program} {l : Launch} (hfl : l.stackTraces = false) {e : Env} {s : State} {m : MethodId} {args : Array Value} {below : List Frame} {meth : Method} {c : Code} {A : Nat → Prop} {Q : State → Prop} {g : kG} (K : kC p c cL_asks s m args meth RL g 6 (some .long)) (hN : kNc s) (hE : kE g A s s.heap) (hA : ∀ q, s.heap.size ≤ q → A q) {oF : Nat} {F : Nat → Int32} {C S : kK} {h : List kK} {R : Nat → Int32} {T : kK} (hnb : kNb C ≤ 6 ∧ C.1 7 = nI (kNb C)) (hnj : kNj C ≤ 6 ∧ C.1 4 = nI (kNj C)) {CX SX : Nat} (hCX : CX ≤ 574) (hSX : SX ≤ 6828) {FIN : Int64} (kk : ∀ (ln : kTx) (u : List va_W) (H : Heap) (locs : List Loc) (ls : Array Slot), kOb g oF F C S h R T ln u → kp g u H → kd A u → va_S A s.heap H locs → lv_has ls 6 [(1, .long FIN), (0, .ref oF)] → W p l e (kRm 10 574 6828 543) s m args below meth c H locs CX SX Q (F0 m 91 ls [])) :
    ∀ (n i cells slots : Nat) (sm : Int64) (ln : kTx) (u : List va_W) (H : Heap) (locs : List Loc) (ls : Array Slot), i + n = kNj C → cells + 3 * n + 1 ≤ CX → slots + 18 * n + 6 ≤ SX → kIt (kAs2 C) n i sm = FIN → kOb g oF F C S h R T ln u → kp g u H → kd A u → va_S A s.heap H locs → lv_has ls 6 [(3, .int (nI i)), (1, .long sm), (0, .ref oF)] → W p l e (kRm 10 574 6828 543) s m args below meth c H locs cells slots Q (F0 m 50 ls []) := by
  have hx := K.1.1
  have hb := K.1.2.1
  have hts := K.1.2.2.2.2
  intro n
  induction n with
  | zero =>
    intro i cells slots sm ln u H locs ls hin hc hs1 hs hO hP hD hS hl
    have hs : sm = FIN := hs
    subst hs
    refine lv_iload_n hx hb dL_asks_50 rfl (lv_at hl 0 rfl) ?_
    refine lv_aload_n hx hb dL_asks_51 rfl (lv_at hl 2 rfl) ?_
    refine lv_iconst (v := 4) hx hb dL_asks_52 (by decide) ?_
    refine kL_SW (As := [.ref oF, .int 4]) (rest := [.int (nI i)]) (wr := []) K kX0_s (L_account_c l hfl g oF F C S h R T ln _ hO 4) hN kX0_fr (vx_cwSW 2 hts (k_gS kw961 cs_L_account) rfl rfl rfl pnL_account ⟨Nat.le_of_ble_eq_true rfl, Nat.le_of_ble_eq_true rfl⟩) hE hS hA hP hD rfl hl.1 rfl rfl dL_asks_53 ⟨(show cells + 1 ≤ 574 from by omega), (show slots + 6 ≤ 6828 from by omega)⟩ (fun r u H locs hp hP hD hS => ?_)
    have hP : kp g u H := hP
    have hD : kd A u := hD
    obtain ⟨hr, hO⟩ := hp
    have hr : r = nI (kNj C) := hr.trans (kAcc_4.trans hnj.2)
    subst hr
    refine lv_icmp_ge (tgt := 91) hx hb dL_asks_56 (by decide) (fun z => ?_) (fun z => absurd (nI_le (a := kNj C) (b := i) (show kNj C ≤ i by omega) (by omega)) z)
    exact W.widen (by omega) (by omega) (kk ln _ _ _ _ hO hP hD hS (lv_sub hl [1, 2] rfl))
  | succ n IH =>
    intro i cells slots sm ln u H locs ls hin hc hs1 hs hO hP hD hS hl
    refine lv_iload_n hx hb dL_asks_50 rfl (lv_at hl 0 rfl) ?_
    refine lv_aload_n hx hb dL_asks_51 rfl (lv_at hl 2 rfl) ?_
    refine lv_iconst (v := 4) hx hb dL_asks_52 (by decide) ?_
    refine kL_SW (As := [.ref oF, .int 4]) (rest := [.int (nI i)]) (wr := []) K kX0_s (L_account_c l hfl g oF F C S h R T ln _ hO 4) hN kX0_fr (vx_cwSW 2 hts (k_gS kw961 cs_L_account) rfl rfl rfl pnL_account ⟨Nat.le_of_ble_eq_true rfl, Nat.le_of_ble_eq_true rfl⟩) hE hS hA hP hD rfl hl.1 rfl rfl dL_asks_53 ⟨(show cells + 1 ≤ 574 from by omega), (show slots + 6 ≤ 6828 from by omega)⟩ (fun r u H locs hp hP hD hS => ?_)
    have hP : kp g u H := hP
    have hD : kd A u := hD
    obtain ⟨hr, hO⟩ := hp
    have hr : r = nI (kNj C) := hr.trans (kAcc_4.trans hnj.2)
    subst hr
    refine lv_icmp_ge (tgt := 91) hx hb dL_asks_56 (by decide) (fun z => absurd z (nI_ge (a := i) (b := kNj C) (show i < kNj C by omega) (by omega))) (fun z => ?_)
    refine lv_ldc2 (v := 31) hx hb K.1.2.2.2.1 (hts _ kw1308) dL_asks_59 ?_
    refine lv_ldc2 (v := 31) hx hb K.1.2.2.2.1 (hts _ kw1308) dL_asks_62 ?_
    refine lv_lload_n hx hb dL_asks_65 rfl (lv_at hl 1 rfl) ?_
    refine lv_lmul hx hb dL_asks_66 ?_
    refine lv_aload_n hx hb dL_asks_67 rfl (lv_at hl 2 rfl) ?_
    refine lv_iload_n hx hb dL_asks_68 rfl (lv_at hl 0 rfl) ?_
    refine lv_iconst (v := 1) hx hb dL_asks_69 (by decide) ?_
    refine kL_SW (As := [.ref oF, .int (nI i), .int 1]) (rest := [.long (31 * sm), .long 31]) (wr := []) K kX0_s (L_jarOf_c l hfl g oF F C S h R T ln _ hO (nI i) true) hN kX0_fr (vx_cwSW 3 hts (k_gS kw1364 cs_L_jarOf) rfl rfl rfl pnL_jarOf ⟨Nat.le_of_ble_eq_true rfl, Nat.le_of_ble_eq_true rfl⟩) hE hS hA hP hD rfl hl.1 rfl rfl dL_asks_70 ⟨(show cells + 1 + 1 ≤ 574 from by omega), (show slots + 6 + 6 ≤ 6828 from by omega)⟩ (fun r u H locs hp hP hD hS => ?_)
    have hP : kp g u H := hP
    have hD : kd A u := hD
    obtain ⟨hr, hO⟩ := hp
    subst hr
    refine lv_i2l hx hb dL_asks_73 rfl ?_
    refine lv_ladd hx hb dL_asks_74 ?_
    refine lv_lmul hx hb dL_asks_75 ?_
    refine lv_aload_n hx hb dL_asks_76 rfl (lv_at hl 2 rfl) ?_
    refine lv_iload_n hx hb dL_asks_77 rfl (lv_at hl 0 rfl) ?_
    refine lv_iconst (v := 0) hx hb dL_asks_78 (by decide) ?_
    refine kL_SW (As := [.ref oF, .int (nI i), .int 0]) (rest := [.long (31 * ((31 * sm) + ((kA1 (X4_jarOf_f kF0 C.1 C.2 (nI i) true)).toInt64)))]) (wr := []) K kX0_s (L_jarOf_c l hfl g oF F C S h R T ln _ hO (nI i) false) hN kX0_fr (vx_cwSW 3 hts (k_gS kw1364 cs_L_jarOf) rfl rfl rfl pnL_jarOf ⟨Nat.le_of_ble_eq_true rfl, Nat.le_of_ble_eq_true rfl⟩) hE hS hA hP hD rfl hl.1 rfl rfl dL_asks_79 ⟨(show cells + 1 + 1 + 1 ≤ 574 from by omega), (show slots + 6 + 6 + 6 ≤ 6828 from by omega)⟩ (fun r u H locs hp hP hD hS => ?_)
    have hP : kp g u H := hP
    have hD : kd A u := hD
    obtain ⟨hr, hO⟩ := hp
    subst hr
    refine lv_i2l hx hb dL_asks_82 rfl ?_
    refine lv_ladd hx hb dL_asks_83 ?_
    refine lv_lstore_n (lv' := [(1, .long (kAs2 C i sm)), (3, .int (nI i)), (0, .ref oF)]) hx hb dL_asks_84 rfl hl (by decide) rfl (fun ls hl => ?_)
    refine lv_iinc (v := nI (i + 1)) (lv' := [(3, .int (nI (i + 1))), (1, .long (kAs2 C i sm)), (0, .ref oF)]) hx hb dL_asks_85 hl (k := 1) rfl (nI_1 i) (by decide) rfl (fun ls hl => ?_)
    refine lv_goto (tgt := 50) hx hb dL_asks_88 (by decide) ?_
    exact IH (i + 1) (cells + 1 + 1 + 1) (slots + 6 + 6 + 6) (kAs2 C i sm) ln _ _ _ _ (by omega) (by omega) (by omega) hs hO hP hD hS (lv_sub hl [0, 1, 2] rfl)
set_option maxHeartbeats 4000000 in
set_option maxRecDepth 100000 in
theorem al31 {p : Program} {l : Launch} (hfl : l.stackTraces = false) {e : Env} {s : State} {m : MethodId} {args : Array Value} {below : List Frame} {meth : Method} {c : Code} {A : Nat → Prop} {Q : State → Prop} {g : kG} (K : kC p c cL_asks s m args meth RL g 6 (some .long)) (hN : kNc s) (hE : kE g A s s.heap) (hA : ∀ q, s.heap.size ≤ q → A q) {oF : Nat} {F : Nat → Int32} {C S : kK} {h : List kK} {R : Nat → Int32} {T : kK} (hnb : kNb C ≤ 6 ∧ C.1 7 = nI (kNb C)) (hnj : kNj C ≤ 6 ∧ C.1 4 = nI (kNj C)) {CX SX : Nat} (hCX : CX ≤ 574) (hSX : SX ≤ 6828) {b : Nat} (hbl : b < kNb C) {FIN : Int64} (kk : ∀ (ln : kTx) (u : List va_W) (H : Heap) (locs : List Loc) (ls : Array Slot), kOb g oF F C S h R T ln u → kp g u H → kd A u → va_S A s.heap H locs → lv_has ls 6 [(1, .long FIN), (3, .int (nI b)), (0, .ref oF)] → W p l e (kRm 10 574 6828 543) s m args below meth c H locs CX SX Q (F0 m 133 ls [])) :
    ∀ (n i cells slots : Nat) (sm : Int64) (ln : kTx) (u : List va_W) (H : Heap) (locs : List Loc) (ls : Array Slot), i + n = 6 → cells + 2 * n + 0 ≤ CX → slots + 12 * n + 0 ≤ SX → kIt (kAs31 C b) n i sm = FIN → kOb g oF F C S h R T ln u → kp g u H → kd A u → va_S A s.heap H locs → lv_has ls 6 [(4, .int (nI i)), (1, .long sm), (3, .int (nI b)), (0, .ref oF)] → W p l e (kRm 10 574 6828 543) s m args below meth c H locs cells slots Q (F0 m 105 ls []) := by
  have hx := K.1.1
  have hb := K.1.2.1
  have hts := K.1.2.2.2.2
  intro n
  induction n with
  | zero =>
    intro i cells slots sm ln u H locs ls hin hc hs1 hs hO hP hD hS hl
    have hs : sm = FIN := hs
    subst hs
    refine lv_iload hx hb dL_asks_105 (lv_at hl 0 rfl) ?_
    refine lv_bipush (v := 6) hx hb dL_asks_107 (by decide) ?_
    refine lv_icmp_ge (tgt := 133) hx hb dL_asks_109 (by decide) (fun z => ?_) (fun z => absurd (nI_le (a := 6) (b := i) (show 6 ≤ i by omega) (by omega)) z)
    exact W.widen (by omega) (by omega) (kk ln _ _ _ _ hO hP hD hS (lv_sub hl [1, 2, 3] rfl))
  | succ n IH =>
    intro i cells slots sm ln u H locs ls hin hc hs1 hs hO hP hD hS hl
    refine lv_iload hx hb dL_asks_105 (lv_at hl 0 rfl) ?_
    refine lv_bipush (v := 6) hx hb dL_asks_107 (by decide) ?_
    refine lv_icmp_ge (tgt := 133) hx hb dL_asks_109 (by decide) (fun z => absurd z (nI_ge (a := i) (b := 6) (show i < 6 by omega) (by omega))) (fun z => ?_)
    refine lv_ldc2 (v := 31) hx hb K.1.2.2.2.1 (hts _ kw1308) dL_asks_112 ?_
    refine lv_lload_n hx hb dL_asks_115 rfl (lv_at hl 1 rfl) ?_
    refine lv_lmul hx hb dL_asks_116 ?_
    refine lv_aload_n hx hb dL_asks_117 rfl (lv_at hl 3 rfl) ?_
    refine lv_iload_n hx hb dL_asks_118 rfl (lv_at hl 2 rfl) ?_
    refine lv_iload hx hb dL_asks_119 (lv_at hl 0 rfl) ?_
    refine kL_SW (As := [.ref oF, .int (nI b), .int (nI i)]) (rest := [.long (31 * sm)]) (wr := []) K kX0_s (L_bagOf_c l hfl g oF F C S h R T ln _ hO (nI b) (nI i)) hN kX0_fr (vx_cwSW 3 hts (k_gS kw1373 cs_L_bagOf) rfl rfl rfl pnL_bagOf ⟨Nat.le_of_ble_eq_true rfl, Nat.le_of_ble_eq_true rfl⟩) hE hS hA hP hD rfl hl.1 rfl rfl dL_asks_121 ⟨(show cells + 2 ≤ 574 from by omega), (show slots + 12 ≤ 6828 from by omega)⟩ (fun r u H locs hp hP hD hS => ?_)
    have hP : kp g u H := hP
    have hD : kd A u := hD
    obtain ⟨hr, hO⟩ := hp
    subst hr
    refine lv_i2l hx hb dL_asks_124 rfl ?_
    refine lv_ladd hx hb dL_asks_125 ?_
    refine lv_lstore_n (lv' := [(1, .long (kAs31 C b i sm)), (4, .int (nI i)), (3, .int (nI b)), (0, .ref oF)]) hx hb dL_asks_126 rfl hl (by decide) rfl (fun ls hl => ?_)
    refine lv_iinc (v := nI (i + 1)) (lv' := [(4, .int (nI (i + 1))), (1, .long (kAs31 C b i sm)), (3, .int (nI b)), (0, .ref oF)]) hx hb dL_asks_127 hl (k := 1) rfl (nI_1 i) (by decide) rfl (fun ls hl => ?_)
    refine lv_goto (tgt := 105) hx hb dL_asks_130 (by decide) ?_
    exact IH (i + 1) (cells + 2) (slots + 12) (kAs31 C b i sm) ln _ _ _ _ (by omega) (by omega) (by omega) hs hO hP hD hS (lv_sub hl [0, 1, 2, 3] rfl)
set_option maxHeartbeats 4000000 in
set_option maxRecDepth 100000 in
theorem al33 {p : Program} {l : Launch} (hfl : l.stackTraces = false) {e : Env} {s : State} {m : MethodId} {args : Array Value} {below : List Frame} {meth : Method} {c : Code} {A : Nat → Prop} {Q : State → Prop} {g : kG} (K : kC p c cL_asks s m args meth RL g 6 (some .long)) (hN : kNc s) (hE : kE g A s s.heap) (hA : ∀ q, s.heap.size ≤ q → A q) {oF : Nat} {F : Nat → Int32} {C S : kK} {h : List kK} {R : Nat → Int32} {T : kK} (hnb : kNb C ≤ 6 ∧ C.1 7 = nI (kNb C)) (hnj : kNj C ≤ 6 ∧ C.1 4 = nI (kNj C)) {CX SX : Nat} (hCX : CX ≤ 574) (hSX : SX ≤ 6828) {b : Nat} (hbl : b < kNb C) {FIN : Int64} (kk : ∀ (ln : kTx) (u : List va_W) (H : Heap) (locs : List Loc) (ls : Array Slot), kOb g oF F C S h R T ln u → kp g u H → kd A u → va_S A s.heap H locs → lv_has ls 6 [(1, .long FIN), (3, .int (nI b)), (0, .ref oF)] → W p l e (kRm 10 574 6828 543) s m args below meth c H locs CX SX Q (F0 m 220 ls [])) :
    ∀ (n i cells slots : Nat) (sm : Int64) (ln : kTx) (u : List va_W) (H : Heap) (locs : List Loc) (ls : Array Slot), i + n = 4 → cells + 3 * n + 0 ≤ CX → slots + 18 * n + 0 ≤ SX → kIt (kAs33 C b) n i sm = FIN → kOb g oF F C S h R T ln u → kp g u H → kd A u → va_S A s.heap H locs → lv_has ls 6 [(4, .int (nI i)), (1, .long sm), (3, .int (nI b)), (0, .ref oF)] → W p l e (kRm 10 574 6828 543) s m args below meth c H locs cells slots Q (F0 m 193 ls []) := by
  have hx := K.1.1
  have hb := K.1.2.1
  have hts := K.1.2.2.2.2
  intro n
  induction n with
  | zero =>
    intro i cells slots sm ln u H locs ls hin hc hs1 hs hO hP hD hS hl
    have hs : sm = FIN := hs
    subst hs
    refine lv_iload hx hb dL_asks_193 (lv_at hl 0 rfl) ?_
    refine lv_iconst (v := 4) hx hb dL_asks_195 (by decide) ?_
    refine lv_icmp_ge (tgt := 220) hx hb dL_asks_196 (by decide) (fun z => ?_) (fun z => absurd (nI_le (a := 4) (b := i) (show 4 ≤ i by omega) (by omega)) z)
    exact W.widen (by omega) (by omega) (kk ln _ _ _ _ hO hP hD hS (lv_sub hl [1, 2, 3] rfl))
  | succ n IH =>
    intro i cells slots sm ln u H locs ls hin hc hs1 hs hO hP hD hS hl
    refine lv_iload hx hb dL_asks_193 (lv_at hl 0 rfl) ?_
    refine lv_iconst (v := 4) hx hb dL_asks_195 (by decide) ?_
    refine lv_icmp_ge (tgt := 220) hx hb dL_asks_196 (by decide) (fun z => absurd z (nI_ge (a := i) (b := 4) (show i < 4 by omega) (by omega))) (fun z => ?_)
    refine lv_ldc2 (v := 31) hx hb K.1.2.2.2.1 (hts _ kw1308) dL_asks_199 ?_
    refine lv_lload_n hx hb dL_asks_202 rfl (lv_at hl 1 rfl) ?_
    refine lv_lmul hx hb dL_asks_203 ?_
    refine lv_aload_n hx hb dL_asks_204 rfl (lv_at hl 3 rfl) ?_
    refine lv_iload_n hx hb dL_asks_205 rfl (lv_at hl 2 rfl) ?_
    refine lv_iload hx hb dL_asks_206 (lv_at hl 0 rfl) ?_
    refine kL_SW (As := [.ref oF, .int (nI b), .int (nI i)]) (rest := [.long (31 * sm)]) (wr := []) K kX0_s (L_wouldGet_c l hfl g oF F C S h R T ln _ hO (nI b) (nI i)) hN kX0_fr (vx_cwSW 3 hts (k_gS kw1388 cs_L_wouldGet) rfl rfl rfl pnL_wouldGet ⟨Nat.le_of_ble_eq_true rfl, Nat.le_of_ble_eq_true rfl⟩) hE hS hA hP hD rfl hl.1 rfl rfl dL_asks_208 ⟨(show cells + 3 ≤ 574 from by omega), (show slots + 18 ≤ 6828 from by omega)⟩ (fun r u H locs hp hP hD hS => ?_)
    have hP : kp g u H := hP
    have hD : kd A u := hD
    obtain ⟨hr, hO⟩ := hp
    subst hr
    refine lv_i2l hx hb dL_asks_211 rfl ?_
    refine lv_ladd hx hb dL_asks_212 ?_
    refine lv_lstore_n (lv' := [(1, .long (kAs33 C b i sm)), (4, .int (nI i)), (3, .int (nI b)), (0, .ref oF)]) hx hb dL_asks_213 rfl hl (by decide) rfl (fun ls hl => ?_)
    refine lv_iinc (v := nI (i + 1)) (lv' := [(4, .int (nI (i + 1))), (1, .long (kAs33 C b i sm)), (3, .int (nI b)), (0, .ref oF)]) hx hb dL_asks_214 hl (k := 1) rfl (nI_1 i) (by decide) rfl (fun ls hl => ?_)
    refine lv_goto (tgt := 193) hx hb dL_asks_217 (by decide) ?_
    exact IH (i + 1) (cells + 3) (slots + 18) (kAs33 C b i sm) ln _ _ _ _ (by omega) (by omega) (by omega) hs hO hP hD hS (lv_sub hl [0, 1, 2, 3] rfl)
set_option maxHeartbeats 4000000 in
set_option maxRecDepth 100000 in
theorem al35 {p : Program} {l : Launch} (hfl : l.stackTraces = false) {e : Env} {s : State} {m : MethodId} {args : Array Value} {below : List Frame} {meth : Method} {c : Code} {A : Nat → Prop} {Q : State → Prop} {g : kG} (K : kC p c cL_asks s m args meth RL g 6 (some .long)) (hN : kNc s) (hE : kE g A s s.heap) (hA : ∀ q, s.heap.size ≤ q → A q) {oF : Nat} {F : Nat → Int32} {C S : kK} {h : List kK} {R : Nat → Int32} {T : kK} (hnb : kNb C ≤ 6 ∧ C.1 7 = nI (kNb C)) (hnj : kNj C ≤ 6 ∧ C.1 4 = nI (kNj C)) {CX SX : Nat} (hCX : CX ≤ 574) (hSX : SX ≤ 6828) {b : Nat} (hbl : b < kNb C) (hkl : (kLnb C b).2 ≤ 27) {FIN : Int64} (kk : ∀ (u : List va_W) (H : Heap) (locs : List Loc) (ls : Array Slot), kOb g oF F C S h R T (kLnb C b) u → kp g u H → kd A u → va_S A s.heap H locs → lv_has ls 6 [(1, .long FIN), (4, .int (nI (kLnb C b).2)), (3, .int (nI b)), (0, .ref oF)] → W p l e (kRm 10 574 6828 543) s m args below meth c H locs CX SX Q (F0 m 281 ls [])) :
    ∀ (n i cells slots : Nat) (sm : Int64) (u : List va_W) (H : Heap) (locs : List Loc) (ls : Array Slot), i + n = (kLnb C b).2 → cells + 1 * n + 0 ≤ CX → slots + 6 * n + 0 ≤ SX → kIt (kAs35 C b) n i sm = FIN → kOb g oF F C S h R T (kLnb C b) u → kp g u H → kd A u → va_S A s.heap H locs → lv_has ls 6 [(5, .int (nI i)), (1, .long sm), (4, .int (nI (kLnb C b).2)), (3, .int (nI b)), (0, .ref oF)] → W p l e (kRm 10 574 6828 543) s m args below meth c H locs cells slots Q (F0 m 254 ls []) := by
  have hx := K.1.1
  have hb := K.1.2.1
  have hts := K.1.2.2.2.2
  intro n
  induction n with
  | zero =>
    intro i cells slots sm u H locs ls hin hc hs1 hs hO hP hD hS hl
    have hs : sm = FIN := hs
    subst hs
    refine lv_iload hx hb dL_asks_254 (lv_at hl 0 rfl) ?_
    refine lv_iload hx hb dL_asks_256 (lv_at hl 2 rfl) ?_
    refine lv_icmp_ge (tgt := 281) hx hb dL_asks_258 (by decide) (fun z => ?_) (fun z => absurd (nI_le (a := (kLnb C b).2) (b := i) (show (kLnb C b).2 ≤ i by omega) (by omega)) z)
    exact W.widen (by omega) (by omega) (kk  _ _ _ _ hO hP hD hS (lv_sub hl [1, 2, 3, 4] rfl))
  | succ n IH =>
    intro i cells slots sm u H locs ls hin hc hs1 hs hO hP hD hS hl
    refine lv_iload hx hb dL_asks_254 (lv_at hl 0 rfl) ?_
    refine lv_iload hx hb dL_asks_256 (lv_at hl 2 rfl) ?_
    refine lv_icmp_ge (tgt := 281) hx hb dL_asks_258 (by decide) (fun z => absurd z (nI_ge (a := i) (b := (kLnb C b).2) (show i < (kLnb C b).2 by omega) (by omega))) (fun z => ?_)
    refine lv_ldc2 (v := 31) hx hb K.1.2.2.2.1 (hts _ kw1308) dL_asks_261 ?_
    refine lv_lload_n hx hb dL_asks_264 rfl (lv_at hl 1 rfl) ?_
    refine lv_lmul hx hb dL_asks_265 ?_
    refine lv_aload_n hx hb dL_asks_266 rfl (lv_at hl 4 rfl) ?_
    refine lv_iload hx hb dL_asks_267 (lv_at hl 0 rfl) ?_
    refine kL_SW (As := [.ref oF, .int (nI i)]) (rest := [.long (31 * sm)]) (wr := []) K kX0_s (L_character_c l hfl g oF F C S h R T (kLnb C b) _ hO (nI i)) hN kX0_fr (vx_cwSW 2 hts (k_gS kw1283 cs_L_character) rfl rfl rfl pnL_character ⟨Nat.le_of_ble_eq_true rfl, Nat.le_of_ble_eq_true rfl⟩) hE hS hA hP hD rfl hl.1 rfl rfl dL_asks_269 ⟨(show cells + 1 ≤ 574 from by omega), (show slots + 6 ≤ 6828 from by omega)⟩ (fun r u H locs hp hP hD hS => ?_)
    have hP : kp g u H := hP
    have hD : kd A u := hD
    obtain ⟨hr, hO⟩ := hp
    subst hr
    refine lv_i2l hx hb dL_asks_272 rfl ?_
    refine lv_ladd hx hb dL_asks_273 ?_
    refine lv_lstore_n (lv' := [(1, .long (kAs35 C b i sm)), (5, .int (nI i)), (4, .int (nI (kLnb C b).2)), (3, .int (nI b)), (0, .ref oF)]) hx hb dL_asks_274 rfl hl (by decide) rfl (fun ls hl => ?_)
    refine lv_iinc (v := nI (i + 1)) (lv' := [(5, .int (nI (i + 1))), (1, .long (kAs35 C b i sm)), (4, .int (nI (kLnb C b).2)), (3, .int (nI b)), (0, .ref oF)]) hx hb dL_asks_275 hl (k := 1) rfl (nI_1 i) (by decide) rfl (fun ls hl => ?_)
    refine lv_goto (tgt := 254) hx hb dL_asks_278 (by decide) ?_
    exact IH (i + 1) (cells + 1) (slots + 6) (kAs35 C b i sm)  _ _ _ _ (by omega) (by omega) (by omega) hs hO hP hD hS (lv_sub hl [0, 1, 2, 3, 4] rfl)
set_option maxHeartbeats 8000000 in
set_option maxRecDepth 100000 in
theorem al_bag {p : Program} {l : Launch} (hfl : l.stackTraces = false) {e : Env} {s : State} {m : MethodId} {args : Array Value} {below : List Frame} {meth : Method} {c : Code} {A : Nat → Prop} {Q : State → Prop} {g : kG} (K : kC p c cL_asks s m args meth RL g 6 (some .long)) (hN : kNc s) (hE : kE g A s s.heap) (hA : ∀ q, s.heap.size ≤ q → A q) {oF : Nat} {F : Nat → Int32} {C S : kK} {h : List kK} {R : Nat → Int32} {T : kK} (hnb : kNb C ≤ 6 ∧ C.1 7 = nI (kNb C)) (hnj : kNj C ≤ 6 ∧ C.1 4 = nI (kNj C)) {CX SX : Nat} (hCX : CX ≤ 574) (hSX : SX ≤ 6828) {b : Nat} (hbl : b < kNb C) {cells slots : Nat} (hcx : cells + 80 ≤ CX) (hsx : slots + 1044 ≤ SX) {sm : Int64} (kk : ∀ (ln : kTx) (u : List va_W) (H : Heap) (locs : List Loc) (ls : Array Slot), kOb g oF F C S h R T ln u → kp g u H → kd A u → va_S A s.heap H locs → lv_has ls 6 [(3, .int (nI b)), (1, .long (kAs3 C b sm)), (0, .ref oF)] → W p l e (kRm 10 574 6828 543) s m args below meth c H locs (cells + 80) (slots + 1044) Q (F0 m 281 ls [])) {ln : kTx} {u : List va_W} {H : Heap} {locs : List Loc} {ls : Array Slot} (hO : kOb g oF F C S h R T ln u) (hP : kp g u H) (hD : kd A u) (hS : va_S A s.heap H locs) (hl : lv_has ls 6 [(3, .int (nI b)), (1, .long sm), (0, .ref oF)]) : W p l e (kRm 10 574 6828 543) s m args below meth c H locs cells slots Q (F0 m 102 ls []) := by
  have hx := K.1.1
  have hb := K.1.2.1
  have hts := K.1.2.2.2.2
  refine lv_iconst (v := 0) hx hb dL_asks_102 (by decide) ?_
  refine lv_istore (lv' := [(4, .int 0), (3, .int (nI b)), (1, .long sm), (0, .ref oF)]) hx hb dL_asks_103 hl (by decide) rfl (fun ls hl => ?_)
  refine al31 hfl K hN hE hA hnb hnj (CX := cells + 12) (SX := slots + 72) (by omega) (by omega) hbl (FIN := kIt (kAs31 C b) 6 0 sm) (fun ln u H locs ls hO hP hD hS hl => ?_) 6 0 cells slots sm ln _ _ _ _ (by omega) (by omega) (by omega) rfl hO hP hD hS (lv_sub hl [0, 2, 1, 3] rfl)
  refine lv_ldc2 (v := 31) hx hb K.1.2.2.2.1 (hts _ kw1308) dL_asks_133 ?_
  refine lv_ldc2 (v := 31) hx hb K.1.2.2.2.1 (hts _ kw1308) dL_asks_136 ?_
  refine lv_ldc2 (v := 31) hx hb K.1.2.2.2.1 (hts _ kw1308) dL_asks_139 ?_
  refine lv_ldc2 (v := 31) hx hb K.1.2.2.2.1 (hts _ kw1308) dL_asks_142 ?_
  refine lv_ldc2 (v := 31) hx hb K.1.2.2.2.1 (hts _ kw1308) dL_asks_145 ?_
  refine lv_lload_n hx hb dL_asks_148 rfl (lv_at hl 0 rfl) ?_
  refine lv_lmul hx hb dL_asks_149 ?_
  refine lv_aload_n hx hb dL_asks_150 rfl (lv_at hl 2 rfl) ?_
  refine lv_iload_n hx hb dL_asks_151 rfl (lv_at hl 1 rfl) ?_
  refine kL_SW10 (As := [.ref oF, .int (nI b)]) (rest := [.long (31 * (kIt (kAs31 C b) 6 0 sm)), .long 31, .long 31, .long 31, .long 31]) (wr := []) K kX0_s (L_told_c l hfl g oF F C S h R T ln _ hO (nI b)) hN kX0_fr (vx_cwSW 2 hts (k_gS kw772 cs_L_told) rfl rfl rfl pnL_told ⟨Nat.le_of_ble_eq_true rfl, Nat.le_of_ble_eq_true rfl⟩) (Nat.le_of_ble_eq_true rfl) hE hS hA hP hD rfl hl.1 rfl rfl dL_asks_152 ⟨(show (cells + 12) + 1 ≤ 574 from by omega), (show (slots + 72) + 6 ≤ 6828 from by omega)⟩ (fun r u H locs hp hP hD hS => ?_)
  have hP : kp g u H := hP
  have hD : kd A u := hD
  obtain ⟨hr, hO⟩ := hp
  subst hr
  refine lv_i2l hx hb dL_asks_155 rfl ?_
  refine lv_ladd hx hb dL_asks_156 ?_
  refine lv_lmul hx hb dL_asks_157 ?_
  refine lv_aload_n hx hb dL_asks_158 rfl (lv_at hl 2 rfl) ?_
  refine lv_iload_n hx hb dL_asks_159 rfl (lv_at hl 1 rfl) ?_
  refine kL_SW (As := [.ref oF, .int (nI b)]) (rest := [.long (31 * ((31 * (kIt (kAs31 C b) 6 0 sm)) + ((kA1 (X4_told_f kF0 C.1 C.2 (nI b))).toInt64))), .long 31, .long 31, .long 31]) (wr := []) K kX0_s (L_toldAgain_c l hfl g oF F C S h R T ln _ hO (nI b)) hN kX0_fr (vx_cwSW 2 hts (k_gS kw788 cs_L_toldAgain) rfl rfl rfl pnL_toldAgain ⟨Nat.le_of_ble_eq_true rfl, Nat.le_of_ble_eq_true rfl⟩) hE hS hA hP hD rfl hl.1 rfl rfl dL_asks_160 ⟨(show (cells + 12) + 1 + 1 ≤ 574 from by omega), (show (slots + 72) + 6 + 6 ≤ 6828 from by omega)⟩ (fun r u H locs hp hP hD hS => ?_)
  have hP : kp g u H := hP
  have hD : kd A u := hD
  obtain ⟨hr, hO⟩ := hp
  subst hr
  refine lv_i2l hx hb dL_asks_163 rfl ?_
  refine lv_ladd hx hb dL_asks_164 ?_
  refine lv_lmul hx hb dL_asks_165 ?_
  refine lv_aload_n hx hb dL_asks_166 rfl (lv_at hl 2 rfl) ?_
  refine lv_iload_n hx hb dL_asks_167 rfl (lv_at hl 1 rfl) ?_
  refine kL_SW (As := [.ref oF, .int (nI b)]) (rest := [.long (31 * ((31 * ((31 * (kIt (kAs31 C b) 6 0 sm)) + ((kA1 (X4_told_f kF0 C.1 C.2 (nI b))).toInt64))) + ((kA1 (X4_toldAgain_f kF0 C.1 C.2 (nI b))).toInt64))), .long 31, .long 31]) (wr := []) K kX0_s (L_onPan_c l hfl g oF F C S h R T ln _ hO (nI b)) hN kX0_fr (vx_cwSW 2 hts (k_gS kw804 cs_L_onPan) rfl rfl rfl pnL_onPan ⟨Nat.le_of_ble_eq_true rfl, Nat.le_of_ble_eq_true rfl⟩) hE hS hA hP hD rfl hl.1 rfl rfl dL_asks_168 ⟨(show (cells + 12) + 1 + 1 + 1 ≤ 574 from by omega), (show (slots + 72) + 6 + 6 + 6 ≤ 6828 from by omega)⟩ (fun r u H locs hp hP hD hS => ?_)
  have hP : kp g u H := hP
  have hD : kd A u := hD
  obtain ⟨hr, hO⟩ := hp
  subst hr
  refine lv_i2l hx hb dL_asks_171 rfl ?_
  refine lv_ladd hx hb dL_asks_172 ?_
  refine lv_lmul hx hb dL_asks_173 ?_
  refine lv_aload_n hx hb dL_asks_174 rfl (lv_at hl 2 rfl) ?_
  refine lv_iload_n hx hb dL_asks_175 rfl (lv_at hl 1 rfl) ?_
  refine kL_SW (As := [.ref oF, .int (nI b)]) (rest := [.long (31 * ((31 * ((31 * ((31 * (kIt (kAs31 C b) 6 0 sm)) + ((kA1 (X4_told_f kF0 C.1 C.2 (nI b))).toInt64))) + ((kA1 (X4_toldAgain_f kF0 C.1 C.2 (nI b))).toInt64))) + ((kA1 (X4_onPan_f kF0 C.1 C.2 (nI b))).toInt64))), .long 31]) (wr := []) K kX0_s (L_rest_c l hfl g oF F C S h R T ln _ hO (nI b)) hN kX0_fr (vx_cwSW 2 hts (k_gS kw811 cs_L_rest) rfl rfl rfl pnL_rest ⟨Nat.le_of_ble_eq_true rfl, Nat.le_of_ble_eq_true rfl⟩) hE hS hA hP hD rfl hl.1 rfl rfl dL_asks_176 ⟨(show (cells + 12) + 1 + 1 + 1 + 1 ≤ 574 from by omega), (show (slots + 72) + 6 + 6 + 6 + 6 ≤ 6828 from by omega)⟩ (fun r u H locs hp hP hD hS => ?_)
  have hP : kp g u H := hP
  have hD : kd A u := hD
  obtain ⟨hr, hO⟩ := hp
  subst hr
  refine lv_i2l hx hb dL_asks_179 rfl ?_
  refine lv_ladd hx hb dL_asks_180 ?_
  refine lv_lmul hx hb dL_asks_181 ?_
  refine lv_aload_n hx hb dL_asks_182 rfl (lv_at hl 2 rfl) ?_
  refine lv_iload_n hx hb dL_asks_183 rfl (lv_at hl 1 rfl) ?_
  refine kL_SW (As := [.ref oF, .int (nI b)]) (rest := [.long (31 * ((31 * ((31 * ((31 * ((31 * (kIt (kAs31 C b) 6 0 sm)) + ((kA1 (X4_told_f kF0 C.1 C.2 (nI b))).toInt64))) + ((kA1 (X4_toldAgain_f kF0 C.1 C.2 (nI b))).toInt64))) + ((kA1 (X4_onPan_f kF0 C.1 C.2 (nI b))).toInt64))) + ((kA1 (X4_rest_f kF0 C.1 C.2 (nI b))).toInt64)))]) (wr := []) K kX0_s (L_honest_c l hfl g oF F C S h R T ln _ hO (nI b)) hN kX0_fr (vx_cwSW 2 hts (k_gS kw1381 cs_L_honest) rfl rfl rfl pnL_honest ⟨Nat.le_of_ble_eq_true rfl, Nat.le_of_ble_eq_true rfl⟩) hE hS hA hP hD rfl hl.1 rfl rfl dL_asks_184 ⟨(show (cells + 12) + 1 + 1 + 1 + 1 + 1 ≤ 574 from by omega), (show (slots + 72) + 6 + 6 + 6 + 6 + 6 ≤ 6828 from by omega)⟩ (fun r u H locs hp hP hD hS => ?_)
  have hP : kp g u H := hP
  have hD : kd A u := hD
  obtain ⟨hr, hO⟩ := hp
  subst hr
  refine lv_i2l hx hb dL_asks_187 rfl ?_
  refine lv_ladd hx hb dL_asks_188 ?_
  refine lv_lstore_n (lv' := [(1, .long (kAs32 C b (kIt (kAs31 C b) 6 0 sm))), (3, .int (nI b)), (0, .ref oF)]) hx hb dL_asks_189 rfl hl (by decide) rfl (fun ls hl => ?_)
  refine lv_iconst (v := 0) hx hb dL_asks_190 (by decide) ?_
  refine lv_istore (lv' := [(4, .int 0), (1, .long (kAs32 C b (kIt (kAs31 C b) 6 0 sm))), (3, .int (nI b)), (0, .ref oF)]) hx hb dL_asks_191 hl (by decide) rfl (fun ls hl => ?_)
  refine al33 hfl K hN hE hA hnb hnj (CX := (cells + 12) + 1 + 1 + 1 + 1 + 1 + 12) (SX := (slots + 72) + 6 + 6 + 6 + 6 + 6 + 72) (by omega) (by omega) hbl (FIN := kIt (kAs33 C b) 4 0 (kAs32 C b (kIt (kAs31 C b) 6 0 sm))) (fun ln u H locs ls hO hP hD hS hl => ?_) 4 0 ((cells + 12) + 1 + 1 + 1 + 1 + 1) ((slots + 72) + 6 + 6 + 6 + 6 + 6) (kAs32 C b (kIt (kAs31 C b) 6 0 sm)) ln _ _ _ _ (by omega) (by omega) (by omega) rfl hO hP hD hS (lv_sub hl [0, 1, 2, 3] rfl)
  refine lv_ldc2 (v := 31) hx hb K.1.2.2.2.1 (hts _ kw1308) dL_asks_220 ?_
  refine lv_ldc2 (v := 31) hx hb K.1.2.2.2.1 (hts _ kw1308) dL_asks_223 ?_
  refine lv_lload_n hx hb dL_asks_226 rfl (lv_at hl 0 rfl) ?_
  refine lv_lmul hx hb dL_asks_227 ?_
  refine lv_aload_n hx hb dL_asks_228 rfl (lv_at hl 2 rfl) ?_
  refine lv_iload_n hx hb dL_asks_229 rfl (lv_at hl 1 rfl) ?_
  refine kL_SW (As := [.ref oF, .int (nI b)]) (rest := [.long (31 * (kIt (kAs33 C b) 4 0 (kAs32 C b (kIt (kAs31 C b) 6 0 sm)))), .long 31]) (wr := []) K kX0_s (L_bestMarket_c l hfl g oF F C S h R T ln _ hO (nI b)) hN kX0_fr (vx_cwSW 2 hts (k_gS kw1402 cs_L_bestMarket) rfl rfl rfl pnL_bestMarket ⟨Nat.le_of_ble_eq_true rfl, Nat.le_of_ble_eq_true rfl⟩) hE hS hA hP hD rfl hl.1 rfl rfl dL_asks_230 ⟨(show ((cells + 12) + 1 + 1 + 1 + 1 + 1 + 12) + 2 ≤ 574 from by omega), (show ((slots + 72) + 6 + 6 + 6 + 6 + 6 + 72) + 12 ≤ 6828 from by omega)⟩ (fun r u H locs hp hP hD hS => ?_)
  have hP : kp g u H := hP
  have hD : kd A u := hD
  obtain ⟨hr, hO⟩ := hp
  subst hr
  refine lv_i2l hx hb dL_asks_233 rfl ?_
  refine lv_ladd hx hb dL_asks_234 ?_
  refine lv_lmul hx hb dL_asks_235 ?_
  refine lv_aload_n hx hb dL_asks_236 rfl (lv_at hl 2 rfl) ?_
  refine lv_iload_n hx hb dL_asks_237 rfl (lv_at hl 1 rfl) ?_
  refine kL_SW (As := [.ref oF, .int (nI b)]) (rest := [.long (31 * ((31 * (kIt (kAs33 C b) 4 0 (kAs32 C b (kIt (kAs31 C b) 6 0 sm)))) + ((kA2 2 (X4_bestMarket_f kF0 C.1 C.2 (nI b))).toInt64)))]) (wr := []) K kX0_s (L_ranked_c l hfl g oF F C S h R T ln _ hO (nI b)) hN kX0_fr (vx_cwSW 2 hts (k_gS kw1414 cs_L_ranked) rfl rfl rfl pnL_ranked ⟨Nat.le_of_ble_eq_true rfl, Nat.le_of_ble_eq_true rfl⟩) hE hS hA hP hD rfl hl.1 rfl rfl dL_asks_238 ⟨(show ((cells + 12) + 1 + 1 + 1 + 1 + 1 + 12) + 2 + 1 ≤ 574 from by omega), (show ((slots + 72) + 6 + 6 + 6 + 6 + 6 + 72) + 12 + 6 ≤ 6828 from by omega)⟩ (fun r u H locs hp hP hD hS => ?_)
  have hP : kp g u H := hP
  have hD : kd A u := hD
  obtain ⟨hr, hO⟩ := hp
  subst hr
  refine lv_i2l hx hb dL_asks_241 rfl ?_
  refine lv_ladd hx hb dL_asks_242 ?_
  refine lv_lstore_n (lv' := [(1, .long (kAs34 C b (kIt (kAs33 C b) 4 0 (kAs32 C b (kIt (kAs31 C b) 6 0 sm))))), (3, .int (nI b)), (0, .ref oF)]) hx hb dL_asks_243 rfl hl (by decide) rfl (fun ls hl => ?_)
  refine lv_aload_n hx hb dL_asks_244 rfl (lv_at hl 2 rfl) ?_
  refine lv_iload_n hx hb dL_asks_245 rfl (lv_at hl 1 rfl) ?_
  refine kL_SW (As := [.ref oF, .int (nI b)]) (rest := []) (wr := []) K kX0_s (L_line_c l hfl g oF F C S h R T ln _ hO (nI b)) hN kX0_fr (vx_cwSW 2 hts (k_gS kw1025 cs_L_line) rfl rfl rfl pnL_line ⟨Nat.le_of_ble_eq_true rfl, Nat.le_of_ble_eq_true rfl⟩) hE hS hA hP hD rfl hl.1 rfl rfl dL_asks_246 ⟨(show ((cells + 12) + 1 + 1 + 1 + 1 + 1 + 12) + 2 + 1 + 21 ≤ 574 from by omega), (show ((slots + 72) + 6 + 6 + 6 + 6 + 6 + 72) + 12 + 6 + 690 ≤ 6828 from by omega)⟩ (fun r u H locs hp hP hD hS => ?_)
  have hP : kp g u H := hP
  have hD : kd A u := hD
  obtain ⟨hcb, hr, hO⟩ | ⟨hcb, -, -⟩ := hp
  case inr => exact absurd (kcb_ok hnb hbl) hcb
  subst hr
  refine lv_istore (lv' := [(4, .int (nI (kLnb C b).2)), (1, .long (kAs34 C b (kIt (kAs33 C b) 4 0 (kAs32 C b (kIt (kAs31 C b) 6 0 sm))))), (3, .int (nI b)), (0, .ref oF)]) hx hb dL_asks_249 hl (by decide) rfl (fun ls hl => ?_)
  refine lv_iconst (v := 0) hx hb dL_asks_251 (by decide) ?_
  refine lv_istore (lv' := [(5, .int 0), (4, .int (nI (kLnb C b).2)), (1, .long (kAs34 C b (kIt (kAs33 C b) 4 0 (kAs32 C b (kIt (kAs31 C b) 6 0 sm))))), (3, .int (nI b)), (0, .ref oF)]) hx hb dL_asks_252 hl (by decide) rfl (fun ls hl => ?_)
  refine al35 hfl K hN hE hA hnb hnj (CX := ((cells + 12) + 1 + 1 + 1 + 1 + 1 + 12) + 2 + 1 + 21 + 27) (SX := ((slots + 72) + 6 + 6 + 6 + 6 + 6 + 72) + 12 + 6 + 690 + 162) (by omega) (by omega) hbl (kLine_len _) (FIN := kAs3 C b sm) (fun u H locs ls hO hP hD hS hl => ?_) (kLnb C b).2 0 (((cells + 12) + 1 + 1 + 1 + 1 + 1 + 12) + 2 + 1 + 21) (((slots + 72) + 6 + 6 + 6 + 6 + 6 + 72) + 12 + 6 + 690) (kAs34 C b (kIt (kAs33 C b) 4 0 (kAs32 C b (kIt (kAs31 C b) 6 0 sm)))) _ _ _ _ (by omega) (by have := kLine_len (X4_line_w C.1 C.2 (nI b)); have e9 : (kLnb C b).2 ≤ 27 := this; omega) (by have := kLine_len (X4_line_w C.1 C.2 (nI b)); have e9 : (kLnb C b).2 ≤ 27 := this; omega) rfl hO hP hD hS (lv_sub hl [0, 2, 1, 3, 4] rfl)
  exact W.widen (by omega) (by omega) (kk (kLnb C b) _ _ _ _ hO hP hD hS (lv_sub hl [2, 0, 3] rfl))
set_option maxHeartbeats 4000000 in
set_option maxRecDepth 100000 in
theorem al3 {p : Program} {l : Launch} (hfl : l.stackTraces = false) {e : Env} {s : State} {m : MethodId} {args : Array Value} {below : List Frame} {meth : Method} {c : Code} {A : Nat → Prop} {Q : State → Prop} {g : kG} (K : kC p c cL_asks s m args meth RL g 6 (some .long)) (hN : kNc s) (hE : kE g A s s.heap) (hA : ∀ q, s.heap.size ≤ q → A q) {oF : Nat} {F : Nat → Int32} {C S : kK} {h : List kK} {R : Nat → Int32} {T : kK} (hnb : kNb C ≤ 6 ∧ C.1 7 = nI (kNb C)) (hnj : kNj C ≤ 6 ∧ C.1 4 = nI (kNj C)) {CX SX : Nat} (hCX : CX ≤ 574) (hSX : SX ≤ 6828) {FIN : Int64} (kk : ∀ (ln : kTx) (u : List va_W) (H : Heap) (locs : List Loc) (ls : Array Slot), kOb g oF F C S h R T ln u → kp g u H → kd A u → va_S A s.heap H locs → lv_has ls 6 [(1, .long FIN), (0, .ref oF)] → W p l e (kRm 10 574 6828 543) s m args below meth c H locs CX SX Q (F0 m 287 ls [])) :
    ∀ (n i cells slots : Nat) (sm : Int64) (ln : kTx) (u : List va_W) (H : Heap) (locs : List Loc) (ls : Array Slot), i + n = kNb C → cells + 81 * n + 1 ≤ CX → slots + 1050 * n + 6 ≤ SX → kIt (kAs3 C) n i sm = FIN → kOb g oF F C S h R T ln u → kp g u H → kd A u → va_S A s.heap H locs → lv_has ls 6 [(3, .int (nI i)), (1, .long sm), (0, .ref oF)] → W p l e (kRm 10 574 6828 543) s m args below meth c H locs cells slots Q (F0 m 93 ls []) := by
  have hx := K.1.1
  have hb := K.1.2.1
  have hts := K.1.2.2.2.2
  intro n
  induction n with
  | zero =>
    intro i cells slots sm ln u H locs ls hin hc hs1 hs hO hP hD hS hl
    have hs : sm = FIN := hs
    subst hs
    refine lv_iload_n hx hb dL_asks_93 rfl (lv_at hl 0 rfl) ?_
    refine lv_aload_n hx hb dL_asks_94 rfl (lv_at hl 2 rfl) ?_
    refine lv_iconst (v := 5) hx hb dL_asks_95 (by decide) ?_
    refine kL_SW (As := [.ref oF, .int 5]) (rest := [.int (nI i)]) (wr := []) K kX0_s (L_account_c l hfl g oF F C S h R T ln _ hO 5) hN kX0_fr (vx_cwSW 2 hts (k_gS kw961 cs_L_account) rfl rfl rfl pnL_account ⟨Nat.le_of_ble_eq_true rfl, Nat.le_of_ble_eq_true rfl⟩) hE hS hA hP hD rfl hl.1 rfl rfl dL_asks_96 ⟨(show cells + 1 ≤ 574 from by omega), (show slots + 6 ≤ 6828 from by omega)⟩ (fun r u H locs hp hP hD hS => ?_)
    have hP : kp g u H := hP
    have hD : kd A u := hD
    obtain ⟨hr, hO⟩ := hp
    have hr : r = nI (kNb C) := hr.trans (kAcc_5.trans hnb.2)
    subst hr
    refine lv_icmp_ge (tgt := 287) hx hb dL_asks_99 (by decide) (fun z => ?_) (fun z => absurd (nI_le (a := kNb C) (b := i) (show kNb C ≤ i by omega) (by omega)) z)
    exact W.widen (by omega) (by omega) (kk ln _ _ _ _ hO hP hD hS (lv_sub hl [1, 2] rfl))
  | succ n IH =>
    intro i cells slots sm ln u H locs ls hin hc hs1 hs hO hP hD hS hl
    refine lv_iload_n hx hb dL_asks_93 rfl (lv_at hl 0 rfl) ?_
    refine lv_aload_n hx hb dL_asks_94 rfl (lv_at hl 2 rfl) ?_
    refine lv_iconst (v := 5) hx hb dL_asks_95 (by decide) ?_
    refine kL_SW (As := [.ref oF, .int 5]) (rest := [.int (nI i)]) (wr := []) K kX0_s (L_account_c l hfl g oF F C S h R T ln _ hO 5) hN kX0_fr (vx_cwSW 2 hts (k_gS kw961 cs_L_account) rfl rfl rfl pnL_account ⟨Nat.le_of_ble_eq_true rfl, Nat.le_of_ble_eq_true rfl⟩) hE hS hA hP hD rfl hl.1 rfl rfl dL_asks_96 ⟨(show cells + 1 ≤ 574 from by omega), (show slots + 6 ≤ 6828 from by omega)⟩ (fun r u H locs hp hP hD hS => ?_)
    have hP : kp g u H := hP
    have hD : kd A u := hD
    obtain ⟨hr, hO⟩ := hp
    have hr : r = nI (kNb C) := hr.trans (kAcc_5.trans hnb.2)
    subst hr
    refine lv_icmp_ge (tgt := 287) hx hb dL_asks_99 (by decide) (fun z => absurd z (nI_ge (a := i) (b := kNb C) (show i < kNb C by omega) (by omega))) (fun z => ?_)
    refine al_bag hfl K hN hE hA hnb hnj (CX := CX) (SX := SX) hCX hSX (show i < kNb C by omega) (cells := cells + 1) (slots := slots + 6) (by omega) (by omega) (fun ln u H locs ls hO hP hD hS hl => ?_) hO hP hD hS (lv_sub hl [0, 1, 2] rfl)
    refine lv_iinc (v := nI (i + 1)) (lv' := [(3, .int (nI (i + 1))), (1, .long (kAs3 C i sm)), (0, .ref oF)]) hx hb dL_asks_281 hl (k := 0) rfl (nI_1 i) (by decide) rfl (fun ls hl => ?_)
    refine lv_goto (tgt := 93) hx hb dL_asks_284 (by decide) ?_
    exact IH (i + 1) (cells + 1 + 80) (slots + 6 + 1044) (kAs3 C i sm) ln _ _ _ _ (by omega) (by omega) (by omega) hs hO hP hD hS (lv_sub hl [0, 1, 2] rfl)
set_option maxHeartbeats 4000000 in
set_option maxRecDepth 100000 in
theorem al41 {p : Program} {l : Launch} (hfl : l.stackTraces = false) {e : Env} {s : State} {m : MethodId} {args : Array Value} {below : List Frame} {meth : Method} {c : Code} {A : Nat → Prop} {Q : State → Prop} {g : kG} (K : kC p c cL_asks s m args meth RL g 6 (some .long)) (hN : kNc s) (hE : kE g A s s.heap) (hA : ∀ q, s.heap.size ≤ q → A q) {oF : Nat} {F : Nat → Int32} {C S : kK} {h : List kK} {R : Nat → Int32} {T : kK} (hnb : kNb C ≤ 6 ∧ C.1 7 = nI (kNb C)) (hnj : kNj C ≤ 6 ∧ C.1 4 = nI (kNj C)) {CX SX : Nat} (hCX : CX ≤ 574) (hSX : SX ≤ 6828) {b : Nat} (hb8 : b < 8) {FIN : Int64} (kk : ∀ (ln : kTx) (u : List va_W) (H : Heap) (locs : List Loc) (ls : Array Slot), kOb g oF F C S h R T ln u → kp g u H → kd A u → va_S A s.heap H locs → lv_has ls 6 [(1, .long FIN), (3, .int (nI b)), (0, .ref oF)] → W p l e (kRm 10 574 6828 543) s m args below meth c H locs CX SX Q (F0 m 325 ls [])) :
    ∀ (n i cells slots : Nat) (sm : Int64) (ln : kTx) (u : List va_W) (H : Heap) (locs : List Loc) (ls : Array Slot), i + n = 4 → cells + 1 * n + 0 ≤ CX → slots + 6 * n + 0 ≤ SX → kIt (kAs41 C b) n i sm = FIN → kOb g oF F C S h R T ln u → kp g u H → kd A u → va_S A s.heap H locs → lv_has ls 6 [(4, .int (nI i)), (1, .long sm), (3, .int (nI b)), (0, .ref oF)] → W p l e (kRm 10 574 6828 543) s m args below meth c H locs cells slots Q (F0 m 298 ls []) := by
  have hx := K.1.1
  have hb := K.1.2.1
  have hts := K.1.2.2.2.2
  intro n
  induction n with
  | zero =>
    intro i cells slots sm ln u H locs ls hin hc hs1 hs hO hP hD hS hl
    have hs : sm = FIN := hs
    subst hs
    refine lv_iload hx hb dL_asks_298 (lv_at hl 0 rfl) ?_
    refine lv_iconst (v := 4) hx hb dL_asks_300 (by decide) ?_
    refine lv_icmp_ge (tgt := 325) hx hb dL_asks_301 (by decide) (fun z => ?_) (fun z => absurd (nI_le (a := 4) (b := i) (show 4 ≤ i by omega) (by omega)) z)
    exact W.widen (by omega) (by omega) (kk ln _ _ _ _ hO hP hD hS (lv_sub hl [1, 2, 3] rfl))
  | succ n IH =>
    intro i cells slots sm ln u H locs ls hin hc hs1 hs hO hP hD hS hl
    refine lv_iload hx hb dL_asks_298 (lv_at hl 0 rfl) ?_
    refine lv_iconst (v := 4) hx hb dL_asks_300 (by decide) ?_
    refine lv_icmp_ge (tgt := 325) hx hb dL_asks_301 (by decide) (fun z => absurd z (nI_ge (a := i) (b := 4) (show i < 4 by omega) (by omega))) (fun z => ?_)
    refine lv_ldc2 (v := 31) hx hb K.1.2.2.2.1 (hts _ kw1308) dL_asks_304 ?_
    refine lv_lload_n hx hb dL_asks_307 rfl (lv_at hl 1 rfl) ?_
    refine lv_lmul hx hb dL_asks_308 ?_
    refine lv_aload_n hx hb dL_asks_309 rfl (lv_at hl 3 rfl) ?_
    refine lv_iload_n hx hb dL_asks_310 rfl (lv_at hl 2 rfl) ?_
    refine lv_iload hx hb dL_asks_311 (lv_at hl 0 rfl) ?_
    refine kL_SW (As := [.ref oF, .int (nI b), .int (nI i)]) (rest := [.long (31 * sm)]) (wr := []) K kX0_s (L_weightOf_c l hfl g oF F C S h R T ln _ hO (nI b) (nI i)) hN kX0_fr (vx_cwSW 3 hts (k_gS kw705 cs_L_weightOf) rfl rfl rfl pnL_weightOf ⟨Nat.le_of_ble_eq_true rfl, Nat.le_of_ble_eq_true rfl⟩) hE hS hA hP hD rfl hl.1 rfl rfl dL_asks_313 ⟨(show cells + 1 ≤ 574 from by omega), (show slots + 6 ≤ 6828 from by omega)⟩ (fun r u H locs hp hP hD hS => ?_)
    have hP : kp g u H := hP
    have hD : kd A u := hD
    obtain ⟨hr, hO⟩ := hp
    subst hr
    refine lv_i2l hx hb dL_asks_316 rfl ?_
    refine lv_ladd hx hb dL_asks_317 ?_
    refine lv_lstore_n (lv' := [(1, .long (kAs41 C b i sm)), (4, .int (nI i)), (3, .int (nI b)), (0, .ref oF)]) hx hb dL_asks_318 rfl hl (by decide) rfl (fun ls hl => ?_)
    refine lv_iinc (v := nI (i + 1)) (lv' := [(4, .int (nI (i + 1))), (1, .long (kAs41 C b i sm)), (3, .int (nI b)), (0, .ref oF)]) hx hb dL_asks_319 hl (k := 1) rfl (nI_1 i) (by decide) rfl (fun ls hl => ?_)
    refine lv_goto (tgt := 298) hx hb dL_asks_322 (by decide) ?_
    exact IH (i + 1) (cells + 1) (slots + 6) (kAs41 C b i sm) ln _ _ _ _ (by omega) (by omega) (by omega) hs hO hP hD hS (lv_sub hl [0, 1, 2, 3] rfl)
set_option maxHeartbeats 4000000 in
set_option maxRecDepth 100000 in
theorem al4 {p : Program} {l : Launch} (hfl : l.stackTraces = false) {e : Env} {s : State} {m : MethodId} {args : Array Value} {below : List Frame} {meth : Method} {c : Code} {A : Nat → Prop} {Q : State → Prop} {g : kG} (K : kC p c cL_asks s m args meth RL g 6 (some .long)) (hN : kNc s) (hE : kE g A s s.heap) (hA : ∀ q, s.heap.size ≤ q → A q) {oF : Nat} {F : Nat → Int32} {C S : kK} {h : List kK} {R : Nat → Int32} {T : kK} (hnb : kNb C ≤ 6 ∧ C.1 7 = nI (kNb C)) (hnj : kNj C ≤ 6 ∧ C.1 4 = nI (kNj C)) {CX SX : Nat} (hCX : CX ≤ 574) (hSX : SX ≤ 6828) {FIN : Int64} (kk : ∀ (ln : kTx) (u : List va_W) (H : Heap) (locs : List Loc) (ls : Array Slot), kOb g oF F C S h R T ln u → kp g u H → kd A u → va_S A s.heap H locs → lv_has ls 6 [(1, .long FIN), (0, .ref oF)] → W p l e (kRm 10 574 6828 543) s m args below meth c H locs CX SX Q (F0 m 331 ls [])) :
    ∀ (n i cells slots : Nat) (sm : Int64) (ln : kTx) (u : List va_W) (H : Heap) (locs : List Loc) (ls : Array Slot), i + n = 8 → cells + 4 * n + 0 ≤ CX → slots + 24 * n + 0 ≤ SX → kIt (kAs4 C) n i sm = FIN → kOb g oF F C S h R T ln u → kp g u H → kd A u → va_S A s.heap H locs → lv_has ls 6 [(3, .int (nI i)), (1, .long sm), (0, .ref oF)] → W p l e (kRm 10 574 6828 543) s m args below meth c H locs cells slots Q (F0 m 289 ls []) := by
  have hx := K.1.1
  have hb := K.1.2.1
  have hts := K.1.2.2.2.2
  intro n
  induction n with
  | zero =>
    intro i cells slots sm ln u H locs ls hin hc hs1 hs hO hP hD hS hl
    have hs : sm = FIN := hs
    subst hs
    refine lv_iload_n hx hb dL_asks_289 rfl (lv_at hl 0 rfl) ?_
    refine lv_bipush (v := 8) hx hb dL_asks_290 (by decide) ?_
    refine lv_icmp_ge (tgt := 331) hx hb dL_asks_292 (by decide) (fun z => ?_) (fun z => absurd (nI_le (a := 8) (b := i) (show 8 ≤ i by omega) (by omega)) z)
    exact W.widen (by omega) (by omega) (kk ln _ _ _ _ hO hP hD hS (lv_sub hl [1, 2] rfl))
  | succ n IH =>
    intro i cells slots sm ln u H locs ls hin hc hs1 hs hO hP hD hS hl
    refine lv_iload_n hx hb dL_asks_289 rfl (lv_at hl 0 rfl) ?_
    refine lv_bipush (v := 8) hx hb dL_asks_290 (by decide) ?_
    refine lv_icmp_ge (tgt := 331) hx hb dL_asks_292 (by decide) (fun z => absurd z (nI_ge (a := i) (b := 8) (show i < 8 by omega) (by omega))) (fun z => ?_)
    refine lv_iconst (v := 0) hx hb dL_asks_295 (by decide) ?_
    refine lv_istore (lv' := [(4, .int 0), (3, .int (nI i)), (1, .long sm), (0, .ref oF)]) hx hb dL_asks_296 hl (by decide) rfl (fun ls hl => ?_)
    refine al41 hfl K hN hE hA hnb hnj (CX := cells + 4) (SX := slots + 24) (by omega) (by omega) (show i < 8 by omega) (FIN := kAs4 C i sm) (fun ln u H locs ls hO hP hD hS hl => ?_) 4 0 (cells) (slots) sm ln _ _ _ _ (by omega) (by omega) (by omega) rfl hO hP hD hS (lv_sub hl [0, 2, 1, 3] rfl)
    refine lv_iinc (v := nI (i + 1)) (lv' := [(3, .int (nI (i + 1))), (1, .long (kAs4 C i sm)), (0, .ref oF)]) hx hb dL_asks_325 hl (k := 1) rfl (nI_1 i) (by decide) rfl (fun ls hl => ?_)
    refine lv_goto (tgt := 289) hx hb dL_asks_328 (by decide) ?_
    exact IH (i + 1) (cells + 4) (slots + 24) (kAs4 C i sm) ln _ _ _ _ (by omega) (by omega) (by omega) hs hO hP hD hS (lv_sub hl [0, 1, 2] rfl)
set_option maxHeartbeats 4000000 in
set_option maxRecDepth 100000 in
theorem al5 {p : Program} {l : Launch} (hfl : l.stackTraces = false) {e : Env} {s : State} {m : MethodId} {args : Array Value} {below : List Frame} {meth : Method} {c : Code} {A : Nat → Prop} {Q : State → Prop} {g : kG} (K : kC p c cL_asks s m args meth RL g 6 (some .long)) (hN : kNc s) (hE : kE g A s s.heap) (hA : ∀ q, s.heap.size ≤ q → A q) {oF : Nat} {F : Nat → Int32} {C S : kK} {h : List kK} {R : Nat → Int32} {T : kK} (hnb : kNb C ≤ 6 ∧ C.1 7 = nI (kNb C)) (hnj : kNj C ≤ 6 ∧ C.1 4 = nI (kNj C)) {CX SX : Nat} (hCX : CX ≤ 574) (hSX : SX ≤ 6828) {FIN : Int64} (kk : ∀ (ln : kTx) (u : List va_W) (H : Heap) (locs : List Loc) (ls : Array Slot), kOb g oF F C S h R T ln u → kp g u H → kd A u → va_S A s.heap H locs → lv_has ls 6 [(1, .long FIN), (0, .ref oF)] → W p l e (kRm 10 574 6828 543) s m args below meth c H locs CX SX Q (F0 m 380 ls [])) :
    ∀ (n i cells slots : Nat) (sm : Int64) (ln : kTx) (u : List va_W) (H : Heap) (locs : List Loc) (ls : Array Slot), i + n = 4 → cells + 5 * n + 0 ≤ CX → slots + 30 * n + 0 ≤ SX → kIt (kAs5 C) n i sm = FIN → kOb g oF F C S h R T ln u → kp g u H → kd A u → va_S A s.heap H locs → lv_has ls 6 [(3, .int (nI i)), (1, .long sm), (0, .ref oF)] → W p l e (kRm 10 574 6828 543) s m args below meth c H locs cells slots Q (F0 m 333 ls []) := by
  have hx := K.1.1
  have hb := K.1.2.1
  have hts := K.1.2.2.2.2
  intro n
  induction n with
  | zero =>
    intro i cells slots sm ln u H locs ls hin hc hs1 hs hO hP hD hS hl
    have hs : sm = FIN := hs
    subst hs
    refine lv_iload_n hx hb dL_asks_333 rfl (lv_at hl 0 rfl) ?_
    refine lv_iconst (v := 4) hx hb dL_asks_334 (by decide) ?_
    refine lv_icmp_ge (tgt := 380) hx hb dL_asks_335 (by decide) (fun z => ?_) (fun z => absurd (nI_le (a := 4) (b := i) (show 4 ≤ i by omega) (by omega)) z)
    exact W.widen (by omega) (by omega) (kk ln _ _ _ _ hO hP hD hS (lv_sub hl [1, 2] rfl))
  | succ n IH =>
    intro i cells slots sm ln u H locs ls hin hc hs1 hs hO hP hD hS hl
    refine lv_iload_n hx hb dL_asks_333 rfl (lv_at hl 0 rfl) ?_
    refine lv_iconst (v := 4) hx hb dL_asks_334 (by decide) ?_
    refine lv_icmp_ge (tgt := 380) hx hb dL_asks_335 (by decide) (fun z => absurd z (nI_ge (a := i) (b := 4) (show i < 4 by omega) (by omega))) (fun z => ?_)
    refine lv_ldc2 (v := 31) hx hb K.1.2.2.2.1 (hts _ kw1308) dL_asks_338 ?_
    refine lv_ldc2 (v := 31) hx hb K.1.2.2.2.1 (hts _ kw1308) dL_asks_341 ?_
    refine lv_ldc2 (v := 31) hx hb K.1.2.2.2.1 (hts _ kw1308) dL_asks_344 ?_
    refine lv_lload_n hx hb dL_asks_347 rfl (lv_at hl 1 rfl) ?_
    refine lv_lmul hx hb dL_asks_348 ?_
    refine lv_aload_n hx hb dL_asks_349 rfl (lv_at hl 2 rfl) ?_
    refine lv_iload_n hx hb dL_asks_350 rfl (lv_at hl 0 rfl) ?_
    refine kL_SW (As := [.ref oF, .int (nI i)]) (rest := [.long (31 * sm), .long 31, .long 31]) (wr := []) K kX0_s (L_oathUntil_c l hfl g oF F C S h R T ln _ hO (nI i)) hN kX0_fr (vx_cwSW 2 hts (k_gS kw1430 cs_L_oathUntil) rfl rfl rfl pnL_oathUntil ⟨Nat.le_of_ble_eq_true rfl, Nat.le_of_ble_eq_true rfl⟩) hE hS hA hP hD rfl hl.1 rfl rfl dL_asks_351 ⟨(show cells + 2 ≤ 574 from by omega), (show slots + 12 ≤ 6828 from by omega)⟩ (fun r u H locs hp hP hD hS => ?_)
    have hP : kp g u H := hP
    have hD : kd A u := hD
    obtain ⟨hr, hO⟩ := hp
    subst hr
    refine lv_i2l hx hb dL_asks_354 rfl ?_
    refine lv_ladd hx hb dL_asks_355 ?_
    refine lv_lmul hx hb dL_asks_356 ?_
    refine lv_aload_n hx hb dL_asks_357 rfl (lv_at hl 2 rfl) ?_
    refine lv_iload_n hx hb dL_asks_358 rfl (lv_at hl 0 rfl) ?_
    refine kL_SW (As := [.ref oF, .int (nI i)]) (rest := [.long (31 * ((31 * sm) + ((kA2 2 (X4_oathUntil_f kF0 C.1 C.2 (nI i))).toInt64))), .long 31]) (wr := []) K kX0_s (L_isNoticed_c l hfl g oF F C S h R T ln _ hO (nI i)) hN kX0_fr (vx_cwSW 2 hts (k_gS kw833 cs_L_isNoticed) rfl rfl rfl pnL_isNoticed ⟨Nat.le_of_ble_eq_true rfl, Nat.le_of_ble_eq_true rfl⟩) hE hS hA hP hD rfl hl.1 rfl rfl dL_asks_359 ⟨(show cells + 2 + 1 ≤ 574 from by omega), (show slots + 12 + 6 ≤ 6828 from by omega)⟩ (fun r u H locs hp hP hD hS => ?_)
    have hP : kp g u H := hP
    have hD : kd A u := hD
    obtain ⟨hr, hO⟩ := hp
    subst hr
    refine lv_i2l hx hb dL_asks_362 rfl ?_
    refine lv_ladd hx hb dL_asks_363 ?_
    refine lv_lmul hx hb dL_asks_364 ?_
    refine lv_aload_n hx hb dL_asks_365 rfl (lv_at hl 2 rfl) ?_
    refine lv_iload_n hx hb dL_asks_366 rfl (lv_at hl 0 rfl) ?_
    refine lv_iload_n hx hb dL_asks_367 rfl (lv_at hl 0 rfl) ?_
    refine kL_SW (As := [.ref oF, .int (nI i), .int (nI i)]) (rest := [.long (31 * ((31 * ((31 * sm) + ((kA2 2 (X4_oathUntil_f kF0 C.1 C.2 (nI i))).toInt64))) + ((kA1 ((X4_isNoticed_f kF0 C.1 C.2 (nI i)).1, b2i (X4_isNoticed_f kF0 C.1 C.2 (nI i)).2)).toInt64)))]) (wr := []) K kX0_s (L_pays_c l hfl g oF F C S h R T ln _ hO (nI i) (nI i)) hN kX0_fr (vx_cwSW 3 hts (k_gS kw818 cs_L_pays) rfl rfl rfl pnL_pays ⟨Nat.le_of_ble_eq_true rfl, Nat.le_of_ble_eq_true rfl⟩) hE hS hA hP hD rfl hl.1 rfl rfl dL_asks_368 ⟨(show cells + 2 + 1 + 2 ≤ 574 from by omega), (show slots + 12 + 6 + 12 ≤ 6828 from by omega)⟩ (fun r u H locs hp hP hD hS => ?_)
    have hP : kp g u H := hP
    have hD : kd A u := hD
    obtain ⟨hr, hO⟩ := hp
    subst hr
    refine lv_i2l hx hb dL_asks_371 rfl ?_
    refine lv_ladd hx hb dL_asks_372 ?_
    refine lv_lstore_n (lv' := [(1, .long (kAs5 C i sm)), (3, .int (nI i)), (0, .ref oF)]) hx hb dL_asks_373 rfl hl (by decide) rfl (fun ls hl => ?_)
    refine lv_iinc (v := nI (i + 1)) (lv' := [(3, .int (nI (i + 1))), (1, .long (kAs5 C i sm)), (0, .ref oF)]) hx hb dL_asks_374 hl (k := 1) rfl (nI_1 i) (by decide) rfl (fun ls hl => ?_)
    refine lv_goto (tgt := 333) hx hb dL_asks_377 (by decide) ?_
    exact IH (i + 1) (cells + 2 + 1 + 2) (slots + 12 + 6 + 12) (kAs5 C i sm) ln _ _ _ _ (by omega) (by omega) (by omega) hs hO hP hD hS (lv_sub hl [0, 1, 2] rfl)
