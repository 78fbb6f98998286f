theorem pnX4_jar : yX4_jar.cls ≠ "java/lang/invoke/MethodHandle" ∧ yX4_jar.cls ≠ "java/lang/invoke/VarHandle" ∧ (parseMethodDescriptor yX4_jar.desc).map (fun d => d.parameters.length) = some 2 := by decide +kernel
theorem ca_X4_jar : kCal yX4_jar (Cond.code yX4_jar cX4_jar 3 (some .int)) := ⟨k_w 3 44 rfl rfl, k_w 3 45 rfl rfl, k_w 2 1 rfl rfl, k_w 3 46 rfl rfl⟩
theorem pnX4_bag : yX4_bag.cls ≠ "java/lang/invoke/MethodHandle" ∧ yX4_bag.cls ≠ "java/lang/invoke/VarHandle" ∧ (parseMethodDescriptor yX4_bag.desc).map (fun d => d.parameters.length) = some 1 := by decide +kernel
theorem ca_X4_bag : kCal yX4_bag (Cond.code yX4_bag cX4_bag 2 (some .int)) := ⟨k_w 4 91 rfl rfl, k_w 4 92 rfl rfl, k_w 2 1 rfl rfl, k_w 4 93 rfl rfl⟩
theorem pnX4_fill : yX4_fill.cls ≠ "java/lang/invoke/MethodHandle" ∧ yX4_fill.cls ≠ "java/lang/invoke/VarHandle" ∧ (parseMethodDescriptor yX4_fill.desc).map (fun d => d.parameters.length) = some 3 := by decide +kernel
theorem ca_X4_fill : kCal yX4_fill (Cond.code yX4_fill cX4_fill 4 (some .int)) := ⟨k_w 4 98 rfl rfl, k_w 4 99 rfl rfl, k_w 2 1 rfl rfl, k_w 4 100 rfl rfl⟩
theorem pnX4_empty : yX4_empty.cls ≠ "java/lang/invoke/MethodHandle" ∧ yX4_empty.cls ≠ "java/lang/invoke/VarHandle" ∧ (parseMethodDescriptor yX4_empty.desc).map (fun d => d.parameters.length) = some 2 := by decide +kernel
theorem ca_X4_empty : kCal yX4_empty (Cond.code yX4_empty cX4_empty 3 (some .int)) := ⟨k_w 4 105 rfl rfl, k_w 4 106 rfl rfl, k_w 2 1 rfl rfl, k_w 4 107 rfl rfl⟩
theorem pnX4_beat : yX4_beat.cls ≠ "java/lang/invoke/MethodHandle" ∧ yX4_beat.cls ≠ "java/lang/invoke/VarHandle" ∧ (parseMethodDescriptor yX4_beat.desc).map (fun d => d.parameters.length) = some 1 := by decide +kernel
theorem ca_X4_beat : kCal yX4_beat (Cond.code yX4_beat cX4_beat 2 (some .int)) := ⟨k_w 7 178 rfl rfl, k_w 7 179 rfl rfl, k_w 2 1 rfl rfl, k_w 7 180 rfl rfl⟩
theorem pnX4_thumb : yX4_thumb.cls ≠ "java/lang/invoke/MethodHandle" ∧ yX4_thumb.cls ≠ "java/lang/invoke/VarHandle" ∧ (parseMethodDescriptor yX4_thumb.desc).map (fun d => d.parameters.length) = some 1 := by decide +kernel
theorem ca_X4_thumb : kCal yX4_thumb (Cond.code yX4_thumb cX4_thumb 2 (some .int)) := ⟨k_w 4 112 rfl rfl, k_w 4 113 rfl rfl, k_w 2 1 rfl rfl, k_w 4 114 rfl rfl⟩
theorem pnX4_weigh : yX4_weigh.cls ≠ "java/lang/invoke/MethodHandle" ∧ yX4_weigh.cls ≠ "java/lang/invoke/VarHandle" ∧ (parseMethodDescriptor yX4_weigh.desc).map (fun d => d.parameters.length) = some 1 := by decide +kernel
theorem ca_X4_weigh : kCal yX4_weigh (Cond.code yX4_weigh cX4_weigh 2 (some .int)) := ⟨k_w 4 119 rfl rfl, k_w 4 120 rfl rfl, k_w 2 1 rfl rfl, k_w 4 121 rfl rfl⟩
theorem pnX4_sell : yX4_sell.cls ≠ "java/lang/invoke/MethodHandle" ∧ yX4_sell.cls ≠ "java/lang/invoke/VarHandle" ∧ (parseMethodDescriptor yX4_sell.desc).map (fun d => d.parameters.length) = some 1 := by decide +kernel
theorem ca_X4_sell : kCal yX4_sell (Cond.code yX4_sell cX4_sell 2 (some .int)) := ⟨k_w 4 126 rfl rfl, k_w 4 127 rfl rfl, k_w 2 1 rfl rfl, k_w 4 128 rfl rfl⟩
theorem pnX4_oath : yX4_oath.cls ≠ "java/lang/invoke/MethodHandle" ∧ yX4_oath.cls ≠ "java/lang/invoke/VarHandle" ∧ (parseMethodDescriptor yX4_oath.desc).map (fun d => d.parameters.length) = some 0 := by decide +kernel
theorem ca_X4_oath : kCal yX4_oath (Cond.code yX4_oath cX4_oath 1 (some .int)) := ⟨k_w 4 133 rfl rfl, k_w 4 134 rfl rfl, k_w 2 1 rfl rfl, k_w 4 135 rfl rfl⟩
theorem pnX4_go : yX4_go.cls ≠ "java/lang/invoke/MethodHandle" ∧ yX4_go.cls ≠ "java/lang/invoke/VarHandle" ∧ (parseMethodDescriptor yX4_go.desc).map (fun d => d.parameters.length) = some 1 := by decide +kernel
theorem ca_X4_go : kCal yX4_go (Cond.code yX4_go cX4_go 2 (some .int)) := ⟨k_w 4 140 rfl rfl, k_w 4 141 rfl rfl, k_w 2 1 rfl rfl, k_w 4 142 rfl rfl⟩
theorem pnX4_seal : yX4_seal.cls ≠ "java/lang/invoke/MethodHandle" ∧ yX4_seal.cls ≠ "java/lang/invoke/VarHandle" ∧ (parseMethodDescriptor yX4_seal.desc).map (fun d => d.parameters.length) = some 1 := by decide +kernel
theorem ca_X4_seal : kCal yX4_seal (Cond.code yX4_seal cX4_seal 2 (some .int)) := ⟨k_w 4 147 rfl rfl, k_w 4 148 rfl rfl, k_w 2 1 rfl rfl, k_w 4 149 rfl rfl⟩
theorem pnX4_days : yX4_days.cls ≠ "java/lang/invoke/MethodHandle" ∧ yX4_days.cls ≠ "java/lang/invoke/VarHandle" ∧ (parseMethodDescriptor yX4_days.desc).map (fun d => d.parameters.length) = some 1 := by decide +kernel
theorem ca_X4_days : kCal yX4_days (Cond.code yX4_days cX4_days 2 (some .int)) := ⟨k_w 4 154 rfl rfl, k_w 4 155 rfl rfl, k_w 2 1 rfl rfl, k_w 4 156 rfl rfl⟩
theorem pnX4_jarOf : yX4_jarOf.cls ≠ "java/lang/invoke/MethodHandle" ∧ yX4_jarOf.cls ≠ "java/lang/invoke/VarHandle" ∧ (parseMethodDescriptor yX4_jarOf.desc).map (fun d => d.parameters.length) = some 2 := by decide +kernel
theorem ca_X4_jarOf : kCal yX4_jarOf (Cond.code yX4_jarOf cX4_jarOf 3 (some .int)) := ⟨k_w 7 100 rfl rfl, k_w 7 101 rfl rfl, k_w 2 1 rfl rfl, k_w 7 102 rfl rfl⟩
theorem pnX4_bagOf : yX4_bagOf.cls ≠ "java/lang/invoke/MethodHandle" ∧ yX4_bagOf.cls ≠ "java/lang/invoke/VarHandle" ∧ (parseMethodDescriptor yX4_bagOf.desc).map (fun d => d.parameters.length) = some 2 := by decide +kernel
theorem ca_X4_bagOf : kCal yX4_bagOf (Cond.code yX4_bagOf cX4_bagOf 3 (some .int)) := ⟨k_w 7 109 rfl rfl, k_w 7 110 rfl rfl, k_w 2 1 rfl rfl, k_w 7 111 rfl rfl⟩
theorem pnX4_weightOf : yX4_weightOf.cls ≠ "java/lang/invoke/MethodHandle" ∧ yX4_weightOf.cls ≠ "java/lang/invoke/VarHandle" ∧ (parseMethodDescriptor yX4_weightOf.desc).map (fun d => d.parameters.length) = some 2 := by decide +kernel
theorem ca_X4_weightOf : kCal yX4_weightOf (Cond.code yX4_weightOf cX4_weightOf 3 (some .int)) := ⟨k_w 4 186 rfl rfl, k_w 4 187 rfl rfl, k_w 2 1 rfl rfl, k_w 4 188 rfl rfl⟩
theorem pnX4_told : yX4_told.cls ≠ "java/lang/invoke/MethodHandle" ∧ yX4_told.cls ≠ "java/lang/invoke/VarHandle" ∧ (parseMethodDescriptor yX4_told.desc).map (fun d => d.parameters.length) = some 1 := by decide +kernel
theorem ca_X4_told : kCal yX4_told (Cond.code yX4_told cX4_told 2 (some .int)) := ⟨k_w 4 228 rfl rfl, k_w 4 229 rfl rfl, k_w 2 1 rfl rfl, k_w 4 230 rfl rfl⟩
theorem pnX4_toldAgain : yX4_toldAgain.cls ≠ "java/lang/invoke/MethodHandle" ∧ yX4_toldAgain.cls ≠ "java/lang/invoke/VarHandle" ∧ (parseMethodDescriptor yX4_toldAgain.desc).map (fun d => d.parameters.length) = some 1 := by decide +kernel
theorem ca_X4_toldAgain : kCal yX4_toldAgain (Cond.code yX4_toldAgain cX4_toldAgain 3 (some .int)) := ⟨k_w 5 4 rfl rfl, k_w 5 5 rfl rfl, k_w 2 1 rfl rfl, k_w 5 6 rfl rfl⟩
theorem pnX4_onPan : yX4_onPan.cls ≠ "java/lang/invoke/MethodHandle" ∧ yX4_onPan.cls ≠ "java/lang/invoke/VarHandle" ∧ (parseMethodDescriptor yX4_onPan.desc).map (fun d => d.parameters.length) = some 1 := by decide +kernel
theorem ca_X4_onPan : kCal yX4_onPan (Cond.code yX4_onPan cX4_onPan 2 (some .int)) := ⟨k_w 5 20 rfl rfl, k_w 5 21 rfl rfl, k_w 2 1 rfl rfl, k_w 5 22 rfl rfl⟩
theorem pnX4_rest : yX4_rest.cls ≠ "java/lang/invoke/MethodHandle" ∧ yX4_rest.cls ≠ "java/lang/invoke/VarHandle" ∧ (parseMethodDescriptor yX4_rest.desc).map (fun d => d.parameters.length) = some 1 := by decide +kernel
theorem ca_X4_rest : kCal yX4_rest (Cond.code yX4_rest cX4_rest 2 (some .int)) := ⟨k_w 5 27 rfl rfl, k_w 5 28 rfl rfl, k_w 2 1 rfl rfl, k_w 5 29 rfl rfl⟩
theorem pnX4_honest : yX4_honest.cls ≠ "java/lang/invoke/MethodHandle" ∧ yX4_honest.cls ≠ "java/lang/invoke/VarHandle" ∧ (parseMethodDescriptor yX4_honest.desc).map (fun d => d.parameters.length) = some 1 := by decide +kernel
theorem ca_X4_honest : kCal yX4_honest (Cond.code yX4_honest cX4_honest 2 (some .int)) := ⟨k_w 7 117 rfl rfl, k_w 7 118 rfl rfl, k_w 2 1 rfl rfl, k_w 7 119 rfl rfl⟩
theorem pnX4_pays : yX4_pays.cls ≠ "java/lang/invoke/MethodHandle" ∧ yX4_pays.cls ≠ "java/lang/invoke/VarHandle" ∧ (parseMethodDescriptor yX4_pays.desc).map (fun d => d.parameters.length) = some 2 := by decide +kernel
theorem ca_X4_pays : kCal yX4_pays (Cond.code yX4_pays cX4_pays 3 (some .int)) := ⟨k_w 5 34 rfl rfl, k_w 5 35 rfl rfl, k_w 2 1 rfl rfl, k_w 5 36 rfl rfl⟩
theorem pnX4_wouldGet : yX4_wouldGet.cls ≠ "java/lang/invoke/MethodHandle" ∧ yX4_wouldGet.cls ≠ "java/lang/invoke/VarHandle" ∧ (parseMethodDescriptor yX4_wouldGet.desc).map (fun d => d.parameters.length) = some 2 := by decide +kernel
theorem ca_X4_wouldGet : kCal yX4_wouldGet (Cond.code yX4_wouldGet cX4_wouldGet 3 (some .int)) := ⟨k_w 7 124 rfl rfl, k_w 7 125 rfl rfl, k_w 2 1 rfl rfl, k_w 7 126 rfl rfl⟩
theorem pnX4_bestMarket : yX4_bestMarket.cls ≠ "java/lang/invoke/MethodHandle" ∧ yX4_bestMarket.cls ≠ "java/lang/invoke/VarHandle" ∧ (parseMethodDescriptor yX4_bestMarket.desc).map (fun d => d.parameters.length) = some 1 := by decide +kernel
theorem ca_X4_bestMarket : kCal yX4_bestMarket (Cond.code yX4_bestMarket cX4_bestMarket 2 (some .int)) := ⟨k_w 7 138 rfl rfl, k_w 7 139 rfl rfl, k_w 2 1 rfl rfl, k_w 7 140 rfl rfl⟩
theorem pnX4_oathUntil : yX4_oathUntil.cls ≠ "java/lang/invoke/MethodHandle" ∧ yX4_oathUntil.cls ≠ "java/lang/invoke/VarHandle" ∧ (parseMethodDescriptor yX4_oathUntil.desc).map (fun d => d.parameters.length) = some 1 := by decide +kernel
theorem ca_X4_oathUntil : kCal yX4_oathUntil (Cond.code yX4_oathUntil cX4_oathUntil 2 (some .int)) := ⟨k_w 7 166 rfl rfl, k_w 7 167 rfl rfl, k_w 2 1 rfl rfl, k_w 7 168 rfl rfl⟩
theorem pnX4_isNoticed : yX4_isNoticed.cls ≠ "java/lang/invoke/MethodHandle" ∧ yX4_isNoticed.cls ≠ "java/lang/invoke/VarHandle" ∧ (parseMethodDescriptor yX4_isNoticed.desc).map (fun d => d.parameters.length) = some 1 := by decide +kernel
theorem ca_X4_isNoticed : kCal yX4_isNoticed (Cond.code yX4_isNoticed cX4_isNoticed 2 (some .boolean)) := ⟨k_w 5 49 rfl rfl, k_w 5 50 rfl rfl, k_w 2 1 rfl rfl, k_w 5 51 rfl rfl⟩
theorem pnX4_ranked : yX4_ranked.cls ≠ "java/lang/invoke/MethodHandle" ∧ yX4_ranked.cls ≠ "java/lang/invoke/VarHandle" ∧ (parseMethodDescriptor yX4_ranked.desc).map (fun d => d.parameters.length) = some 1 := by decide +kernel
theorem ca_X4_ranked : kCal yX4_ranked (Cond.code yX4_ranked cX4_ranked 3 (some .int)) := ⟨k_w 7 150 rfl rfl, k_w 7 151 rfl rfl, k_w 2 1 rfl rfl, k_w 7 152 rfl rfl⟩
theorem pnX4_append : yX4_append.cls ≠ "java/lang/invoke/MethodHandle" ∧ yX4_append.cls ≠ "java/lang/invoke/VarHandle" ∧ (parseMethodDescriptor yX4_append.desc).map (fun d => d.parameters.length) = some 1 := by decide +kernel
theorem ca_X4_append : kCal yX4_append (Cond.code yX4_append cX4_append 2 (some .int)) := ⟨k_w 5 58 rfl rfl, k_w 5 59 rfl rfl, k_w 2 1 rfl rfl, k_w 5 60 rfl rfl⟩
theorem pnX4_commands : yX4_commands.cls ≠ "java/lang/invoke/MethodHandle" ∧ yX4_commands.cls ≠ "java/lang/invoke/VarHandle" ∧ (parseMethodDescriptor yX4_commands.desc).map (fun d => d.parameters.length) = some 0 := by decide +kernel
theorem ca_X4_commands : kCal yX4_commands (Cond.code yX4_commands cX4_commands 3 (some .int)) := ⟨k_w 5 81 rfl rfl, k_w 5 82 rfl rfl, k_w 2 1 rfl rfl, k_w 5 83 rfl rfl⟩
theorem pnX4_reason : yX4_reason.cls ≠ "java/lang/invoke/MethodHandle" ∧ yX4_reason.cls ≠ "java/lang/invoke/VarHandle" ∧ (parseMethodDescriptor yX4_reason.desc).map (fun d => d.parameters.length) = some 1 := by decide +kernel
theorem ca_X4_reason : kCal yX4_reason (Cond.code yX4_reason cX4_reason 2 (some .int)) := ⟨k_w 5 214 rfl rfl, k_w 5 215 rfl rfl, k_w 2 1 rfl rfl, k_w 5 216 rfl rfl⟩
theorem pnX4_account : yX4_account.cls ≠ "java/lang/invoke/MethodHandle" ∧ yX4_account.cls ≠ "java/lang/invoke/VarHandle" ∧ (parseMethodDescriptor yX4_account.desc).map (fun d => d.parameters.length) = some 1 := by decide +kernel
theorem ca_X4_account : kCal yX4_account (Cond.code yX4_account cX4_account 2 (some .int)) := ⟨k_w 5 177 rfl rfl, k_w 5 178 rfl rfl, k_w 2 1 rfl rfl, k_w 5 179 rfl rfl⟩
theorem pnX4_undo : yX4_undo.cls ≠ "java/lang/invoke/MethodHandle" ∧ yX4_undo.cls ≠ "java/lang/invoke/VarHandle" ∧ (parseMethodDescriptor yX4_undo.desc).map (fun d => d.parameters.length) = some 0 := by decide +kernel
theorem ca_X4_undo : kCal yX4_undo (Cond.code yX4_undo cX4_undo 1 (some .int)) := ⟨k_w 5 190 rfl rfl, k_w 5 191 rfl rfl, k_w 2 1 rfl rfl, k_w 5 192 rfl rfl⟩
theorem pnX4_restore : yX4_restore.cls ≠ "java/lang/invoke/MethodHandle" ∧ yX4_restore.cls ≠ "java/lang/invoke/VarHandle" ∧ (parseMethodDescriptor yX4_restore.desc).map (fun d => d.parameters.length) = some 0 := by decide +kernel
theorem ca_X4_restore : kCal yX4_restore (Cond.code yX4_restore cX4_restore 1 (some .int)) := ⟨k_w 5 202 rfl rfl, k_w 5 203 rfl rfl, k_w 2 1 rfl rfl, k_w 5 204 rfl rfl⟩
theorem kw350 : Cond.classLink RL 13 "java/lang/UnsupportedOperationException" ∈ kW := k_w 3 42 rfl rfl
theorem kw351 : Cond.methodLink RL 7 yX4_jar ∈ kW := k_w 3 43 rfl rfl
theorem kw638 : Cond.methodLink RL 15 yX4_bag ∈ kW := k_w 4 90 rfl rfl
theorem kw645 : Cond.methodLink RL 19 yX4_fill ∈ kW := k_w 4 97 rfl rfl
theorem kw652 : Cond.methodLink RL 23 yX4_empty ∈ kW := k_w 4 104 rfl rfl
theorem kw659 : Cond.methodLink RL 29 yX4_thumb ∈ kW := k_w 4 111 rfl rfl
theorem kw666 : Cond.methodLink RL 32 yX4_weigh ∈ kW := k_w 4 118 rfl rfl
theorem kw673 : Cond.methodLink RL 35 yX4_sell ∈ kW := k_w 4 125 rfl rfl
theorem kw680 : Cond.methodLink RL 38 yX4_oath ∈ kW := k_w 4 132 rfl rfl
theorem kw687 : Cond.methodLink RL 42 yX4_go ∈ kW := k_w 4 139 rfl rfl
theorem kw694 : Cond.methodLink RL 45 yX4_seal ∈ kW := k_w 4 146 rfl rfl
theorem kw701 : Cond.methodLink RL 48 yX4_days ∈ kW := k_w 4 153 rfl rfl
theorem kw1445 : Cond.methodLink RL 26 yX4_beat ∈ kW := k_w 7 177 rfl rfl
abbrev wL_jar : List Cond := Cond.codeWith yL_jar cL_jar 4 (some .int) [(0, 6, 7, 13)] :: kW
set_option maxHeartbeats 4000000 in
set_option maxRecDepth 100000 in
theorem L_jar_c (l : Launch) (hfl : l.stackTraces = false) (g : kG) (oF : Nat) (F : Nat → Int32) (C S : kK) (h : List kK) (R : Nat → Int32) (T : kK) (ln : kTx) (cs : List va_W) (hO : kOb g oF F C S h R T ln cs) (p0 : Int32) (p1 : Int32) : kL kX0 l yL_jar wL_jar 8 163 1 6 g [.ref oF, .int p0, .int p1] cs (fun x u => kChg g oF F C S h R T ln 74 p0 p1 0 x u) := by
  obtain ⟨oC, oS, oH, oR, oT, oB, rC, rS, rH, rR, rT, oQ, rQ, vH, aH, q, n, ml, f, rfl, hT4, hHi, hIv⟩ := hO
  have hI := hIv.1
  have hTx := hIv.2.2.2.1
  obtain ⟨⟨nb, hnb, hv7⟩, ⟨nj, hnj, hv4⟩, hM⟩ := id hI
  refine kLg_of (cc := cL_jar) (nL := 4) (ret := some .int) (lv := [(0, .ref oF), (1, .int p0), (2, .int p1)]) (by decide) rfl (Nat.le_of_ble_eq_true rfl) rfl ?_
  intro p e s m args below meth c ls A htab hN hX K hP hD hE hA hS hl
  have K : kC p c cL_jar s m args meth RL g 4 (some .int) := K
  have hx := K.1.1
  have hb := K.1.2.1
  have hts := K.1.2.2.2.2
  refine lv_aload_n hx hb dL_jar_0 rfl (lv_at hl 0 rfl) ?_
  refine lv_iload_n hx hb dL_jar_1 rfl (lv_at hl 1 rfl) ?_
  refine lv_iload_n hx hb dL_jar_2 rfl (lv_at hl 2 rfl) ?_
  refine kX_V (As := [.int p0, .int p1]) (rest := []) (wr := [X0W g oS rS S.1 S.2, X1W g oT rT T.1 T.2, JOW oB q ml (nI ln.2), JAW g q n f]) K (X4_jar_c l g oF F oS oT oB oC rC C.1 C.2 oH rH vH oQ rQ aH oR rR R kA0 p0 p1 nb nj hnb hv7 hnj hv4 hM hHi.in9 hfl) (cwV 2 hts (k_gV kw351 ca_X4_jar) rfl rfl rfl ⟨rfl, pnX4_jar⟩ ⟨Nat.le_of_ble_eq_true rfl, Nat.le_of_ble_eq_true rfl⟩) hE hS hA hP hD [0, 1, 3, 4] [2, 5, 6, 7] rfl rfl ⟨rfl, rfl, by decide⟩ (k_recv K kFX4 hP (i := 0) (q := 0) rfl rfl) rfl hl.1 rfl rfl dL_jar_3 ⟨Nat.le_of_ble_eq_true rfl, Nat.le_of_ble_eq_true rfl⟩ (fun E u H locs qE ce hp hP hD hS hce hcv hcl => ?_) (fun r u H locs hp hP hD hS => ?_)
  · obtain ⟨hc, hE2, hu⟩ := hp
    obtain ⟨R1, hR1, ⟨ha, hG⟩ | ⟨ha, x1, D, hD1, hx1, hG⟩⟩ := kc_ch F C vH aH R 74 p0 p1 0
    · have hF : X4_jar_f F C.1 C.2 vH aH R kA0 p0 p1 = (1, 0, C.1, C.2, vH, aH, R1) := by unfold X4_jar_f; rw [hG]; rfl
      rw [hF] at hE2 hu
      have hE3 : E = "java/lang/UnsupportedOperationException" := hE2
      subst hE3
      have hu : u = [X4W g oF (kFr oC oS oH oR oT oB) F, X0W g oC rC C.1 C.2, X2W g oH rH vH oQ rQ aH, X3W g oR rR R1 kA0] := hu
      subst hu
      have hP : kp g [X4W g oF (kFr oC oS oH oR oT oB) F, X0W g oC rC C.1 C.2, X0W g oS rS S.1 S.2, X2W g oH rH vH oQ rQ aH, X3W g oR rR R1 kA0, X1W g oT rT T.1 T.2, JOW oB q ml (nI ln.2), JAW g q n f] H := hP.pick [4, 5, 0, 6, 7, 1, 2, 3] rfl
      have hD : kd A [X4W g oF (kFr oC oS oH oR oT oB) F, X0W g oC rC C.1 C.2, X0W g oS rS S.1 S.2, X2W g oH rH vH oQ rQ aH, X3W g oR rR R1 kA0, X1W g oT rT T.1 T.2, JOW oB q ml (nI ln.2), JAW g q n f] := hD.pick [4, 5, 0, 6, 7, 1, 2, 3] rfl rfl
      refine kx_catch1 (E := "java/lang/UnsupportedOperationException") K htab rfl (by decide) kw350 (List.mem_of_getElem? (i := 84) rfl) hce hcv hcl ?_
      refine lv_astore_n (lv' := [(3, .ref qE), (0, .ref oF), (1, .int p0), (2, .int p1)]) hx hb dL_jar_7 rfl hl (by decide) rfl (fun ls hl => ?_)
      refine lv_sipush (v := (-1001)) hx hb dL_jar_8 (by decide) ?_
      exact kL_ret K hP hD hS ⟨R1, hR1, Or.inl ⟨ha, rfl, ⟨oC, oS, oH, oR, oT, oB, rC, rS, rH, rR, rT, oQ, rQ, vH, aH, q, n, ml, f, rfl, hT4, hHi, hIv⟩⟩⟩ ⟨Nat.le_of_ble_eq_true rfl, Nat.le_of_ble_eq_true rfl⟩ dL_jar_11
    · have hF : X4_jar_f F C.1 C.2 vH aH R kA0 p0 p1 = (0, x1, D.1, D.2, X2_keepHeld_f vH (X2_hold_f vH aH C.1 C.2), X2_hold_f vH aH C.1 C.2, R1) := by unfold X4_jar_f; rw [hG]; rfl
      rw [hF] at hc
      exact absurd rfl hc
  obtain ⟨hc, hr, hu⟩ := hp
  obtain ⟨R1, hR1, ⟨ha, hG⟩ | ⟨ha, x1, D, hD1, hx1, hG⟩⟩ := kc_ch F C vH aH R 74 p0 p1 0
  · have hF : X4_jar_f F C.1 C.2 vH aH R kA0 p0 p1 = (1, 0, C.1, C.2, vH, aH, R1) := by unfold X4_jar_f; rw [hG]; rfl
    rw [hF] at hc
    exact absurd (show (1 : Nat) = 0 from hc) (by decide)
  · have hF : X4_jar_f F C.1 C.2 vH aH R kA0 p0 p1 = (0, x1, D.1, D.2, X2_keepHeld_f vH (X2_hold_f vH aH C.1 C.2), X2_hold_f vH aH C.1 C.2, R1) := by unfold X4_jar_f; rw [hG]; rfl
    rw [hF] at hr hu
    have hr : r = x1 := hr
    subst hr
    have hu : u = [X4W g oF (kFr oC oS oH oR oT oB) F, X0W g oC rC D.1 D.2, X2W g oH rH (X2_keepHeld_f vH (X2_hold_f vH aH C.1 C.2)) oQ rQ (X2_hold_f vH aH C.1 C.2), X3W g oR rR R1 kA0] := hu
    subst hu
    have hP : kp g [X4W g oF (kFr oC oS oH oR oT oB) F, X0W g oC rC D.1 D.2, X0W g oS rS S.1 S.2, X2W g oH rH (X2_keepHeld_f vH (X2_hold_f vH aH C.1 C.2)) oQ rQ (X2_hold_f vH aH C.1 C.2), X3W g oR rR R1 kA0, X1W g oT rT T.1 T.2, JOW oB q ml (nI ln.2), JAW g q n f] H := hP.pick [4, 5, 0, 6, 7, 1, 2, 3] rfl
    have hD : kd A [X4W g oF (kFr oC oS oH oR oT oB) F, X0W g oC rC D.1 D.2, X0W g oS rS S.1 S.2, X2W g oH rH (X2_keepHeld_f vH (X2_hold_f vH aH C.1 C.2)) oQ rQ (X2_hold_f vH aH C.1 C.2), X3W g oR rR R1 kA0, X1W g oT rT T.1 T.2, JOW oB q ml (nI ln.2), JAW g q n f] := hD.pick [4, 5, 0, 6, 7, 1, 2, 3] rfl rfl
    exact kL_ret K hP hD hS ⟨R1, hR1, Or.inr ⟨ha, D, hD1, hx1, ⟨oC, oS, oH, oR, oT, oB, rC, rS, rH, rR, rT, oQ, rQ, _, _, q, n, ml, f, by rw [kN_W], hT4, hHi.push C, hIv.chg (by rw [hD1]; exact kco_ic hI ha)⟩⟩⟩ ⟨Nat.le_of_ble_eq_true rfl, Nat.le_of_ble_eq_true rfl⟩ dL_jar_6
abbrev wL_bag : List Cond := Cond.codeWith yL_bag cL_bag 3 (some .int) [(0, 5, 6, 13)] :: kW
set_option maxHeartbeats 4000000 in
set_option maxRecDepth 100000 in
theorem L_bag_c (l : Launch) (hfl : l.stackTraces = false) (g : kG) (oF : Nat) (F : Nat → Int32) (C S : kK) (h : List kK) (R : Nat → Int32) (T : kK) (ln : kTx) (cs : List va_W) (hO : kOb g oF F C S h R T ln cs) (p0 : Int32) : kL kX0 l yL_bag wL_bag 8 162 1 6 g [.ref oF, .int p0] cs (fun x u => kChg g oF F C S h R T ln 66 p0 0 0 x u) := by
  obtain ⟨oC, oS, oH, oR, oT, oB, rC, rS, rH, rR, rT, oQ, rQ, vH, aH, q, n, ml, f, rfl, hT4, hHi, hIv⟩ := hO
  have hI := hIv.1
  have hTx := hIv.2.2.2.1
  obtain ⟨⟨nb, hnb, hv7⟩, ⟨nj, hnj, hv4⟩, hM⟩ := id hI
  refine kLg_of (cc := cL_bag) (nL := 3) (ret := some .int) (lv := [(0, .ref oF), (1, .int p0)]) (by decide) rfl (Nat.le_of_ble_eq_true rfl) rfl ?_
  intro p e s m args below meth c ls A htab hN hX K hP hD hE hA hS hl
  have K : kC p c cL_bag s m args meth RL g 3 (some .int) := K
  have hx := K.1.1
  have hb := K.1.2.1
  have hts := K.1.2.2.2.2
  refine lv_aload_n hx hb dL_bag_0 rfl (lv_at hl 0 rfl) ?_
  refine lv_iload_n hx hb dL_bag_1 rfl (lv_at hl 1 rfl) ?_
  refine kX_V (As := [.int p0]) (rest := []) (wr := [X0W g oS rS S.1 S.2, X1W g oT rT T.1 T.2, JOW oB q ml (nI ln.2), JAW g q n f]) K (X4_bag_c l g oF F oS oT oB oC rC C.1 C.2 oH rH vH oQ rQ aH oR rR R kA0 p0 nb nj hnb hv7 hnj hv4 hM hHi.in9 hfl) (cwV 1 hts (k_gV kw638 ca_X4_bag) rfl rfl rfl ⟨rfl, pnX4_bag⟩ ⟨Nat.le_of_ble_eq_true rfl, Nat.le_of_ble_eq_true rfl⟩) hE hS hA hP hD [0, 1, 3, 4] [2, 5, 6, 7] rfl rfl ⟨rfl, rfl, by decide⟩ (k_recv K kFX4 hP (i := 0) (q := 0) rfl rfl) rfl hl.1 rfl rfl dL_bag_2 ⟨Nat.le_of_ble_eq_true rfl, Nat.le_of_ble_eq_true rfl⟩ (fun E u H locs qE ce hp hP hD hS hce hcv hcl => ?_) (fun r u H locs hp hP hD hS => ?_)
  · obtain ⟨hc, hE2, hu⟩ := hp
    obtain ⟨R1, hR1, ⟨ha, hG⟩ | ⟨ha, x1, D, hD1, hx1, hG⟩⟩ := kc_ch F C vH aH R 66 p0 0 0
    · have hF : X4_bag_f F C.1 C.2 vH aH R kA0 p0 = (1, 0, C.1, C.2, vH, aH, R1) := by unfold X4_bag_f; rw [hG]; rfl
      rw [hF] at hE2 hu
      have hE3 : E = "java/lang/UnsupportedOperationException" := hE2
      subst hE3
      have hu : u = [X4W g oF (kFr oC oS oH oR oT oB) F, X0W g oC rC C.1 C.2, X2W g oH rH vH oQ rQ aH, X3W g oR rR R1 kA0] := hu
      subst hu
      have hP : kp g [X4W g oF (kFr oC oS oH oR oT oB) F, X0W g oC rC C.1 C.2, X0W g oS rS S.1 S.2, X2W g oH rH vH oQ rQ aH, X3W g oR rR R1 kA0, X1W g oT rT T.1 T.2, JOW oB q ml (nI ln.2), JAW g q n f] H := hP.pick [4, 5, 0, 6, 7, 1, 2, 3] rfl
      have hD : kd A [X4W g oF (kFr oC oS oH oR oT oB) F, X0W g oC rC C.1 C.2, X0W g oS rS S.1 S.2, X2W g oH rH vH oQ rQ aH, X3W g oR rR R1 kA0, X1W g oT rT T.1 T.2, JOW oB q ml (nI ln.2), JAW g q n f] := hD.pick [4, 5, 0, 6, 7, 1, 2, 3] rfl rfl
      refine kx_catch1 (E := "java/lang/UnsupportedOperationException") K htab rfl (by decide) kw350 (List.mem_of_getElem? (i := 84) rfl) hce hcv hcl ?_
      refine lv_astore_n (lv' := [(2, .ref qE), (0, .ref oF), (1, .int p0)]) hx hb dL_bag_6 rfl hl (by decide) rfl (fun ls hl => ?_)
      refine lv_sipush (v := (-1001)) hx hb dL_bag_7 (by decide) ?_
      exact kL_ret K hP hD hS ⟨R1, hR1, Or.inl ⟨ha, rfl, ⟨oC, oS, oH, oR, oT, oB, rC, rS, rH, rR, rT, oQ, rQ, vH, aH, q, n, ml, f, rfl, hT4, hHi, hIv⟩⟩⟩ ⟨Nat.le_of_ble_eq_true rfl, Nat.le_of_ble_eq_true rfl⟩ dL_bag_10
    · have hF : X4_bag_f F C.1 C.2 vH aH R kA0 p0 = (0, x1, D.1, D.2, X2_keepHeld_f vH (X2_hold_f vH aH C.1 C.2), X2_hold_f vH aH C.1 C.2, R1) := by unfold X4_bag_f; rw [hG]; rfl
      rw [hF] at hc
      exact absurd rfl hc
  obtain ⟨hc, hr, hu⟩ := hp
  obtain ⟨R1, hR1, ⟨ha, hG⟩ | ⟨ha, x1, D, hD1, hx1, hG⟩⟩ := kc_ch F C vH aH R 66 p0 0 0
  · have hF : X4_bag_f F C.1 C.2 vH aH R kA0 p0 = (1, 0, C.1, C.2, vH, aH, R1) := by unfold X4_bag_f; rw [hG]; rfl
    rw [hF] at hc
    exact absurd (show (1 : Nat) = 0 from hc) (by decide)
  · have hF : X4_bag_f F C.1 C.2 vH aH R kA0 p0 = (0, x1, D.1, D.2, X2_keepHeld_f vH (X2_hold_f vH aH C.1 C.2), X2_hold_f vH aH C.1 C.2, R1) := by unfold X4_bag_f; rw [hG]; rfl
    rw [hF] at hr hu
    have hr : r = x1 := hr
    subst hr
    have hu : u = [X4W g oF (kFr oC oS oH oR oT oB) F, X0W g oC rC D.1 D.2, X2W g oH rH (X2_keepHeld_f vH (X2_hold_f vH aH C.1 C.2)) oQ rQ (X2_hold_f vH aH C.1 C.2), X3W g oR rR R1 kA0] := hu
    subst hu
    have hP : kp g [X4W g oF (kFr oC oS oH oR oT oB) F, X0W g oC rC D.1 D.2, X0W g oS rS S.1 S.2, X2W g oH rH (X2_keepHeld_f vH (X2_hold_f vH aH C.1 C.2)) oQ rQ (X2_hold_f vH aH C.1 C.2), X3W g oR rR R1 kA0, X1W g oT rT T.1 T.2, JOW oB q ml (nI ln.2), JAW g q n f] H := hP.pick [4, 5, 0, 6, 7, 1, 2, 3] rfl
    have hD : kd A [X4W g oF (kFr oC oS oH oR oT oB) F, X0W g oC rC D.1 D.2, X0W g oS rS S.1 S.2, X2W g oH rH (X2_keepHeld_f vH (X2_hold_f vH aH C.1 C.2)) oQ rQ (X2_hold_f vH aH C.1 C.2), X3W g oR rR R1 kA0, X1W g oT rT T.1 T.2, JOW oB q ml (nI ln.2), JAW g q n f] := hD.pick [4, 5, 0, 6, 7, 1, 2, 3] rfl rfl
    exact kL_ret K hP hD hS ⟨R1, hR1, Or.inr ⟨ha, D, hD1, hx1, ⟨oC, oS, oH, oR, oT, oB, rC, rS, rH, rR, rT, oQ, rQ, _, _, q, n, ml, f, by rw [kN_W], hT4, hHi.push C, hIv.chg (by rw [hD1]; exact kco_ic hI ha)⟩⟩⟩ ⟨Nat.le_of_ble_eq_true rfl, Nat.le_of_ble_eq_true rfl⟩ dL_bag_5
abbrev wL_fill : List Cond := Cond.codeWith yL_fill cL_fill 5 (some .int) [(0, 7, 8, 13)] :: kW
set_option maxHeartbeats 4000000 in
set_option maxRecDepth 100000 in
theorem L_fill_c (l : Launch) (hfl : l.stackTraces = false) (g : kG) (oF : Nat) (F : Nat → Int32) (C S : kK) (h : List kK) (R : Nat → Int32) (T : kK) (ln : kTx) (cs : List va_W) (hO : kOb g oF F C S h R T ln cs) (p0 : Int32) (p1 : Int32) (p2 : Int32) : kL kX0 l yL_fill wL_fill 8 164 1 6 g [.ref oF, .int p0, .int p1, .int p2] cs (fun x u => kChg g oF F C S h R T ln 102 p0 p1 p2 x u) := by
  obtain ⟨oC, oS, oH, oR, oT, oB, rC, rS, rH, rR, rT, oQ, rQ, vH, aH, q, n, ml, f, rfl, hT4, hHi, hIv⟩ := hO
  have hI := hIv.1
  have hTx := hIv.2.2.2.1
  obtain ⟨⟨nb, hnb, hv7⟩, ⟨nj, hnj, hv4⟩, hM⟩ := id hI
  refine kLg_of (cc := cL_fill) (nL := 5) (ret := some .int) (lv := [(0, .ref oF), (1, .int p0), (2, .int p1), (3, .int p2)]) (by decide) rfl (Nat.le_of_ble_eq_true rfl) rfl ?_
  intro p e s m args below meth c ls A htab hN hX K hP hD hE hA hS hl
  have K : kC p c cL_fill s m args meth RL g 5 (some .int) := K
  have hx := K.1.1
  have hb := K.1.2.1
  have hts := K.1.2.2.2.2
  refine lv_aload_n hx hb dL_fill_0 rfl (lv_at hl 0 rfl) ?_
  refine lv_iload_n hx hb dL_fill_1 rfl (lv_at hl 1 rfl) ?_
  refine lv_iload_n hx hb dL_fill_2 rfl (lv_at hl 2 rfl) ?_
  refine lv_iload_n hx hb dL_fill_3 rfl (lv_at hl 3 rfl) ?_
  refine kX_V (As := [.int p0, .int p1, .int p2]) (rest := []) (wr := [X0W g oS rS S.1 S.2, X1W g oT rT T.1 T.2, JOW oB q ml (nI ln.2), JAW g q n f]) K (X4_fill_c l g oF F oS oT oB oC rC C.1 C.2 oH rH vH oQ rQ aH oR rR R kA0 p0 p1 p2 nb nj hnb hv7 hnj hv4 hM hHi.in9 hfl) (cwV 3 hts (k_gV kw645 ca_X4_fill) rfl rfl rfl ⟨rfl, pnX4_fill⟩ ⟨Nat.le_of_ble_eq_true rfl, Nat.le_of_ble_eq_true rfl⟩) hE hS hA hP hD [0, 1, 3, 4] [2, 5, 6, 7] rfl rfl ⟨rfl, rfl, by decide⟩ (k_recv K kFX4 hP (i := 0) (q := 0) rfl rfl) rfl hl.1 rfl rfl dL_fill_4 ⟨Nat.le_of_ble_eq_true rfl, Nat.le_of_ble_eq_true rfl⟩ (fun E u H locs qE ce hp hP hD hS hce hcv hcl => ?_) (fun r u H locs hp hP hD hS => ?_)
  · obtain ⟨hc, hE2, hu⟩ := hp
    obtain ⟨R1, hR1, ⟨ha, hG⟩ | ⟨ha, x1, D, hD1, hx1, hG⟩⟩ := kc_ch F C vH aH R 102 p0 p1 p2
    · have hF : X4_fill_f F C.1 C.2 vH aH R kA0 p0 p1 p2 = (1, 0, C.1, C.2, vH, aH, R1) := by unfold X4_fill_f; rw [hG]; rfl
      rw [hF] at hE2 hu
      have hE3 : E = "java/lang/UnsupportedOperationException" := hE2
      subst hE3
      have hu : u = [X4W g oF (kFr oC oS oH oR oT oB) F, X0W g oC rC C.1 C.2, X2W g oH rH vH oQ rQ aH, X3W g oR rR R1 kA0] := hu
      subst hu
      have hP : kp g [X4W g oF (kFr oC oS oH oR oT oB) F, X0W g oC rC C.1 C.2, X0W g oS rS S.1 S.2, X2W g oH rH vH oQ rQ aH, X3W g oR rR R1 kA0, X1W g oT rT T.1 T.2, JOW oB q ml (nI ln.2), JAW g q n f] H := hP.pick [4, 5, 0, 6, 7, 1, 2, 3] rfl
      have hD : kd A [X4W g oF (kFr oC oS oH oR oT oB) F, X0W g oC rC C.1 C.2, X0W g oS rS S.1 S.2, X2W g oH rH vH oQ rQ aH, X3W g oR rR R1 kA0, X1W g oT rT T.1 T.2, JOW oB q ml (nI ln.2), JAW g q n f] := hD.pick [4, 5, 0, 6, 7, 1, 2, 3] rfl rfl
      refine kx_catch1 (E := "java/lang/UnsupportedOperationException") K htab rfl (by decide) kw350 (List.mem_of_getElem? (i := 84) rfl) hce hcv hcl ?_
      refine lv_astore (lv' := [(4, .ref qE), (0, .ref oF), (1, .int p0), (2, .int p1), (3, .int p2)]) hx hb dL_fill_8 hl (by decide) rfl (fun ls hl => ?_)
      refine lv_sipush (v := (-1001)) hx hb dL_fill_10 (by decide) ?_
      exact kL_ret K hP hD hS ⟨R1, hR1, Or.inl ⟨ha, rfl, ⟨oC, oS, oH, oR, oT, oB, rC, rS, rH, rR, rT, oQ, rQ, vH, aH, q, n, ml, f, rfl, hT4, hHi, hIv⟩⟩⟩ ⟨Nat.le_of_ble_eq_true rfl, Nat.le_of_ble_eq_true rfl⟩ dL_fill_13
    · have hF : X4_fill_f F C.1 C.2 vH aH R kA0 p0 p1 p2 = (0, x1, D.1, D.2, X2_keepHeld_f vH (X2_hold_f vH aH C.1 C.2), X2_hold_f vH aH C.1 C.2, R1) := by unfold X4_fill_f; rw [hG]; rfl
      rw [hF] at hc
      exact absurd rfl hc
  obtain ⟨hc, hr, hu⟩ := hp
  obtain ⟨R1, hR1, ⟨ha, hG⟩ | ⟨ha, x1, D, hD1, hx1, hG⟩⟩ := kc_ch F C vH aH R 102 p0 p1 p2
  · have hF : X4_fill_f F C.1 C.2 vH aH R kA0 p0 p1 p2 = (1, 0, C.1, C.2, vH, aH, R1) := by unfold X4_fill_f; rw [hG]; rfl
    rw [hF] at hc
    exact absurd (show (1 : Nat) = 0 from hc) (by decide)
  · have hF : X4_fill_f F C.1 C.2 vH aH R kA0 p0 p1 p2 = (0, x1, D.1, D.2, X2_keepHeld_f vH (X2_hold_f vH aH C.1 C.2), X2_hold_f vH aH C.1 C.2, R1) := by unfold X4_fill_f; rw [hG]; rfl
    rw [hF] at hr hu
    have hr : r = x1 := hr
    subst hr
    have hu : u = [X4W g oF (kFr oC oS oH oR oT oB) F, X0W g oC rC D.1 D.2, X2W g oH rH (X2_keepHeld_f vH (X2_hold_f vH aH C.1 C.2)) oQ rQ (X2_hold_f vH aH C.1 C.2), X3W g oR rR R1 kA0] := hu
    subst hu
    have hP : kp g [X4W g oF (kFr oC oS oH oR oT oB) F, X0W g oC rC D.1 D.2, X0W g oS rS S.1 S.2, X2W g oH rH (X2_keepHeld_f vH (X2_hold_f vH aH C.1 C.2)) oQ rQ (X2_hold_f vH aH C.1 C.2), X3W g oR rR R1 kA0, X1W g oT rT T.1 T.2, JOW oB q ml (nI ln.2), JAW g q n f] H := hP.pick [4, 5, 0, 6, 7, 1, 2, 3] rfl
    have hD : kd A [X4W g oF (kFr oC oS oH oR oT oB) F, X0W g oC rC D.1 D.2, X0W g oS rS S.1 S.2, X2W g oH rH (X2_keepHeld_f vH (X2_hold_f vH aH C.1 C.2)) oQ rQ (X2_hold_f vH aH C.1 C.2), X3W g oR rR R1 kA0, X1W g oT rT T.1 T.2, JOW oB q ml (nI ln.2), JAW g q n f] := hD.pick [4, 5, 0, 6, 7, 1, 2, 3] rfl rfl
    exact kL_ret K hP hD hS ⟨R1, hR1, Or.inr ⟨ha, D, hD1, hx1, ⟨oC, oS, oH, oR, oT, oB, rC, rS, rH, rR, rT, oQ, rQ, _, _, q, n, ml, f, by rw [kN_W], hT4, hHi.push C, hIv.chg (by rw [hD1]; exact kco_ic hI ha)⟩⟩⟩ ⟨Nat.le_of_ble_eq_true rfl, Nat.le_of_ble_eq_true rfl⟩ dL_fill_7
abbrev wL_empty : List Cond := Cond.codeWith yL_empty cL_empty 4 (some .int) [(0, 6, 7, 13)] :: kW
set_option maxHeartbeats 4000000 in
set_option maxRecDepth 100000 in
theorem L_empty_c (l : Launch) (hfl : l.stackTraces = false) (g : kG) (oF : Nat) (F : Nat → Int32) (C S : kK) (h : List kK) (R : Nat → Int32) (T : kK) (ln : kTx) (cs : List va_W) (hO : kOb g oF F C S h R T ln cs) (p0 : Int32) (p1 : Int32) : kL kX0 l yL_empty wL_empty 8 163 1 6 g [.ref oF, .int p0, .int p1] cs (fun x u => kChg g oF F C S h R T ln 101 p0 p1 0 x u) := by
  obtain ⟨oC, oS, oH, oR, oT, oB, rC, rS, rH, rR, rT, oQ, rQ, vH, aH, q, n, ml, f, rfl, hT4, hHi, hIv⟩ := hO
  have hI := hIv.1
  have hTx := hIv.2.2.2.1
  obtain ⟨⟨nb, hnb, hv7⟩, ⟨nj, hnj, hv4⟩, hM⟩ := id hI
  refine kLg_of (cc := cL_empty) (nL := 4) (ret := some .int) (lv := [(0, .ref oF), (1, .int p0), (2, .int p1)]) (by decide) rfl (Nat.le_of_ble_eq_true rfl) rfl ?_
  intro p e s m args below meth c ls A htab hN hX K hP hD hE hA hS hl
  have K : kC p c cL_empty s m args meth RL g 4 (some .int) := K
  have hx := K.1.1
  have hb := K.1.2.1
  have hts := K.1.2.2.2.2
  refine lv_aload_n hx hb dL_empty_0 rfl (lv_at hl 0 rfl) ?_
  refine lv_iload_n hx hb dL_empty_1 rfl (lv_at hl 1 rfl) ?_
  refine lv_iload_n hx hb dL_empty_2 rfl (lv_at hl 2 rfl) ?_
  refine kX_V (As := [.int p0, .int p1]) (rest := []) (wr := [X0W g oS rS S.1 S.2, X1W g oT rT T.1 T.2, JOW oB q ml (nI ln.2), JAW g q n f]) K (X4_empty_c l g oF F oS oT oB oC rC C.1 C.2 oH rH vH oQ rQ aH oR rR R kA0 p0 p1 nb nj hnb hv7 hnj hv4 hM hHi.in9 hfl) (cwV 2 hts (k_gV kw652 ca_X4_empty) rfl rfl rfl ⟨rfl, pnX4_empty⟩ ⟨Nat.le_of_ble_eq_true rfl, Nat.le_of_ble_eq_true rfl⟩) hE hS hA hP hD [0, 1, 3, 4] [2, 5, 6, 7] rfl rfl ⟨rfl, rfl, by decide⟩ (k_recv K kFX4 hP (i := 0) (q := 0) rfl rfl) rfl hl.1 rfl rfl dL_empty_3 ⟨Nat.le_of_ble_eq_true rfl, Nat.le_of_ble_eq_true rfl⟩ (fun E u H locs qE ce hp hP hD hS hce hcv hcl => ?_) (fun r u H locs hp hP hD hS => ?_)
  · obtain ⟨hc, hE2, hu⟩ := hp
    obtain ⟨R1, hR1, ⟨ha, hG⟩ | ⟨ha, x1, D, hD1, hx1, hG⟩⟩ := kc_ch F C vH aH R 101 p0 p1 0
    · have hF : X4_empty_f F C.1 C.2 vH aH R kA0 p0 p1 = (1, 0, C.1, C.2, vH, aH, R1) := by unfold X4_empty_f; rw [hG]; rfl
      rw [hF] at hE2 hu
      have hE3 : E = "java/lang/UnsupportedOperationException" := hE2
      subst hE3
      have hu : u = [X4W g oF (kFr oC oS oH oR oT oB) F, X0W g oC rC C.1 C.2, X2W g oH rH vH oQ rQ aH, X3W g oR rR R1 kA0] := hu
      subst hu
      have hP : kp g [X4W g oF (kFr oC oS oH oR oT oB) F, X0W g oC rC C.1 C.2, X0W g oS rS S.1 S.2, X2W g oH rH vH oQ rQ aH, X3W g oR rR R1 kA0, X1W g oT rT T.1 T.2, JOW oB q ml (nI ln.2), JAW g q n f] H := hP.pick [4, 5, 0, 6, 7, 1, 2, 3] rfl
      have hD : kd A [X4W g oF (kFr oC oS oH oR oT oB) F, X0W g oC rC C.1 C.2, X0W g oS rS S.1 S.2, X2W g oH rH vH oQ rQ aH, X3W g oR rR R1 kA0, X1W g oT rT T.1 T.2, JOW oB q ml (nI ln.2), JAW g q n f] := hD.pick [4, 5, 0, 6, 7, 1, 2, 3] rfl rfl
      refine kx_catch1 (E := "java/lang/UnsupportedOperationException") K htab rfl (by decide) kw350 (List.mem_of_getElem? (i := 84) rfl) hce hcv hcl ?_
      refine lv_astore_n (lv' := [(3, .ref qE), (0, .ref oF), (1, .int p0), (2, .int p1)]) hx hb dL_empty_7 rfl hl (by decide) rfl (fun ls hl => ?_)
      refine lv_sipush (v := (-1001)) hx hb dL_empty_8 (by decide) ?_
      exact kL_ret K hP hD hS ⟨R1, hR1, Or.inl ⟨ha, rfl, ⟨oC, oS, oH, oR, oT, oB, rC, rS, rH, rR, rT, oQ, rQ, vH, aH, q, n, ml, f, rfl, hT4, hHi, hIv⟩⟩⟩ ⟨Nat.le_of_ble_eq_true rfl, Nat.le_of_ble_eq_true rfl⟩ dL_empty_11
    · have hF : X4_empty_f F C.1 C.2 vH aH R kA0 p0 p1 = (0, x1, D.1, D.2, X2_keepHeld_f vH (X2_hold_f vH aH C.1 C.2), X2_hold_f vH aH C.1 C.2, R1) := by unfold X4_empty_f; rw [hG]; rfl
      rw [hF] at hc
      exact absurd rfl hc
  obtain ⟨hc, hr, hu⟩ := hp
  obtain ⟨R1, hR1, ⟨ha, hG⟩ | ⟨ha, x1, D, hD1, hx1, hG⟩⟩ := kc_ch F C vH aH R 101 p0 p1 0
  · have hF : X4_empty_f F C.1 C.2 vH aH R kA0 p0 p1 = (1, 0, C.1, C.2, vH, aH, R1) := by unfold X4_empty_f; rw [hG]; rfl
    rw [hF] at hc
    exact absurd (show (1 : Nat) = 0 from hc) (by decide)
  · have hF : X4_empty_f F C.1 C.2 vH aH R kA0 p0 p1 = (0, x1, D.1, D.2, X2_keepHeld_f vH (X2_hold_f vH aH C.1 C.2), X2_hold_f vH aH C.1 C.2, R1) := by unfold X4_empty_f; rw [hG]; rfl
    rw [hF] at hr hu
    have hr : r = x1 := hr
    subst hr
    have hu : u = [X4W g oF (kFr oC oS oH oR oT oB) F, X0W g oC rC D.1 D.2, X2W g oH rH (X2_keepHeld_f vH (X2_hold_f vH aH C.1 C.2)) oQ rQ (X2_hold_f vH aH C.1 C.2), X3W g oR rR R1 kA0] := hu
    subst hu
    have hP : kp g [X4W g oF (kFr oC oS oH oR oT oB) F, X0W g oC rC D.1 D.2, X0W g oS rS S.1 S.2, X2W g oH rH (X2_keepHeld_f vH (X2_hold_f vH aH C.1 C.2)) oQ rQ (X2_hold_f vH aH C.1 C.2), X3W g oR rR R1 kA0, X1W g oT rT T.1 T.2, JOW oB q ml (nI ln.2), JAW g q n f] H := hP.pick [4, 5, 0, 6, 7, 1, 2, 3] rfl
    have hD : kd A [X4W g oF (kFr oC oS oH oR oT oB) F, X0W g oC rC D.1 D.2, X0W g oS rS S.1 S.2, X2W g oH rH (X2_keepHeld_f vH (X2_hold_f vH aH C.1 C.2)) oQ rQ (X2_hold_f vH aH C.1 C.2), X3W g oR rR R1 kA0, X1W g oT rT T.1 T.2, JOW oB q ml (nI ln.2), JAW g q n f] := hD.pick [4, 5, 0, 6, 7, 1, 2, 3] rfl rfl
    exact kL_ret K hP hD hS ⟨R1, hR1, Or.inr ⟨ha, D, hD1, hx1, ⟨oC, oS, oH, oR, oT, oB, rC, rS, rH, rR, rT, oQ, rQ, _, _, q, n, ml, f, by rw [kN_W], hT4, hHi.push C, hIv.chg (by rw [hD1]; exact kco_ic hI ha)⟩⟩⟩ ⟨Nat.le_of_ble_eq_true rfl, Nat.le_of_ble_eq_true rfl⟩ dL_empty_6
abbrev wL_beat : List Cond := Cond.codeWith yL_beat cL_beat 3 (some .int) [(0, 5, 6, 13)] :: kW
set_option maxHeartbeats 4000000 in
set_option maxRecDepth 100000 in
theorem L_beat_c (l : Launch) (hfl : l.stackTraces = false) (g : kG) (oF : Nat) (F : Nat → Int32) (C S : kK) (h : List kK) (R : Nat → Int32) (T : kK) (ln : kTx) (cs : List va_W) (hO : kOb g oF F C S h R T ln cs) (p0 : Int32) : kL kX0 l yL_beat wL_beat 8 162 1 6 g [.ref oF, .int p0] cs (fun x u => kChg g oF F C S h R T ln 98 p0 0 0 x u) := by
  obtain ⟨oC, oS, oH, oR, oT, oB, rC, rS, rH, rR, rT, oQ, rQ, vH, aH, q, n, ml, f, rfl, hT4, hHi, hIv⟩ := hO
  have hI := hIv.1
  have hTx := hIv.2.2.2.1
  obtain ⟨⟨nb, hnb, hv7⟩, ⟨nj, hnj, hv4⟩, hM⟩ := id hI
  refine kLg_of (cc := cL_beat) (nL := 3) (ret := some .int) (lv := [(0, .ref oF), (1, .int p0)]) (by decide) rfl (Nat.le_of_ble_eq_true rfl) rfl ?_
  intro p e s m args below meth c ls A htab hN hX K hP hD hE hA hS hl
  have K : kC p c cL_beat s m args meth RL g 3 (some .int) := K
  have hx := K.1.1
  have hb := K.1.2.1
  have hts := K.1.2.2.2.2
  refine lv_aload_n hx hb dL_beat_0 rfl (lv_at hl 0 rfl) ?_
  refine lv_iload_n hx hb dL_beat_1 rfl (lv_at hl 1 rfl) ?_
  refine kX_V (As := [.int p0]) (rest := []) (wr := [X0W g oS rS S.1 S.2, X1W g oT rT T.1 T.2, JOW oB q ml (nI ln.2), JAW g q n f]) K (X4_beat_c l g oF F oS oT oB oC rC C.1 C.2 oH rH vH oQ rQ aH oR rR R kA0 p0 nb nj hnb hv7 hnj hv4 hM hHi.in9 hfl) (cwV 1 hts (k_gV kw1445 ca_X4_beat) rfl rfl rfl ⟨rfl, pnX4_beat⟩ ⟨Nat.le_of_ble_eq_true rfl, Nat.le_of_ble_eq_true rfl⟩) hE hS hA hP hD [0, 1, 3, 4] [2, 5, 6, 7] rfl rfl ⟨rfl, rfl, by decide⟩ (k_recv K kFX4 hP (i := 0) (q := 0) rfl rfl) rfl hl.1 rfl rfl dL_beat_2 ⟨Nat.le_of_ble_eq_true rfl, Nat.le_of_ble_eq_true rfl⟩ (fun E u H locs qE ce hp hP hD hS hce hcv hcl => ?_) (fun r u H locs hp hP hD hS => ?_)
  · obtain ⟨hc, hE2, hu⟩ := hp
    obtain ⟨R1, hR1, ⟨ha, hG⟩ | ⟨ha, x1, D, hD1, hx1, hG⟩⟩ := kc_ch F C vH aH R 98 p0 0 0
    · have hF : X4_beat_f F C.1 C.2 vH aH R kA0 p0 = (1, 0, C.1, C.2, vH, aH, R1) := by unfold X4_beat_f; rw [hG]; rfl
      rw [hF] at hE2 hu
      have hE3 : E = "java/lang/UnsupportedOperationException" := hE2
      subst hE3
      have hu : u = [X4W g oF (kFr oC oS oH oR oT oB) F, X0W g oC rC C.1 C.2, X2W g oH rH vH oQ rQ aH, X3W g oR rR R1 kA0] := hu
      subst hu
      have hP : kp g [X4W g oF (kFr oC oS oH oR oT oB) F, X0W g oC rC C.1 C.2, X0W g oS rS S.1 S.2, X2W g oH rH vH oQ rQ aH, X3W g oR rR R1 kA0, X1W g oT rT T.1 T.2, JOW oB q ml (nI ln.2), JAW g q n f] H := hP.pick [4, 5, 0, 6, 7, 1, 2, 3] rfl
      have hD : kd A [X4W g oF (kFr oC oS oH oR oT oB) F, X0W g oC rC C.1 C.2, X0W g oS rS S.1 S.2, X2W g oH rH vH oQ rQ aH, X3W g oR rR R1 kA0, X1W g oT rT T.1 T.2, JOW oB q ml (nI ln.2), JAW g q n f] := hD.pick [4, 5, 0, 6, 7, 1, 2, 3] rfl rfl
      refine kx_catch1 (E := "java/lang/UnsupportedOperationException") K htab rfl (by decide) kw350 (List.mem_of_getElem? (i := 84) rfl) hce hcv hcl ?_
      refine lv_astore_n (lv' := [(2, .ref qE), (0, .ref oF), (1, .int p0)]) hx hb dL_beat_6 rfl hl (by decide) rfl (fun ls hl => ?_)
      refine lv_sipush (v := (-1001)) hx hb dL_beat_7 (by decide) ?_
      exact kL_ret K hP hD hS ⟨R1, hR1, Or.inl ⟨ha, rfl, ⟨oC, oS, oH, oR, oT, oB, rC, rS, rH, rR, rT, oQ, rQ, vH, aH, q, n, ml, f, rfl, hT4, hHi, hIv⟩⟩⟩ ⟨Nat.le_of_ble_eq_true rfl, Nat.le_of_ble_eq_true rfl⟩ dL_beat_10
    · have hF : X4_beat_f F C.1 C.2 vH aH R kA0 p0 = (0, x1, D.1, D.2, X2_keepHeld_f vH (X2_hold_f vH aH C.1 C.2), X2_hold_f vH aH C.1 C.2, R1) := by unfold X4_beat_f; rw [hG]; rfl
      rw [hF] at hc
      exact absurd rfl hc
  obtain ⟨hc, hr, hu⟩ := hp
  obtain ⟨R1, hR1, ⟨ha, hG⟩ | ⟨ha, x1, D, hD1, hx1, hG⟩⟩ := kc_ch F C vH aH R 98 p0 0 0
  · have hF : X4_beat_f F C.1 C.2 vH aH R kA0 p0 = (1, 0, C.1, C.2, vH, aH, R1) := by unfold X4_beat_f; rw [hG]; rfl
    rw [hF] at hc
    exact absurd (show (1 : Nat) = 0 from hc) (by decide)
  · have hF : X4_beat_f F C.1 C.2 vH aH R kA0 p0 = (0, x1, D.1, D.2, X2_keepHeld_f vH (X2_hold_f vH aH C.1 C.2), X2_hold_f vH aH C.1 C.2, R1) := by unfold X4_beat_f; rw [hG]; rfl
    rw [hF] at hr hu
    have hr : r = x1 := hr
    subst hr
    have hu : u = [X4W g oF (kFr oC oS oH oR oT oB) F, X0W g oC rC D.1 D.2, X2W g oH rH (X2_keepHeld_f vH (X2_hold_f vH aH C.1 C.2)) oQ rQ (X2_hold_f vH aH C.1 C.2), X3W g oR rR R1 kA0] := hu
    subst hu
    have hP : kp g [X4W g oF (kFr oC oS oH oR oT oB) F, X0W g oC rC D.1 D.2, X0W g oS rS S.1 S.2, X2W g oH rH (X2_keepHeld_f vH (X2_hold_f vH aH C.1 C.2)) oQ rQ (X2_hold_f vH aH C.1 C.2), X3W g oR rR R1 kA0, X1W g oT rT T.1 T.2, JOW oB q ml (nI ln.2), JAW g q n f] H := hP.pick [4, 5, 0, 6, 7, 1, 2, 3] rfl
    have hD : kd A [X4W g oF (kFr oC oS oH oR oT oB) F, X0W g oC rC D.1 D.2, X0W g oS rS S.1 S.2, X2W g oH rH (X2_keepHeld_f vH (X2_hold_f vH aH C.1 C.2)) oQ rQ (X2_hold_f vH aH C.1 C.2), X3W g oR rR R1 kA0, X1W g oT rT T.1 T.2, JOW oB q ml (nI ln.2), JAW g q n f] := hD.pick [4, 5, 0, 6, 7, 1, 2, 3] rfl rfl
    exact kL_ret K hP hD hS ⟨R1, hR1, Or.inr ⟨ha, D, hD1, hx1, ⟨oC, oS, oH, oR, oT, oB, rC, rS, rH, rR, rT, oQ, rQ, _, _, q, n, ml, f, by rw [kN_W], hT4, hHi.push C, hIv.chg (by rw [hD1]; exact kco_ic hI ha)⟩⟩⟩ ⟨Nat.le_of_ble_eq_true rfl, Nat.le_of_ble_eq_true rfl⟩ dL_beat_5
abbrev wL_thumb : List Cond := Cond.codeWith yL_thumb cL_thumb 3 (some .int) [(0, 5, 6, 13)] :: kW
set_option maxHeartbeats 4000000 in
set_option maxRecDepth 100000 in
theorem L_thumb_c (l : Launch) (hfl : l.stackTraces = false) (g : kG) (oF : Nat) (F : Nat → Int32) (C S : kK) (h : List kK) (R : Nat → Int32) (T : kK) (ln : kTx) (cs : List va_W) (hO : kOb g oF F C S h R T ln cs) (p0 : Int32) : kL kX0 l yL_thumb wL_thumb 8 162 1 6 g [.ref oF, .int p0] cs (fun x u => kChg g oF F C S h R T ln 116 p0 0 0 x u) := by
  obtain ⟨oC, oS, oH, oR, oT, oB, rC, rS, rH, rR, rT, oQ, rQ, vH, aH, q, n, ml, f, rfl, hT4, hHi, hIv⟩ := hO
  have hI := hIv.1
  have hTx := hIv.2.2.2.1
  obtain ⟨⟨nb, hnb, hv7⟩, ⟨nj, hnj, hv4⟩, hM⟩ := id hI
  refine kLg_of (cc := cL_thumb) (nL := 3) (ret := some .int) (lv := [(0, .ref oF), (1, .int p0)]) (by decide) rfl (Nat.le_of_ble_eq_true rfl) rfl ?_
  intro p e s m args below meth c ls A htab hN hX K hP hD hE hA hS hl
  have K : kC p c cL_thumb s m args meth RL g 3 (some .int) := K
  have hx := K.1.1
  have hb := K.1.2.1
  have hts := K.1.2.2.2.2
  refine lv_aload_n hx hb dL_thumb_0 rfl (lv_at hl 0 rfl) ?_
  refine lv_iload_n hx hb dL_thumb_1 rfl (lv_at hl 1 rfl) ?_
  refine kX_V (As := [.int p0]) (rest := []) (wr := [X0W g oS rS S.1 S.2, X1W g oT rT T.1 T.2, JOW oB q ml (nI ln.2), JAW g q n f]) K (X4_thumb_c l g oF F oS oT oB oC rC C.1 C.2 oH rH vH oQ rQ aH oR rR R kA0 p0 nb nj hnb hv7 hnj hv4 hM hHi.in9 hfl) (cwV 1 hts (k_gV kw659 ca_X4_thumb) rfl rfl rfl ⟨rfl, pnX4_thumb⟩ ⟨Nat.le_of_ble_eq_true rfl, Nat.le_of_ble_eq_true rfl⟩) hE hS hA hP hD [0, 1, 3, 4] [2, 5, 6, 7] rfl rfl ⟨rfl, rfl, by decide⟩ (k_recv K kFX4 hP (i := 0) (q := 0) rfl rfl) rfl hl.1 rfl rfl dL_thumb_2 ⟨Nat.le_of_ble_eq_true rfl, Nat.le_of_ble_eq_true rfl⟩ (fun E u H locs qE ce hp hP hD hS hce hcv hcl => ?_) (fun r u H locs hp hP hD hS => ?_)
  · obtain ⟨hc, hE2, hu⟩ := hp
    obtain ⟨R1, hR1, ⟨ha, hG⟩ | ⟨ha, x1, D, hD1, hx1, hG⟩⟩ := kc_ch F C vH aH R 116 p0 0 0
    · have hF : X4_thumb_f F C.1 C.2 vH aH R kA0 p0 = (1, 0, C.1, C.2, vH, aH, R1) := by unfold X4_thumb_f; rw [hG]; rfl
      rw [hF] at hE2 hu
      have hE3 : E = "java/lang/UnsupportedOperationException" := hE2
      subst hE3
      have hu : u = [X4W g oF (kFr oC oS oH oR oT oB) F, X0W g oC rC C.1 C.2, X2W g oH rH vH oQ rQ aH, X3W g oR rR R1 kA0] := hu
      subst hu
      have hP : kp g [X4W g oF (kFr oC oS oH oR oT oB) F, X0W g oC rC C.1 C.2, X0W g oS rS S.1 S.2, X2W g oH rH vH oQ rQ aH, X3W g oR rR R1 kA0, X1W g oT rT T.1 T.2, JOW oB q ml (nI ln.2), JAW g q n f] H := hP.pick [4, 5, 0, 6, 7, 1, 2, 3] rfl
      have hD : kd A [X4W g oF (kFr oC oS oH oR oT oB) F, X0W g oC rC C.1 C.2, X0W g oS rS S.1 S.2, X2W g oH rH vH oQ rQ aH, X3W g oR rR R1 kA0, X1W g oT rT T.1 T.2, JOW oB q ml (nI ln.2), JAW g q n f] := hD.pick [4, 5, 0, 6, 7, 1, 2, 3] rfl rfl
      refine kx_catch1 (E := "java/lang/UnsupportedOperationException") K htab rfl (by decide) kw350 (List.mem_of_getElem? (i := 84) rfl) hce hcv hcl ?_
      refine lv_astore_n (lv' := [(2, .ref qE), (0, .ref oF), (1, .int p0)]) hx hb dL_thumb_6 rfl hl (by decide) rfl (fun ls hl => ?_)
      refine lv_sipush (v := (-1001)) hx hb dL_thumb_7 (by decide) ?_
      exact kL_ret K hP hD hS ⟨R1, hR1, Or.inl ⟨ha, rfl, ⟨oC, oS, oH, oR, oT, oB, rC, rS, rH, rR, rT, oQ, rQ, vH, aH, q, n, ml, f, rfl, hT4, hHi, hIv⟩⟩⟩ ⟨Nat.le_of_ble_eq_true rfl, Nat.le_of_ble_eq_true rfl⟩ dL_thumb_10
    · have hF : X4_thumb_f F C.1 C.2 vH aH R kA0 p0 = (0, x1, D.1, D.2, X2_keepHeld_f vH (X2_hold_f vH aH C.1 C.2), X2_hold_f vH aH C.1 C.2, R1) := by unfold X4_thumb_f; rw [hG]; rfl
      rw [hF] at hc
      exact absurd rfl hc
  obtain ⟨hc, hr, hu⟩ := hp
  obtain ⟨R1, hR1, ⟨ha, hG⟩ | ⟨ha, x1, D, hD1, hx1, hG⟩⟩ := kc_ch F C vH aH R 116 p0 0 0
  · have hF : X4_thumb_f F C.1 C.2 vH aH R kA0 p0 = (1, 0, C.1, C.2, vH, aH, R1) := by unfold X4_thumb_f; rw [hG]; rfl
    rw [hF] at hc
    exact absurd (show (1 : Nat) = 0 from hc) (by decide)
  · have hF : X4_thumb_f F C.1 C.2 vH aH R kA0 p0 = (0, x1, D.1, D.2, X2_keepHeld_f vH (X2_hold_f vH aH C.1 C.2), X2_hold_f vH aH C.1 C.2, R1) := by unfold X4_thumb_f; rw [hG]; rfl
    rw [hF] at hr hu
    have hr : r = x1 := hr
    subst hr
    have hu : u = [X4W g oF (kFr oC oS oH oR oT oB) F, X0W g oC rC D.1 D.2, X2W g oH rH (X2_keepHeld_f vH (X2_hold_f vH aH C.1 C.2)) oQ rQ (X2_hold_f vH aH C.1 C.2), X3W g oR rR R1 kA0] := hu
    subst hu
    have hP : kp g [X4W g oF (kFr oC oS oH oR oT oB) F, X0W g oC rC D.1 D.2, X0W g oS rS S.1 S.2, X2W g oH rH (X2_keepHeld_f vH (X2_hold_f vH aH C.1 C.2)) oQ rQ (X2_hold_f vH aH C.1 C.2), X3W g oR rR R1 kA0, X1W g oT rT T.1 T.2, JOW oB q ml (nI ln.2), JAW g q n f] H := hP.pick [4, 5, 0, 6, 7, 1, 2, 3] rfl
    have hD : kd A [X4W g oF (kFr oC oS oH oR oT oB) F, X0W g oC rC D.1 D.2, X0W g oS rS S.1 S.2, X2W g oH rH (X2_keepHeld_f vH (X2_hold_f vH aH C.1 C.2)) oQ rQ (X2_hold_f vH aH C.1 C.2), X3W g oR rR R1 kA0, X1W g oT rT T.1 T.2, JOW oB q ml (nI ln.2), JAW g q n f] := hD.pick [4, 5, 0, 6, 7, 1, 2, 3] rfl rfl
    exact kL_ret K hP hD hS ⟨R1, hR1, Or.inr ⟨ha, D, hD1, hx1, ⟨oC, oS, oH, oR, oT, oB, rC, rS, rH, rR, rT, oQ, rQ, _, _, q, n, ml, f, by rw [kN_W], hT4, hHi.push C, hIv.chg (by rw [hD1]; exact kco_ic hI ha)⟩⟩⟩ ⟨Nat.le_of_ble_eq_true rfl, Nat.le_of_ble_eq_true rfl⟩ dL_thumb_5
abbrev wL_weigh : List Cond := Cond.codeWith yL_weigh cL_weigh 3 (some .int) [(0, 5, 6, 13)] :: kW
set_option maxHeartbeats 4000000 in
set_option maxRecDepth 100000 in
theorem L_weigh_c (l : Launch) (hfl : l.stackTraces = false) (g : kG) (oF : Nat) (F : Nat → Int32) (C S : kK) (h : List kK) (R : Nat → Int32) (T : kK) (ln : kTx) (cs : List va_W) (hO : kOb g oF F C S h R T ln cs) (p0 : Int32) : kL kX0 l yL_weigh wL_weigh 8 162 1 6 g [.ref oF, .int p0] cs (fun x u => kChg g oF F C S h R T ln 119 p0 0 0 x u) := by
  obtain ⟨oC, oS, oH, oR, oT, oB, rC, rS, rH, rR, rT, oQ, rQ, vH, aH, q, n, ml, f, rfl, hT4, hHi, hIv⟩ := hO
  have hI := hIv.1
  have hTx := hIv.2.2.2.1
  obtain ⟨⟨nb, hnb, hv7⟩, ⟨nj, hnj, hv4⟩, hM⟩ := id hI
  refine kLg_of (cc := cL_weigh) (nL := 3) (ret := some .int) (lv := [(0, .ref oF), (1, .int p0)]) (by decide) rfl (Nat.le_of_ble_eq_true rfl) rfl ?_
  intro p e s m args below meth c ls A htab hN hX K hP hD hE hA hS hl
  have K : kC p c cL_weigh s m args meth RL g 3 (some .int) := K
  have hx := K.1.1
  have hb := K.1.2.1
  have hts := K.1.2.2.2.2
  refine lv_aload_n hx hb dL_weigh_0 rfl (lv_at hl 0 rfl) ?_
  refine lv_iload_n hx hb dL_weigh_1 rfl (lv_at hl 1 rfl) ?_
  refine kX_V (As := [.int p0]) (rest := []) (wr := [X0W g oS rS S.1 S.2, X1W g oT rT T.1 T.2, JOW oB q ml (nI ln.2), JAW g q n f]) K (X4_weigh_c l g oF F oS oT oB oC rC C.1 C.2 oH rH vH oQ rQ aH oR rR R kA0 p0 nb nj hnb hv7 hnj hv4 hM hHi.in9 hfl) (cwV 1 hts (k_gV kw666 ca_X4_weigh) rfl rfl rfl ⟨rfl, pnX4_weigh⟩ ⟨Nat.le_of_ble_eq_true rfl, Nat.le_of_ble_eq_true rfl⟩) hE hS hA hP hD [0, 1, 3, 4] [2, 5, 6, 7] rfl rfl ⟨rfl, rfl, by decide⟩ (k_recv K kFX4 hP (i := 0) (q := 0) rfl rfl) rfl hl.1 rfl rfl dL_weigh_2 ⟨Nat.le_of_ble_eq_true rfl, Nat.le_of_ble_eq_true rfl⟩ (fun E u H locs qE ce hp hP hD hS hce hcv hcl => ?_) (fun r u H locs hp hP hD hS => ?_)
  · obtain ⟨hc, hE2, hu⟩ := hp
    obtain ⟨R1, hR1, ⟨ha, hG⟩ | ⟨ha, x1, D, hD1, hx1, hG⟩⟩ := kc_ch F C vH aH R 119 p0 0 0
    · have hF : X4_weigh_f F C.1 C.2 vH aH R kA0 p0 = (1, 0, C.1, C.2, vH, aH, R1) := by unfold X4_weigh_f; rw [hG]; rfl
      rw [hF] at hE2 hu
      have hE3 : E = "java/lang/UnsupportedOperationException" := hE2
      subst hE3
      have hu : u = [X4W g oF (kFr oC oS oH oR oT oB) F, X0W g oC rC C.1 C.2, X2W g oH rH vH oQ rQ aH, X3W g oR rR R1 kA0] := hu
      subst hu
      have hP : kp g [X4W g oF (kFr oC oS oH oR oT oB) F, X0W g oC rC C.1 C.2, X0W g oS rS S.1 S.2, X2W g oH rH vH oQ rQ aH, X3W g oR rR R1 kA0, X1W g oT rT T.1 T.2, JOW oB q ml (nI ln.2), JAW g q n f] H := hP.pick [4, 5, 0, 6, 7, 1, 2, 3] rfl
      have hD : kd A [X4W g oF (kFr oC oS oH oR oT oB) F, X0W g oC rC C.1 C.2, X0W g oS rS S.1 S.2, X2W g oH rH vH oQ rQ aH, X3W g oR rR R1 kA0, X1W g oT rT T.1 T.2, JOW oB q ml (nI ln.2), JAW g q n f] := hD.pick [4, 5, 0, 6, 7, 1, 2, 3] rfl rfl
      refine kx_catch1 (E := "java/lang/UnsupportedOperationException") K htab rfl (by decide) kw350 (List.mem_of_getElem? (i := 84) rfl) hce hcv hcl ?_
      refine lv_astore_n (lv' := [(2, .ref qE), (0, .ref oF), (1, .int p0)]) hx hb dL_weigh_6 rfl hl (by decide) rfl (fun ls hl => ?_)
      refine lv_sipush (v := (-1001)) hx hb dL_weigh_7 (by decide) ?_
      exact kL_ret K hP hD hS ⟨R1, hR1, Or.inl ⟨ha, rfl, ⟨oC, oS, oH, oR, oT, oB, rC, rS, rH, rR, rT, oQ, rQ, vH, aH, q, n, ml, f, rfl, hT4, hHi, hIv⟩⟩⟩ ⟨Nat.le_of_ble_eq_true rfl, Nat.le_of_ble_eq_true rfl⟩ dL_weigh_10
    · have hF : X4_weigh_f F C.1 C.2 vH aH R kA0 p0 = (0, x1, D.1, D.2, X2_keepHeld_f vH (X2_hold_f vH aH C.1 C.2), X2_hold_f vH aH C.1 C.2, R1) := by unfold X4_weigh_f; rw [hG]; rfl
      rw [hF] at hc
      exact absurd rfl hc
  obtain ⟨hc, hr, hu⟩ := hp
  obtain ⟨R1, hR1, ⟨ha, hG⟩ | ⟨ha, x1, D, hD1, hx1, hG⟩⟩ := kc_ch F C vH aH R 119 p0 0 0
  · have hF : X4_weigh_f F C.1 C.2 vH aH R kA0 p0 = (1, 0, C.1, C.2, vH, aH, R1) := by unfold X4_weigh_f; rw [hG]; rfl
    rw [hF] at hc
    exact absurd (show (1 : Nat) = 0 from hc) (by decide)
  · have hF : X4_weigh_f F C.1 C.2 vH aH R kA0 p0 = (0, x1, D.1, D.2, X2_keepHeld_f vH (X2_hold_f vH aH C.1 C.2), X2_hold_f vH aH C.1 C.2, R1) := by unfold X4_weigh_f; rw [hG]; rfl
    rw [hF] at hr hu
    have hr : r = x1 := hr
    subst hr
    have hu : u = [X4W g oF (kFr oC oS oH oR oT oB) F, X0W g oC rC D.1 D.2, X2W g oH rH (X2_keepHeld_f vH (X2_hold_f vH aH C.1 C.2)) oQ rQ (X2_hold_f vH aH C.1 C.2), X3W g oR rR R1 kA0] := hu
    subst hu
    have hP : kp g [X4W g oF (kFr oC oS oH oR oT oB) F, X0W g oC rC D.1 D.2, X0W g oS rS S.1 S.2, X2W g oH rH (X2_keepHeld_f vH (X2_hold_f vH aH C.1 C.2)) oQ rQ (X2_hold_f vH aH C.1 C.2), X3W g oR rR R1 kA0, X1W g oT rT T.1 T.2, JOW oB q ml (nI ln.2), JAW g q n f] H := hP.pick [4, 5, 0, 6, 7, 1, 2, 3] rfl
    have hD : kd A [X4W g oF (kFr oC oS oH oR oT oB) F, X0W g oC rC D.1 D.2, X0W g oS rS S.1 S.2, X2W g oH rH (X2_keepHeld_f vH (X2_hold_f vH aH C.1 C.2)) oQ rQ (X2_hold_f vH aH C.1 C.2), X3W g oR rR R1 kA0, X1W g oT rT T.1 T.2, JOW oB q ml (nI ln.2), JAW g q n f] := hD.pick [4, 5, 0, 6, 7, 1, 2, 3] rfl rfl
    exact kL_ret K hP hD hS ⟨R1, hR1, Or.inr ⟨ha, D, hD1, hx1, ⟨oC, oS, oH, oR, oT, oB, rC, rS, rH, rR, rT, oQ, rQ, _, _, q, n, ml, f, by rw [kN_W], hT4, hHi.push C, hIv.chg (by rw [hD1]; exact kco_ic hI ha)⟩⟩⟩ ⟨Nat.le_of_ble_eq_true rfl, Nat.le_of_ble_eq_true rfl⟩ dL_weigh_5
abbrev wL_sell : List Cond := Cond.codeWith yL_sell cL_sell 3 (some .int) [(0, 5, 6, 13)] :: kW
set_option maxHeartbeats 4000000 in
set_option maxRecDepth 100000 in
theorem L_sell_c (l : Launch) (hfl : l.stackTraces = false) (g : kG) (oF : Nat) (F : Nat → Int32) (C S : kK) (h : List kK) (R : Nat → Int32) (T : kK) (ln : kTx) (cs : List va_W) (hO : kOb g oF F C S h R T ln cs) (p0 : Int32) : kL kX0 l yL_sell wL_sell 8 162 1 6 g [.ref oF, .int p0] cs (fun x u => kChg g oF F C S h R T ln 115 p0 0 0 x u) := by
  obtain ⟨oC, oS, oH, oR, oT, oB, rC, rS, rH, rR, rT, oQ, rQ, vH, aH, q, n, ml, f, rfl, hT4, hHi, hIv⟩ := hO
  have hI := hIv.1
  have hTx := hIv.2.2.2.1
  obtain ⟨⟨nb, hnb, hv7⟩, ⟨nj, hnj, hv4⟩, hM⟩ := id hI
  refine kLg_of (cc := cL_sell) (nL := 3) (ret := some .int) (lv := [(0, .ref oF), (1, .int p0)]) (by decide) rfl (Nat.le_of_ble_eq_true rfl) rfl ?_
  intro p e s m args below meth c ls A htab hN hX K hP hD hE hA hS hl
  have K : kC p c cL_sell s m args meth RL g 3 (some .int) := K
  have hx := K.1.1
  have hb := K.1.2.1
  have hts := K.1.2.2.2.2
  refine lv_aload_n hx hb dL_sell_0 rfl (lv_at hl 0 rfl) ?_
  refine lv_iload_n hx hb dL_sell_1 rfl (lv_at hl 1 rfl) ?_
  refine kX_V (As := [.int p0]) (rest := []) (wr := [X0W g oS rS S.1 S.2, X1W g oT rT T.1 T.2, JOW oB q ml (nI ln.2), JAW g q n f]) K (X4_sell_c l g oF F oS oT oB oC rC C.1 C.2 oH rH vH oQ rQ aH oR rR R kA0 p0 nb nj hnb hv7 hnj hv4 hM hHi.in9 hfl) (cwV 1 hts (k_gV kw673 ca_X4_sell) rfl rfl rfl ⟨rfl, pnX4_sell⟩ ⟨Nat.le_of_ble_eq_true rfl, Nat.le_of_ble_eq_true rfl⟩) hE hS hA hP hD [0, 1, 3, 4] [2, 5, 6, 7] rfl rfl ⟨rfl, rfl, by decide⟩ (k_recv K kFX4 hP (i := 0) (q := 0) rfl rfl) rfl hl.1 rfl rfl dL_sell_2 ⟨Nat.le_of_ble_eq_true rfl, Nat.le_of_ble_eq_true rfl⟩ (fun E u H locs qE ce hp hP hD hS hce hcv hcl => ?_) (fun r u H locs hp hP hD hS => ?_)
  · obtain ⟨hc, hE2, hu⟩ := hp
    obtain ⟨R1, hR1, ⟨ha, hG⟩ | ⟨ha, x1, D, hD1, hx1, hG⟩⟩ := kc_ch F C vH aH R 115 p0 0 0
    · have hF : X4_sell_f F C.1 C.2 vH aH R kA0 p0 = (1, 0, C.1, C.2, vH, aH, R1) := by unfold X4_sell_f; rw [hG]; rfl
      rw [hF] at hE2 hu
      have hE3 : E = "java/lang/UnsupportedOperationException" := hE2
      subst hE3
      have hu : u = [X4W g oF (kFr oC oS oH oR oT oB) F, X0W g oC rC C.1 C.2, X2W g oH rH vH oQ rQ aH, X3W g oR rR R1 kA0] := hu
      subst hu
      have hP : kp g [X4W g oF (kFr oC oS oH oR oT oB) F, X0W g oC rC C.1 C.2, X0W g oS rS S.1 S.2, X2W g oH rH vH oQ rQ aH, X3W g oR rR R1 kA0, X1W g oT rT T.1 T.2, JOW oB q ml (nI ln.2), JAW g q n f] H := hP.pick [4, 5, 0, 6, 7, 1, 2, 3] rfl
      have hD : kd A [X4W g oF (kFr oC oS oH oR oT oB) F, X0W g oC rC C.1 C.2, X0W g oS rS S.1 S.2, X2W g oH rH vH oQ rQ aH, X3W g oR rR R1 kA0, X1W g oT rT T.1 T.2, JOW oB q ml (nI ln.2), JAW g q n f] := hD.pick [4, 5, 0, 6, 7, 1, 2, 3] rfl rfl
      refine kx_catch1 (E := "java/lang/UnsupportedOperationException") K htab rfl (by decide) kw350 (List.mem_of_getElem? (i := 84) rfl) hce hcv hcl ?_
      refine lv_astore_n (lv' := [(2, .ref qE), (0, .ref oF), (1, .int p0)]) hx hb dL_sell_6 rfl hl (by decide) rfl (fun ls hl => ?_)
      refine lv_sipush (v := (-1001)) hx hb dL_sell_7 (by decide) ?_
      exact kL_ret K hP hD hS ⟨R1, hR1, Or.inl ⟨ha, rfl, ⟨oC, oS, oH, oR, oT, oB, rC, rS, rH, rR, rT, oQ, rQ, vH, aH, q, n, ml, f, rfl, hT4, hHi, hIv⟩⟩⟩ ⟨Nat.le_of_ble_eq_true rfl, Nat.le_of_ble_eq_true rfl⟩ dL_sell_10
    · have hF : X4_sell_f F C.1 C.2 vH aH R kA0 p0 = (0, x1, D.1, D.2, X2_keepHeld_f vH (X2_hold_f vH aH C.1 C.2), X2_hold_f vH aH C.1 C.2, R1) := by unfold X4_sell_f; rw [hG]; rfl
      rw [hF] at hc
      exact absurd rfl hc
  obtain ⟨hc, hr, hu⟩ := hp
  obtain ⟨R1, hR1, ⟨ha, hG⟩ | ⟨ha, x1, D, hD1, hx1, hG⟩⟩ := kc_ch F C vH aH R 115 p0 0 0
  · have hF : X4_sell_f F C.1 C.2 vH aH R kA0 p0 = (1, 0, C.1, C.2, vH, aH, R1) := by unfold X4_sell_f; rw [hG]; rfl
    rw [hF] at hc
    exact absurd (show (1 : Nat) = 0 from hc) (by decide)
  · have hF : X4_sell_f F C.1 C.2 vH aH R kA0 p0 = (0, x1, D.1, D.2, X2_keepHeld_f vH (X2_hold_f vH aH C.1 C.2), X2_hold_f vH aH C.1 C.2, R1) := by unfold X4_sell_f; rw [hG]; rfl
    rw [hF] at hr hu
    have hr : r = x1 := hr
    subst hr
    have hu : u = [X4W g oF (kFr oC oS oH oR oT oB) F, X0W g oC rC D.1 D.2, X2W g oH rH (X2_keepHeld_f vH (X2_hold_f vH aH C.1 C.2)) oQ rQ (X2_hold_f vH aH C.1 C.2), X3W g oR rR R1 kA0] := hu
    subst hu
    have hP : kp g [X4W g oF (kFr oC oS oH oR oT oB) F, X0W g oC rC D.1 D.2, X0W g oS rS S.1 S.2, X2W g oH rH (X2_keepHeld_f vH (X2_hold_f vH aH C.1 C.2)) oQ rQ (X2_hold_f vH aH C.1 C.2), X3W g oR rR R1 kA0, X1W g oT rT T.1 T.2, JOW oB q ml (nI ln.2), JAW g q n f] H := hP.pick [4, 5, 0, 6, 7, 1, 2, 3] rfl
    have hD : kd A [X4W g oF (kFr oC oS oH oR oT oB) F, X0W g oC rC D.1 D.2, X0W g oS rS S.1 S.2, X2W g oH rH (X2_keepHeld_f vH (X2_hold_f vH aH C.1 C.2)) oQ rQ (X2_hold_f vH aH C.1 C.2), X3W g oR rR R1 kA0, X1W g oT rT T.1 T.2, JOW oB q ml (nI ln.2), JAW g q n f] := hD.pick [4, 5, 0, 6, 7, 1, 2, 3] rfl rfl
    exact kL_ret K hP hD hS ⟨R1, hR1, Or.inr ⟨ha, D, hD1, hx1, ⟨oC, oS, oH, oR, oT, oB, rC, rS, rH, rR, rT, oQ, rQ, _, _, q, n, ml, f, by rw [kN_W], hT4, hHi.push C, hIv.chg (by rw [hD1]; exact kco_ic hI ha)⟩⟩⟩ ⟨Nat.le_of_ble_eq_true rfl, Nat.le_of_ble_eq_true rfl⟩ dL_sell_5
abbrev wL_oath : List Cond := Cond.codeWith yL_oath cL_oath 2 (some .int) [(0, 4, 5, 13)] :: kW
set_option maxHeartbeats 4000000 in
set_option maxRecDepth 100000 in
theorem L_oath_c (l : Launch) (hfl : l.stackTraces = false) (g : kG) (oF : Nat) (F : Nat → Int32) (C S : kK) (h : List kK) (R : Nat → Int32) (T : kK) (ln : kTx) (cs : List va_W) (hO : kOb g oF F C S h R T ln cs)  : kL kX0 l yL_oath wL_oath 8 161 1 6 g [.ref oF] cs (fun x u => kChg g oF F C S h R T ln 111 0 0 0 x u) := by
  obtain ⟨oC, oS, oH, oR, oT, oB, rC, rS, rH, rR, rT, oQ, rQ, vH, aH, q, n, ml, f, rfl, hT4, hHi, hIv⟩ := hO
  have hI := hIv.1
  have hTx := hIv.2.2.2.1
  obtain ⟨⟨nb, hnb, hv7⟩, ⟨nj, hnj, hv4⟩, hM⟩ := id hI
  refine kLg_of (cc := cL_oath) (nL := 2) (ret := some .int) (lv := [(0, .ref oF)]) (by decide) rfl (Nat.le_of_ble_eq_true rfl) rfl ?_
  intro p e s m args below meth c ls A htab hN hX K hP hD hE hA hS hl
  have K : kC p c cL_oath s m args meth RL g 2 (some .int) := K
  have hx := K.1.1
  have hb := K.1.2.1
  have hts := K.1.2.2.2.2
  refine lv_aload_n hx hb dL_oath_0 rfl (lv_at hl 0 rfl) ?_
  refine kX_V (As := []) (rest := []) (wr := [X0W g oS rS S.1 S.2, X1W g oT rT T.1 T.2, JOW oB q ml (nI ln.2), JAW g q n f]) K (X4_oath_c l g oF F oS oT oB oC rC C.1 C.2 oH rH vH oQ rQ aH oR rR R kA0 nb nj hnb hv7 hnj hv4 hM hHi.in9 hfl) (cwV 0 hts (k_gV kw680 ca_X4_oath) rfl rfl rfl ⟨rfl, pnX4_oath⟩ ⟨Nat.le_of_ble_eq_true rfl, Nat.le_of_ble_eq_true rfl⟩) hE hS hA hP hD [0, 1, 3, 4] [2, 5, 6, 7] rfl rfl ⟨rfl, rfl, by decide⟩ (k_recv K kFX4 hP (i := 0) (q := 0) rfl rfl) rfl hl.1 rfl rfl dL_oath_1 ⟨Nat.le_of_ble_eq_true rfl, Nat.le_of_ble_eq_true rfl⟩ (fun E u H locs qE ce hp hP hD hS hce hcv hcl => ?_) (fun r u H locs hp hP hD hS => ?_)
  · obtain ⟨hc, hE2, hu⟩ := hp
    obtain ⟨R1, hR1, ⟨ha, hG⟩ | ⟨ha, x1, D, hD1, hx1, hG⟩⟩ := kc_ch F C vH aH R 111 0 0 0
    · have hF : X4_oath_f F C.1 C.2 vH aH R kA0  = (1, 0, C.1, C.2, vH, aH, R1) := by unfold X4_oath_f; rw [hG]; rfl
      rw [hF] at hE2 hu
      have hE3 : E = "java/lang/UnsupportedOperationException" := hE2
      subst hE3
      have hu : u = [X4W g oF (kFr oC oS oH oR oT oB) F, X0W g oC rC C.1 C.2, X2W g oH rH vH oQ rQ aH, X3W g oR rR R1 kA0] := hu
      subst hu
      have hP : kp g [X4W g oF (kFr oC oS oH oR oT oB) F, X0W g oC rC C.1 C.2, X0W g oS rS S.1 S.2, X2W g oH rH vH oQ rQ aH, X3W g oR rR R1 kA0, X1W g oT rT T.1 T.2, JOW oB q ml (nI ln.2), JAW g q n f] H := hP.pick [4, 5, 0, 6, 7, 1, 2, 3] rfl
      have hD : kd A [X4W g oF (kFr oC oS oH oR oT oB) F, X0W g oC rC C.1 C.2, X0W g oS rS S.1 S.2, X2W g oH rH vH oQ rQ aH, X3W g oR rR R1 kA0, X1W g oT rT T.1 T.2, JOW oB q ml (nI ln.2), JAW g q n f] := hD.pick [4, 5, 0, 6, 7, 1, 2, 3] rfl rfl
      refine kx_catch1 (E := "java/lang/UnsupportedOperationException") K htab rfl (by decide) kw350 (List.mem_of_getElem? (i := 84) rfl) hce hcv hcl ?_
      refine lv_astore_n (lv' := [(1, .ref qE), (0, .ref oF)]) hx hb dL_oath_5 rfl hl (by decide) rfl (fun ls hl => ?_)
      refine lv_sipush (v := (-1001)) hx hb dL_oath_6 (by decide) ?_
      exact kL_ret K hP hD hS ⟨R1, hR1, Or.inl ⟨ha, rfl, ⟨oC, oS, oH, oR, oT, oB, rC, rS, rH, rR, rT, oQ, rQ, vH, aH, q, n, ml, f, rfl, hT4, hHi, hIv⟩⟩⟩ ⟨Nat.le_of_ble_eq_true rfl, Nat.le_of_ble_eq_true rfl⟩ dL_oath_9
    · have hF : X4_oath_f F C.1 C.2 vH aH R kA0  = (0, x1, D.1, D.2, X2_keepHeld_f vH (X2_hold_f vH aH C.1 C.2), X2_hold_f vH aH C.1 C.2, R1) := by unfold X4_oath_f; rw [hG]; rfl
      rw [hF] at hc
      exact absurd rfl hc
  obtain ⟨hc, hr, hu⟩ := hp
  obtain ⟨R1, hR1, ⟨ha, hG⟩ | ⟨ha, x1, D, hD1, hx1, hG⟩⟩ := kc_ch F C vH aH R 111 0 0 0
  · have hF : X4_oath_f F C.1 C.2 vH aH R kA0  = (1, 0, C.1, C.2, vH, aH, R1) := by unfold X4_oath_f; rw [hG]; rfl
    rw [hF] at hc
    exact absurd (show (1 : Nat) = 0 from hc) (by decide)
  · have hF : X4_oath_f F C.1 C.2 vH aH R kA0  = (0, x1, D.1, D.2, X2_keepHeld_f vH (X2_hold_f vH aH C.1 C.2), X2_hold_f vH aH C.1 C.2, R1) := by unfold X4_oath_f; rw [hG]; rfl
    rw [hF] at hr hu
    have hr : r = x1 := hr
    subst hr
    have hu : u = [X4W g oF (kFr oC oS oH oR oT oB) F, X0W g oC rC D.1 D.2, X2W g oH rH (X2_keepHeld_f vH (X2_hold_f vH aH C.1 C.2)) oQ rQ (X2_hold_f vH aH C.1 C.2), X3W g oR rR R1 kA0] := hu
    subst hu
    have hP : kp g [X4W g oF (kFr oC oS oH oR oT oB) F, X0W g oC rC D.1 D.2, X0W g oS rS S.1 S.2, X2W g oH rH (X2_keepHeld_f vH (X2_hold_f vH aH C.1 C.2)) oQ rQ (X2_hold_f vH aH C.1 C.2), X3W g oR rR R1 kA0, X1W g oT rT T.1 T.2, JOW oB q ml (nI ln.2), JAW g q n f] H := hP.pick [4, 5, 0, 6, 7, 1, 2, 3] rfl
    have hD : kd A [X4W g oF (kFr oC oS oH oR oT oB) F, X0W g oC rC D.1 D.2, X0W g oS rS S.1 S.2, X2W g oH rH (X2_keepHeld_f vH (X2_hold_f vH aH C.1 C.2)) oQ rQ (X2_hold_f vH aH C.1 C.2), X3W g oR rR R1 kA0, X1W g oT rT T.1 T.2, JOW oB q ml (nI ln.2), JAW g q n f] := hD.pick [4, 5, 0, 6, 7, 1, 2, 3] rfl rfl
    exact kL_ret K hP hD hS ⟨R1, hR1, Or.inr ⟨ha, D, hD1, hx1, ⟨oC, oS, oH, oR, oT, oB, rC, rS, rH, rR, rT, oQ, rQ, _, _, q, n, ml, f, by rw [kN_W], hT4, hHi.push C, hIv.chg (by rw [hD1]; exact kco_ic hI ha)⟩⟩⟩ ⟨Nat.le_of_ble_eq_true rfl, Nat.le_of_ble_eq_true rfl⟩ dL_oath_4
abbrev wL_go : List Cond := Cond.codeWith yL_go cL_go 3 (some .int) [(0, 5, 6, 13)] :: kW
set_option maxHeartbeats 4000000 in
set_option maxRecDepth 100000 in
theorem L_go_c (l : Launch) (hfl : l.stackTraces = false) (g : kG) (oF : Nat) (F : Nat → Int32) (C S : kK) (h : List kK) (R : Nat → Int32) (T : kK) (ln : kTx) (cs : List va_W) (hO : kOb g oF F C S h R T ln cs) (p0 : Int32) : kL kX0 l yL_go wL_go 8 162 1 6 g [.ref oF, .int p0] cs (fun x u => kChg g oF F C S h R T ln 103 p0 0 0 x u) := by
  obtain ⟨oC, oS, oH, oR, oT, oB, rC, rS, rH, rR, rT, oQ, rQ, vH, aH, q, n, ml, f, rfl, hT4, hHi, hIv⟩ := hO
  have hI := hIv.1
  have hTx := hIv.2.2.2.1
  obtain ⟨⟨nb, hnb, hv7⟩, ⟨nj, hnj, hv4⟩, hM⟩ := id hI
  refine kLg_of (cc := cL_go) (nL := 3) (ret := some .int) (lv := [(0, .ref oF), (1, .int p0)]) (by decide) rfl (Nat.le_of_ble_eq_true rfl) rfl ?_
  intro p e s m args below meth c ls A htab hN hX K hP hD hE hA hS hl
  have K : kC p c cL_go s m args meth RL g 3 (some .int) := K
  have hx := K.1.1
  have hb := K.1.2.1
  have hts := K.1.2.2.2.2
  refine lv_aload_n hx hb dL_go_0 rfl (lv_at hl 0 rfl) ?_
  refine lv_iload_n hx hb dL_go_1 rfl (lv_at hl 1 rfl) ?_
  refine kX_V (As := [.int p0]) (rest := []) (wr := [X0W g oS rS S.1 S.2, X1W g oT rT T.1 T.2, JOW oB q ml (nI ln.2), JAW g q n f]) K (X4_go_c l g oF F oS oT oB oC rC C.1 C.2 oH rH vH oQ rQ aH oR rR R kA0 p0 nb nj hnb hv7 hnj hv4 hM hHi.in9 hfl) (cwV 1 hts (k_gV kw687 ca_X4_go) rfl rfl rfl ⟨rfl, pnX4_go⟩ ⟨Nat.le_of_ble_eq_true rfl, Nat.le_of_ble_eq_true rfl⟩) hE hS hA hP hD [0, 1, 3, 4] [2, 5, 6, 7] rfl rfl ⟨rfl, rfl, by decide⟩ (k_recv K kFX4 hP (i := 0) (q := 0) rfl rfl) rfl hl.1 rfl rfl dL_go_2 ⟨Nat.le_of_ble_eq_true rfl, Nat.le_of_ble_eq_true rfl⟩ (fun E u H locs qE ce hp hP hD hS hce hcv hcl => ?_) (fun r u H locs hp hP hD hS => ?_)
  · obtain ⟨hc, hE2, hu⟩ := hp
    obtain ⟨R1, hR1, ⟨ha, hG⟩ | ⟨ha, x1, D, hD1, hx1, hG⟩⟩ := kc_ch F C vH aH R 103 p0 0 0
    · have hF : X4_go_f F C.1 C.2 vH aH R kA0 p0 = (1, 0, C.1, C.2, vH, aH, R1) := by unfold X4_go_f; rw [hG]; rfl
      rw [hF] at hE2 hu
      have hE3 : E = "java/lang/UnsupportedOperationException" := hE2
      subst hE3
      have hu : u = [X4W g oF (kFr oC oS oH oR oT oB) F, X0W g oC rC C.1 C.2, X2W g oH rH vH oQ rQ aH, X3W g oR rR R1 kA0] := hu
      subst hu
      have hP : kp g [X4W g oF (kFr oC oS oH oR oT oB) F, X0W g oC rC C.1 C.2, X0W g oS rS S.1 S.2, X2W g oH rH vH oQ rQ aH, X3W g oR rR R1 kA0, X1W g oT rT T.1 T.2, JOW oB q ml (nI ln.2), JAW g q n f] H := hP.pick [4, 5, 0, 6, 7, 1, 2, 3] rfl
      have hD : kd A [X4W g oF (kFr oC oS oH oR oT oB) F, X0W g oC rC C.1 C.2, X0W g oS rS S.1 S.2, X2W g oH rH vH oQ rQ aH, X3W g oR rR R1 kA0, X1W g oT rT T.1 T.2, JOW oB q ml (nI ln.2), JAW g q n f] := hD.pick [4, 5, 0, 6, 7, 1, 2, 3] rfl rfl
      refine kx_catch1 (E := "java/lang/UnsupportedOperationException") K htab rfl (by decide) kw350 (List.mem_of_getElem? (i := 84) rfl) hce hcv hcl ?_
      refine lv_astore_n (lv' := [(2, .ref qE), (0, .ref oF), (1, .int p0)]) hx hb dL_go_6 rfl hl (by decide) rfl (fun ls hl => ?_)
      refine lv_sipush (v := (-1001)) hx hb dL_go_7 (by decide) ?_
      exact kL_ret K hP hD hS ⟨R1, hR1, Or.inl ⟨ha, rfl, ⟨oC, oS, oH, oR, oT, oB, rC, rS, rH, rR, rT, oQ, rQ, vH, aH, q, n, ml, f, rfl, hT4, hHi, hIv⟩⟩⟩ ⟨Nat.le_of_ble_eq_true rfl, Nat.le_of_ble_eq_true rfl⟩ dL_go_10
    · have hF : X4_go_f F C.1 C.2 vH aH R kA0 p0 = (0, x1, D.1, D.2, X2_keepHeld_f vH (X2_hold_f vH aH C.1 C.2), X2_hold_f vH aH C.1 C.2, R1) := by unfold X4_go_f; rw [hG]; rfl
      rw [hF] at hc
      exact absurd rfl hc
  obtain ⟨hc, hr, hu⟩ := hp
  obtain ⟨R1, hR1, ⟨ha, hG⟩ | ⟨ha, x1, D, hD1, hx1, hG⟩⟩ := kc_ch F C vH aH R 103 p0 0 0
  · have hF : X4_go_f F C.1 C.2 vH aH R kA0 p0 = (1, 0, C.1, C.2, vH, aH, R1) := by unfold X4_go_f; rw [hG]; rfl
    rw [hF] at hc
    exact absurd (show (1 : Nat) = 0 from hc) (by decide)
  · have hF : X4_go_f F C.1 C.2 vH aH R kA0 p0 = (0, x1, D.1, D.2, X2_keepHeld_f vH (X2_hold_f vH aH C.1 C.2), X2_hold_f vH aH C.1 C.2, R1) := by unfold X4_go_f; rw [hG]; rfl
    rw [hF] at hr hu
    have hr : r = x1 := hr
    subst hr
    have hu : u = [X4W g oF (kFr oC oS oH oR oT oB) F, X0W g oC rC D.1 D.2, X2W g oH rH (X2_keepHeld_f vH (X2_hold_f vH aH C.1 C.2)) oQ rQ (X2_hold_f vH aH C.1 C.2), X3W g oR rR R1 kA0] := hu
    subst hu
    have hP : kp g [X4W g oF (kFr oC oS oH oR oT oB) F, X0W g oC rC D.1 D.2, X0W g oS rS S.1 S.2, X2W g oH rH (X2_keepHeld_f vH (X2_hold_f vH aH C.1 C.2)) oQ rQ (X2_hold_f vH aH C.1 C.2), X3W g oR rR R1 kA0, X1W g oT rT T.1 T.2, JOW oB q ml (nI ln.2), JAW g q n f] H := hP.pick [4, 5, 0, 6, 7, 1, 2, 3] rfl
    have hD : kd A [X4W g oF (kFr oC oS oH oR oT oB) F, X0W g oC rC D.1 D.2, X0W g oS rS S.1 S.2, X2W g oH rH (X2_keepHeld_f vH (X2_hold_f vH aH C.1 C.2)) oQ rQ (X2_hold_f vH aH C.1 C.2), X3W g oR rR R1 kA0, X1W g oT rT T.1 T.2, JOW oB q ml (nI ln.2), JAW g q n f] := hD.pick [4, 5, 0, 6, 7, 1, 2, 3] rfl rfl
    exact kL_ret K hP hD hS ⟨R1, hR1, Or.inr ⟨ha, D, hD1, hx1, ⟨oC, oS, oH, oR, oT, oB, rC, rS, rH, rR, rT, oQ, rQ, _, _, q, n, ml, f, by rw [kN_W], hT4, hHi.push C, hIv.chg (by rw [hD1]; exact kco_ic hI ha)⟩⟩⟩ ⟨Nat.le_of_ble_eq_true rfl, Nat.le_of_ble_eq_true rfl⟩ dL_go_5
abbrev wL_seal : List Cond := Cond.codeWith yL_seal cL_seal 3 (some .int) [(0, 5, 6, 13)] :: kW
set_option maxHeartbeats 4000000 in
set_option maxRecDepth 100000 in
theorem L_seal_c (l : Launch) (hfl : l.stackTraces = false) (g : kG) (oF : Nat) (F : Nat → Int32) (C S : kK) (h : List kK) (R : Nat → Int32) (T : kK) (ln : kTx) (cs : List va_W) (hO : kOb g oF F C S h R T ln cs) (p0 : Int32) : kL kX0 l yL_seal wL_seal 8 162 1 6 g [.ref oF, .int p0] cs (fun x u => kChg g oF F C S h R T ln 120 p0 0 0 x u) := by
  obtain ⟨oC, oS, oH, oR, oT, oB, rC, rS, rH, rR, rT, oQ, rQ, vH, aH, q, n, ml, f, rfl, hT4, hHi, hIv⟩ := hO
  have hI := hIv.1
  have hTx := hIv.2.2.2.1
  obtain ⟨⟨nb, hnb, hv7⟩, ⟨nj, hnj, hv4⟩, hM⟩ := id hI
  refine kLg_of (cc := cL_seal) (nL := 3) (ret := some .int) (lv := [(0, .ref oF), (1, .int p0)]) (by decide) rfl (Nat.le_of_ble_eq_true rfl) rfl ?_
  intro p e s m args below meth c ls A htab hN hX K hP hD hE hA hS hl
  have K : kC p c cL_seal s m args meth RL g 3 (some .int) := K
  have hx := K.1.1
  have hb := K.1.2.1
  have hts := K.1.2.2.2.2
  refine lv_aload_n hx hb dL_seal_0 rfl (lv_at hl 0 rfl) ?_
  refine lv_iload_n hx hb dL_seal_1 rfl (lv_at hl 1 rfl) ?_
  refine kX_V (As := [.int p0]) (rest := []) (wr := [X0W g oS rS S.1 S.2, X1W g oT rT T.1 T.2, JOW oB q ml (nI ln.2), JAW g q n f]) K (X4_seal_c l g oF F oS oT oB oC rC C.1 C.2 oH rH vH oQ rQ aH oR rR R kA0 p0 nb nj hnb hv7 hnj hv4 hM hHi.in9 hfl) (cwV 1 hts (k_gV kw694 ca_X4_seal) rfl rfl rfl ⟨rfl, pnX4_seal⟩ ⟨Nat.le_of_ble_eq_true rfl, Nat.le_of_ble_eq_true rfl⟩) hE hS hA hP hD [0, 1, 3, 4] [2, 5, 6, 7] rfl rfl ⟨rfl, rfl, by decide⟩ (k_recv K kFX4 hP (i := 0) (q := 0) rfl rfl) rfl hl.1 rfl rfl dL_seal_2 ⟨Nat.le_of_ble_eq_true rfl, Nat.le_of_ble_eq_true rfl⟩ (fun E u H locs qE ce hp hP hD hS hce hcv hcl => ?_) (fun r u H locs hp hP hD hS => ?_)
  · obtain ⟨hc, hE2, hu⟩ := hp
    obtain ⟨R1, hR1, ⟨ha, hG⟩ | ⟨ha, x1, D, hD1, hx1, hG⟩⟩ := kc_ch F C vH aH R 120 p0 0 0
    · have hF : X4_seal_f F C.1 C.2 vH aH R kA0 p0 = (1, 0, C.1, C.2, vH, aH, R1) := by unfold X4_seal_f; rw [hG]; rfl
      rw [hF] at hE2 hu
      have hE3 : E = "java/lang/UnsupportedOperationException" := hE2
      subst hE3
      have hu : u = [X4W g oF (kFr oC oS oH oR oT oB) F, X0W g oC rC C.1 C.2, X2W g oH rH vH oQ rQ aH, X3W g oR rR R1 kA0] := hu
      subst hu
      have hP : kp g [X4W g oF (kFr oC oS oH oR oT oB) F, X0W g oC rC C.1 C.2, X0W g oS rS S.1 S.2, X2W g oH rH vH oQ rQ aH, X3W g oR rR R1 kA0, X1W g oT rT T.1 T.2, JOW oB q ml (nI ln.2), JAW g q n f] H := hP.pick [4, 5, 0, 6, 7, 1, 2, 3] rfl
      have hD : kd A [X4W g oF (kFr oC oS oH oR oT oB) F, X0W g oC rC C.1 C.2, X0W g oS rS S.1 S.2, X2W g oH rH vH oQ rQ aH, X3W g oR rR R1 kA0, X1W g oT rT T.1 T.2, JOW oB q ml (nI ln.2), JAW g q n f] := hD.pick [4, 5, 0, 6, 7, 1, 2, 3] rfl rfl
      refine kx_catch1 (E := "java/lang/UnsupportedOperationException") K htab rfl (by decide) kw350 (List.mem_of_getElem? (i := 84) rfl) hce hcv hcl ?_
      refine lv_astore_n (lv' := [(2, .ref qE), (0, .ref oF), (1, .int p0)]) hx hb dL_seal_6 rfl hl (by decide) rfl (fun ls hl => ?_)
      refine lv_sipush (v := (-1001)) hx hb dL_seal_7 (by decide) ?_
      exact kL_ret K hP hD hS ⟨R1, hR1, Or.inl ⟨ha, rfl, ⟨oC, oS, oH, oR, oT, oB, rC, rS, rH, rR, rT, oQ, rQ, vH, aH, q, n, ml, f, rfl, hT4, hHi, hIv⟩⟩⟩ ⟨Nat.le_of_ble_eq_true rfl, Nat.le_of_ble_eq_true rfl⟩ dL_seal_10
    · have hF : X4_seal_f F C.1 C.2 vH aH R kA0 p0 = (0, x1, D.1, D.2, X2_keepHeld_f vH (X2_hold_f vH aH C.1 C.2), X2_hold_f vH aH C.1 C.2, R1) := by unfold X4_seal_f; rw [hG]; rfl
      rw [hF] at hc
      exact absurd rfl hc
  obtain ⟨hc, hr, hu⟩ := hp
  obtain ⟨R1, hR1, ⟨ha, hG⟩ | ⟨ha, x1, D, hD1, hx1, hG⟩⟩ := kc_ch F C vH aH R 120 p0 0 0
  · have hF : X4_seal_f F C.1 C.2 vH aH R kA0 p0 = (1, 0, C.1, C.2, vH, aH, R1) := by unfold X4_seal_f; rw [hG]; rfl
    rw [hF] at hc
    exact absurd (show (1 : Nat) = 0 from hc) (by decide)
  · have hF : X4_seal_f F C.1 C.2 vH aH R kA0 p0 = (0, x1, D.1, D.2, X2_keepHeld_f vH (X2_hold_f vH aH C.1 C.2), X2_hold_f vH aH C.1 C.2, R1) := by unfold X4_seal_f; rw [hG]; rfl
    rw [hF] at hr hu
    have hr : r = x1 := hr
    subst hr
    have hu : u = [X4W g oF (kFr oC oS oH oR oT oB) F, X0W g oC rC D.1 D.2, X2W g oH rH (X2_keepHeld_f vH (X2_hold_f vH aH C.1 C.2)) oQ rQ (X2_hold_f vH aH C.1 C.2), X3W g oR rR R1 kA0] := hu
    subst hu
    have hP : kp g [X4W g oF (kFr oC oS oH oR oT oB) F, X0W g oC rC D.1 D.2, X0W g oS rS S.1 S.2, X2W g oH rH (X2_keepHeld_f vH (X2_hold_f vH aH C.1 C.2)) oQ rQ (X2_hold_f vH aH C.1 C.2), X3W g oR rR R1 kA0, X1W g oT rT T.1 T.2, JOW oB q ml (nI ln.2), JAW g q n f] H := hP.pick [4, 5, 0, 6, 7, 1, 2, 3] rfl
    have hD : kd A [X4W g oF (kFr oC oS oH oR oT oB) F, X0W g oC rC D.1 D.2, X0W g oS rS S.1 S.2, X2W g oH rH (X2_keepHeld_f vH (X2_hold_f vH aH C.1 C.2)) oQ rQ (X2_hold_f vH aH C.1 C.2), X3W g oR rR R1 kA0, X1W g oT rT T.1 T.2, JOW oB q ml (nI ln.2), JAW g q n f] := hD.pick [4, 5, 0, 6, 7, 1, 2, 3] rfl rfl
    exact kL_ret K hP hD hS ⟨R1, hR1, Or.inr ⟨ha, D, hD1, hx1, ⟨oC, oS, oH, oR, oT, oB, rC, rS, rH, rR, rT, oQ, rQ, _, _, q, n, ml, f, by rw [kN_W], hT4, hHi.push C, hIv.chg (by rw [hD1]; exact kco_ic hI ha)⟩⟩⟩ ⟨Nat.le_of_ble_eq_true rfl, Nat.le_of_ble_eq_true rfl⟩ dL_seal_5
abbrev wL_days : List Cond := Cond.codeWith yL_days cL_days 3 (some .int) [(0, 5, 6, 13)] :: kW
set_option maxHeartbeats 4000000 in
set_option maxRecDepth 100000 in
theorem L_days_c (l : Launch) (hfl : l.stackTraces = false) (g : kG) (oF : Nat) (F : Nat → Int32) (C S : kK) (h : List kK) (R : Nat → Int32) (T : kK) (ln : kTx) (cs : List va_W) (hO : kOb g oF F C S h R T ln cs) (p0 : Int32) : kL kX0 l yL_days wL_days 8 162 1 6 g [.ref oF, .int p0] cs (fun x u => kChg g oF F C S h R T ln 110 p0 0 0 x u) := by
  obtain ⟨oC, oS, oH, oR, oT, oB, rC, rS, rH, rR, rT, oQ, rQ, vH, aH, q, n, ml, f, rfl, hT4, hHi, hIv⟩ := hO
  have hI := hIv.1
  have hTx := hIv.2.2.2.1
  obtain ⟨⟨nb, hnb, hv7⟩, ⟨nj, hnj, hv4⟩, hM⟩ := id hI
  refine kLg_of (cc := cL_days) (nL := 3) (ret := some .int) (lv := [(0, .ref oF), (1, .int p0)]) (by decide) rfl (Nat.le_of_ble_eq_true rfl) rfl ?_
  intro p e s m args below meth c ls A htab hN hX K hP hD hE hA hS hl
  have K : kC p c cL_days s m args meth RL g 3 (some .int) := K
  have hx := K.1.1
  have hb := K.1.2.1
  have hts := K.1.2.2.2.2
  refine lv_aload_n hx hb dL_days_0 rfl (lv_at hl 0 rfl) ?_
  refine lv_iload_n hx hb dL_days_1 rfl (lv_at hl 1 rfl) ?_
  refine kX_V (As := [.int p0]) (rest := []) (wr := [X0W g oS rS S.1 S.2, X1W g oT rT T.1 T.2, JOW oB q ml (nI ln.2), JAW g q n f]) K (X4_days_c l g oF F oS oT oB oC rC C.1 C.2 oH rH vH oQ rQ aH oR rR R kA0 p0 nb nj hnb hv7 hnj hv4 hM hHi.in9 hfl) (cwV 1 hts (k_gV kw701 ca_X4_days) rfl rfl rfl ⟨rfl, pnX4_days⟩ ⟨Nat.le_of_ble_eq_true rfl, Nat.le_of_ble_eq_true rfl⟩) hE hS hA hP hD [0, 1, 3, 4] [2, 5, 6, 7] rfl rfl ⟨rfl, rfl, by decide⟩ (k_recv K kFX4 hP (i := 0) (q := 0) rfl rfl) rfl hl.1 rfl rfl dL_days_2 ⟨Nat.le_of_ble_eq_true rfl, Nat.le_of_ble_eq_true rfl⟩ (fun E u H locs qE ce hp hP hD hS hce hcv hcl => ?_) (fun r u H locs hp hP hD hS => ?_)
  · obtain ⟨hc, hE2, hu⟩ := hp
    obtain ⟨R1, hR1, ⟨ha, hG⟩ | ⟨ha, x1, D, hD1, hx1, hG⟩⟩ := kc_ch F C vH aH R 110 p0 0 0
    · have hF : X4_days_f F C.1 C.2 vH aH R kA0 p0 = (1, 0, C.1, C.2, vH, aH, R1) := by unfold X4_days_f; rw [hG]; rfl
      rw [hF] at hE2 hu
      have hE3 : E = "java/lang/UnsupportedOperationException" := hE2
      subst hE3
      have hu : u = [X4W g oF (kFr oC oS oH oR oT oB) F, X0W g oC rC C.1 C.2, X2W g oH rH vH oQ rQ aH, X3W g oR rR R1 kA0] := hu
      subst hu
      have hP : kp g [X4W g oF (kFr oC oS oH oR oT oB) F, X0W g oC rC C.1 C.2, X0W g oS rS S.1 S.2, X2W g oH rH vH oQ rQ aH, X3W g oR rR R1 kA0, X1W g oT rT T.1 T.2, JOW oB q ml (nI ln.2), JAW g q n f] H := hP.pick [4, 5, 0, 6, 7, 1, 2, 3] rfl
      have hD : kd A [X4W g oF (kFr oC oS oH oR oT oB) F, X0W g oC rC C.1 C.2, X0W g oS rS S.1 S.2, X2W g oH rH vH oQ rQ aH, X3W g oR rR R1 kA0, X1W g oT rT T.1 T.2, JOW oB q ml (nI ln.2), JAW g q n f] := hD.pick [4, 5, 0, 6, 7, 1, 2, 3] rfl rfl
      refine kx_catch1 (E := "java/lang/UnsupportedOperationException") K htab rfl (by decide) kw350 (List.mem_of_getElem? (i := 84) rfl) hce hcv hcl ?_
      refine lv_astore_n (lv' := [(2, .ref qE), (0, .ref oF), (1, .int p0)]) hx hb dL_days_6 rfl hl (by decide) rfl (fun ls hl => ?_)
      refine lv_sipush (v := (-1001)) hx hb dL_days_7 (by decide) ?_
      exact kL_ret K hP hD hS ⟨R1, hR1, Or.inl ⟨ha, rfl, ⟨oC, oS, oH, oR, oT, oB, rC, rS, rH, rR, rT, oQ, rQ, vH, aH, q, n, ml, f, rfl, hT4, hHi, hIv⟩⟩⟩ ⟨Nat.le_of_ble_eq_true rfl, Nat.le_of_ble_eq_true rfl⟩ dL_days_10
    · have hF : X4_days_f F C.1 C.2 vH aH R kA0 p0 = (0, x1, D.1, D.2, X2_keepHeld_f vH (X2_hold_f vH aH C.1 C.2), X2_hold_f vH aH C.1 C.2, R1) := by unfold X4_days_f; rw [hG]; rfl
      rw [hF] at hc
      exact absurd rfl hc
  obtain ⟨hc, hr, hu⟩ := hp
  obtain ⟨R1, hR1, ⟨ha, hG⟩ | ⟨ha, x1, D, hD1, hx1, hG⟩⟩ := kc_ch F C vH aH R 110 p0 0 0
  · have hF : X4_days_f F C.1 C.2 vH aH R kA0 p0 = (1, 0, C.1, C.2, vH, aH, R1) := by unfold X4_days_f; rw [hG]; rfl
    rw [hF] at hc
    exact absurd (show (1 : Nat) = 0 from hc) (by decide)
  · have hF : X4_days_f F C.1 C.2 vH aH R kA0 p0 = (0, x1, D.1, D.2, X2_keepHeld_f vH (X2_hold_f vH aH C.1 C.2), X2_hold_f vH aH C.1 C.2, R1) := by unfold X4_days_f; rw [hG]; rfl
    rw [hF] at hr hu
    have hr : r = x1 := hr
    subst hr
    have hu : u = [X4W g oF (kFr oC oS oH oR oT oB) F, X0W g oC rC D.1 D.2, X2W g oH rH (X2_keepHeld_f vH (X2_hold_f vH aH C.1 C.2)) oQ rQ (X2_hold_f vH aH C.1 C.2), X3W g oR rR R1 kA0] := hu
    subst hu
    have hP : kp g [X4W g oF (kFr oC oS oH oR oT oB) F, X0W g oC rC D.1 D.2, X0W g oS rS S.1 S.2, X2W g oH rH (X2_keepHeld_f vH (X2_hold_f vH aH C.1 C.2)) oQ rQ (X2_hold_f vH aH C.1 C.2), X3W g oR rR R1 kA0, X1W g oT rT T.1 T.2, JOW oB q ml (nI ln.2), JAW g q n f] H := hP.pick [4, 5, 0, 6, 7, 1, 2, 3] rfl
    have hD : kd A [X4W g oF (kFr oC oS oH oR oT oB) F, X0W g oC rC D.1 D.2, X0W g oS rS S.1 S.2, X2W g oH rH (X2_keepHeld_f vH (X2_hold_f vH aH C.1 C.2)) oQ rQ (X2_hold_f vH aH C.1 C.2), X3W g oR rR R1 kA0, X1W g oT rT T.1 T.2, JOW oB q ml (nI ln.2), JAW g q n f] := hD.pick [4, 5, 0, 6, 7, 1, 2, 3] rfl rfl
    exact kL_ret K hP hD hS ⟨R1, hR1, Or.inr ⟨ha, D, hD1, hx1, ⟨oC, oS, oH, oR, oT, oB, rC, rS, rH, rR, rT, oQ, rQ, _, _, q, n, ml, f, by rw [kN_W], hT4, hHi.push C, hIv.chg (by rw [hD1]; exact kco_ic hI ha)⟩⟩⟩ ⟨Nat.le_of_ble_eq_true rfl, Nat.le_of_ble_eq_true rfl⟩ dL_days_5
