def kLk1 (c : Nat) : Int32 := if c = 0 then 0 else 1
def kLk2 (c1 c : Nat) : Int32 := if c = 0 then 0 else if c = c1 then 1 else 2
theorem k_b01 {b : Bool} (h : ¬ b2i b = 1) : b2i b = 0 := by
  cases b
  · rfl
  · exact absurd rfl h
theorem pnX4_jar : yX4_jar.cls ≠ "java/lang/invoke/MethodHandle" ∧ yX4_jar.cls ≠ "java/lang/invoke/VarHandle" ∧ (parseMethodDescriptor yX4_jar.desc).map (fun d => d.parameters.length) = some 2 := by decide +kernel
theorem ca_X4_jar : kCal yX4_jar (Cond.code yX4_jar cX4_jar 3 (some .int)) := ⟨k_w 3 37 rfl rfl, k_w 3 38 rfl rfl, k_w 2 1 rfl rfl, k_w 3 39 rfl rfl⟩
theorem pnX4_bag : yX4_bag.cls ≠ "java/lang/invoke/MethodHandle" ∧ yX4_bag.cls ≠ "java/lang/invoke/VarHandle" ∧ (parseMethodDescriptor yX4_bag.desc).map (fun d => d.parameters.length) = some 1 := by decide +kernel
theorem ca_X4_bag : kCal yX4_bag (Cond.code yX4_bag cX4_bag 2 (some .int)) := ⟨k_w 4 84 rfl rfl, k_w 4 85 rfl rfl, k_w 2 1 rfl rfl, k_w 4 86 rfl rfl⟩
theorem pnX4_fill : yX4_fill.cls ≠ "java/lang/invoke/MethodHandle" ∧ yX4_fill.cls ≠ "java/lang/invoke/VarHandle" ∧ (parseMethodDescriptor yX4_fill.desc).map (fun d => d.parameters.length) = some 3 := by decide +kernel
theorem ca_X4_fill : kCal yX4_fill (Cond.code yX4_fill cX4_fill 4 (some .int)) := ⟨k_w 4 91 rfl rfl, k_w 4 92 rfl rfl, k_w 2 1 rfl rfl, k_w 4 93 rfl rfl⟩
theorem pnX4_empty : yX4_empty.cls ≠ "java/lang/invoke/MethodHandle" ∧ yX4_empty.cls ≠ "java/lang/invoke/VarHandle" ∧ (parseMethodDescriptor yX4_empty.desc).map (fun d => d.parameters.length) = some 2 := by decide +kernel
theorem ca_X4_empty : kCal yX4_empty (Cond.code yX4_empty cX4_empty 3 (some .int)) := ⟨k_w 4 98 rfl rfl, k_w 4 99 rfl rfl, k_w 2 1 rfl rfl, k_w 4 100 rfl rfl⟩
theorem pnX4_beat : yX4_beat.cls ≠ "java/lang/invoke/MethodHandle" ∧ yX4_beat.cls ≠ "java/lang/invoke/VarHandle" ∧ (parseMethodDescriptor yX4_beat.desc).map (fun d => d.parameters.length) = some 1 := by decide +kernel
theorem ca_X4_beat : kCal yX4_beat (Cond.code yX4_beat cX4_beat 2 (some .int)) := ⟨k_w 4 105 rfl rfl, k_w 4 106 rfl rfl, k_w 2 1 rfl rfl, k_w 4 107 rfl rfl⟩
theorem pnX4_thumb : yX4_thumb.cls ≠ "java/lang/invoke/MethodHandle" ∧ yX4_thumb.cls ≠ "java/lang/invoke/VarHandle" ∧ (parseMethodDescriptor yX4_thumb.desc).map (fun d => d.parameters.length) = some 1 := by decide +kernel
theorem ca_X4_thumb : kCal yX4_thumb (Cond.code yX4_thumb cX4_thumb 2 (some .int)) := ⟨k_w 4 112 rfl rfl, k_w 4 113 rfl rfl, k_w 2 1 rfl rfl, k_w 4 114 rfl rfl⟩
theorem pnX4_weigh : yX4_weigh.cls ≠ "java/lang/invoke/MethodHandle" ∧ yX4_weigh.cls ≠ "java/lang/invoke/VarHandle" ∧ (parseMethodDescriptor yX4_weigh.desc).map (fun d => d.parameters.length) = some 1 := by decide +kernel
theorem ca_X4_weigh : kCal yX4_weigh (Cond.code yX4_weigh cX4_weigh 2 (some .int)) := ⟨k_w 4 119 rfl rfl, k_w 4 120 rfl rfl, k_w 2 1 rfl rfl, k_w 4 121 rfl rfl⟩
theorem pnX4_sell : yX4_sell.cls ≠ "java/lang/invoke/MethodHandle" ∧ yX4_sell.cls ≠ "java/lang/invoke/VarHandle" ∧ (parseMethodDescriptor yX4_sell.desc).map (fun d => d.parameters.length) = some 1 := by decide +kernel
theorem ca_X4_sell : kCal yX4_sell (Cond.code yX4_sell cX4_sell 2 (some .int)) := ⟨k_w 4 126 rfl rfl, k_w 4 127 rfl rfl, k_w 2 1 rfl rfl, k_w 4 128 rfl rfl⟩
theorem pnX4_oath : yX4_oath.cls ≠ "java/lang/invoke/MethodHandle" ∧ yX4_oath.cls ≠ "java/lang/invoke/VarHandle" ∧ (parseMethodDescriptor yX4_oath.desc).map (fun d => d.parameters.length) = some 0 := by decide +kernel
theorem ca_X4_oath : kCal yX4_oath (Cond.code yX4_oath cX4_oath 1 (some .int)) := ⟨k_w 4 133 rfl rfl, k_w 4 134 rfl rfl, k_w 2 1 rfl rfl, k_w 4 135 rfl rfl⟩
theorem pnX4_go : yX4_go.cls ≠ "java/lang/invoke/MethodHandle" ∧ yX4_go.cls ≠ "java/lang/invoke/VarHandle" ∧ (parseMethodDescriptor yX4_go.desc).map (fun d => d.parameters.length) = some 1 := by decide +kernel
theorem ca_X4_go : kCal yX4_go (Cond.code yX4_go cX4_go 2 (some .int)) := ⟨k_w 4 140 rfl rfl, k_w 4 141 rfl rfl, k_w 2 1 rfl rfl, k_w 4 142 rfl rfl⟩
theorem pnX4_seal : yX4_seal.cls ≠ "java/lang/invoke/MethodHandle" ∧ yX4_seal.cls ≠ "java/lang/invoke/VarHandle" ∧ (parseMethodDescriptor yX4_seal.desc).map (fun d => d.parameters.length) = some 1 := by decide +kernel
theorem ca_X4_seal : kCal yX4_seal (Cond.code yX4_seal cX4_seal 2 (some .int)) := ⟨k_w 4 147 rfl rfl, k_w 4 148 rfl rfl, k_w 2 1 rfl rfl, k_w 4 149 rfl rfl⟩
theorem pnX4_days : yX4_days.cls ≠ "java/lang/invoke/MethodHandle" ∧ yX4_days.cls ≠ "java/lang/invoke/VarHandle" ∧ (parseMethodDescriptor yX4_days.desc).map (fun d => d.parameters.length) = some 1 := by decide +kernel
theorem ca_X4_days : kCal yX4_days (Cond.code yX4_days cX4_days 2 (some .int)) := ⟨k_w 4 154 rfl rfl, k_w 4 155 rfl rfl, k_w 2 1 rfl rfl, k_w 4 156 rfl rfl⟩
theorem pnX4_jarOf : yX4_jarOf.cls ≠ "java/lang/invoke/MethodHandle" ∧ yX4_jarOf.cls ≠ "java/lang/invoke/VarHandle" ∧ (parseMethodDescriptor yX4_jarOf.desc).map (fun d => d.parameters.length) = some 2 := by decide +kernel
theorem ca_X4_jarOf : kCal yX4_jarOf (Cond.code yX4_jarOf cX4_jarOf 3 (some .int)) := ⟨k_w 4 185 rfl rfl, k_w 4 186 rfl rfl, k_w 2 1 rfl rfl, k_w 4 187 rfl rfl⟩
theorem pnX4_bagOf : yX4_bagOf.cls ≠ "java/lang/invoke/MethodHandle" ∧ yX4_bagOf.cls ≠ "java/lang/invoke/VarHandle" ∧ (parseMethodDescriptor yX4_bagOf.desc).map (fun d => d.parameters.length) = some 2 := by decide +kernel
theorem ca_X4_bagOf : kCal yX4_bagOf (Cond.code yX4_bagOf cX4_bagOf 3 (some .int)) := ⟨k_w 4 207 rfl rfl, k_w 4 208 rfl rfl, k_w 2 1 rfl rfl, k_w 4 209 rfl rfl⟩
theorem pnX4_weightOf : yX4_weightOf.cls ≠ "java/lang/invoke/MethodHandle" ∧ yX4_weightOf.cls ≠ "java/lang/invoke/VarHandle" ∧ (parseMethodDescriptor yX4_weightOf.desc).map (fun d => d.parameters.length) = some 2 := by decide +kernel
theorem ca_X4_weightOf : kCal yX4_weightOf (Cond.code yX4_weightOf cX4_weightOf 3 (some .int)) := ⟨k_w 4 237 rfl rfl, k_w 4 238 rfl rfl, k_w 2 1 rfl rfl, k_w 4 239 rfl rfl⟩
theorem pnX4_told : yX4_told.cls ≠ "java/lang/invoke/MethodHandle" ∧ yX4_told.cls ≠ "java/lang/invoke/VarHandle" ∧ (parseMethodDescriptor yX4_told.desc).map (fun d => d.parameters.length) = some 1 := by decide +kernel
theorem ca_X4_told : kCal yX4_told (Cond.code yX4_told cX4_told 2 (some .int)) := ⟨k_w 5 12 rfl rfl, k_w 5 13 rfl rfl, k_w 2 1 rfl rfl, k_w 5 14 rfl rfl⟩
theorem pnX4_toldAgain : yX4_toldAgain.cls ≠ "java/lang/invoke/MethodHandle" ∧ yX4_toldAgain.cls ≠ "java/lang/invoke/VarHandle" ∧ (parseMethodDescriptor yX4_toldAgain.desc).map (fun d => d.parameters.length) = some 1 := by decide +kernel
theorem ca_X4_toldAgain : kCal yX4_toldAgain (Cond.code yX4_toldAgain cX4_toldAgain 3 (some .int)) := ⟨k_w 5 21 rfl rfl, k_w 5 22 rfl rfl, k_w 2 1 rfl rfl, k_w 5 23 rfl rfl⟩
theorem pnX4_onPan : yX4_onPan.cls ≠ "java/lang/invoke/MethodHandle" ∧ yX4_onPan.cls ≠ "java/lang/invoke/VarHandle" ∧ (parseMethodDescriptor yX4_onPan.desc).map (fun d => d.parameters.length) = some 1 := by decide +kernel
theorem ca_X4_onPan : kCal yX4_onPan (Cond.code yX4_onPan cX4_onPan 2 (some .int)) := ⟨k_w 5 37 rfl rfl, k_w 5 38 rfl rfl, k_w 2 1 rfl rfl, k_w 5 39 rfl rfl⟩
theorem pnX4_rest : yX4_rest.cls ≠ "java/lang/invoke/MethodHandle" ∧ yX4_rest.cls ≠ "java/lang/invoke/VarHandle" ∧ (parseMethodDescriptor yX4_rest.desc).map (fun d => d.parameters.length) = some 1 := by decide +kernel
theorem ca_X4_rest : kCal yX4_rest (Cond.code yX4_rest cX4_rest 2 (some .int)) := ⟨k_w 5 44 rfl rfl, k_w 5 45 rfl rfl, k_w 2 1 rfl rfl, k_w 5 46 rfl rfl⟩
theorem pnX4_honest : yX4_honest.cls ≠ "java/lang/invoke/MethodHandle" ∧ yX4_honest.cls ≠ "java/lang/invoke/VarHandle" ∧ (parseMethodDescriptor yX4_honest.desc).map (fun d => d.parameters.length) = some 1 := by decide +kernel
theorem ca_X4_honest : kCal yX4_honest (Cond.code yX4_honest cX4_honest 2 (some .int)) := ⟨k_w 5 51 rfl rfl, k_w 5 52 rfl rfl, k_w 2 1 rfl rfl, k_w 5 53 rfl rfl⟩
theorem pnX4_pays : yX4_pays.cls ≠ "java/lang/invoke/MethodHandle" ∧ yX4_pays.cls ≠ "java/lang/invoke/VarHandle" ∧ (parseMethodDescriptor yX4_pays.desc).map (fun d => d.parameters.length) = some 2 := by decide +kernel
theorem ca_X4_pays : kCal yX4_pays (Cond.code yX4_pays cX4_pays 3 (some .int)) := ⟨k_w 5 58 rfl rfl, k_w 5 59 rfl rfl, k_w 2 1 rfl rfl, k_w 5 60 rfl rfl⟩
theorem pnX4_wouldGet : yX4_wouldGet.cls ≠ "java/lang/invoke/MethodHandle" ∧ yX4_wouldGet.cls ≠ "java/lang/invoke/VarHandle" ∧ (parseMethodDescriptor yX4_wouldGet.desc).map (fun d => d.parameters.length) = some 2 := by decide +kernel
theorem ca_X4_wouldGet : kCal yX4_wouldGet (Cond.code yX4_wouldGet cX4_wouldGet 3 (some .int)) := ⟨k_w 5 74 rfl rfl, k_w 5 75 rfl rfl, k_w 2 1 rfl rfl, k_w 5 76 rfl rfl⟩
theorem pnX4_bestMarket : yX4_bestMarket.cls ≠ "java/lang/invoke/MethodHandle" ∧ yX4_bestMarket.cls ≠ "java/lang/invoke/VarHandle" ∧ (parseMethodDescriptor yX4_bestMarket.desc).map (fun d => d.parameters.length) = some 1 := by decide +kernel
theorem ca_X4_bestMarket : kCal yX4_bestMarket (Cond.code yX4_bestMarket cX4_bestMarket 2 (some .int)) := ⟨k_w 5 103 rfl rfl, k_w 5 104 rfl rfl, k_w 2 1 rfl rfl, k_w 5 105 rfl rfl⟩
theorem pnX4_oathUntil : yX4_oathUntil.cls ≠ "java/lang/invoke/MethodHandle" ∧ yX4_oathUntil.cls ≠ "java/lang/invoke/VarHandle" ∧ (parseMethodDescriptor yX4_oathUntil.desc).map (fun d => d.parameters.length) = some 1 := by decide +kernel
theorem ca_X4_oathUntil : kCal yX4_oathUntil (Cond.code yX4_oathUntil cX4_oathUntil 2 (some .int)) := ⟨k_w 5 115 rfl rfl, k_w 5 116 rfl rfl, k_w 2 1 rfl rfl, k_w 5 117 rfl rfl⟩
theorem pnX4_isNoticed : yX4_isNoticed.cls ≠ "java/lang/invoke/MethodHandle" ∧ yX4_isNoticed.cls ≠ "java/lang/invoke/VarHandle" ∧ (parseMethodDescriptor yX4_isNoticed.desc).map (fun d => d.parameters.length) = some 1 := by decide +kernel
theorem ca_X4_isNoticed : kCal yX4_isNoticed (Cond.code yX4_isNoticed cX4_isNoticed 2 (some .boolean)) := ⟨k_w 5 124 rfl rfl, k_w 5 125 rfl rfl, k_w 2 1 rfl rfl, k_w 5 126 rfl rfl⟩
theorem pnX4_ranked : yX4_ranked.cls ≠ "java/lang/invoke/MethodHandle" ∧ yX4_ranked.cls ≠ "java/lang/invoke/VarHandle" ∧ (parseMethodDescriptor yX4_ranked.desc).map (fun d => d.parameters.length) = some 1 := by decide +kernel
theorem ca_X4_ranked : kCal yX4_ranked (Cond.code yX4_ranked cX4_ranked 3 (some .int)) := ⟨k_w 5 132 rfl rfl, k_w 5 133 rfl rfl, k_w 2 1 rfl rfl, k_w 5 134 rfl rfl⟩
theorem pnX4_append : yX4_append.cls ≠ "java/lang/invoke/MethodHandle" ∧ yX4_append.cls ≠ "java/lang/invoke/VarHandle" ∧ (parseMethodDescriptor yX4_append.desc).map (fun d => d.parameters.length) = some 1 := by decide +kernel
theorem ca_X4_append : kCal yX4_append (Cond.code yX4_append cX4_append 2 (some .int)) := ⟨k_w 5 149 rfl rfl, k_w 5 150 rfl rfl, k_w 2 1 rfl rfl, k_w 5 151 rfl rfl⟩
theorem pnX4_commands : yX4_commands.cls ≠ "java/lang/invoke/MethodHandle" ∧ yX4_commands.cls ≠ "java/lang/invoke/VarHandle" ∧ (parseMethodDescriptor yX4_commands.desc).map (fun d => d.parameters.length) = some 0 := by decide +kernel
theorem ca_X4_commands : kCal yX4_commands (Cond.code yX4_commands cX4_commands 3 (some .int)) := ⟨k_w 5 172 rfl rfl, k_w 5 173 rfl rfl, k_w 2 1 rfl rfl, k_w 5 174 rfl rfl⟩
theorem pnX4_reason : yX4_reason.cls ≠ "java/lang/invoke/MethodHandle" ∧ yX4_reason.cls ≠ "java/lang/invoke/VarHandle" ∧ (parseMethodDescriptor yX4_reason.desc).map (fun d => d.parameters.length) = some 1 := by decide +kernel
theorem ca_X4_reason : kCal yX4_reason (Cond.code yX4_reason cX4_reason 2 (some .int)) := ⟨k_w 6 28 rfl rfl, k_w 6 29 rfl rfl, k_w 2 1 rfl rfl, k_w 6 30 rfl rfl⟩
theorem pnX4_account : yX4_account.cls ≠ "java/lang/invoke/MethodHandle" ∧ yX4_account.cls ≠ "java/lang/invoke/VarHandle" ∧ (parseMethodDescriptor yX4_account.desc).map (fun d => d.parameters.length) = some 1 := by decide +kernel
theorem ca_X4_account : kCal yX4_account (Cond.code yX4_account cX4_account 2 (some .int)) := ⟨k_w 7 105 rfl rfl, k_w 7 106 rfl rfl, k_w 2 1 rfl rfl, k_w 7 107 rfl rfl⟩
theorem pnX4_undo : yX4_undo.cls ≠ "java/lang/invoke/MethodHandle" ∧ yX4_undo.cls ≠ "java/lang/invoke/VarHandle" ∧ (parseMethodDescriptor yX4_undo.desc).map (fun d => d.parameters.length) = some 0 := by decide +kernel
theorem ca_X4_undo : kCal yX4_undo (Cond.code yX4_undo cX4_undo 1 (some .int)) := ⟨k_w 7 118 rfl rfl, k_w 7 119 rfl rfl, k_w 2 1 rfl rfl, k_w 7 120 rfl rfl⟩
theorem pnX4_restore : yX4_restore.cls ≠ "java/lang/invoke/MethodHandle" ∧ yX4_restore.cls ≠ "java/lang/invoke/VarHandle" ∧ (parseMethodDescriptor yX4_restore.desc).map (fun d => d.parameters.length) = some 0 := by decide +kernel
theorem ca_X4_restore : kCal yX4_restore (Cond.code yX4_restore cX4_restore 1 (some .int)) := ⟨k_w 7 130 rfl rfl, k_w 7 131 rfl rfl, k_w 2 1 rfl rfl, k_w 7 132 rfl rfl⟩
theorem kw381 : Cond.classLink RL 13 "java/lang/UnsupportedOperationException" ∈ kW := k_w 3 35 rfl rfl
theorem kw382 : Cond.methodLink RL 7 yX4_jar ∈ kW := k_w 3 36 rfl rfl
theorem kw669 : Cond.methodLink RL 15 yX4_bag ∈ kW := k_w 4 83 rfl rfl
theorem kw676 : Cond.methodLink RL 19 yX4_fill ∈ kW := k_w 4 90 rfl rfl
theorem kw683 : Cond.methodLink RL 23 yX4_empty ∈ kW := k_w 4 97 rfl rfl
theorem kw690 : Cond.methodLink RL 26 yX4_beat ∈ kW := k_w 4 104 rfl rfl
theorem kw697 : Cond.methodLink RL 29 yX4_thumb ∈ kW := k_w 4 111 rfl rfl
theorem kw704 : Cond.methodLink RL 32 yX4_weigh ∈ kW := k_w 4 118 rfl rfl
theorem kw711 : Cond.methodLink RL 35 yX4_sell ∈ kW := k_w 4 125 rfl rfl
theorem kw718 : Cond.methodLink RL 38 yX4_oath ∈ kW := k_w 4 132 rfl rfl
theorem kw725 : Cond.methodLink RL 42 yX4_go ∈ kW := k_w 4 139 rfl rfl
theorem kw732 : Cond.methodLink RL 45 yX4_seal ∈ kW := k_w 4 146 rfl rfl
theorem kw739 : Cond.methodLink RL 48 yX4_days ∈ kW := k_w 4 153 rfl rfl
abbrev wL_jar : List Cond := Cond.codeWith yL_jar cL_jar 5 (some .int) [(0, 10, 13, 13)] :: kW
set_option maxHeartbeats 4000000 in
theorem L_jar_c (l : Launch) (g : kG) (oF : Nat) (vF : Nat → Int32) (oS oT oB : Nat) (oC : Nat) (rC : Nat → Nat) (vC : Nat → Int32) (aC : Nat → Nat → Int32) (oH : Nat) (rH : Nat → Nat) (vH : Nat → Int32) (oQ : Nat → Nat) (rQ : Nat → Nat → Nat) (aH : Nat → (Nat → Int32) × (Nat → Nat → Int32)) (oR : Nat) (rR : Nat → Nat) (vR : Nat → Int32) (aR : Nat → Nat → Int32) (p0 : Int32) (p1 : Int32) (nb : Nat) (nj : Nat) (hnb : nb ≤ 6) (hv7 : vC 7 = nI nb) (hnj : nj ≤ 6) (hv4 : vC 4 = nI nj) (hM : vp_in (vC 1) 4) (hh : vp_in (vH 1) 9) (hfl : l.stackTraces = false) (oL : Nat) (fL : Nat → Int64) (hcd : (X4_jar_f vF vC aC vH aH vR aR p0 p1).1 = 0 ∨ (X4_jar_f vF vC aC vH aH vR aR p0 p1).1 = 1) : kL l yL_jar wL_jar 8 163 1 6 g [.ref oF, .int p0, .int p1, .ref oL] [X4W g oF (kFr oC oS oH oR oT oB) vF, X0W g oC rC vC aC, X2W g oH rH vH oQ rQ aH, X3W g oR rR vR aR, OLW g oL fL] (fun x u => x = kLk1 ((X4_jar_f vF vC aC vH aH vR aR p0 p1).1) ∧ ∃ h : Nat → Int64, ((X4_jar_f vF vC aC vH aH vR aR p0 p1).1 = 0 → h 0 = ((X4_jar_f vF vC aC vH aH vR aR p0 p1).2.1).toInt64) ∧ u = [X4W g oF (kFr oC oS oH oR oT oB) vF, X0W g oC rC ((X4_jar_f vF vC aC vH aH vR aR p0 p1).2.2.1) ((X4_jar_f vF vC aC vH aH vR aR p0 p1).2.2.2.1), X2W g oH rH ((X4_jar_f vF vC aC vH aH vR aR p0 p1).2.2.2.2.1) oQ rQ ((X4_jar_f vF vC aC vH aH vR aR p0 p1).2.2.2.2.2.1), X3W g oR rR ((X4_jar_f vF vC aC vH aH vR aR p0 p1).2.2.2.2.2.2) aR, OLW g oL h]) := by
  refine kL_of (cc := cL_jar) (nL := 5) (ret := some .int) (lv := [(0, .ref oF), (1, .int p0), (2, .int p1), (3, .ref oL)]) (by decide) rfl (Nat.le_of_ble_eq_true rfl) rfl ?_
  intro p e s m args below meth c ls A htab hN C hP hD hE hA hS hl
  have C : kC p c cL_jar s m args meth RL g 5 (some .int) := C
  have hx := C.1.1
  have hb := C.1.2.1
  have hts := C.1.2.2.2.2
  refine lv_aload_n hx hb dL_jar_0 rfl (lv_at hl 3 rfl) ?_
  refine lv_iconst (v := 0) hx hb dL_jar_1 (by decide) ?_
  refine lv_aload_n hx hb dL_jar_2 rfl (lv_at hl 0 rfl) ?_
  refine lv_iload_n hx hb dL_jar_3 rfl (lv_at hl 1 rfl) ?_
  refine lv_iload_n hx hb dL_jar_4 rfl (lv_at hl 2 rfl) ?_
  refine kX_V (As := [.int p0, .int p1]) (rest := [.int 0, .ref oL]) (wr := [OLW g oL fL]) C (X4_jar_c l g oF vF oS oT oB oC rC vC aC oH rH vH oQ rQ aH oR rR vR aR p0 p1 nb nj hnb hv7 hnj hv4 hM hh hfl) (cwV 2 hts (k_gV kw382 ca_X4_jar) rfl rfl rfl ⟨rfl, pnX4_jar⟩ ⟨Nat.le_of_ble_eq_true rfl, Nat.le_of_ble_eq_true rfl⟩) hE hS hA hP hD [0, 1, 2, 3] [4] rfl rfl ⟨rfl, rfl, by decide⟩ (k_recv C kFX4 hP (i := 0) (q := 0) rfl rfl) rfl hl.1 rfl rfl dL_jar_5 ⟨Nat.le_of_ble_eq_true rfl, Nat.le_of_ble_eq_true rfl⟩ (fun E u H locs qE ce hp hP hD hS hce hcv hcl => ?_) (fun r u H locs hp hP hD hS => ?_)
  · obtain ⟨hc, hE2, hu⟩ := hp
    subst hu
    have hP : kp g [X4W g oF (kFr oC oS oH oR oT oB) vF, X0W g oC rC ((X4_jar_f vF vC aC vH aH vR aR p0 p1).2.2.1) ((X4_jar_f vF vC aC vH aH vR aR p0 p1).2.2.2.1), X2W g oH rH ((X4_jar_f vF vC aC vH aH vR aR p0 p1).2.2.2.2.1) oQ rQ ((X4_jar_f vF vC aC vH aH vR aR p0 p1).2.2.2.2.2.1), X3W g oR rR ((X4_jar_f vF vC aC vH aH vR aR p0 p1).2.2.2.2.2.2) aR, OLW g oL fL] H := hP.pick [1, 2, 3, 4, 0] rfl
    have hD : kd A [X4W g oF (kFr oC oS oH oR oT oB) vF, X0W g oC rC ((X4_jar_f vF vC aC vH aH vR aR p0 p1).2.2.1) ((X4_jar_f vF vC aC vH aH vR aR p0 p1).2.2.2.1), X2W g oH rH ((X4_jar_f vF vC aC vH aH vR aR p0 p1).2.2.2.2.1) oQ rQ ((X4_jar_f vF vC aC vH aH vR aR p0 p1).2.2.2.2.2.1), X3W g oR rR ((X4_jar_f vF vC aC vH aH vR aR p0 p1).2.2.2.2.2.2) aR, OLW g oL fL] := hD.pick [1, 2, 3, 4, 0] rfl rfl
    rcases hcd with h0 | h1
    · exact absurd h0 hc
    · rw [h1] at hE2
      subst hE2
      refine kx_catch1 (E := "java/lang/UnsupportedOperationException") C htab rfl (by decide) kw381 (List.mem_of_getElem? (i := 84) rfl) hce hcv hcl ?_
      refine lv_astore (lv' := [(4, .ref qE), (0, .ref oF), (1, .int p0), (2, .int p1), (3, .ref oL)]) hx hb dL_jar_13 hl (by decide) rfl (fun ls hl => ?_)
      refine lv_iconst (v := 1) hx hb dL_jar_15 (by decide) ?_
      exact kL_ret C hP hD hS ⟨by rw [h1]; rfl, _, fun z => absurd z hc, rfl⟩ ⟨Nat.le_of_ble_eq_true rfl, Nat.le_of_ble_eq_true rfl⟩ dL_jar_16
  obtain ⟨hc, hr, hu⟩ := hp
  subst hu
  have hP : kp g [X4W g oF (kFr oC oS oH oR oT oB) vF, X0W g oC rC ((X4_jar_f vF vC aC vH aH vR aR p0 p1).2.2.1) ((X4_jar_f vF vC aC vH aH vR aR p0 p1).2.2.2.1), X2W g oH rH ((X4_jar_f vF vC aC vH aH vR aR p0 p1).2.2.2.2.1) oQ rQ ((X4_jar_f vF vC aC vH aH vR aR p0 p1).2.2.2.2.2.1), X3W g oR rR ((X4_jar_f vF vC aC vH aH vR aR p0 p1).2.2.2.2.2.2) aR, OLW g oL fL] H := hP.pick [1, 2, 3, 4, 0] rfl
  have hD : kd A [X4W g oF (kFr oC oS oH oR oT oB) vF, X0W g oC rC ((X4_jar_f vF vC aC vH aH vR aR p0 p1).2.2.1) ((X4_jar_f vF vC aC vH aH vR aR p0 p1).2.2.2.1), X2W g oH rH ((X4_jar_f vF vC aC vH aH vR aR p0 p1).2.2.2.2.1) oQ rQ ((X4_jar_f vF vC aC vH aH vR aR p0 p1).2.2.2.2.2.1), X3W g oR rR ((X4_jar_f vF vC aC vH aH vR aR p0 p1).2.2.2.2.2.2) aR, OLW g oL fL] := hD.pick [1, 2, 3, 4, 0] rfl rfl
  subst hr
  refine lv_i2l hx hb dL_jar_8 rfl ?_
  refine kg_last C hP hD hS (i := 4) rfl rfl dL_jar_9 (fun H locs hP hD hS => ?_)
  have hP : kp g [X4W g oF (kFr oC oS oH oR oT oB) vF, X0W g oC rC ((X4_jar_f vF vC aC vH aH vR aR p0 p1).2.2.1) ((X4_jar_f vF vC aC vH aH vR aR p0 p1).2.2.2.1), X2W g oH rH ((X4_jar_f vF vC aC vH aH vR aR p0 p1).2.2.2.2.1) oQ rQ ((X4_jar_f vF vC aC vH aH vR aR p0 p1).2.2.2.2.2.1), X3W g oR rR ((X4_jar_f vF vC aC vH aH vR aR p0 p1).2.2.2.2.2.2) aR, OLW g oL (vp_updL fL 0 (((X4_jar_f vF vC aC vH aH vR aR p0 p1).2.1).toInt64))] H := hP
  have hD : kd A [X4W g oF (kFr oC oS oH oR oT oB) vF, X0W g oC rC ((X4_jar_f vF vC aC vH aH vR aR p0 p1).2.2.1) ((X4_jar_f vF vC aC vH aH vR aR p0 p1).2.2.2.1), X2W g oH rH ((X4_jar_f vF vC aC vH aH vR aR p0 p1).2.2.2.2.1) oQ rQ ((X4_jar_f vF vC aC vH aH vR aR p0 p1).2.2.2.2.2.1), X3W g oR rR ((X4_jar_f vF vC aC vH aH vR aR p0 p1).2.2.2.2.2.2) aR, OLW g oL (vp_updL fL 0 (((X4_jar_f vF vC aC vH aH vR aR p0 p1).2.1).toInt64))] := hD
  refine lv_goto (tgt := 17) hx hb dL_jar_10 (by decide) ?_
  refine lv_iconst (v := 0) hx hb dL_jar_17 (by decide) ?_
  exact kL_ret C hP hD hS ⟨by rw [hc]; rfl, _, fun _ => k_updL0 _ _, rfl⟩ ⟨Nat.le_of_ble_eq_true rfl, Nat.le_of_ble_eq_true rfl⟩ dL_jar_18
abbrev wL_bag : List Cond := Cond.codeWith yL_bag cL_bag 4 (some .int) [(0, 9, 12, 13)] :: kW
set_option maxHeartbeats 4000000 in
theorem L_bag_c (l : Launch) (g : kG) (oF : Nat) (vF : Nat → Int32) (oS oT oB : Nat) (oC : Nat) (rC : Nat → Nat) (vC : Nat → Int32) (aC : Nat → Nat → Int32) (oH : Nat) (rH : Nat → Nat) (vH : Nat → Int32) (oQ : Nat → Nat) (rQ : Nat → Nat → Nat) (aH : Nat → (Nat → Int32) × (Nat → Nat → Int32)) (oR : Nat) (rR : Nat → Nat) (vR : Nat → Int32) (aR : Nat → Nat → Int32) (p0 : Int32) (nb : Nat) (nj : Nat) (hnb : nb ≤ 6) (hv7 : vC 7 = nI nb) (hnj : nj ≤ 6) (hv4 : vC 4 = nI nj) (hM : vp_in (vC 1) 4) (hh : vp_in (vH 1) 9) (hfl : l.stackTraces = false) (oL : Nat) (fL : Nat → Int64) (hcd : (X4_bag_f vF vC aC vH aH vR aR p0).1 = 0 ∨ (X4_bag_f vF vC aC vH aH vR aR p0).1 = 1) : kL l yL_bag wL_bag 8 162 1 6 g [.ref oF, .int p0, .ref oL] [X4W g oF (kFr oC oS oH oR oT oB) vF, X0W g oC rC vC aC, X2W g oH rH vH oQ rQ aH, X3W g oR rR vR aR, OLW g oL fL] (fun x u => x = kLk1 ((X4_bag_f vF vC aC vH aH vR aR p0).1) ∧ ∃ h : Nat → Int64, ((X4_bag_f vF vC aC vH aH vR aR p0).1 = 0 → h 0 = ((X4_bag_f vF vC aC vH aH vR aR p0).2.1).toInt64) ∧ u = [X4W g oF (kFr oC oS oH oR oT oB) vF, X0W g oC rC ((X4_bag_f vF vC aC vH aH vR aR p0).2.2.1) ((X4_bag_f vF vC aC vH aH vR aR p0).2.2.2.1), X2W g oH rH ((X4_bag_f vF vC aC vH aH vR aR p0).2.2.2.2.1) oQ rQ ((X4_bag_f vF vC aC vH aH vR aR p0).2.2.2.2.2.1), X3W g oR rR ((X4_bag_f vF vC aC vH aH vR aR p0).2.2.2.2.2.2) aR, OLW g oL h]) := by
  refine kL_of (cc := cL_bag) (nL := 4) (ret := some .int) (lv := [(0, .ref oF), (1, .int p0), (2, .ref oL)]) (by decide) rfl (Nat.le_of_ble_eq_true rfl) rfl ?_
  intro p e s m args below meth c ls A htab hN C hP hD hE hA hS hl
  have C : kC p c cL_bag s m args meth RL g 4 (some .int) := C
  have hx := C.1.1
  have hb := C.1.2.1
  have hts := C.1.2.2.2.2
  refine lv_aload_n hx hb dL_bag_0 rfl (lv_at hl 2 rfl) ?_
  refine lv_iconst (v := 0) hx hb dL_bag_1 (by decide) ?_
  refine lv_aload_n hx hb dL_bag_2 rfl (lv_at hl 0 rfl) ?_
  refine lv_iload_n hx hb dL_bag_3 rfl (lv_at hl 1 rfl) ?_
  refine kX_V (As := [.int p0]) (rest := [.int 0, .ref oL]) (wr := [OLW g oL fL]) C (X4_bag_c l g oF vF oS oT oB oC rC vC aC oH rH vH oQ rQ aH oR rR vR aR p0 nb nj hnb hv7 hnj hv4 hM hh hfl) (cwV 1 hts (k_gV kw669 ca_X4_bag) rfl rfl rfl ⟨rfl, pnX4_bag⟩ ⟨Nat.le_of_ble_eq_true rfl, Nat.le_of_ble_eq_true rfl⟩) hE hS hA hP hD [0, 1, 2, 3] [4] rfl rfl ⟨rfl, rfl, by decide⟩ (k_recv C kFX4 hP (i := 0) (q := 0) rfl rfl) rfl hl.1 rfl rfl dL_bag_4 ⟨Nat.le_of_ble_eq_true rfl, Nat.le_of_ble_eq_true rfl⟩ (fun E u H locs qE ce hp hP hD hS hce hcv hcl => ?_) (fun r u H locs hp hP hD hS => ?_)
  · obtain ⟨hc, hE2, hu⟩ := hp
    subst hu
    have hP : kp g [X4W g oF (kFr oC oS oH oR oT oB) vF, X0W g oC rC ((X4_bag_f vF vC aC vH aH vR aR p0).2.2.1) ((X4_bag_f vF vC aC vH aH vR aR p0).2.2.2.1), X2W g oH rH ((X4_bag_f vF vC aC vH aH vR aR p0).2.2.2.2.1) oQ rQ ((X4_bag_f vF vC aC vH aH vR aR p0).2.2.2.2.2.1), X3W g oR rR ((X4_bag_f vF vC aC vH aH vR aR p0).2.2.2.2.2.2) aR, OLW g oL fL] H := hP.pick [1, 2, 3, 4, 0] rfl
    have hD : kd A [X4W g oF (kFr oC oS oH oR oT oB) vF, X0W g oC rC ((X4_bag_f vF vC aC vH aH vR aR p0).2.2.1) ((X4_bag_f vF vC aC vH aH vR aR p0).2.2.2.1), X2W g oH rH ((X4_bag_f vF vC aC vH aH vR aR p0).2.2.2.2.1) oQ rQ ((X4_bag_f vF vC aC vH aH vR aR p0).2.2.2.2.2.1), X3W g oR rR ((X4_bag_f vF vC aC vH aH vR aR p0).2.2.2.2.2.2) aR, OLW g oL fL] := hD.pick [1, 2, 3, 4, 0] rfl rfl
    rcases hcd with h0 | h1
    · exact absurd h0 hc
    · rw [h1] at hE2
      subst hE2
      refine kx_catch1 (E := "java/lang/UnsupportedOperationException") C htab rfl (by decide) kw381 (List.mem_of_getElem? (i := 84) rfl) hce hcv hcl ?_
      refine lv_astore_n (lv' := [(3, .ref qE), (0, .ref oF), (1, .int p0), (2, .ref oL)]) hx hb dL_bag_12 rfl hl (by decide) rfl (fun ls hl => ?_)
      refine lv_iconst (v := 1) hx hb dL_bag_13 (by decide) ?_
      exact kL_ret C hP hD hS ⟨by rw [h1]; rfl, _, fun z => absurd z hc, rfl⟩ ⟨Nat.le_of_ble_eq_true rfl, Nat.le_of_ble_eq_true rfl⟩ dL_bag_14
  obtain ⟨hc, hr, hu⟩ := hp
  subst hu
  have hP : kp g [X4W g oF (kFr oC oS oH oR oT oB) vF, X0W g oC rC ((X4_bag_f vF vC aC vH aH vR aR p0).2.2.1) ((X4_bag_f vF vC aC vH aH vR aR p0).2.2.2.1), X2W g oH rH ((X4_bag_f vF vC aC vH aH vR aR p0).2.2.2.2.1) oQ rQ ((X4_bag_f vF vC aC vH aH vR aR p0).2.2.2.2.2.1), X3W g oR rR ((X4_bag_f vF vC aC vH aH vR aR p0).2.2.2.2.2.2) aR, OLW g oL fL] H := hP.pick [1, 2, 3, 4, 0] rfl
  have hD : kd A [X4W g oF (kFr oC oS oH oR oT oB) vF, X0W g oC rC ((X4_bag_f vF vC aC vH aH vR aR p0).2.2.1) ((X4_bag_f vF vC aC vH aH vR aR p0).2.2.2.1), X2W g oH rH ((X4_bag_f vF vC aC vH aH vR aR p0).2.2.2.2.1) oQ rQ ((X4_bag_f vF vC aC vH aH vR aR p0).2.2.2.2.2.1), X3W g oR rR ((X4_bag_f vF vC aC vH aH vR aR p0).2.2.2.2.2.2) aR, OLW g oL fL] := hD.pick [1, 2, 3, 4, 0] rfl rfl
  subst hr
  refine lv_i2l hx hb dL_bag_7 rfl ?_
  refine kg_last C hP hD hS (i := 4) rfl rfl dL_bag_8 (fun H locs hP hD hS => ?_)
  have hP : kp g [X4W g oF (kFr oC oS oH oR oT oB) vF, X0W g oC rC ((X4_bag_f vF vC aC vH aH vR aR p0).2.2.1) ((X4_bag_f vF vC aC vH aH vR aR p0).2.2.2.1), X2W g oH rH ((X4_bag_f vF vC aC vH aH vR aR p0).2.2.2.2.1) oQ rQ ((X4_bag_f vF vC aC vH aH vR aR p0).2.2.2.2.2.1), X3W g oR rR ((X4_bag_f vF vC aC vH aH vR aR p0).2.2.2.2.2.2) aR, OLW g oL (vp_updL fL 0 (((X4_bag_f vF vC aC vH aH vR aR p0).2.1).toInt64))] H := hP
  have hD : kd A [X4W g oF (kFr oC oS oH oR oT oB) vF, X0W g oC rC ((X4_bag_f vF vC aC vH aH vR aR p0).2.2.1) ((X4_bag_f vF vC aC vH aH vR aR p0).2.2.2.1), X2W g oH rH ((X4_bag_f vF vC aC vH aH vR aR p0).2.2.2.2.1) oQ rQ ((X4_bag_f vF vC aC vH aH vR aR p0).2.2.2.2.2.1), X3W g oR rR ((X4_bag_f vF vC aC vH aH vR aR p0).2.2.2.2.2.2) aR, OLW g oL (vp_updL fL 0 (((X4_bag_f vF vC aC vH aH vR aR p0).2.1).toInt64))] := hD
  refine lv_goto (tgt := 15) hx hb dL_bag_9 (by decide) ?_
  refine lv_iconst (v := 0) hx hb dL_bag_15 (by decide) ?_
  exact kL_ret C hP hD hS ⟨by rw [hc]; rfl, _, fun _ => k_updL0 _ _, rfl⟩ ⟨Nat.le_of_ble_eq_true rfl, Nat.le_of_ble_eq_true rfl⟩ dL_bag_16
abbrev wL_fill : List Cond := Cond.codeWith yL_fill cL_fill 6 (some .int) [(0, 12, 15, 13)] :: kW
set_option maxHeartbeats 4000000 in
theorem L_fill_c (l : Launch) (g : kG) (oF : Nat) (vF : Nat → Int32) (oS oT oB : Nat) (oC : Nat) (rC : Nat → Nat) (vC : Nat → Int32) (aC : Nat → Nat → Int32) (oH : Nat) (rH : Nat → Nat) (vH : Nat → Int32) (oQ : Nat → Nat) (rQ : Nat → Nat → Nat) (aH : Nat → (Nat → Int32) × (Nat → Nat → Int32)) (oR : Nat) (rR : Nat → Nat) (vR : Nat → Int32) (aR : Nat → Nat → Int32) (p0 : Int32) (p1 : Int32) (p2 : Int32) (nb : Nat) (nj : Nat) (hnb : nb ≤ 6) (hv7 : vC 7 = nI nb) (hnj : nj ≤ 6) (hv4 : vC 4 = nI nj) (hM : vp_in (vC 1) 4) (hh : vp_in (vH 1) 9) (hfl : l.stackTraces = false) (oL : Nat) (fL : Nat → Int64) (hcd : (X4_fill_f vF vC aC vH aH vR aR p0 p1 p2).1 = 0 ∨ (X4_fill_f vF vC aC vH aH vR aR p0 p1 p2).1 = 1) : kL l yL_fill wL_fill 8 164 1 6 g [.ref oF, .int p0, .int p1, .int p2, .ref oL] [X4W g oF (kFr oC oS oH oR oT oB) vF, X0W g oC rC vC aC, X2W g oH rH vH oQ rQ aH, X3W g oR rR vR aR, OLW g oL fL] (fun x u => x = kLk1 ((X4_fill_f vF vC aC vH aH vR aR p0 p1 p2).1) ∧ ∃ h : Nat → Int64, ((X4_fill_f vF vC aC vH aH vR aR p0 p1 p2).1 = 0 → h 0 = ((X4_fill_f vF vC aC vH aH vR aR p0 p1 p2).2.1).toInt64) ∧ u = [X4W g oF (kFr oC oS oH oR oT oB) vF, X0W g oC rC ((X4_fill_f vF vC aC vH aH vR aR p0 p1 p2).2.2.1) ((X4_fill_f vF vC aC vH aH vR aR p0 p1 p2).2.2.2.1), X2W g oH rH ((X4_fill_f vF vC aC vH aH vR aR p0 p1 p2).2.2.2.2.1) oQ rQ ((X4_fill_f vF vC aC vH aH vR aR p0 p1 p2).2.2.2.2.2.1), X3W g oR rR ((X4_fill_f vF vC aC vH aH vR aR p0 p1 p2).2.2.2.2.2.2) aR, OLW g oL h]) := by
  refine kL_of (cc := cL_fill) (nL := 6) (ret := some .int) (lv := [(0, .ref oF), (1, .int p0), (2, .int p1), (3, .int p2), (4, .ref oL)]) (by decide) rfl (Nat.le_of_ble_eq_true rfl) rfl ?_
  intro p e s m args below meth c ls A htab hN C hP hD hE hA hS hl
  have C : kC p c cL_fill s m args meth RL g 6 (some .int) := C
  have hx := C.1.1
  have hb := C.1.2.1
  have hts := C.1.2.2.2.2
  refine lv_aload hx hb dL_fill_0 (lv_at hl 4 rfl) ?_
  refine lv_iconst (v := 0) hx hb dL_fill_2 (by decide) ?_
  refine lv_aload_n hx hb dL_fill_3 rfl (lv_at hl 0 rfl) ?_
  refine lv_iload_n hx hb dL_fill_4 rfl (lv_at hl 1 rfl) ?_
  refine lv_iload_n hx hb dL_fill_5 rfl (lv_at hl 2 rfl) ?_
  refine lv_iload_n hx hb dL_fill_6 rfl (lv_at hl 3 rfl) ?_
  refine kX_V (As := [.int p0, .int p1, .int p2]) (rest := [.int 0, .ref oL]) (wr := [OLW g oL fL]) C (X4_fill_c l g oF vF oS oT oB oC rC vC aC oH rH vH oQ rQ aH oR rR vR aR p0 p1 p2 nb nj hnb hv7 hnj hv4 hM hh hfl) (cwV 3 hts (k_gV kw676 ca_X4_fill) rfl rfl rfl ⟨rfl, pnX4_fill⟩ ⟨Nat.le_of_ble_eq_true rfl, Nat.le_of_ble_eq_true rfl⟩) hE hS hA hP hD [0, 1, 2, 3] [4] rfl rfl ⟨rfl, rfl, by decide⟩ (k_recv C kFX4 hP (i := 0) (q := 0) rfl rfl) rfl hl.1 rfl rfl dL_fill_7 ⟨Nat.le_of_ble_eq_true rfl, Nat.le_of_ble_eq_true rfl⟩ (fun E u H locs qE ce hp hP hD hS hce hcv hcl => ?_) (fun r u H locs hp hP hD hS => ?_)
  · obtain ⟨hc, hE2, hu⟩ := hp
    subst hu
    have hP : kp g [X4W g oF (kFr oC oS oH oR oT oB) vF, X0W g oC rC ((X4_fill_f vF vC aC vH aH vR aR p0 p1 p2).2.2.1) ((X4_fill_f vF vC aC vH aH vR aR p0 p1 p2).2.2.2.1), X2W g oH rH ((X4_fill_f vF vC aC vH aH vR aR p0 p1 p2).2.2.2.2.1) oQ rQ ((X4_fill_f vF vC aC vH aH vR aR p0 p1 p2).2.2.2.2.2.1), X3W g oR rR ((X4_fill_f vF vC aC vH aH vR aR p0 p1 p2).2.2.2.2.2.2) aR, OLW g oL fL] H := hP.pick [1, 2, 3, 4, 0] rfl
    have hD : kd A [X4W g oF (kFr oC oS oH oR oT oB) vF, X0W g oC rC ((X4_fill_f vF vC aC vH aH vR aR p0 p1 p2).2.2.1) ((X4_fill_f vF vC aC vH aH vR aR p0 p1 p2).2.2.2.1), X2W g oH rH ((X4_fill_f vF vC aC vH aH vR aR p0 p1 p2).2.2.2.2.1) oQ rQ ((X4_fill_f vF vC aC vH aH vR aR p0 p1 p2).2.2.2.2.2.1), X3W g oR rR ((X4_fill_f vF vC aC vH aH vR aR p0 p1 p2).2.2.2.2.2.2) aR, OLW g oL fL] := hD.pick [1, 2, 3, 4, 0] rfl rfl
    rcases hcd with h0 | h1
    · exact absurd h0 hc
    · rw [h1] at hE2
      subst hE2
      refine kx_catch1 (E := "java/lang/UnsupportedOperationException") C htab rfl (by decide) kw381 (List.mem_of_getElem? (i := 84) rfl) hce hcv hcl ?_
      refine lv_astore (lv' := [(5, .ref qE), (0, .ref oF), (1, .int p0), (2, .int p1), (3, .int p2), (4, .ref oL)]) hx hb dL_fill_15 hl (by decide) rfl (fun ls hl => ?_)
      refine lv_iconst (v := 1) hx hb dL_fill_17 (by decide) ?_
      exact kL_ret C hP hD hS ⟨by rw [h1]; rfl, _, fun z => absurd z hc, rfl⟩ ⟨Nat.le_of_ble_eq_true rfl, Nat.le_of_ble_eq_true rfl⟩ dL_fill_18
  obtain ⟨hc, hr, hu⟩ := hp
  subst hu
  have hP : kp g [X4W g oF (kFr oC oS oH oR oT oB) vF, X0W g oC rC ((X4_fill_f vF vC aC vH aH vR aR p0 p1 p2).2.2.1) ((X4_fill_f vF vC aC vH aH vR aR p0 p1 p2).2.2.2.1), X2W g oH rH ((X4_fill_f vF vC aC vH aH vR aR p0 p1 p2).2.2.2.2.1) oQ rQ ((X4_fill_f vF vC aC vH aH vR aR p0 p1 p2).2.2.2.2.2.1), X3W g oR rR ((X4_fill_f vF vC aC vH aH vR aR p0 p1 p2).2.2.2.2.2.2) aR, OLW g oL fL] H := hP.pick [1, 2, 3, 4, 0] rfl
  have hD : kd A [X4W g oF (kFr oC oS oH oR oT oB) vF, X0W g oC rC ((X4_fill_f vF vC aC vH aH vR aR p0 p1 p2).2.2.1) ((X4_fill_f vF vC aC vH aH vR aR p0 p1 p2).2.2.2.1), X2W g oH rH ((X4_fill_f vF vC aC vH aH vR aR p0 p1 p2).2.2.2.2.1) oQ rQ ((X4_fill_f vF vC aC vH aH vR aR p0 p1 p2).2.2.2.2.2.1), X3W g oR rR ((X4_fill_f vF vC aC vH aH vR aR p0 p1 p2).2.2.2.2.2.2) aR, OLW g oL fL] := hD.pick [1, 2, 3, 4, 0] rfl rfl
  subst hr
  refine lv_i2l hx hb dL_fill_10 rfl ?_
  refine kg_last C hP hD hS (i := 4) rfl rfl dL_fill_11 (fun H locs hP hD hS => ?_)
  have hP : kp g [X4W g oF (kFr oC oS oH oR oT oB) vF, X0W g oC rC ((X4_fill_f vF vC aC vH aH vR aR p0 p1 p2).2.2.1) ((X4_fill_f vF vC aC vH aH vR aR p0 p1 p2).2.2.2.1), X2W g oH rH ((X4_fill_f vF vC aC vH aH vR aR p0 p1 p2).2.2.2.2.1) oQ rQ ((X4_fill_f vF vC aC vH aH vR aR p0 p1 p2).2.2.2.2.2.1), X3W g oR rR ((X4_fill_f vF vC aC vH aH vR aR p0 p1 p2).2.2.2.2.2.2) aR, OLW g oL (vp_updL fL 0 (((X4_fill_f vF vC aC vH aH vR aR p0 p1 p2).2.1).toInt64))] H := hP
  have hD : kd A [X4W g oF (kFr oC oS oH oR oT oB) vF, X0W g oC rC ((X4_fill_f vF vC aC vH aH vR aR p0 p1 p2).2.2.1) ((X4_fill_f vF vC aC vH aH vR aR p0 p1 p2).2.2.2.1), X2W g oH rH ((X4_fill_f vF vC aC vH aH vR aR p0 p1 p2).2.2.2.2.1) oQ rQ ((X4_fill_f vF vC aC vH aH vR aR p0 p1 p2).2.2.2.2.2.1), X3W g oR rR ((X4_fill_f vF vC aC vH aH vR aR p0 p1 p2).2.2.2.2.2.2) aR, OLW g oL (vp_updL fL 0 (((X4_fill_f vF vC aC vH aH vR aR p0 p1 p2).2.1).toInt64))] := hD
  refine lv_goto (tgt := 19) hx hb dL_fill_12 (by decide) ?_
  refine lv_iconst (v := 0) hx hb dL_fill_19 (by decide) ?_
  exact kL_ret C hP hD hS ⟨by rw [hc]; rfl, _, fun _ => k_updL0 _ _, rfl⟩ ⟨Nat.le_of_ble_eq_true rfl, Nat.le_of_ble_eq_true rfl⟩ dL_fill_20
abbrev wL_empty : List Cond := Cond.codeWith yL_empty cL_empty 5 (some .int) [(0, 10, 13, 13)] :: kW
set_option maxHeartbeats 4000000 in
theorem L_empty_c (l : Launch) (g : kG) (oF : Nat) (vF : Nat → Int32) (oS oT oB : Nat) (oC : Nat) (rC : Nat → Nat) (vC : Nat → Int32) (aC : Nat → Nat → Int32) (oH : Nat) (rH : Nat → Nat) (vH : Nat → Int32) (oQ : Nat → Nat) (rQ : Nat → Nat → Nat) (aH : Nat → (Nat → Int32) × (Nat → Nat → Int32)) (oR : Nat) (rR : Nat → Nat) (vR : Nat → Int32) (aR : Nat → Nat → Int32) (p0 : Int32) (p1 : Int32) (nb : Nat) (nj : Nat) (hnb : nb ≤ 6) (hv7 : vC 7 = nI nb) (hnj : nj ≤ 6) (hv4 : vC 4 = nI nj) (hM : vp_in (vC 1) 4) (hh : vp_in (vH 1) 9) (hfl : l.stackTraces = false) (oL : Nat) (fL : Nat → Int64) (hcd : (X4_empty_f vF vC aC vH aH vR aR p0 p1).1 = 0 ∨ (X4_empty_f vF vC aC vH aH vR aR p0 p1).1 = 1) : kL l yL_empty wL_empty 8 163 1 6 g [.ref oF, .int p0, .int p1, .ref oL] [X4W g oF (kFr oC oS oH oR oT oB) vF, X0W g oC rC vC aC, X2W g oH rH vH oQ rQ aH, X3W g oR rR vR aR, OLW g oL fL] (fun x u => x = kLk1 ((X4_empty_f vF vC aC vH aH vR aR p0 p1).1) ∧ ∃ h : Nat → Int64, ((X4_empty_f vF vC aC vH aH vR aR p0 p1).1 = 0 → h 0 = ((X4_empty_f vF vC aC vH aH vR aR p0 p1).2.1).toInt64) ∧ u = [X4W g oF (kFr oC oS oH oR oT oB) vF, X0W g oC rC ((X4_empty_f vF vC aC vH aH vR aR p0 p1).2.2.1) ((X4_empty_f vF vC aC vH aH vR aR p0 p1).2.2.2.1), X2W g oH rH ((X4_empty_f vF vC aC vH aH vR aR p0 p1).2.2.2.2.1) oQ rQ ((X4_empty_f vF vC aC vH aH vR aR p0 p1).2.2.2.2.2.1), X3W g oR rR ((X4_empty_f vF vC aC vH aH vR aR p0 p1).2.2.2.2.2.2) aR, OLW g oL h]) := by
  refine kL_of (cc := cL_empty) (nL := 5) (ret := some .int) (lv := [(0, .ref oF), (1, .int p0), (2, .int p1), (3, .ref oL)]) (by decide) rfl (Nat.le_of_ble_eq_true rfl) rfl ?_
  intro p e s m args below meth c ls A htab hN C hP hD hE hA hS hl
  have C : kC p c cL_empty s m args meth RL g 5 (some .int) := C
  have hx := C.1.1
  have hb := C.1.2.1
  have hts := C.1.2.2.2.2
  refine lv_aload_n hx hb dL_empty_0 rfl (lv_at hl 3 rfl) ?_
  refine lv_iconst (v := 0) hx hb dL_empty_1 (by decide) ?_
  refine lv_aload_n hx hb dL_empty_2 rfl (lv_at hl 0 rfl) ?_
  refine lv_iload_n hx hb dL_empty_3 rfl (lv_at hl 1 rfl) ?_
  refine lv_iload_n hx hb dL_empty_4 rfl (lv_at hl 2 rfl) ?_
  refine kX_V (As := [.int p0, .int p1]) (rest := [.int 0, .ref oL]) (wr := [OLW g oL fL]) C (X4_empty_c l g oF vF oS oT oB oC rC vC aC oH rH vH oQ rQ aH oR rR vR aR p0 p1 nb nj hnb hv7 hnj hv4 hM hh hfl) (cwV 2 hts (k_gV kw683 ca_X4_empty) rfl rfl rfl ⟨rfl, pnX4_empty⟩ ⟨Nat.le_of_ble_eq_true rfl, Nat.le_of_ble_eq_true rfl⟩) hE hS hA hP hD [0, 1, 2, 3] [4] rfl rfl ⟨rfl, rfl, by decide⟩ (k_recv C kFX4 hP (i := 0) (q := 0) rfl rfl) rfl hl.1 rfl rfl dL_empty_5 ⟨Nat.le_of_ble_eq_true rfl, Nat.le_of_ble_eq_true rfl⟩ (fun E u H locs qE ce hp hP hD hS hce hcv hcl => ?_) (fun r u H locs hp hP hD hS => ?_)
  · obtain ⟨hc, hE2, hu⟩ := hp
    subst hu
    have hP : kp g [X4W g oF (kFr oC oS oH oR oT oB) vF, X0W g oC rC ((X4_empty_f vF vC aC vH aH vR aR p0 p1).2.2.1) ((X4_empty_f vF vC aC vH aH vR aR p0 p1).2.2.2.1), X2W g oH rH ((X4_empty_f vF vC aC vH aH vR aR p0 p1).2.2.2.2.1) oQ rQ ((X4_empty_f vF vC aC vH aH vR aR p0 p1).2.2.2.2.2.1), X3W g oR rR ((X4_empty_f vF vC aC vH aH vR aR p0 p1).2.2.2.2.2.2) aR, OLW g oL fL] H := hP.pick [1, 2, 3, 4, 0] rfl
    have hD : kd A [X4W g oF (kFr oC oS oH oR oT oB) vF, X0W g oC rC ((X4_empty_f vF vC aC vH aH vR aR p0 p1).2.2.1) ((X4_empty_f vF vC aC vH aH vR aR p0 p1).2.2.2.1), X2W g oH rH ((X4_empty_f vF vC aC vH aH vR aR p0 p1).2.2.2.2.1) oQ rQ ((X4_empty_f vF vC aC vH aH vR aR p0 p1).2.2.2.2.2.1), X3W g oR rR ((X4_empty_f vF vC aC vH aH vR aR p0 p1).2.2.2.2.2.2) aR, OLW g oL fL] := hD.pick [1, 2, 3, 4, 0] rfl rfl
    rcases hcd with h0 | h1
    · exact absurd h0 hc
    · rw [h1] at hE2
      subst hE2
      refine kx_catch1 (E := "java/lang/UnsupportedOperationException") C htab rfl (by decide) kw381 (List.mem_of_getElem? (i := 84) rfl) hce hcv hcl ?_
      refine lv_astore (lv' := [(4, .ref qE), (0, .ref oF), (1, .int p0), (2, .int p1), (3, .ref oL)]) hx hb dL_empty_13 hl (by decide) rfl (fun ls hl => ?_)
      refine lv_iconst (v := 1) hx hb dL_empty_15 (by decide) ?_
      exact kL_ret C hP hD hS ⟨by rw [h1]; rfl, _, fun z => absurd z hc, rfl⟩ ⟨Nat.le_of_ble_eq_true rfl, Nat.le_of_ble_eq_true rfl⟩ dL_empty_16
  obtain ⟨hc, hr, hu⟩ := hp
  subst hu
  have hP : kp g [X4W g oF (kFr oC oS oH oR oT oB) vF, X0W g oC rC ((X4_empty_f vF vC aC vH aH vR aR p0 p1).2.2.1) ((X4_empty_f vF vC aC vH aH vR aR p0 p1).2.2.2.1), X2W g oH rH ((X4_empty_f vF vC aC vH aH vR aR p0 p1).2.2.2.2.1) oQ rQ ((X4_empty_f vF vC aC vH aH vR aR p0 p1).2.2.2.2.2.1), X3W g oR rR ((X4_empty_f vF vC aC vH aH vR aR p0 p1).2.2.2.2.2.2) aR, OLW g oL fL] H := hP.pick [1, 2, 3, 4, 0] rfl
  have hD : kd A [X4W g oF (kFr oC oS oH oR oT oB) vF, X0W g oC rC ((X4_empty_f vF vC aC vH aH vR aR p0 p1).2.2.1) ((X4_empty_f vF vC aC vH aH vR aR p0 p1).2.2.2.1), X2W g oH rH ((X4_empty_f vF vC aC vH aH vR aR p0 p1).2.2.2.2.1) oQ rQ ((X4_empty_f vF vC aC vH aH vR aR p0 p1).2.2.2.2.2.1), X3W g oR rR ((X4_empty_f vF vC aC vH aH vR aR p0 p1).2.2.2.2.2.2) aR, OLW g oL fL] := hD.pick [1, 2, 3, 4, 0] rfl rfl
  subst hr
  refine lv_i2l hx hb dL_empty_8 rfl ?_
  refine kg_last C hP hD hS (i := 4) rfl rfl dL_empty_9 (fun H locs hP hD hS => ?_)
  have hP : kp g [X4W g oF (kFr oC oS oH oR oT oB) vF, X0W g oC rC ((X4_empty_f vF vC aC vH aH vR aR p0 p1).2.2.1) ((X4_empty_f vF vC aC vH aH vR aR p0 p1).2.2.2.1), X2W g oH rH ((X4_empty_f vF vC aC vH aH vR aR p0 p1).2.2.2.2.1) oQ rQ ((X4_empty_f vF vC aC vH aH vR aR p0 p1).2.2.2.2.2.1), X3W g oR rR ((X4_empty_f vF vC aC vH aH vR aR p0 p1).2.2.2.2.2.2) aR, OLW g oL (vp_updL fL 0 (((X4_empty_f vF vC aC vH aH vR aR p0 p1).2.1).toInt64))] H := hP
  have hD : kd A [X4W g oF (kFr oC oS oH oR oT oB) vF, X0W g oC rC ((X4_empty_f vF vC aC vH aH vR aR p0 p1).2.2.1) ((X4_empty_f vF vC aC vH aH vR aR p0 p1).2.2.2.1), X2W g oH rH ((X4_empty_f vF vC aC vH aH vR aR p0 p1).2.2.2.2.1) oQ rQ ((X4_empty_f vF vC aC vH aH vR aR p0 p1).2.2.2.2.2.1), X3W g oR rR ((X4_empty_f vF vC aC vH aH vR aR p0 p1).2.2.2.2.2.2) aR, OLW g oL (vp_updL fL 0 (((X4_empty_f vF vC aC vH aH vR aR p0 p1).2.1).toInt64))] := hD
  refine lv_goto (tgt := 17) hx hb dL_empty_10 (by decide) ?_
  refine lv_iconst (v := 0) hx hb dL_empty_17 (by decide) ?_
  exact kL_ret C hP hD hS ⟨by rw [hc]; rfl, _, fun _ => k_updL0 _ _, rfl⟩ ⟨Nat.le_of_ble_eq_true rfl, Nat.le_of_ble_eq_true rfl⟩ dL_empty_18
abbrev wL_beat : List Cond := Cond.codeWith yL_beat cL_beat 4 (some .int) [(0, 9, 12, 13)] :: kW
set_option maxHeartbeats 4000000 in
theorem L_beat_c (l : Launch) (g : kG) (oF : Nat) (vF : Nat → Int32) (oS oT oB : Nat) (oC : Nat) (rC : Nat → Nat) (vC : Nat → Int32) (aC : Nat → Nat → Int32) (oH : Nat) (rH : Nat → Nat) (vH : Nat → Int32) (oQ : Nat → Nat) (rQ : Nat → Nat → Nat) (aH : Nat → (Nat → Int32) × (Nat → Nat → Int32)) (oR : Nat) (rR : Nat → Nat) (vR : Nat → Int32) (aR : Nat → Nat → Int32) (p0 : Int32) (nb : Nat) (nj : Nat) (hnb : nb ≤ 6) (hv7 : vC 7 = nI nb) (hnj : nj ≤ 6) (hv4 : vC 4 = nI nj) (hM : vp_in (vC 1) 4) (hh : vp_in (vH 1) 9) (hfl : l.stackTraces = false) (oL : Nat) (fL : Nat → Int64) (hcd : (X4_beat_f vF vC aC vH aH vR aR p0).1 = 0 ∨ (X4_beat_f vF vC aC vH aH vR aR p0).1 = 1) : kL l yL_beat wL_beat 8 162 1 6 g [.ref oF, .int p0, .ref oL] [X4W g oF (kFr oC oS oH oR oT oB) vF, X0W g oC rC vC aC, X2W g oH rH vH oQ rQ aH, X3W g oR rR vR aR, OLW g oL fL] (fun x u => x = kLk1 ((X4_beat_f vF vC aC vH aH vR aR p0).1) ∧ ∃ h : Nat → Int64, ((X4_beat_f vF vC aC vH aH vR aR p0).1 = 0 → h 0 = ((X4_beat_f vF vC aC vH aH vR aR p0).2.1).toInt64) ∧ u = [X4W g oF (kFr oC oS oH oR oT oB) vF, X0W g oC rC ((X4_beat_f vF vC aC vH aH vR aR p0).2.2.1) ((X4_beat_f vF vC aC vH aH vR aR p0).2.2.2.1), X2W g oH rH ((X4_beat_f vF vC aC vH aH vR aR p0).2.2.2.2.1) oQ rQ ((X4_beat_f vF vC aC vH aH vR aR p0).2.2.2.2.2.1), X3W g oR rR ((X4_beat_f vF vC aC vH aH vR aR p0).2.2.2.2.2.2) aR, OLW g oL h]) := by
  refine kL_of (cc := cL_beat) (nL := 4) (ret := some .int) (lv := [(0, .ref oF), (1, .int p0), (2, .ref oL)]) (by decide) rfl (Nat.le_of_ble_eq_true rfl) rfl ?_
  intro p e s m args below meth c ls A htab hN C hP hD hE hA hS hl
  have C : kC p c cL_beat s m args meth RL g 4 (some .int) := C
  have hx := C.1.1
  have hb := C.1.2.1
  have hts := C.1.2.2.2.2
  refine lv_aload_n hx hb dL_beat_0 rfl (lv_at hl 2 rfl) ?_
  refine lv_iconst (v := 0) hx hb dL_beat_1 (by decide) ?_
  refine lv_aload_n hx hb dL_beat_2 rfl (lv_at hl 0 rfl) ?_
  refine lv_iload_n hx hb dL_beat_3 rfl (lv_at hl 1 rfl) ?_
  refine kX_V (As := [.int p0]) (rest := [.int 0, .ref oL]) (wr := [OLW g oL fL]) C (X4_beat_c l g oF vF oS oT oB oC rC vC aC oH rH vH oQ rQ aH oR rR vR aR p0 nb nj hnb hv7 hnj hv4 hM hh hfl) (cwV 1 hts (k_gV kw690 ca_X4_beat) rfl rfl rfl ⟨rfl, pnX4_beat⟩ ⟨Nat.le_of_ble_eq_true rfl, Nat.le_of_ble_eq_true rfl⟩) hE hS hA hP hD [0, 1, 2, 3] [4] rfl rfl ⟨rfl, rfl, by decide⟩ (k_recv C kFX4 hP (i := 0) (q := 0) rfl rfl) rfl hl.1 rfl rfl dL_beat_4 ⟨Nat.le_of_ble_eq_true rfl, Nat.le_of_ble_eq_true rfl⟩ (fun E u H locs qE ce hp hP hD hS hce hcv hcl => ?_) (fun r u H locs hp hP hD hS => ?_)
  · obtain ⟨hc, hE2, hu⟩ := hp
    subst hu
    have hP : kp g [X4W g oF (kFr oC oS oH oR oT oB) vF, X0W g oC rC ((X4_beat_f vF vC aC vH aH vR aR p0).2.2.1) ((X4_beat_f vF vC aC vH aH vR aR p0).2.2.2.1), X2W g oH rH ((X4_beat_f vF vC aC vH aH vR aR p0).2.2.2.2.1) oQ rQ ((X4_beat_f vF vC aC vH aH vR aR p0).2.2.2.2.2.1), X3W g oR rR ((X4_beat_f vF vC aC vH aH vR aR p0).2.2.2.2.2.2) aR, OLW g oL fL] H := hP.pick [1, 2, 3, 4, 0] rfl
    have hD : kd A [X4W g oF (kFr oC oS oH oR oT oB) vF, X0W g oC rC ((X4_beat_f vF vC aC vH aH vR aR p0).2.2.1) ((X4_beat_f vF vC aC vH aH vR aR p0).2.2.2.1), X2W g oH rH ((X4_beat_f vF vC aC vH aH vR aR p0).2.2.2.2.1) oQ rQ ((X4_beat_f vF vC aC vH aH vR aR p0).2.2.2.2.2.1), X3W g oR rR ((X4_beat_f vF vC aC vH aH vR aR p0).2.2.2.2.2.2) aR, OLW g oL fL] := hD.pick [1, 2, 3, 4, 0] rfl rfl
    rcases hcd with h0 | h1
    · exact absurd h0 hc
    · rw [h1] at hE2
      subst hE2
      refine kx_catch1 (E := "java/lang/UnsupportedOperationException") C htab rfl (by decide) kw381 (List.mem_of_getElem? (i := 84) rfl) hce hcv hcl ?_
      refine lv_astore_n (lv' := [(3, .ref qE), (0, .ref oF), (1, .int p0), (2, .ref oL)]) hx hb dL_beat_12 rfl hl (by decide) rfl (fun ls hl => ?_)
      refine lv_iconst (v := 1) hx hb dL_beat_13 (by decide) ?_
      exact kL_ret C hP hD hS ⟨by rw [h1]; rfl, _, fun z => absurd z hc, rfl⟩ ⟨Nat.le_of_ble_eq_true rfl, Nat.le_of_ble_eq_true rfl⟩ dL_beat_14
  obtain ⟨hc, hr, hu⟩ := hp
  subst hu
  have hP : kp g [X4W g oF (kFr oC oS oH oR oT oB) vF, X0W g oC rC ((X4_beat_f vF vC aC vH aH vR aR p0).2.2.1) ((X4_beat_f vF vC aC vH aH vR aR p0).2.2.2.1), X2W g oH rH ((X4_beat_f vF vC aC vH aH vR aR p0).2.2.2.2.1) oQ rQ ((X4_beat_f vF vC aC vH aH vR aR p0).2.2.2.2.2.1), X3W g oR rR ((X4_beat_f vF vC aC vH aH vR aR p0).2.2.2.2.2.2) aR, OLW g oL fL] H := hP.pick [1, 2, 3, 4, 0] rfl
  have hD : kd A [X4W g oF (kFr oC oS oH oR oT oB) vF, X0W g oC rC ((X4_beat_f vF vC aC vH aH vR aR p0).2.2.1) ((X4_beat_f vF vC aC vH aH vR aR p0).2.2.2.1), X2W g oH rH ((X4_beat_f vF vC aC vH aH vR aR p0).2.2.2.2.1) oQ rQ ((X4_beat_f vF vC aC vH aH vR aR p0).2.2.2.2.2.1), X3W g oR rR ((X4_beat_f vF vC aC vH aH vR aR p0).2.2.2.2.2.2) aR, OLW g oL fL] := hD.pick [1, 2, 3, 4, 0] rfl rfl
  subst hr
  refine lv_i2l hx hb dL_beat_7 rfl ?_
  refine kg_last C hP hD hS (i := 4) rfl rfl dL_beat_8 (fun H locs hP hD hS => ?_)
  have hP : kp g [X4W g oF (kFr oC oS oH oR oT oB) vF, X0W g oC rC ((X4_beat_f vF vC aC vH aH vR aR p0).2.2.1) ((X4_beat_f vF vC aC vH aH vR aR p0).2.2.2.1), X2W g oH rH ((X4_beat_f vF vC aC vH aH vR aR p0).2.2.2.2.1) oQ rQ ((X4_beat_f vF vC aC vH aH vR aR p0).2.2.2.2.2.1), X3W g oR rR ((X4_beat_f vF vC aC vH aH vR aR p0).2.2.2.2.2.2) aR, OLW g oL (vp_updL fL 0 (((X4_beat_f vF vC aC vH aH vR aR p0).2.1).toInt64))] H := hP
  have hD : kd A [X4W g oF (kFr oC oS oH oR oT oB) vF, X0W g oC rC ((X4_beat_f vF vC aC vH aH vR aR p0).2.2.1) ((X4_beat_f vF vC aC vH aH vR aR p0).2.2.2.1), X2W g oH rH ((X4_beat_f vF vC aC vH aH vR aR p0).2.2.2.2.1) oQ rQ ((X4_beat_f vF vC aC vH aH vR aR p0).2.2.2.2.2.1), X3W g oR rR ((X4_beat_f vF vC aC vH aH vR aR p0).2.2.2.2.2.2) aR, OLW g oL (vp_updL fL 0 (((X4_beat_f vF vC aC vH aH vR aR p0).2.1).toInt64))] := hD
  refine lv_goto (tgt := 15) hx hb dL_beat_9 (by decide) ?_
  refine lv_iconst (v := 0) hx hb dL_beat_15 (by decide) ?_
  exact kL_ret C hP hD hS ⟨by rw [hc]; rfl, _, fun _ => k_updL0 _ _, rfl⟩ ⟨Nat.le_of_ble_eq_true rfl, Nat.le_of_ble_eq_true rfl⟩ dL_beat_16
abbrev wL_thumb : List Cond := Cond.codeWith yL_thumb cL_thumb 4 (some .int) [(0, 9, 12, 13)] :: kW
set_option maxHeartbeats 4000000 in
theorem L_thumb_c (l : Launch) (g : kG) (oF : Nat) (vF : Nat → Int32) (oS oT oB : Nat) (oC : Nat) (rC : Nat → Nat) (vC : Nat → Int32) (aC : Nat → Nat → Int32) (oH : Nat) (rH : Nat → Nat) (vH : Nat → Int32) (oQ : Nat → Nat) (rQ : Nat → Nat → Nat) (aH : Nat → (Nat → Int32) × (Nat → Nat → Int32)) (oR : Nat) (rR : Nat → Nat) (vR : Nat → Int32) (aR : Nat → Nat → Int32) (p0 : Int32) (nb : Nat) (nj : Nat) (hnb : nb ≤ 6) (hv7 : vC 7 = nI nb) (hnj : nj ≤ 6) (hv4 : vC 4 = nI nj) (hM : vp_in (vC 1) 4) (hh : vp_in (vH 1) 9) (hfl : l.stackTraces = false) (oL : Nat) (fL : Nat → Int64) (hcd : (X4_thumb_f vF vC aC vH aH vR aR p0).1 = 0 ∨ (X4_thumb_f vF vC aC vH aH vR aR p0).1 = 1) : kL l yL_thumb wL_thumb 8 162 1 6 g [.ref oF, .int p0, .ref oL] [X4W g oF (kFr oC oS oH oR oT oB) vF, X0W g oC rC vC aC, X2W g oH rH vH oQ rQ aH, X3W g oR rR vR aR, OLW g oL fL] (fun x u => x = kLk1 ((X4_thumb_f vF vC aC vH aH vR aR p0).1) ∧ ∃ h : Nat → Int64, ((X4_thumb_f vF vC aC vH aH vR aR p0).1 = 0 → h 0 = ((X4_thumb_f vF vC aC vH aH vR aR p0).2.1).toInt64) ∧ u = [X4W g oF (kFr oC oS oH oR oT oB) vF, X0W g oC rC ((X4_thumb_f vF vC aC vH aH vR aR p0).2.2.1) ((X4_thumb_f vF vC aC vH aH vR aR p0).2.2.2.1), X2W g oH rH ((X4_thumb_f vF vC aC vH aH vR aR p0).2.2.2.2.1) oQ rQ ((X4_thumb_f vF vC aC vH aH vR aR p0).2.2.2.2.2.1), X3W g oR rR ((X4_thumb_f vF vC aC vH aH vR aR p0).2.2.2.2.2.2) aR, OLW g oL h]) := by
  refine kL_of (cc := cL_thumb) (nL := 4) (ret := some .int) (lv := [(0, .ref oF), (1, .int p0), (2, .ref oL)]) (by decide) rfl (Nat.le_of_ble_eq_true rfl) rfl ?_
  intro p e s m args below meth c ls A htab hN C hP hD hE hA hS hl
  have C : kC p c cL_thumb s m args meth RL g 4 (some .int) := C
  have hx := C.1.1
  have hb := C.1.2.1
  have hts := C.1.2.2.2.2
  refine lv_aload_n hx hb dL_thumb_0 rfl (lv_at hl 2 rfl) ?_
  refine lv_iconst (v := 0) hx hb dL_thumb_1 (by decide) ?_
  refine lv_aload_n hx hb dL_thumb_2 rfl (lv_at hl 0 rfl) ?_
  refine lv_iload_n hx hb dL_thumb_3 rfl (lv_at hl 1 rfl) ?_
  refine kX_V (As := [.int p0]) (rest := [.int 0, .ref oL]) (wr := [OLW g oL fL]) C (X4_thumb_c l g oF vF oS oT oB oC rC vC aC oH rH vH oQ rQ aH oR rR vR aR p0 nb nj hnb hv7 hnj hv4 hM hh hfl) (cwV 1 hts (k_gV kw697 ca_X4_thumb) rfl rfl rfl ⟨rfl, pnX4_thumb⟩ ⟨Nat.le_of_ble_eq_true rfl, Nat.le_of_ble_eq_true rfl⟩) hE hS hA hP hD [0, 1, 2, 3] [4] rfl rfl ⟨rfl, rfl, by decide⟩ (k_recv C kFX4 hP (i := 0) (q := 0) rfl rfl) rfl hl.1 rfl rfl dL_thumb_4 ⟨Nat.le_of_ble_eq_true rfl, Nat.le_of_ble_eq_true rfl⟩ (fun E u H locs qE ce hp hP hD hS hce hcv hcl => ?_) (fun r u H locs hp hP hD hS => ?_)
  · obtain ⟨hc, hE2, hu⟩ := hp
    subst hu
    have hP : kp g [X4W g oF (kFr oC oS oH oR oT oB) vF, X0W g oC rC ((X4_thumb_f vF vC aC vH aH vR aR p0).2.2.1) ((X4_thumb_f vF vC aC vH aH vR aR p0).2.2.2.1), X2W g oH rH ((X4_thumb_f vF vC aC vH aH vR aR p0).2.2.2.2.1) oQ rQ ((X4_thumb_f vF vC aC vH aH vR aR p0).2.2.2.2.2.1), X3W g oR rR ((X4_thumb_f vF vC aC vH aH vR aR p0).2.2.2.2.2.2) aR, OLW g oL fL] H := hP.pick [1, 2, 3, 4, 0] rfl
    have hD : kd A [X4W g oF (kFr oC oS oH oR oT oB) vF, X0W g oC rC ((X4_thumb_f vF vC aC vH aH vR aR p0).2.2.1) ((X4_thumb_f vF vC aC vH aH vR aR p0).2.2.2.1), X2W g oH rH ((X4_thumb_f vF vC aC vH aH vR aR p0).2.2.2.2.1) oQ rQ ((X4_thumb_f vF vC aC vH aH vR aR p0).2.2.2.2.2.1), X3W g oR rR ((X4_thumb_f vF vC aC vH aH vR aR p0).2.2.2.2.2.2) aR, OLW g oL fL] := hD.pick [1, 2, 3, 4, 0] rfl rfl
    rcases hcd with h0 | h1
    · exact absurd h0 hc
    · rw [h1] at hE2
      subst hE2
      refine kx_catch1 (E := "java/lang/UnsupportedOperationException") C htab rfl (by decide) kw381 (List.mem_of_getElem? (i := 84) rfl) hce hcv hcl ?_
      refine lv_astore_n (lv' := [(3, .ref qE), (0, .ref oF), (1, .int p0), (2, .ref oL)]) hx hb dL_thumb_12 rfl hl (by decide) rfl (fun ls hl => ?_)
      refine lv_iconst (v := 1) hx hb dL_thumb_13 (by decide) ?_
      exact kL_ret C hP hD hS ⟨by rw [h1]; rfl, _, fun z => absurd z hc, rfl⟩ ⟨Nat.le_of_ble_eq_true rfl, Nat.le_of_ble_eq_true rfl⟩ dL_thumb_14
  obtain ⟨hc, hr, hu⟩ := hp
  subst hu
  have hP : kp g [X4W g oF (kFr oC oS oH oR oT oB) vF, X0W g oC rC ((X4_thumb_f vF vC aC vH aH vR aR p0).2.2.1) ((X4_thumb_f vF vC aC vH aH vR aR p0).2.2.2.1), X2W g oH rH ((X4_thumb_f vF vC aC vH aH vR aR p0).2.2.2.2.1) oQ rQ ((X4_thumb_f vF vC aC vH aH vR aR p0).2.2.2.2.2.1), X3W g oR rR ((X4_thumb_f vF vC aC vH aH vR aR p0).2.2.2.2.2.2) aR, OLW g oL fL] H := hP.pick [1, 2, 3, 4, 0] rfl
  have hD : kd A [X4W g oF (kFr oC oS oH oR oT oB) vF, X0W g oC rC ((X4_thumb_f vF vC aC vH aH vR aR p0).2.2.1) ((X4_thumb_f vF vC aC vH aH vR aR p0).2.2.2.1), X2W g oH rH ((X4_thumb_f vF vC aC vH aH vR aR p0).2.2.2.2.1) oQ rQ ((X4_thumb_f vF vC aC vH aH vR aR p0).2.2.2.2.2.1), X3W g oR rR ((X4_thumb_f vF vC aC vH aH vR aR p0).2.2.2.2.2.2) aR, OLW g oL fL] := hD.pick [1, 2, 3, 4, 0] rfl rfl
  subst hr
  refine lv_i2l hx hb dL_thumb_7 rfl ?_
  refine kg_last C hP hD hS (i := 4) rfl rfl dL_thumb_8 (fun H locs hP hD hS => ?_)
  have hP : kp g [X4W g oF (kFr oC oS oH oR oT oB) vF, X0W g oC rC ((X4_thumb_f vF vC aC vH aH vR aR p0).2.2.1) ((X4_thumb_f vF vC aC vH aH vR aR p0).2.2.2.1), X2W g oH rH ((X4_thumb_f vF vC aC vH aH vR aR p0).2.2.2.2.1) oQ rQ ((X4_thumb_f vF vC aC vH aH vR aR p0).2.2.2.2.2.1), X3W g oR rR ((X4_thumb_f vF vC aC vH aH vR aR p0).2.2.2.2.2.2) aR, OLW g oL (vp_updL fL 0 (((X4_thumb_f vF vC aC vH aH vR aR p0).2.1).toInt64))] H := hP
  have hD : kd A [X4W g oF (kFr oC oS oH oR oT oB) vF, X0W g oC rC ((X4_thumb_f vF vC aC vH aH vR aR p0).2.2.1) ((X4_thumb_f vF vC aC vH aH vR aR p0).2.2.2.1), X2W g oH rH ((X4_thumb_f vF vC aC vH aH vR aR p0).2.2.2.2.1) oQ rQ ((X4_thumb_f vF vC aC vH aH vR aR p0).2.2.2.2.2.1), X3W g oR rR ((X4_thumb_f vF vC aC vH aH vR aR p0).2.2.2.2.2.2) aR, OLW g oL (vp_updL fL 0 (((X4_thumb_f vF vC aC vH aH vR aR p0).2.1).toInt64))] := hD
  refine lv_goto (tgt := 15) hx hb dL_thumb_9 (by decide) ?_
  refine lv_iconst (v := 0) hx hb dL_thumb_15 (by decide) ?_
  exact kL_ret C hP hD hS ⟨by rw [hc]; rfl, _, fun _ => k_updL0 _ _, rfl⟩ ⟨Nat.le_of_ble_eq_true rfl, Nat.le_of_ble_eq_true rfl⟩ dL_thumb_16
abbrev wL_weigh : List Cond := Cond.codeWith yL_weigh cL_weigh 4 (some .int) [(0, 9, 12, 13)] :: kW
set_option maxHeartbeats 4000000 in
theorem L_weigh_c (l : Launch) (g : kG) (oF : Nat) (vF : Nat → Int32) (oS oT oB : Nat) (oC : Nat) (rC : Nat → Nat) (vC : Nat → Int32) (aC : Nat → Nat → Int32) (oH : Nat) (rH : Nat → Nat) (vH : Nat → Int32) (oQ : Nat → Nat) (rQ : Nat → Nat → Nat) (aH : Nat → (Nat → Int32) × (Nat → Nat → Int32)) (oR : Nat) (rR : Nat → Nat) (vR : Nat → Int32) (aR : Nat → Nat → Int32) (p0 : Int32) (nb : Nat) (nj : Nat) (hnb : nb ≤ 6) (hv7 : vC 7 = nI nb) (hnj : nj ≤ 6) (hv4 : vC 4 = nI nj) (hM : vp_in (vC 1) 4) (hh : vp_in (vH 1) 9) (hfl : l.stackTraces = false) (oL : Nat) (fL : Nat → Int64) (hcd : (X4_weigh_f vF vC aC vH aH vR aR p0).1 = 0 ∨ (X4_weigh_f vF vC aC vH aH vR aR p0).1 = 1) : kL l yL_weigh wL_weigh 8 162 1 6 g [.ref oF, .int p0, .ref oL] [X4W g oF (kFr oC oS oH oR oT oB) vF, X0W g oC rC vC aC, X2W g oH rH vH oQ rQ aH, X3W g oR rR vR aR, OLW g oL fL] (fun x u => x = kLk1 ((X4_weigh_f vF vC aC vH aH vR aR p0).1) ∧ ∃ h : Nat → Int64, ((X4_weigh_f vF vC aC vH aH vR aR p0).1 = 0 → h 0 = ((X4_weigh_f vF vC aC vH aH vR aR p0).2.1).toInt64) ∧ u = [X4W g oF (kFr oC oS oH oR oT oB) vF, X0W g oC rC ((X4_weigh_f vF vC aC vH aH vR aR p0).2.2.1) ((X4_weigh_f vF vC aC vH aH vR aR p0).2.2.2.1), X2W g oH rH ((X4_weigh_f vF vC aC vH aH vR aR p0).2.2.2.2.1) oQ rQ ((X4_weigh_f vF vC aC vH aH vR aR p0).2.2.2.2.2.1), X3W g oR rR ((X4_weigh_f vF vC aC vH aH vR aR p0).2.2.2.2.2.2) aR, OLW g oL h]) := by
  refine kL_of (cc := cL_weigh) (nL := 4) (ret := some .int) (lv := [(0, .ref oF), (1, .int p0), (2, .ref oL)]) (by decide) rfl (Nat.le_of_ble_eq_true rfl) rfl ?_
  intro p e s m args below meth c ls A htab hN C hP hD hE hA hS hl
  have C : kC p c cL_weigh s m args meth RL g 4 (some .int) := C
  have hx := C.1.1
  have hb := C.1.2.1
  have hts := C.1.2.2.2.2
  refine lv_aload_n hx hb dL_weigh_0 rfl (lv_at hl 2 rfl) ?_
  refine lv_iconst (v := 0) hx hb dL_weigh_1 (by decide) ?_
  refine lv_aload_n hx hb dL_weigh_2 rfl (lv_at hl 0 rfl) ?_
  refine lv_iload_n hx hb dL_weigh_3 rfl (lv_at hl 1 rfl) ?_
  refine kX_V (As := [.int p0]) (rest := [.int 0, .ref oL]) (wr := [OLW g oL fL]) C (X4_weigh_c l g oF vF oS oT oB oC rC vC aC oH rH vH oQ rQ aH oR rR vR aR p0 nb nj hnb hv7 hnj hv4 hM hh hfl) (cwV 1 hts (k_gV kw704 ca_X4_weigh) rfl rfl rfl ⟨rfl, pnX4_weigh⟩ ⟨Nat.le_of_ble_eq_true rfl, Nat.le_of_ble_eq_true rfl⟩) hE hS hA hP hD [0, 1, 2, 3] [4] rfl rfl ⟨rfl, rfl, by decide⟩ (k_recv C kFX4 hP (i := 0) (q := 0) rfl rfl) rfl hl.1 rfl rfl dL_weigh_4 ⟨Nat.le_of_ble_eq_true rfl, Nat.le_of_ble_eq_true rfl⟩ (fun E u H locs qE ce hp hP hD hS hce hcv hcl => ?_) (fun r u H locs hp hP hD hS => ?_)
  · obtain ⟨hc, hE2, hu⟩ := hp
    subst hu
    have hP : kp g [X4W g oF (kFr oC oS oH oR oT oB) vF, X0W g oC rC ((X4_weigh_f vF vC aC vH aH vR aR p0).2.2.1) ((X4_weigh_f vF vC aC vH aH vR aR p0).2.2.2.1), X2W g oH rH ((X4_weigh_f vF vC aC vH aH vR aR p0).2.2.2.2.1) oQ rQ ((X4_weigh_f vF vC aC vH aH vR aR p0).2.2.2.2.2.1), X3W g oR rR ((X4_weigh_f vF vC aC vH aH vR aR p0).2.2.2.2.2.2) aR, OLW g oL fL] H := hP.pick [1, 2, 3, 4, 0] rfl
    have hD : kd A [X4W g oF (kFr oC oS oH oR oT oB) vF, X0W g oC rC ((X4_weigh_f vF vC aC vH aH vR aR p0).2.2.1) ((X4_weigh_f vF vC aC vH aH vR aR p0).2.2.2.1), X2W g oH rH ((X4_weigh_f vF vC aC vH aH vR aR p0).2.2.2.2.1) oQ rQ ((X4_weigh_f vF vC aC vH aH vR aR p0).2.2.2.2.2.1), X3W g oR rR ((X4_weigh_f vF vC aC vH aH vR aR p0).2.2.2.2.2.2) aR, OLW g oL fL] := hD.pick [1, 2, 3, 4, 0] rfl rfl
    rcases hcd with h0 | h1
    · exact absurd h0 hc
    · rw [h1] at hE2
      subst hE2
      refine kx_catch1 (E := "java/lang/UnsupportedOperationException") C htab rfl (by decide) kw381 (List.mem_of_getElem? (i := 84) rfl) hce hcv hcl ?_
      refine lv_astore_n (lv' := [(3, .ref qE), (0, .ref oF), (1, .int p0), (2, .ref oL)]) hx hb dL_weigh_12 rfl hl (by decide) rfl (fun ls hl => ?_)
      refine lv_iconst (v := 1) hx hb dL_weigh_13 (by decide) ?_
      exact kL_ret C hP hD hS ⟨by rw [h1]; rfl, _, fun z => absurd z hc, rfl⟩ ⟨Nat.le_of_ble_eq_true rfl, Nat.le_of_ble_eq_true rfl⟩ dL_weigh_14
  obtain ⟨hc, hr, hu⟩ := hp
  subst hu
  have hP : kp g [X4W g oF (kFr oC oS oH oR oT oB) vF, X0W g oC rC ((X4_weigh_f vF vC aC vH aH vR aR p0).2.2.1) ((X4_weigh_f vF vC aC vH aH vR aR p0).2.2.2.1), X2W g oH rH ((X4_weigh_f vF vC aC vH aH vR aR p0).2.2.2.2.1) oQ rQ ((X4_weigh_f vF vC aC vH aH vR aR p0).2.2.2.2.2.1), X3W g oR rR ((X4_weigh_f vF vC aC vH aH vR aR p0).2.2.2.2.2.2) aR, OLW g oL fL] H := hP.pick [1, 2, 3, 4, 0] rfl
  have hD : kd A [X4W g oF (kFr oC oS oH oR oT oB) vF, X0W g oC rC ((X4_weigh_f vF vC aC vH aH vR aR p0).2.2.1) ((X4_weigh_f vF vC aC vH aH vR aR p0).2.2.2.1), X2W g oH rH ((X4_weigh_f vF vC aC vH aH vR aR p0).2.2.2.2.1) oQ rQ ((X4_weigh_f vF vC aC vH aH vR aR p0).2.2.2.2.2.1), X3W g oR rR ((X4_weigh_f vF vC aC vH aH vR aR p0).2.2.2.2.2.2) aR, OLW g oL fL] := hD.pick [1, 2, 3, 4, 0] rfl rfl
  subst hr
  refine lv_i2l hx hb dL_weigh_7 rfl ?_
  refine kg_last C hP hD hS (i := 4) rfl rfl dL_weigh_8 (fun H locs hP hD hS => ?_)
  have hP : kp g [X4W g oF (kFr oC oS oH oR oT oB) vF, X0W g oC rC ((X4_weigh_f vF vC aC vH aH vR aR p0).2.2.1) ((X4_weigh_f vF vC aC vH aH vR aR p0).2.2.2.1), X2W g oH rH ((X4_weigh_f vF vC aC vH aH vR aR p0).2.2.2.2.1) oQ rQ ((X4_weigh_f vF vC aC vH aH vR aR p0).2.2.2.2.2.1), X3W g oR rR ((X4_weigh_f vF vC aC vH aH vR aR p0).2.2.2.2.2.2) aR, OLW g oL (vp_updL fL 0 (((X4_weigh_f vF vC aC vH aH vR aR p0).2.1).toInt64))] H := hP
  have hD : kd A [X4W g oF (kFr oC oS oH oR oT oB) vF, X0W g oC rC ((X4_weigh_f vF vC aC vH aH vR aR p0).2.2.1) ((X4_weigh_f vF vC aC vH aH vR aR p0).2.2.2.1), X2W g oH rH ((X4_weigh_f vF vC aC vH aH vR aR p0).2.2.2.2.1) oQ rQ ((X4_weigh_f vF vC aC vH aH vR aR p0).2.2.2.2.2.1), X3W g oR rR ((X4_weigh_f vF vC aC vH aH vR aR p0).2.2.2.2.2.2) aR, OLW g oL (vp_updL fL 0 (((X4_weigh_f vF vC aC vH aH vR aR p0).2.1).toInt64))] := hD
  refine lv_goto (tgt := 15) hx hb dL_weigh_9 (by decide) ?_
  refine lv_iconst (v := 0) hx hb dL_weigh_15 (by decide) ?_
  exact kL_ret C hP hD hS ⟨by rw [hc]; rfl, _, fun _ => k_updL0 _ _, rfl⟩ ⟨Nat.le_of_ble_eq_true rfl, Nat.le_of_ble_eq_true rfl⟩ dL_weigh_16
abbrev wL_sell : List Cond := Cond.codeWith yL_sell cL_sell 4 (some .int) [(0, 9, 12, 13)] :: kW
set_option maxHeartbeats 4000000 in
theorem L_sell_c (l : Launch) (g : kG) (oF : Nat) (vF : Nat → Int32) (oS oT oB : Nat) (oC : Nat) (rC : Nat → Nat) (vC : Nat → Int32) (aC : Nat → Nat → Int32) (oH : Nat) (rH : Nat → Nat) (vH : Nat → Int32) (oQ : Nat → Nat) (rQ : Nat → Nat → Nat) (aH : Nat → (Nat → Int32) × (Nat → Nat → Int32)) (oR : Nat) (rR : Nat → Nat) (vR : Nat → Int32) (aR : Nat → Nat → Int32) (p0 : Int32) (nb : Nat) (nj : Nat) (hnb : nb ≤ 6) (hv7 : vC 7 = nI nb) (hnj : nj ≤ 6) (hv4 : vC 4 = nI nj) (hM : vp_in (vC 1) 4) (hh : vp_in (vH 1) 9) (hfl : l.stackTraces = false) (oL : Nat) (fL : Nat → Int64) (hcd : (X4_sell_f vF vC aC vH aH vR aR p0).1 = 0 ∨ (X4_sell_f vF vC aC vH aH vR aR p0).1 = 1) : kL l yL_sell wL_sell 8 162 1 6 g [.ref oF, .int p0, .ref oL] [X4W g oF (kFr oC oS oH oR oT oB) vF, X0W g oC rC vC aC, X2W g oH rH vH oQ rQ aH, X3W g oR rR vR aR, OLW g oL fL] (fun x u => x = kLk1 ((X4_sell_f vF vC aC vH aH vR aR p0).1) ∧ ∃ h : Nat → Int64, ((X4_sell_f vF vC aC vH aH vR aR p0).1 = 0 → h 0 = ((X4_sell_f vF vC aC vH aH vR aR p0).2.1).toInt64) ∧ u = [X4W g oF (kFr oC oS oH oR oT oB) vF, X0W g oC rC ((X4_sell_f vF vC aC vH aH vR aR p0).2.2.1) ((X4_sell_f vF vC aC vH aH vR aR p0).2.2.2.1), X2W g oH rH ((X4_sell_f vF vC aC vH aH vR aR p0).2.2.2.2.1) oQ rQ ((X4_sell_f vF vC aC vH aH vR aR p0).2.2.2.2.2.1), X3W g oR rR ((X4_sell_f vF vC aC vH aH vR aR p0).2.2.2.2.2.2) aR, OLW g oL h]) := by
  refine kL_of (cc := cL_sell) (nL := 4) (ret := some .int) (lv := [(0, .ref oF), (1, .int p0), (2, .ref oL)]) (by decide) rfl (Nat.le_of_ble_eq_true rfl) rfl ?_
  intro p e s m args below meth c ls A htab hN C hP hD hE hA hS hl
  have C : kC p c cL_sell s m args meth RL g 4 (some .int) := C
  have hx := C.1.1
  have hb := C.1.2.1
  have hts := C.1.2.2.2.2
  refine lv_aload_n hx hb dL_sell_0 rfl (lv_at hl 2 rfl) ?_
  refine lv_iconst (v := 0) hx hb dL_sell_1 (by decide) ?_
  refine lv_aload_n hx hb dL_sell_2 rfl (lv_at hl 0 rfl) ?_
  refine lv_iload_n hx hb dL_sell_3 rfl (lv_at hl 1 rfl) ?_
  refine kX_V (As := [.int p0]) (rest := [.int 0, .ref oL]) (wr := [OLW g oL fL]) C (X4_sell_c l g oF vF oS oT oB oC rC vC aC oH rH vH oQ rQ aH oR rR vR aR p0 nb nj hnb hv7 hnj hv4 hM hh hfl) (cwV 1 hts (k_gV kw711 ca_X4_sell) rfl rfl rfl ⟨rfl, pnX4_sell⟩ ⟨Nat.le_of_ble_eq_true rfl, Nat.le_of_ble_eq_true rfl⟩) hE hS hA hP hD [0, 1, 2, 3] [4] rfl rfl ⟨rfl, rfl, by decide⟩ (k_recv C kFX4 hP (i := 0) (q := 0) rfl rfl) rfl hl.1 rfl rfl dL_sell_4 ⟨Nat.le_of_ble_eq_true rfl, Nat.le_of_ble_eq_true rfl⟩ (fun E u H locs qE ce hp hP hD hS hce hcv hcl => ?_) (fun r u H locs hp hP hD hS => ?_)
  · obtain ⟨hc, hE2, hu⟩ := hp
    subst hu
    have hP : kp g [X4W g oF (kFr oC oS oH oR oT oB) vF, X0W g oC rC ((X4_sell_f vF vC aC vH aH vR aR p0).2.2.1) ((X4_sell_f vF vC aC vH aH vR aR p0).2.2.2.1), X2W g oH rH ((X4_sell_f vF vC aC vH aH vR aR p0).2.2.2.2.1) oQ rQ ((X4_sell_f vF vC aC vH aH vR aR p0).2.2.2.2.2.1), X3W g oR rR ((X4_sell_f vF vC aC vH aH vR aR p0).2.2.2.2.2.2) aR, OLW g oL fL] H := hP.pick [1, 2, 3, 4, 0] rfl
    have hD : kd A [X4W g oF (kFr oC oS oH oR oT oB) vF, X0W g oC rC ((X4_sell_f vF vC aC vH aH vR aR p0).2.2.1) ((X4_sell_f vF vC aC vH aH vR aR p0).2.2.2.1), X2W g oH rH ((X4_sell_f vF vC aC vH aH vR aR p0).2.2.2.2.1) oQ rQ ((X4_sell_f vF vC aC vH aH vR aR p0).2.2.2.2.2.1), X3W g oR rR ((X4_sell_f vF vC aC vH aH vR aR p0).2.2.2.2.2.2) aR, OLW g oL fL] := hD.pick [1, 2, 3, 4, 0] rfl rfl
    rcases hcd with h0 | h1
    · exact absurd h0 hc
    · rw [h1] at hE2
      subst hE2
      refine kx_catch1 (E := "java/lang/UnsupportedOperationException") C htab rfl (by decide) kw381 (List.mem_of_getElem? (i := 84) rfl) hce hcv hcl ?_
      refine lv_astore_n (lv' := [(3, .ref qE), (0, .ref oF), (1, .int p0), (2, .ref oL)]) hx hb dL_sell_12 rfl hl (by decide) rfl (fun ls hl => ?_)
      refine lv_iconst (v := 1) hx hb dL_sell_13 (by decide) ?_
      exact kL_ret C hP hD hS ⟨by rw [h1]; rfl, _, fun z => absurd z hc, rfl⟩ ⟨Nat.le_of_ble_eq_true rfl, Nat.le_of_ble_eq_true rfl⟩ dL_sell_14
  obtain ⟨hc, hr, hu⟩ := hp
  subst hu
  have hP : kp g [X4W g oF (kFr oC oS oH oR oT oB) vF, X0W g oC rC ((X4_sell_f vF vC aC vH aH vR aR p0).2.2.1) ((X4_sell_f vF vC aC vH aH vR aR p0).2.2.2.1), X2W g oH rH ((X4_sell_f vF vC aC vH aH vR aR p0).2.2.2.2.1) oQ rQ ((X4_sell_f vF vC aC vH aH vR aR p0).2.2.2.2.2.1), X3W g oR rR ((X4_sell_f vF vC aC vH aH vR aR p0).2.2.2.2.2.2) aR, OLW g oL fL] H := hP.pick [1, 2, 3, 4, 0] rfl
  have hD : kd A [X4W g oF (kFr oC oS oH oR oT oB) vF, X0W g oC rC ((X4_sell_f vF vC aC vH aH vR aR p0).2.2.1) ((X4_sell_f vF vC aC vH aH vR aR p0).2.2.2.1), X2W g oH rH ((X4_sell_f vF vC aC vH aH vR aR p0).2.2.2.2.1) oQ rQ ((X4_sell_f vF vC aC vH aH vR aR p0).2.2.2.2.2.1), X3W g oR rR ((X4_sell_f vF vC aC vH aH vR aR p0).2.2.2.2.2.2) aR, OLW g oL fL] := hD.pick [1, 2, 3, 4, 0] rfl rfl
  subst hr
  refine lv_i2l hx hb dL_sell_7 rfl ?_
  refine kg_last C hP hD hS (i := 4) rfl rfl dL_sell_8 (fun H locs hP hD hS => ?_)
  have hP : kp g [X4W g oF (kFr oC oS oH oR oT oB) vF, X0W g oC rC ((X4_sell_f vF vC aC vH aH vR aR p0).2.2.1) ((X4_sell_f vF vC aC vH aH vR aR p0).2.2.2.1), X2W g oH rH ((X4_sell_f vF vC aC vH aH vR aR p0).2.2.2.2.1) oQ rQ ((X4_sell_f vF vC aC vH aH vR aR p0).2.2.2.2.2.1), X3W g oR rR ((X4_sell_f vF vC aC vH aH vR aR p0).2.2.2.2.2.2) aR, OLW g oL (vp_updL fL 0 (((X4_sell_f vF vC aC vH aH vR aR p0).2.1).toInt64))] H := hP
  have hD : kd A [X4W g oF (kFr oC oS oH oR oT oB) vF, X0W g oC rC ((X4_sell_f vF vC aC vH aH vR aR p0).2.2.1) ((X4_sell_f vF vC aC vH aH vR aR p0).2.2.2.1), X2W g oH rH ((X4_sell_f vF vC aC vH aH vR aR p0).2.2.2.2.1) oQ rQ ((X4_sell_f vF vC aC vH aH vR aR p0).2.2.2.2.2.1), X3W g oR rR ((X4_sell_f vF vC aC vH aH vR aR p0).2.2.2.2.2.2) aR, OLW g oL (vp_updL fL 0 (((X4_sell_f vF vC aC vH aH vR aR p0).2.1).toInt64))] := hD
  refine lv_goto (tgt := 15) hx hb dL_sell_9 (by decide) ?_
  refine lv_iconst (v := 0) hx hb dL_sell_15 (by decide) ?_
  exact kL_ret C hP hD hS ⟨by rw [hc]; rfl, _, fun _ => k_updL0 _ _, rfl⟩ ⟨Nat.le_of_ble_eq_true rfl, Nat.le_of_ble_eq_true rfl⟩ dL_sell_16
abbrev wL_oath : List Cond := Cond.codeWith yL_oath cL_oath 3 (some .int) [(0, 8, 11, 13)] :: kW
set_option maxHeartbeats 4000000 in
theorem L_oath_c (l : Launch) (g : kG) (oF : Nat) (vF : Nat → Int32) (oS oT oB : Nat) (oC : Nat) (rC : Nat → Nat) (vC : Nat → Int32) (aC : Nat → Nat → Int32) (oH : Nat) (rH : Nat → Nat) (vH : Nat → Int32) (oQ : Nat → Nat) (rQ : Nat → Nat → Nat) (aH : Nat → (Nat → Int32) × (Nat → Nat → Int32)) (oR : Nat) (rR : Nat → Nat) (vR : Nat → Int32) (aR : Nat → Nat → Int32) (nb : Nat) (nj : Nat) (hnb : nb ≤ 6) (hv7 : vC 7 = nI nb) (hnj : nj ≤ 6) (hv4 : vC 4 = nI nj) (hM : vp_in (vC 1) 4) (hh : vp_in (vH 1) 9) (hfl : l.stackTraces = false) (oL : Nat) (fL : Nat → Int64) (hcd : (X4_oath_f vF vC aC vH aH vR aR).1 = 0 ∨ (X4_oath_f vF vC aC vH aH vR aR).1 = 1) : kL l yL_oath wL_oath 8 161 1 6 g [.ref oF, .ref oL] [X4W g oF (kFr oC oS oH oR oT oB) vF, X0W g oC rC vC aC, X2W g oH rH vH oQ rQ aH, X3W g oR rR vR aR, OLW g oL fL] (fun x u => x = kLk1 ((X4_oath_f vF vC aC vH aH vR aR).1) ∧ ∃ h : Nat → Int64, ((X4_oath_f vF vC aC vH aH vR aR).1 = 0 → h 0 = ((X4_oath_f vF vC aC vH aH vR aR).2.1).toInt64) ∧ u = [X4W g oF (kFr oC oS oH oR oT oB) vF, X0W g oC rC ((X4_oath_f vF vC aC vH aH vR aR).2.2.1) ((X4_oath_f vF vC aC vH aH vR aR).2.2.2.1), X2W g oH rH ((X4_oath_f vF vC aC vH aH vR aR).2.2.2.2.1) oQ rQ ((X4_oath_f vF vC aC vH aH vR aR).2.2.2.2.2.1), X3W g oR rR ((X4_oath_f vF vC aC vH aH vR aR).2.2.2.2.2.2) aR, OLW g oL h]) := by
  refine kL_of (cc := cL_oath) (nL := 3) (ret := some .int) (lv := [(0, .ref oF), (1, .ref oL)]) (by decide) rfl (Nat.le_of_ble_eq_true rfl) rfl ?_
  intro p e s m args below meth c ls A htab hN C hP hD hE hA hS hl
  have C : kC p c cL_oath s m args meth RL g 3 (some .int) := C
  have hx := C.1.1
  have hb := C.1.2.1
  have hts := C.1.2.2.2.2
  refine lv_aload_n hx hb dL_oath_0 rfl (lv_at hl 1 rfl) ?_
  refine lv_iconst (v := 0) hx hb dL_oath_1 (by decide) ?_
  refine lv_aload_n hx hb dL_oath_2 rfl (lv_at hl 0 rfl) ?_
  refine kX_V (As := []) (rest := [.int 0, .ref oL]) (wr := [OLW g oL fL]) C (X4_oath_c l g oF vF oS oT oB oC rC vC aC oH rH vH oQ rQ aH oR rR vR aR nb nj hnb hv7 hnj hv4 hM hh hfl) (cwV 0 hts (k_gV kw718 ca_X4_oath) rfl rfl rfl ⟨rfl, pnX4_oath⟩ ⟨Nat.le_of_ble_eq_true rfl, Nat.le_of_ble_eq_true rfl⟩) hE hS hA hP hD [0, 1, 2, 3] [4] rfl rfl ⟨rfl, rfl, by decide⟩ (k_recv C kFX4 hP (i := 0) (q := 0) rfl rfl) rfl hl.1 rfl rfl dL_oath_3 ⟨Nat.le_of_ble_eq_true rfl, Nat.le_of_ble_eq_true rfl⟩ (fun E u H locs qE ce hp hP hD hS hce hcv hcl => ?_) (fun r u H locs hp hP hD hS => ?_)
  · obtain ⟨hc, hE2, hu⟩ := hp
    subst hu
    have hP : kp g [X4W g oF (kFr oC oS oH oR oT oB) vF, X0W g oC rC ((X4_oath_f vF vC aC vH aH vR aR).2.2.1) ((X4_oath_f vF vC aC vH aH vR aR).2.2.2.1), X2W g oH rH ((X4_oath_f vF vC aC vH aH vR aR).2.2.2.2.1) oQ rQ ((X4_oath_f vF vC aC vH aH vR aR).2.2.2.2.2.1), X3W g oR rR ((X4_oath_f vF vC aC vH aH vR aR).2.2.2.2.2.2) aR, OLW g oL fL] H := hP.pick [1, 2, 3, 4, 0] rfl
    have hD : kd A [X4W g oF (kFr oC oS oH oR oT oB) vF, X0W g oC rC ((X4_oath_f vF vC aC vH aH vR aR).2.2.1) ((X4_oath_f vF vC aC vH aH vR aR).2.2.2.1), X2W g oH rH ((X4_oath_f vF vC aC vH aH vR aR).2.2.2.2.1) oQ rQ ((X4_oath_f vF vC aC vH aH vR aR).2.2.2.2.2.1), X3W g oR rR ((X4_oath_f vF vC aC vH aH vR aR).2.2.2.2.2.2) aR, OLW g oL fL] := hD.pick [1, 2, 3, 4, 0] rfl rfl
    rcases hcd with h0 | h1
    · exact absurd h0 hc
    · rw [h1] at hE2
      subst hE2
      refine kx_catch1 (E := "java/lang/UnsupportedOperationException") C htab rfl (by decide) kw381 (List.mem_of_getElem? (i := 84) rfl) hce hcv hcl ?_
      refine lv_astore_n (lv' := [(2, .ref qE), (0, .ref oF), (1, .ref oL)]) hx hb dL_oath_11 rfl hl (by decide) rfl (fun ls hl => ?_)
      refine lv_iconst (v := 1) hx hb dL_oath_12 (by decide) ?_
      exact kL_ret C hP hD hS ⟨by rw [h1]; rfl, _, fun z => absurd z hc, rfl⟩ ⟨Nat.le_of_ble_eq_true rfl, Nat.le_of_ble_eq_true rfl⟩ dL_oath_13
  obtain ⟨hc, hr, hu⟩ := hp
  subst hu
  have hP : kp g [X4W g oF (kFr oC oS oH oR oT oB) vF, X0W g oC rC ((X4_oath_f vF vC aC vH aH vR aR).2.2.1) ((X4_oath_f vF vC aC vH aH vR aR).2.2.2.1), X2W g oH rH ((X4_oath_f vF vC aC vH aH vR aR).2.2.2.2.1) oQ rQ ((X4_oath_f vF vC aC vH aH vR aR).2.2.2.2.2.1), X3W g oR rR ((X4_oath_f vF vC aC vH aH vR aR).2.2.2.2.2.2) aR, OLW g oL fL] H := hP.pick [1, 2, 3, 4, 0] rfl
  have hD : kd A [X4W g oF (kFr oC oS oH oR oT oB) vF, X0W g oC rC ((X4_oath_f vF vC aC vH aH vR aR).2.2.1) ((X4_oath_f vF vC aC vH aH vR aR).2.2.2.1), X2W g oH rH ((X4_oath_f vF vC aC vH aH vR aR).2.2.2.2.1) oQ rQ ((X4_oath_f vF vC aC vH aH vR aR).2.2.2.2.2.1), X3W g oR rR ((X4_oath_f vF vC aC vH aH vR aR).2.2.2.2.2.2) aR, OLW g oL fL] := hD.pick [1, 2, 3, 4, 0] rfl rfl
  subst hr
  refine lv_i2l hx hb dL_oath_6 rfl ?_
  refine kg_last C hP hD hS (i := 4) rfl rfl dL_oath_7 (fun H locs hP hD hS => ?_)
  have hP : kp g [X4W g oF (kFr oC oS oH oR oT oB) vF, X0W g oC rC ((X4_oath_f vF vC aC vH aH vR aR).2.2.1) ((X4_oath_f vF vC aC vH aH vR aR).2.2.2.1), X2W g oH rH ((X4_oath_f vF vC aC vH aH vR aR).2.2.2.2.1) oQ rQ ((X4_oath_f vF vC aC vH aH vR aR).2.2.2.2.2.1), X3W g oR rR ((X4_oath_f vF vC aC vH aH vR aR).2.2.2.2.2.2) aR, OLW g oL (vp_updL fL 0 (((X4_oath_f vF vC aC vH aH vR aR).2.1).toInt64))] H := hP
  have hD : kd A [X4W g oF (kFr oC oS oH oR oT oB) vF, X0W g oC rC ((X4_oath_f vF vC aC vH aH vR aR).2.2.1) ((X4_oath_f vF vC aC vH aH vR aR).2.2.2.1), X2W g oH rH ((X4_oath_f vF vC aC vH aH vR aR).2.2.2.2.1) oQ rQ ((X4_oath_f vF vC aC vH aH vR aR).2.2.2.2.2.1), X3W g oR rR ((X4_oath_f vF vC aC vH aH vR aR).2.2.2.2.2.2) aR, OLW g oL (vp_updL fL 0 (((X4_oath_f vF vC aC vH aH vR aR).2.1).toInt64))] := hD
  refine lv_goto (tgt := 14) hx hb dL_oath_8 (by decide) ?_
  refine lv_iconst (v := 0) hx hb dL_oath_14 (by decide) ?_
  exact kL_ret C hP hD hS ⟨by rw [hc]; rfl, _, fun _ => k_updL0 _ _, rfl⟩ ⟨Nat.le_of_ble_eq_true rfl, Nat.le_of_ble_eq_true rfl⟩ dL_oath_15
abbrev wL_go : List Cond := Cond.codeWith yL_go cL_go 4 (some .int) [(0, 9, 12, 13)] :: kW
set_option maxHeartbeats 4000000 in
theorem L_go_c (l : Launch) (g : kG) (oF : Nat) (vF : Nat → Int32) (oS oT oB : Nat) (oC : Nat) (rC : Nat → Nat) (vC : Nat → Int32) (aC : Nat → Nat → Int32) (oH : Nat) (rH : Nat → Nat) (vH : Nat → Int32) (oQ : Nat → Nat) (rQ : Nat → Nat → Nat) (aH : Nat → (Nat → Int32) × (Nat → Nat → Int32)) (oR : Nat) (rR : Nat → Nat) (vR : Nat → Int32) (aR : Nat → Nat → Int32) (p0 : Int32) (nb : Nat) (nj : Nat) (hnb : nb ≤ 6) (hv7 : vC 7 = nI nb) (hnj : nj ≤ 6) (hv4 : vC 4 = nI nj) (hM : vp_in (vC 1) 4) (hh : vp_in (vH 1) 9) (hfl : l.stackTraces = false) (oL : Nat) (fL : Nat → Int64) (hcd : (X4_go_f vF vC aC vH aH vR aR p0).1 = 0 ∨ (X4_go_f vF vC aC vH aH vR aR p0).1 = 1) : kL l yL_go wL_go 8 162 1 6 g [.ref oF, .int p0, .ref oL] [X4W g oF (kFr oC oS oH oR oT oB) vF, X0W g oC rC vC aC, X2W g oH rH vH oQ rQ aH, X3W g oR rR vR aR, OLW g oL fL] (fun x u => x = kLk1 ((X4_go_f vF vC aC vH aH vR aR p0).1) ∧ ∃ h : Nat → Int64, ((X4_go_f vF vC aC vH aH vR aR p0).1 = 0 → h 0 = ((X4_go_f vF vC aC vH aH vR aR p0).2.1).toInt64) ∧ u = [X4W g oF (kFr oC oS oH oR oT oB) vF, X0W g oC rC ((X4_go_f vF vC aC vH aH vR aR p0).2.2.1) ((X4_go_f vF vC aC vH aH vR aR p0).2.2.2.1), X2W g oH rH ((X4_go_f vF vC aC vH aH vR aR p0).2.2.2.2.1) oQ rQ ((X4_go_f vF vC aC vH aH vR aR p0).2.2.2.2.2.1), X3W g oR rR ((X4_go_f vF vC aC vH aH vR aR p0).2.2.2.2.2.2) aR, OLW g oL h]) := by
  refine kL_of (cc := cL_go) (nL := 4) (ret := some .int) (lv := [(0, .ref oF), (1, .int p0), (2, .ref oL)]) (by decide) rfl (Nat.le_of_ble_eq_true rfl) rfl ?_
  intro p e s m args below meth c ls A htab hN C hP hD hE hA hS hl
  have C : kC p c cL_go s m args meth RL g 4 (some .int) := C
  have hx := C.1.1
  have hb := C.1.2.1
  have hts := C.1.2.2.2.2
  refine lv_aload_n hx hb dL_go_0 rfl (lv_at hl 2 rfl) ?_
  refine lv_iconst (v := 0) hx hb dL_go_1 (by decide) ?_
  refine lv_aload_n hx hb dL_go_2 rfl (lv_at hl 0 rfl) ?_
  refine lv_iload_n hx hb dL_go_3 rfl (lv_at hl 1 rfl) ?_
  refine kX_V (As := [.int p0]) (rest := [.int 0, .ref oL]) (wr := [OLW g oL fL]) C (X4_go_c l g oF vF oS oT oB oC rC vC aC oH rH vH oQ rQ aH oR rR vR aR p0 nb nj hnb hv7 hnj hv4 hM hh hfl) (cwV 1 hts (k_gV kw725 ca_X4_go) rfl rfl rfl ⟨rfl, pnX4_go⟩ ⟨Nat.le_of_ble_eq_true rfl, Nat.le_of_ble_eq_true rfl⟩) hE hS hA hP hD [0, 1, 2, 3] [4] rfl rfl ⟨rfl, rfl, by decide⟩ (k_recv C kFX4 hP (i := 0) (q := 0) rfl rfl) rfl hl.1 rfl rfl dL_go_4 ⟨Nat.le_of_ble_eq_true rfl, Nat.le_of_ble_eq_true rfl⟩ (fun E u H locs qE ce hp hP hD hS hce hcv hcl => ?_) (fun r u H locs hp hP hD hS => ?_)
  · obtain ⟨hc, hE2, hu⟩ := hp
    subst hu
    have hP : kp g [X4W g oF (kFr oC oS oH oR oT oB) vF, X0W g oC rC ((X4_go_f vF vC aC vH aH vR aR p0).2.2.1) ((X4_go_f vF vC aC vH aH vR aR p0).2.2.2.1), X2W g oH rH ((X4_go_f vF vC aC vH aH vR aR p0).2.2.2.2.1) oQ rQ ((X4_go_f vF vC aC vH aH vR aR p0).2.2.2.2.2.1), X3W g oR rR ((X4_go_f vF vC aC vH aH vR aR p0).2.2.2.2.2.2) aR, OLW g oL fL] H := hP.pick [1, 2, 3, 4, 0] rfl
    have hD : kd A [X4W g oF (kFr oC oS oH oR oT oB) vF, X0W g oC rC ((X4_go_f vF vC aC vH aH vR aR p0).2.2.1) ((X4_go_f vF vC aC vH aH vR aR p0).2.2.2.1), X2W g oH rH ((X4_go_f vF vC aC vH aH vR aR p0).2.2.2.2.1) oQ rQ ((X4_go_f vF vC aC vH aH vR aR p0).2.2.2.2.2.1), X3W g oR rR ((X4_go_f vF vC aC vH aH vR aR p0).2.2.2.2.2.2) aR, OLW g oL fL] := hD.pick [1, 2, 3, 4, 0] rfl rfl
    rcases hcd with h0 | h1
    · exact absurd h0 hc
    · rw [h1] at hE2
      subst hE2
      refine kx_catch1 (E := "java/lang/UnsupportedOperationException") C htab rfl (by decide) kw381 (List.mem_of_getElem? (i := 84) rfl) hce hcv hcl ?_
      refine lv_astore_n (lv' := [(3, .ref qE), (0, .ref oF), (1, .int p0), (2, .ref oL)]) hx hb dL_go_12 rfl hl (by decide) rfl (fun ls hl => ?_)
      refine lv_iconst (v := 1) hx hb dL_go_13 (by decide) ?_
      exact kL_ret C hP hD hS ⟨by rw [h1]; rfl, _, fun z => absurd z hc, rfl⟩ ⟨Nat.le_of_ble_eq_true rfl, Nat.le_of_ble_eq_true rfl⟩ dL_go_14
  obtain ⟨hc, hr, hu⟩ := hp
  subst hu
  have hP : kp g [X4W g oF (kFr oC oS oH oR oT oB) vF, X0W g oC rC ((X4_go_f vF vC aC vH aH vR aR p0).2.2.1) ((X4_go_f vF vC aC vH aH vR aR p0).2.2.2.1), X2W g oH rH ((X4_go_f vF vC aC vH aH vR aR p0).2.2.2.2.1) oQ rQ ((X4_go_f vF vC aC vH aH vR aR p0).2.2.2.2.2.1), X3W g oR rR ((X4_go_f vF vC aC vH aH vR aR p0).2.2.2.2.2.2) aR, OLW g oL fL] H := hP.pick [1, 2, 3, 4, 0] rfl
  have hD : kd A [X4W g oF (kFr oC oS oH oR oT oB) vF, X0W g oC rC ((X4_go_f vF vC aC vH aH vR aR p0).2.2.1) ((X4_go_f vF vC aC vH aH vR aR p0).2.2.2.1), X2W g oH rH ((X4_go_f vF vC aC vH aH vR aR p0).2.2.2.2.1) oQ rQ ((X4_go_f vF vC aC vH aH vR aR p0).2.2.2.2.2.1), X3W g oR rR ((X4_go_f vF vC aC vH aH vR aR p0).2.2.2.2.2.2) aR, OLW g oL fL] := hD.pick [1, 2, 3, 4, 0] rfl rfl
  subst hr
  refine lv_i2l hx hb dL_go_7 rfl ?_
  refine kg_last C hP hD hS (i := 4) rfl rfl dL_go_8 (fun H locs hP hD hS => ?_)
  have hP : kp g [X4W g oF (kFr oC oS oH oR oT oB) vF, X0W g oC rC ((X4_go_f vF vC aC vH aH vR aR p0).2.2.1) ((X4_go_f vF vC aC vH aH vR aR p0).2.2.2.1), X2W g oH rH ((X4_go_f vF vC aC vH aH vR aR p0).2.2.2.2.1) oQ rQ ((X4_go_f vF vC aC vH aH vR aR p0).2.2.2.2.2.1), X3W g oR rR ((X4_go_f vF vC aC vH aH vR aR p0).2.2.2.2.2.2) aR, OLW g oL (vp_updL fL 0 (((X4_go_f vF vC aC vH aH vR aR p0).2.1).toInt64))] H := hP
  have hD : kd A [X4W g oF (kFr oC oS oH oR oT oB) vF, X0W g oC rC ((X4_go_f vF vC aC vH aH vR aR p0).2.2.1) ((X4_go_f vF vC aC vH aH vR aR p0).2.2.2.1), X2W g oH rH ((X4_go_f vF vC aC vH aH vR aR p0).2.2.2.2.1) oQ rQ ((X4_go_f vF vC aC vH aH vR aR p0).2.2.2.2.2.1), X3W g oR rR ((X4_go_f vF vC aC vH aH vR aR p0).2.2.2.2.2.2) aR, OLW g oL (vp_updL fL 0 (((X4_go_f vF vC aC vH aH vR aR p0).2.1).toInt64))] := hD
  refine lv_goto (tgt := 15) hx hb dL_go_9 (by decide) ?_
  refine lv_iconst (v := 0) hx hb dL_go_15 (by decide) ?_
  exact kL_ret C hP hD hS ⟨by rw [hc]; rfl, _, fun _ => k_updL0 _ _, rfl⟩ ⟨Nat.le_of_ble_eq_true rfl, Nat.le_of_ble_eq_true rfl⟩ dL_go_16
abbrev wL_seal : List Cond := Cond.codeWith yL_seal cL_seal 4 (some .int) [(0, 9, 12, 13)] :: kW
set_option maxHeartbeats 4000000 in
theorem L_seal_c (l : Launch) (g : kG) (oF : Nat) (vF : Nat → Int32) (oS oT oB : Nat) (oC : Nat) (rC : Nat → Nat) (vC : Nat → Int32) (aC : Nat → Nat → Int32) (oH : Nat) (rH : Nat → Nat) (vH : Nat → Int32) (oQ : Nat → Nat) (rQ : Nat → Nat → Nat) (aH : Nat → (Nat → Int32) × (Nat → Nat → Int32)) (oR : Nat) (rR : Nat → Nat) (vR : Nat → Int32) (aR : Nat → Nat → Int32) (p0 : Int32) (nb : Nat) (nj : Nat) (hnb : nb ≤ 6) (hv7 : vC 7 = nI nb) (hnj : nj ≤ 6) (hv4 : vC 4 = nI nj) (hM : vp_in (vC 1) 4) (hh : vp_in (vH 1) 9) (hfl : l.stackTraces = false) (oL : Nat) (fL : Nat → Int64) (hcd : (X4_seal_f vF vC aC vH aH vR aR p0).1 = 0 ∨ (X4_seal_f vF vC aC vH aH vR aR p0).1 = 1) : kL l yL_seal wL_seal 8 162 1 6 g [.ref oF, .int p0, .ref oL] [X4W g oF (kFr oC oS oH oR oT oB) vF, X0W g oC rC vC aC, X2W g oH rH vH oQ rQ aH, X3W g oR rR vR aR, OLW g oL fL] (fun x u => x = kLk1 ((X4_seal_f vF vC aC vH aH vR aR p0).1) ∧ ∃ h : Nat → Int64, ((X4_seal_f vF vC aC vH aH vR aR p0).1 = 0 → h 0 = ((X4_seal_f vF vC aC vH aH vR aR p0).2.1).toInt64) ∧ u = [X4W g oF (kFr oC oS oH oR oT oB) vF, X0W g oC rC ((X4_seal_f vF vC aC vH aH vR aR p0).2.2.1) ((X4_seal_f vF vC aC vH aH vR aR p0).2.2.2.1), X2W g oH rH ((X4_seal_f vF vC aC vH aH vR aR p0).2.2.2.2.1) oQ rQ ((X4_seal_f vF vC aC vH aH vR aR p0).2.2.2.2.2.1), X3W g oR rR ((X4_seal_f vF vC aC vH aH vR aR p0).2.2.2.2.2.2) aR, OLW g oL h]) := by
  refine kL_of (cc := cL_seal) (nL := 4) (ret := some .int) (lv := [(0, .ref oF), (1, .int p0), (2, .ref oL)]) (by decide) rfl (Nat.le_of_ble_eq_true rfl) rfl ?_
  intro p e s m args below meth c ls A htab hN C hP hD hE hA hS hl
  have C : kC p c cL_seal s m args meth RL g 4 (some .int) := C
  have hx := C.1.1
  have hb := C.1.2.1
  have hts := C.1.2.2.2.2
  refine lv_aload_n hx hb dL_seal_0 rfl (lv_at hl 2 rfl) ?_
  refine lv_iconst (v := 0) hx hb dL_seal_1 (by decide) ?_
  refine lv_aload_n hx hb dL_seal_2 rfl (lv_at hl 0 rfl) ?_
  refine lv_iload_n hx hb dL_seal_3 rfl (lv_at hl 1 rfl) ?_
  refine kX_V (As := [.int p0]) (rest := [.int 0, .ref oL]) (wr := [OLW g oL fL]) C (X4_seal_c l g oF vF oS oT oB oC rC vC aC oH rH vH oQ rQ aH oR rR vR aR p0 nb nj hnb hv7 hnj hv4 hM hh hfl) (cwV 1 hts (k_gV kw732 ca_X4_seal) rfl rfl rfl ⟨rfl, pnX4_seal⟩ ⟨Nat.le_of_ble_eq_true rfl, Nat.le_of_ble_eq_true rfl⟩) hE hS hA hP hD [0, 1, 2, 3] [4] rfl rfl ⟨rfl, rfl, by decide⟩ (k_recv C kFX4 hP (i := 0) (q := 0) rfl rfl) rfl hl.1 rfl rfl dL_seal_4 ⟨Nat.le_of_ble_eq_true rfl, Nat.le_of_ble_eq_true rfl⟩ (fun E u H locs qE ce hp hP hD hS hce hcv hcl => ?_) (fun r u H locs hp hP hD hS => ?_)
  · obtain ⟨hc, hE2, hu⟩ := hp
    subst hu
    have hP : kp g [X4W g oF (kFr oC oS oH oR oT oB) vF, X0W g oC rC ((X4_seal_f vF vC aC vH aH vR aR p0).2.2.1) ((X4_seal_f vF vC aC vH aH vR aR p0).2.2.2.1), X2W g oH rH ((X4_seal_f vF vC aC vH aH vR aR p0).2.2.2.2.1) oQ rQ ((X4_seal_f vF vC aC vH aH vR aR p0).2.2.2.2.2.1), X3W g oR rR ((X4_seal_f vF vC aC vH aH vR aR p0).2.2.2.2.2.2) aR, OLW g oL fL] H := hP.pick [1, 2, 3, 4, 0] rfl
    have hD : kd A [X4W g oF (kFr oC oS oH oR oT oB) vF, X0W g oC rC ((X4_seal_f vF vC aC vH aH vR aR p0).2.2.1) ((X4_seal_f vF vC aC vH aH vR aR p0).2.2.2.1), X2W g oH rH ((X4_seal_f vF vC aC vH aH vR aR p0).2.2.2.2.1) oQ rQ ((X4_seal_f vF vC aC vH aH vR aR p0).2.2.2.2.2.1), X3W g oR rR ((X4_seal_f vF vC aC vH aH vR aR p0).2.2.2.2.2.2) aR, OLW g oL fL] := hD.pick [1, 2, 3, 4, 0] rfl rfl
    rcases hcd with h0 | h1
    · exact absurd h0 hc
    · rw [h1] at hE2
      subst hE2
      refine kx_catch1 (E := "java/lang/UnsupportedOperationException") C htab rfl (by decide) kw381 (List.mem_of_getElem? (i := 84) rfl) hce hcv hcl ?_
      refine lv_astore_n (lv' := [(3, .ref qE), (0, .ref oF), (1, .int p0), (2, .ref oL)]) hx hb dL_seal_12 rfl hl (by decide) rfl (fun ls hl => ?_)
      refine lv_iconst (v := 1) hx hb dL_seal_13 (by decide) ?_
      exact kL_ret C hP hD hS ⟨by rw [h1]; rfl, _, fun z => absurd z hc, rfl⟩ ⟨Nat.le_of_ble_eq_true rfl, Nat.le_of_ble_eq_true rfl⟩ dL_seal_14
  obtain ⟨hc, hr, hu⟩ := hp
  subst hu
  have hP : kp g [X4W g oF (kFr oC oS oH oR oT oB) vF, X0W g oC rC ((X4_seal_f vF vC aC vH aH vR aR p0).2.2.1) ((X4_seal_f vF vC aC vH aH vR aR p0).2.2.2.1), X2W g oH rH ((X4_seal_f vF vC aC vH aH vR aR p0).2.2.2.2.1) oQ rQ ((X4_seal_f vF vC aC vH aH vR aR p0).2.2.2.2.2.1), X3W g oR rR ((X4_seal_f vF vC aC vH aH vR aR p0).2.2.2.2.2.2) aR, OLW g oL fL] H := hP.pick [1, 2, 3, 4, 0] rfl
  have hD : kd A [X4W g oF (kFr oC oS oH oR oT oB) vF, X0W g oC rC ((X4_seal_f vF vC aC vH aH vR aR p0).2.2.1) ((X4_seal_f vF vC aC vH aH vR aR p0).2.2.2.1), X2W g oH rH ((X4_seal_f vF vC aC vH aH vR aR p0).2.2.2.2.1) oQ rQ ((X4_seal_f vF vC aC vH aH vR aR p0).2.2.2.2.2.1), X3W g oR rR ((X4_seal_f vF vC aC vH aH vR aR p0).2.2.2.2.2.2) aR, OLW g oL fL] := hD.pick [1, 2, 3, 4, 0] rfl rfl
  subst hr
  refine lv_i2l hx hb dL_seal_7 rfl ?_
  refine kg_last C hP hD hS (i := 4) rfl rfl dL_seal_8 (fun H locs hP hD hS => ?_)
  have hP : kp g [X4W g oF (kFr oC oS oH oR oT oB) vF, X0W g oC rC ((X4_seal_f vF vC aC vH aH vR aR p0).2.2.1) ((X4_seal_f vF vC aC vH aH vR aR p0).2.2.2.1), X2W g oH rH ((X4_seal_f vF vC aC vH aH vR aR p0).2.2.2.2.1) oQ rQ ((X4_seal_f vF vC aC vH aH vR aR p0).2.2.2.2.2.1), X3W g oR rR ((X4_seal_f vF vC aC vH aH vR aR p0).2.2.2.2.2.2) aR, OLW g oL (vp_updL fL 0 (((X4_seal_f vF vC aC vH aH vR aR p0).2.1).toInt64))] H := hP
  have hD : kd A [X4W g oF (kFr oC oS oH oR oT oB) vF, X0W g oC rC ((X4_seal_f vF vC aC vH aH vR aR p0).2.2.1) ((X4_seal_f vF vC aC vH aH vR aR p0).2.2.2.1), X2W g oH rH ((X4_seal_f vF vC aC vH aH vR aR p0).2.2.2.2.1) oQ rQ ((X4_seal_f vF vC aC vH aH vR aR p0).2.2.2.2.2.1), X3W g oR rR ((X4_seal_f vF vC aC vH aH vR aR p0).2.2.2.2.2.2) aR, OLW g oL (vp_updL fL 0 (((X4_seal_f vF vC aC vH aH vR aR p0).2.1).toInt64))] := hD
  refine lv_goto (tgt := 15) hx hb dL_seal_9 (by decide) ?_
  refine lv_iconst (v := 0) hx hb dL_seal_15 (by decide) ?_
  exact kL_ret C hP hD hS ⟨by rw [hc]; rfl, _, fun _ => k_updL0 _ _, rfl⟩ ⟨Nat.le_of_ble_eq_true rfl, Nat.le_of_ble_eq_true rfl⟩ dL_seal_16
abbrev wL_days : List Cond := Cond.codeWith yL_days cL_days 4 (some .int) [(0, 9, 12, 13)] :: kW
set_option maxHeartbeats 4000000 in
theorem L_days_c (l : Launch) (g : kG) (oF : Nat) (vF : Nat → Int32) (oS oT oB : Nat) (oC : Nat) (rC : Nat → Nat) (vC : Nat → Int32) (aC : Nat → Nat → Int32) (oH : Nat) (rH : Nat → Nat) (vH : Nat → Int32) (oQ : Nat → Nat) (rQ : Nat → Nat → Nat) (aH : Nat → (Nat → Int32) × (Nat → Nat → Int32)) (oR : Nat) (rR : Nat → Nat) (vR : Nat → Int32) (aR : Nat → Nat → Int32) (p0 : Int32) (nb : Nat) (nj : Nat) (hnb : nb ≤ 6) (hv7 : vC 7 = nI nb) (hnj : nj ≤ 6) (hv4 : vC 4 = nI nj) (hM : vp_in (vC 1) 4) (hh : vp_in (vH 1) 9) (hfl : l.stackTraces = false) (oL : Nat) (fL : Nat → Int64) (hcd : (X4_days_f vF vC aC vH aH vR aR p0).1 = 0 ∨ (X4_days_f vF vC aC vH aH vR aR p0).1 = 1) : kL l yL_days wL_days 8 162 1 6 g [.ref oF, .int p0, .ref oL] [X4W g oF (kFr oC oS oH oR oT oB) vF, X0W g oC rC vC aC, X2W g oH rH vH oQ rQ aH, X3W g oR rR vR aR, OLW g oL fL] (fun x u => x = kLk1 ((X4_days_f vF vC aC vH aH vR aR p0).1) ∧ ∃ h : Nat → Int64, ((X4_days_f vF vC aC vH aH vR aR p0).1 = 0 → h 0 = ((X4_days_f vF vC aC vH aH vR aR p0).2.1).toInt64) ∧ u = [X4W g oF (kFr oC oS oH oR oT oB) vF, X0W g oC rC ((X4_days_f vF vC aC vH aH vR aR p0).2.2.1) ((X4_days_f vF vC aC vH aH vR aR p0).2.2.2.1), X2W g oH rH ((X4_days_f vF vC aC vH aH vR aR p0).2.2.2.2.1) oQ rQ ((X4_days_f vF vC aC vH aH vR aR p0).2.2.2.2.2.1), X3W g oR rR ((X4_days_f vF vC aC vH aH vR aR p0).2.2.2.2.2.2) aR, OLW g oL h]) := by
  refine kL_of (cc := cL_days) (nL := 4) (ret := some .int) (lv := [(0, .ref oF), (1, .int p0), (2, .ref oL)]) (by decide) rfl (Nat.le_of_ble_eq_true rfl) rfl ?_
  intro p e s m args below meth c ls A htab hN C hP hD hE hA hS hl
  have C : kC p c cL_days s m args meth RL g 4 (some .int) := C
  have hx := C.1.1
  have hb := C.1.2.1
  have hts := C.1.2.2.2.2
  refine lv_aload_n hx hb dL_days_0 rfl (lv_at hl 2 rfl) ?_
  refine lv_iconst (v := 0) hx hb dL_days_1 (by decide) ?_
  refine lv_aload_n hx hb dL_days_2 rfl (lv_at hl 0 rfl) ?_
  refine lv_iload_n hx hb dL_days_3 rfl (lv_at hl 1 rfl) ?_
  refine kX_V (As := [.int p0]) (rest := [.int 0, .ref oL]) (wr := [OLW g oL fL]) C (X4_days_c l g oF vF oS oT oB oC rC vC aC oH rH vH oQ rQ aH oR rR vR aR p0 nb nj hnb hv7 hnj hv4 hM hh hfl) (cwV 1 hts (k_gV kw739 ca_X4_days) rfl rfl rfl ⟨rfl, pnX4_days⟩ ⟨Nat.le_of_ble_eq_true rfl, Nat.le_of_ble_eq_true rfl⟩) hE hS hA hP hD [0, 1, 2, 3] [4] rfl rfl ⟨rfl, rfl, by decide⟩ (k_recv C kFX4 hP (i := 0) (q := 0) rfl rfl) rfl hl.1 rfl rfl dL_days_4 ⟨Nat.le_of_ble_eq_true rfl, Nat.le_of_ble_eq_true rfl⟩ (fun E u H locs qE ce hp hP hD hS hce hcv hcl => ?_) (fun r u H locs hp hP hD hS => ?_)
  · obtain ⟨hc, hE2, hu⟩ := hp
    subst hu
    have hP : kp g [X4W g oF (kFr oC oS oH oR oT oB) vF, X0W g oC rC ((X4_days_f vF vC aC vH aH vR aR p0).2.2.1) ((X4_days_f vF vC aC vH aH vR aR p0).2.2.2.1), X2W g oH rH ((X4_days_f vF vC aC vH aH vR aR p0).2.2.2.2.1) oQ rQ ((X4_days_f vF vC aC vH aH vR aR p0).2.2.2.2.2.1), X3W g oR rR ((X4_days_f vF vC aC vH aH vR aR p0).2.2.2.2.2.2) aR, OLW g oL fL] H := hP.pick [1, 2, 3, 4, 0] rfl
    have hD : kd A [X4W g oF (kFr oC oS oH oR oT oB) vF, X0W g oC rC ((X4_days_f vF vC aC vH aH vR aR p0).2.2.1) ((X4_days_f vF vC aC vH aH vR aR p0).2.2.2.1), X2W g oH rH ((X4_days_f vF vC aC vH aH vR aR p0).2.2.2.2.1) oQ rQ ((X4_days_f vF vC aC vH aH vR aR p0).2.2.2.2.2.1), X3W g oR rR ((X4_days_f vF vC aC vH aH vR aR p0).2.2.2.2.2.2) aR, OLW g oL fL] := hD.pick [1, 2, 3, 4, 0] rfl rfl
    rcases hcd with h0 | h1
    · exact absurd h0 hc
    · rw [h1] at hE2
      subst hE2
      refine kx_catch1 (E := "java/lang/UnsupportedOperationException") C htab rfl (by decide) kw381 (List.mem_of_getElem? (i := 84) rfl) hce hcv hcl ?_
      refine lv_astore_n (lv' := [(3, .ref qE), (0, .ref oF), (1, .int p0), (2, .ref oL)]) hx hb dL_days_12 rfl hl (by decide) rfl (fun ls hl => ?_)
      refine lv_iconst (v := 1) hx hb dL_days_13 (by decide) ?_
      exact kL_ret C hP hD hS ⟨by rw [h1]; rfl, _, fun z => absurd z hc, rfl⟩ ⟨Nat.le_of_ble_eq_true rfl, Nat.le_of_ble_eq_true rfl⟩ dL_days_14
  obtain ⟨hc, hr, hu⟩ := hp
  subst hu
  have hP : kp g [X4W g oF (kFr oC oS oH oR oT oB) vF, X0W g oC rC ((X4_days_f vF vC aC vH aH vR aR p0).2.2.1) ((X4_days_f vF vC aC vH aH vR aR p0).2.2.2.1), X2W g oH rH ((X4_days_f vF vC aC vH aH vR aR p0).2.2.2.2.1) oQ rQ ((X4_days_f vF vC aC vH aH vR aR p0).2.2.2.2.2.1), X3W g oR rR ((X4_days_f vF vC aC vH aH vR aR p0).2.2.2.2.2.2) aR, OLW g oL fL] H := hP.pick [1, 2, 3, 4, 0] rfl
  have hD : kd A [X4W g oF (kFr oC oS oH oR oT oB) vF, X0W g oC rC ((X4_days_f vF vC aC vH aH vR aR p0).2.2.1) ((X4_days_f vF vC aC vH aH vR aR p0).2.2.2.1), X2W g oH rH ((X4_days_f vF vC aC vH aH vR aR p0).2.2.2.2.1) oQ rQ ((X4_days_f vF vC aC vH aH vR aR p0).2.2.2.2.2.1), X3W g oR rR ((X4_days_f vF vC aC vH aH vR aR p0).2.2.2.2.2.2) aR, OLW g oL fL] := hD.pick [1, 2, 3, 4, 0] rfl rfl
  subst hr
  refine lv_i2l hx hb dL_days_7 rfl ?_
  refine kg_last C hP hD hS (i := 4) rfl rfl dL_days_8 (fun H locs hP hD hS => ?_)
  have hP : kp g [X4W g oF (kFr oC oS oH oR oT oB) vF, X0W g oC rC ((X4_days_f vF vC aC vH aH vR aR p0).2.2.1) ((X4_days_f vF vC aC vH aH vR aR p0).2.2.2.1), X2W g oH rH ((X4_days_f vF vC aC vH aH vR aR p0).2.2.2.2.1) oQ rQ ((X4_days_f vF vC aC vH aH vR aR p0).2.2.2.2.2.1), X3W g oR rR ((X4_days_f vF vC aC vH aH vR aR p0).2.2.2.2.2.2) aR, OLW g oL (vp_updL fL 0 (((X4_days_f vF vC aC vH aH vR aR p0).2.1).toInt64))] H := hP
  have hD : kd A [X4W g oF (kFr oC oS oH oR oT oB) vF, X0W g oC rC ((X4_days_f vF vC aC vH aH vR aR p0).2.2.1) ((X4_days_f vF vC aC vH aH vR aR p0).2.2.2.1), X2W g oH rH ((X4_days_f vF vC aC vH aH vR aR p0).2.2.2.2.1) oQ rQ ((X4_days_f vF vC aC vH aH vR aR p0).2.2.2.2.2.1), X3W g oR rR ((X4_days_f vF vC aC vH aH vR aR p0).2.2.2.2.2.2) aR, OLW g oL (vp_updL fL 0 (((X4_days_f vF vC aC vH aH vR aR p0).2.1).toInt64))] := hD
  refine lv_goto (tgt := 15) hx hb dL_days_9 (by decide) ?_
  refine lv_iconst (v := 0) hx hb dL_days_15 (by decide) ?_
  exact kL_ret C hP hD hS ⟨by rw [hc]; rfl, _, fun _ => k_updL0 _ _, rfl⟩ ⟨Nat.le_of_ble_eq_true rfl, Nat.le_of_ble_eq_true rfl⟩ dL_days_16
