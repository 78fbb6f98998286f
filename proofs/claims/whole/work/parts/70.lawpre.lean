/-! the law's loop -/
def kAh (s : State) : Nat → Prop := fun q => s.heap.size ≤ q
def kLb (i b oF oM oL oD : Nat) : List (Nat × Value) := [(5, .int (nI i)), (0, .ref b), (1, .ref oF), (2, .ref oM), (3, .ref oL), (4, .ref oD)]
theorem kLk1_0 {c : Nat} (h : kLk1 c = 0) : c = 0 := by
  unfold kLk1 at h
  split at h
  · assumption
  · exact absurd h (by decide)
theorem kLk2_0 {a c : Nat} (h : kLk2 a c = 0) : c = 0 := by
  unfold kLk2 at h
  split at h
  · assumption
  · split at h <;> exact absurd h (by decide)
theorem k_lcmp0 {x y : Int64} (h : x = y) : lg_cmp x y = 0 := by
  subst h
  unfold lg_cmp
  simp
theorem k_i2 (i j : Nat) : nI i + nI j = nI (i + j) := nI_add i j
theorem kf_split (n : Nat) (h : n < 18446744073709551616) : n = (decide (9223372036854775808 ≤ n)).toNat * 9223372036854775808 + n % 9223372036854775808 := by
  by_cases h2 : 9223372036854775808 ≤ n
  · rw [decide_eq_true h2]
    show n = 1 * 9223372036854775808 + n % 9223372036854775808
    omega
  · rw [decide_eq_false h2]
    show n = 0 * 9223372036854775808 + n % 9223372036854775808
    omega
theorem k_cmpS (z : Int) : compare z z = Ordering.eq := by
  simp [compare, compareOfLessAndEq]
/-- what is no NaN equals itself -/
theorem kf_self (x : UInt64) (h : vf_n64 x) : FP.dcmp x x = some .eq := by
  have hv : x.toNat % 9223372036854775808 ≤ 9218868437227405312 := by
    unfold vf_n64 at h
    rw [UInt64.le_iff_toNat_le, UInt64.toNat_and] at h
    have h2 : x.toNat &&& (2 ^ 63 - 1) ≤ 9218868437227405312 := h
    rw [Nat.and_two_pow_sub_one_eq_mod] at h2
    exact h2
  show FP.Core.order (FP.Core.decode FP.Core.b64 x.toNat) (FP.Core.decode FP.Core.b64 x.toNat) = some .eq
  rw [kf_split x.toNat (UInt64.toNat_lt x)]
  generalize x.toNat % 9223372036854775808 = v at hv
  generalize decide (9223372036854775808 ≤ x.toNat) = sg
  by_cases hlt : v < 9218868437227405312
  · obtain ⟨t, c, q, d, -⟩ := kfd_dec sg v hlt
    rw [d]
    exact congrArg some (k_cmpS _)
  · obtain rfl : v = 9218868437227405312 := by omega
    cases sg
    · decide +kernel
    · decide +kernel
section LAW
variable {p : Program} {l : Launch} {e : Env} {s : State} {m : MethodId} {below : List Frame} {meth : Method} {c : Code} {b L : Nat} {xs : Nat → Int32} {g : kG} {H : Heap} {locs : List Loc} {cells slots nL : Nat} {cc : ByteArray} {pc : Nat} {ls : Array Slot} {rest : List Value} {R : Room} {own : String} {ret' : Option FieldType} {args : Array Value} {Q : State → Prop}
/-- the script's number at i + j -/
theorem kg_script (C : kC p c cc s m args meth own g nL ret') (hX : va_X b L xs s s.heap) (hb : b < s.heap.size) (hS : va_S (kAh s) s.heap H locs) {i j : Nat} (hi : i + j < L) (hL : L ≤ 2048) (d : decode cc pc = .ok (.iaload, 1))
    (kk : W p l e R s m args below meth c H locs cells slots Q (F0 m (pc + 1) ls (.int (xs (i + j)) :: rest))) : W p l e R s m args below meth c H locs cells slots Q (F0 m pc ls (.int (nI i + nI j) :: .ref b :: rest)) := by
  rw [nI_add]
  refine va_sld C.1.1 C.1.2.1 hX hb (fun h => absurd hb (Nat.not_lt.mpr h)) hS (vp_in_nI hi (by omega)) d ?_
  rw [nI_clamp (by omega)]
  exact kk
end LAW
section LAW2
variable {p : Program} {l : Launch} {e : Env} {R : Room} {s : State} {m : MethodId} {args : Array Value} {below : List Frame} {meth : Method} {c : Code} {H : Heap} {locs : List Loc} {cells slots : Nat} {Q : State → Prop} {cc : ByteArray} {ls : Array Slot} {rest : List Value}
/-- x != 0, as javac writes it -/
theorem kg_ne0 (hx : p.tables.exec = Jvm.exec) (hb : c.code = cc) {pc t0 J : Nat} {off off2 : Int} {x : Int32} (d0 : decode cc pc = .ok (.ifCond .eq off, 3)) (h0 : (pc : Int) + off = (t0 : Int)) (d1 : decode cc (pc + 3) = .ok (.iconst 1, 1)) (d2 : decode cc (pc + 3 + 1) = .ok (.goto off2, 3)) (h2 : ((pc + 3 + 1 : Nat) : Int) + off2 = (J : Int)) (d3 : decode cc t0 = .ok (.iconst 0, 1)) (h3 : t0 + 1 = J)
    (kk : W p l e R s m args below meth c H locs cells slots Q (F0 m J ls (.int (b2i (decide (x ≠ 0))) :: rest))) : W p l e R s m args below meth c H locs cells slots Q (F0 m pc ls (.int x :: rest)) := by
  by_cases hz : x = 0
  · rw [decide_eq_false (fun h => h hz)] at kk
    refine lv_if_eq (tgt := t0) hx hb d0 h0 (fun _ => ?_) (fun z => absurd hz z)
    refine lv_iconst (v := 0) hx hb d3 (by decide) ?_
    rw [h3]
    exact kk
  · rw [decide_eq_true hz] at kk
    refine lv_if_eq (tgt := t0) hx hb d0 h0 (fun z => absurd z hz) (fun _ => ?_)
    refine lv_iconst (v := 1) hx hb d1 (by decide) ?_
    exact lv_goto (tgt := J) hx hb d2 h2 kk
end LAW2
/-- the loop's turn is over -/
def kNext (l : Launch) (p : Program) (e : Env) (s : State) (m : MethodId) (below : List Frame) (meth : Method) (c : Code) (b : Nat) (g : kG) (oF oC oS oH oR oT oB oM oL oD : Nat) (rC rS rH rR rT rM : Nat → Nat) (oQ : Nat → Nat) (rQ : Nat → Nat → Nat) (aR : Nat → Nat → Int32) (i N cells slots : Nat) : Prop :=
  ∀ (vF : Nat → Int32) (vC : Nat → Int32) (aC : Nat → Nat → Int32) (vS : Nat → Int32) (aS : Nat → Nat → Int32) (vH : Nat → Int32) (aH : Nat → (Nat → Int32) × (Nat → Nat → Int32)) (vR : Nat → Int32) (vT : Nat → Int32) (aT : Nat → Nat → Int32) (q n : Nat) (ml : Int32) (f : Nat → Int32) (t : Nat → Nat) (k : Nat) (vM : Nat → Int32) (aM : Nat → Nat → Int32) (fL : Nat → Int64) (fD : Nat → UInt64) (H : Heap) (locs : List Loc) (ls : Array Slot) (cells' slots' : Nat), kRel (N + 60) vF vC aC vS aS vH aH vR vT aT t k vM aM → ((n = 16 ∨ n = 34) ∧ k ≤ n ∧ sb_Fit f ∧ sb_Lat t k f) → kp g [X4W g oF (kFr oC oS oH oR oT oB) vF, X0W g oC rC vC aC, X0W g oS rS vS aS, X2W g oH rH vH oQ rQ aH, X3W g oR rR vR aR, X1W g oT rT vT aT, JOW oB q ml (nI k), JAW g q n f, X5W g oM rM vM aM, OLW g oL fL, ODW g oD fD] H → kd (kAh s) [X4W g oF (kFr oC oS oH oR oT oB) vF, X0W g oC rC vC aC, X0W g oS rS vS aS, X2W g oH rH vH oQ rQ aH, X3W g oR rR vR aR, X1W g oT rT vT aT, JOW oB q ml (nI k), JAW g q n f, X5W g oM rM vM aM, OLW g oL fL, ODW g oD fD] → va_S (kAh s) s.heap H locs → lv_has ls 9 (kLb i b oF oM oL oD) → cells' ≤ cells + 40 → slots' ≤ slots + 2000 →
    W p l e room_1 s m #[Value.ref b] below meth c H locs cells' slots' (lw_Z below #[Value.ref b] s) (F0 m 2358 ls [])

theorem pnL_jar : yL_jar.cls ≠ "java/lang/invoke/MethodHandle" ∧ yL_jar.cls ≠ "java/lang/invoke/VarHandle" ∧ (parseMethodDescriptor yL_jar.desc).map (fun d => d.parameters.length) = some 4 := by decide +kernel
theorem cs_L_jar : kCst yL_jar (Cond.codeWith yL_jar cL_jar 5 (some .int) [(0, 10, 13, 13)]) := ⟨k_w 3 33 rfl rfl, k_w 2 0 rfl rfl, k_w 3 34 rfl rfl⟩
theorem pnL_bag : yL_bag.cls ≠ "java/lang/invoke/MethodHandle" ∧ yL_bag.cls ≠ "java/lang/invoke/VarHandle" ∧ (parseMethodDescriptor yL_bag.desc).map (fun d => d.parameters.length) = some 3 := by decide +kernel
theorem cs_L_bag : kCst yL_bag (Cond.codeWith yL_bag cL_bag 4 (some .int) [(0, 9, 12, 13)]) := ⟨k_w 4 81 rfl rfl, k_w 2 0 rfl rfl, k_w 4 82 rfl rfl⟩
theorem pnL_fill : yL_fill.cls ≠ "java/lang/invoke/MethodHandle" ∧ yL_fill.cls ≠ "java/lang/invoke/VarHandle" ∧ (parseMethodDescriptor yL_fill.desc).map (fun d => d.parameters.length) = some 5 := by decide +kernel
theorem cs_L_fill : kCst yL_fill (Cond.codeWith yL_fill cL_fill 6 (some .int) [(0, 12, 15, 13)]) := ⟨k_w 4 88 rfl rfl, k_w 2 0 rfl rfl, k_w 4 89 rfl rfl⟩
theorem pnL_empty : yL_empty.cls ≠ "java/lang/invoke/MethodHandle" ∧ yL_empty.cls ≠ "java/lang/invoke/VarHandle" ∧ (parseMethodDescriptor yL_empty.desc).map (fun d => d.parameters.length) = some 4 := by decide +kernel
theorem cs_L_empty : kCst yL_empty (Cond.codeWith yL_empty cL_empty 5 (some .int) [(0, 10, 13, 13)]) := ⟨k_w 4 95 rfl rfl, k_w 2 0 rfl rfl, k_w 4 96 rfl rfl⟩
theorem pnL_beat : yL_beat.cls ≠ "java/lang/invoke/MethodHandle" ∧ yL_beat.cls ≠ "java/lang/invoke/VarHandle" ∧ (parseMethodDescriptor yL_beat.desc).map (fun d => d.parameters.length) = some 3 := by decide +kernel
theorem cs_L_beat : kCst yL_beat (Cond.codeWith yL_beat cL_beat 4 (some .int) [(0, 9, 12, 13)]) := ⟨k_w 4 102 rfl rfl, k_w 2 0 rfl rfl, k_w 4 103 rfl rfl⟩
theorem pnL_thumb : yL_thumb.cls ≠ "java/lang/invoke/MethodHandle" ∧ yL_thumb.cls ≠ "java/lang/invoke/VarHandle" ∧ (parseMethodDescriptor yL_thumb.desc).map (fun d => d.parameters.length) = some 3 := by decide +kernel
theorem cs_L_thumb : kCst yL_thumb (Cond.codeWith yL_thumb cL_thumb 4 (some .int) [(0, 9, 12, 13)]) := ⟨k_w 4 109 rfl rfl, k_w 2 0 rfl rfl, k_w 4 110 rfl rfl⟩
theorem pnL_weigh : yL_weigh.cls ≠ "java/lang/invoke/MethodHandle" ∧ yL_weigh.cls ≠ "java/lang/invoke/VarHandle" ∧ (parseMethodDescriptor yL_weigh.desc).map (fun d => d.parameters.length) = some 3 := by decide +kernel
theorem cs_L_weigh : kCst yL_weigh (Cond.codeWith yL_weigh cL_weigh 4 (some .int) [(0, 9, 12, 13)]) := ⟨k_w 4 116 rfl rfl, k_w 2 0 rfl rfl, k_w 4 117 rfl rfl⟩
theorem pnL_sell : yL_sell.cls ≠ "java/lang/invoke/MethodHandle" ∧ yL_sell.cls ≠ "java/lang/invoke/VarHandle" ∧ (parseMethodDescriptor yL_sell.desc).map (fun d => d.parameters.length) = some 3 := by decide +kernel
theorem cs_L_sell : kCst yL_sell (Cond.codeWith yL_sell cL_sell 4 (some .int) [(0, 9, 12, 13)]) := ⟨k_w 4 123 rfl rfl, k_w 2 0 rfl rfl, k_w 4 124 rfl rfl⟩
theorem pnL_oath : yL_oath.cls ≠ "java/lang/invoke/MethodHandle" ∧ yL_oath.cls ≠ "java/lang/invoke/VarHandle" ∧ (parseMethodDescriptor yL_oath.desc).map (fun d => d.parameters.length) = some 2 := by decide +kernel
theorem cs_L_oath : kCst yL_oath (Cond.codeWith yL_oath cL_oath 3 (some .int) [(0, 8, 11, 13)]) := ⟨k_w 4 130 rfl rfl, k_w 2 0 rfl rfl, k_w 4 131 rfl rfl⟩
theorem pnL_go : yL_go.cls ≠ "java/lang/invoke/MethodHandle" ∧ yL_go.cls ≠ "java/lang/invoke/VarHandle" ∧ (parseMethodDescriptor yL_go.desc).map (fun d => d.parameters.length) = some 3 := by decide +kernel
theorem cs_L_go : kCst yL_go (Cond.codeWith yL_go cL_go 4 (some .int) [(0, 9, 12, 13)]) := ⟨k_w 4 137 rfl rfl, k_w 2 0 rfl rfl, k_w 4 138 rfl rfl⟩
theorem pnL_seal : yL_seal.cls ≠ "java/lang/invoke/MethodHandle" ∧ yL_seal.cls ≠ "java/lang/invoke/VarHandle" ∧ (parseMethodDescriptor yL_seal.desc).map (fun d => d.parameters.length) = some 3 := by decide +kernel
theorem cs_L_seal : kCst yL_seal (Cond.codeWith yL_seal cL_seal 4 (some .int) [(0, 9, 12, 13)]) := ⟨k_w 4 144 rfl rfl, k_w 2 0 rfl rfl, k_w 4 145 rfl rfl⟩
theorem pnL_days : yL_days.cls ≠ "java/lang/invoke/MethodHandle" ∧ yL_days.cls ≠ "java/lang/invoke/VarHandle" ∧ (parseMethodDescriptor yL_days.desc).map (fun d => d.parameters.length) = some 3 := by decide +kernel
theorem cs_L_days : kCst yL_days (Cond.codeWith yL_days cL_days 4 (some .int) [(0, 9, 12, 13)]) := ⟨k_w 4 151 rfl rfl, k_w 2 0 rfl rfl, k_w 4 152 rfl rfl⟩
theorem pnL_jarOf : yL_jarOf.cls ≠ "java/lang/invoke/MethodHandle" ∧ yL_jarOf.cls ≠ "java/lang/invoke/VarHandle" ∧ (parseMethodDescriptor yL_jarOf.desc).map (fun d => d.parameters.length) = some 4 := by decide +kernel
theorem cs_L_jarOf : kCst yL_jarOf (Cond.codeWith yL_jarOf cL_jarOf 5 (some .int) [(0, 10, 13, 55)]) := ⟨k_w 4 158 rfl rfl, k_w 2 0 rfl rfl, k_w 4 159 rfl rfl⟩
theorem pnL_bagOf : yL_bagOf.cls ≠ "java/lang/invoke/MethodHandle" ∧ yL_bagOf.cls ≠ "java/lang/invoke/VarHandle" ∧ (parseMethodDescriptor yL_bagOf.desc).map (fun d => d.parameters.length) = some 4 := by decide +kernel
theorem cs_L_bagOf : kCst yL_bagOf (Cond.codeWith yL_bagOf cL_bagOf 5 (some .int) [(0, 10, 13, 55), (0, 10, 17, 60)]) := ⟨k_w 4 203 rfl rfl, k_w 2 0 rfl rfl, k_w 4 204 rfl rfl⟩
theorem pnL_weightOf : yL_weightOf.cls ≠ "java/lang/invoke/MethodHandle" ∧ yL_weightOf.cls ≠ "java/lang/invoke/VarHandle" ∧ (parseMethodDescriptor yL_weightOf.desc).map (fun d => d.parameters.length) = some 4 := by decide +kernel
theorem cs_L_weightOf : kCst yL_weightOf (Cond.codeWith yL_weightOf cL_weightOf 5 (some .int) [(0, 10, 13, 55), (0, 10, 17, 60)]) := ⟨k_w 4 234 rfl rfl, k_w 2 0 rfl rfl, k_w 4 235 rfl rfl⟩
theorem pnL_told : yL_told.cls ≠ "java/lang/invoke/MethodHandle" ∧ yL_told.cls ≠ "java/lang/invoke/VarHandle" ∧ (parseMethodDescriptor yL_told.desc).map (fun d => d.parameters.length) = some 3 := by decide +kernel
theorem cs_L_told : kCst yL_told (Cond.codeWith yL_told cL_told 4 (some .int) [(0, 9, 12, 55)]) := ⟨k_w 5 9 rfl rfl, k_w 2 0 rfl rfl, k_w 5 10 rfl rfl⟩
theorem pnL_toldAgain : yL_toldAgain.cls ≠ "java/lang/invoke/MethodHandle" ∧ yL_toldAgain.cls ≠ "java/lang/invoke/VarHandle" ∧ (parseMethodDescriptor yL_toldAgain.desc).map (fun d => d.parameters.length) = some 3 := by decide +kernel
theorem cs_L_toldAgain : kCst yL_toldAgain (Cond.codeWith yL_toldAgain cL_toldAgain 4 (some .int) [(0, 9, 12, 55)]) := ⟨k_w 5 18 rfl rfl, k_w 2 0 rfl rfl, k_w 5 19 rfl rfl⟩
theorem pnL_onPan : yL_onPan.cls ≠ "java/lang/invoke/MethodHandle" ∧ yL_onPan.cls ≠ "java/lang/invoke/VarHandle" ∧ (parseMethodDescriptor yL_onPan.desc).map (fun d => d.parameters.length) = some 3 := by decide +kernel
theorem cs_L_onPan : kCst yL_onPan (Cond.codeWith yL_onPan cL_onPan 4 (some .int) [(0, 9, 12, 55)]) := ⟨k_w 5 34 rfl rfl, k_w 2 0 rfl rfl, k_w 5 35 rfl rfl⟩
theorem pnL_rest : yL_rest.cls ≠ "java/lang/invoke/MethodHandle" ∧ yL_rest.cls ≠ "java/lang/invoke/VarHandle" ∧ (parseMethodDescriptor yL_rest.desc).map (fun d => d.parameters.length) = some 3 := by decide +kernel
theorem cs_L_rest : kCst yL_rest (Cond.codeWith yL_rest cL_rest 4 (some .int) [(0, 9, 12, 55)]) := ⟨k_w 5 41 rfl rfl, k_w 2 0 rfl rfl, k_w 5 42 rfl rfl⟩
theorem pnL_honest : yL_honest.cls ≠ "java/lang/invoke/MethodHandle" ∧ yL_honest.cls ≠ "java/lang/invoke/VarHandle" ∧ (parseMethodDescriptor yL_honest.desc).map (fun d => d.parameters.length) = some 3 := by decide +kernel
theorem cs_L_honest : kCst yL_honest (Cond.codeWith yL_honest cL_honest 4 (some .int) [(0, 9, 12, 55)]) := ⟨k_w 5 48 rfl rfl, k_w 2 0 rfl rfl, k_w 5 49 rfl rfl⟩
theorem pnL_pays : yL_pays.cls ≠ "java/lang/invoke/MethodHandle" ∧ yL_pays.cls ≠ "java/lang/invoke/VarHandle" ∧ (parseMethodDescriptor yL_pays.desc).map (fun d => d.parameters.length) = some 4 := by decide +kernel
theorem cs_L_pays : kCst yL_pays (Cond.codeWith yL_pays cL_pays 5 (some .int) [(0, 10, 13, 55), (0, 10, 17, 60)]) := ⟨k_w 5 55 rfl rfl, k_w 2 0 rfl rfl, k_w 5 56 rfl rfl⟩
theorem pnL_wouldGet : yL_wouldGet.cls ≠ "java/lang/invoke/MethodHandle" ∧ yL_wouldGet.cls ≠ "java/lang/invoke/VarHandle" ∧ (parseMethodDescriptor yL_wouldGet.desc).map (fun d => d.parameters.length) = some 4 := by decide +kernel
theorem cs_L_wouldGet : kCst yL_wouldGet (Cond.codeWith yL_wouldGet cL_wouldGet 5 (some .int) [(0, 10, 13, 55), (0, 10, 17, 86)]) := ⟨k_w 5 70 rfl rfl, k_w 2 0 rfl rfl, k_w 5 71 rfl rfl⟩
theorem pnL_bestMarket : yL_bestMarket.cls ≠ "java/lang/invoke/MethodHandle" ∧ yL_bestMarket.cls ≠ "java/lang/invoke/VarHandle" ∧ (parseMethodDescriptor yL_bestMarket.desc).map (fun d => d.parameters.length) = some 3 := by decide +kernel
theorem cs_L_bestMarket : kCst yL_bestMarket (Cond.codeWith yL_bestMarket cL_bestMarket 4 (some .int) [(0, 9, 12, 55), (0, 9, 15, 86)]) := ⟨k_w 5 100 rfl rfl, k_w 2 0 rfl rfl, k_w 5 101 rfl rfl⟩
theorem pnL_oathUntil : yL_oathUntil.cls ≠ "java/lang/invoke/MethodHandle" ∧ yL_oathUntil.cls ≠ "java/lang/invoke/VarHandle" ∧ (parseMethodDescriptor yL_oathUntil.desc).map (fun d => d.parameters.length) = some 3 := by decide +kernel
theorem cs_L_oathUntil : kCst yL_oathUntil (Cond.codeWith yL_oathUntil cL_oathUntil 4 (some .int) [(0, 9, 12, 55), (0, 9, 15, 86)]) := ⟨k_w 5 112 rfl rfl, k_w 2 0 rfl rfl, k_w 5 113 rfl rfl⟩
theorem pnL_isNoticed : yL_isNoticed.cls ≠ "java/lang/invoke/MethodHandle" ∧ yL_isNoticed.cls ≠ "java/lang/invoke/VarHandle" ∧ (parseMethodDescriptor yL_isNoticed.desc).map (fun d => d.parameters.length) = some 3 := by decide +kernel
theorem cs_L_isNoticed : kCst yL_isNoticed (Cond.codeWith yL_isNoticed cL_isNoticed 4 (some .int) [(0, 16, 19, 55)]) := ⟨k_w 5 121 rfl rfl, k_w 2 0 rfl rfl, k_w 5 122 rfl rfl⟩
theorem pnL_ranked : yL_ranked.cls ≠ "java/lang/invoke/MethodHandle" ∧ yL_ranked.cls ≠ "java/lang/invoke/VarHandle" ∧ (parseMethodDescriptor yL_ranked.desc).map (fun d => d.parameters.length) = some 3 := by decide +kernel
theorem cs_L_ranked : kCst yL_ranked (Cond.codeWith yL_ranked cL_ranked 4 (some .int) [(0, 9, 12, 86)]) := ⟨k_w 5 129 rfl rfl, k_w 2 0 rfl rfl, k_w 5 130 rfl rfl⟩
theorem pnL_append : yL_append.cls ≠ "java/lang/invoke/MethodHandle" ∧ yL_append.cls ≠ "java/lang/invoke/VarHandle" ∧ (parseMethodDescriptor yL_append.desc).map (fun d => d.parameters.length) = some 3 := by decide +kernel
theorem cs_L_append : kCst yL_append (Cond.codeWith yL_append cL_append 4 (some .int) [(0, 9, 12, 105)]) := ⟨k_w 5 145 rfl rfl, k_w 2 0 rfl rfl, k_w 5 146 rfl rfl⟩
theorem pnL_commands : yL_commands.cls ≠ "java/lang/invoke/MethodHandle" ∧ yL_commands.cls ≠ "java/lang/invoke/VarHandle" ∧ (parseMethodDescriptor yL_commands.desc).map (fun d => d.parameters.length) = some 2 := by decide +kernel
theorem cs_L_commands : kCst yL_commands (Cond.codeWith yL_commands cL_commands 3 (some .int) [(0, 8, 11, 60), (0, 8, 14, 13)]) := ⟨k_w 5 169 rfl rfl, k_w 2 0 rfl rfl, k_w 5 170 rfl rfl⟩
theorem pnL_reason : yL_reason.cls ≠ "java/lang/invoke/MethodHandle" ∧ yL_reason.cls ≠ "java/lang/invoke/VarHandle" ∧ (parseMethodDescriptor yL_reason.desc).map (fun d => d.parameters.length) = some 3 := by decide +kernel
theorem cs_L_reason : kCst yL_reason (Cond.codeWith yL_reason cL_reason 4 (some .int) [(0, 9, 12, 60), (0, 9, 15, 86)]) := ⟨k_w 6 25 rfl rfl, k_w 2 0 rfl rfl, k_w 6 26 rfl rfl⟩
theorem pnL_line : yL_line.cls ≠ "java/lang/invoke/MethodHandle" ∧ yL_line.cls ≠ "java/lang/invoke/VarHandle" ∧ (parseMethodDescriptor yL_line.desc).map (fun d => d.parameters.length) = some 3 := by decide +kernel
theorem cs_L_line : kCst yL_line (Cond.codeWith yL_line cL_line 4 (some .int) [(0, 9, 12, 55)]) := ⟨k_w 6 34 rfl rfl, k_w 2 0 rfl rfl, k_w 6 35 rfl rfl⟩
theorem pnL_character : yL_character.cls ≠ "java/lang/invoke/MethodHandle" ∧ yL_character.cls ≠ "java/lang/invoke/VarHandle" ∧ (parseMethodDescriptor yL_character.desc).map (fun d => d.parameters.length) = some 3 := by decide +kernel
theorem cs_L_character : kCst yL_character (Cond.codeWith yL_character cL_character 4 (some .int) [(0, 9, 12, 55)]) := ⟨k_w 7 51 rfl rfl, k_w 2 0 rfl rfl, k_w 7 52 rfl rfl⟩
theorem pnL_meanDust : yL_meanDust.cls ≠ "java/lang/invoke/MethodHandle" ∧ yL_meanDust.cls ≠ "java/lang/invoke/VarHandle" ∧ (parseMethodDescriptor yL_meanDust.desc).map (fun d => d.parameters.length) = some 2 := by decide +kernel
theorem cs_L_meanDust : kCst yL_meanDust (Cond.codeWith yL_meanDust cL_meanDust 3 (some .int) [(0, 8, 11, 124)]) := ⟨k_w 7 69 rfl rfl, k_w 2 0 rfl rfl, k_w 7 70 rfl rfl⟩
theorem pnL_honestShare : yL_honestShare.cls ≠ "java/lang/invoke/MethodHandle" ∧ yL_honestShare.cls ≠ "java/lang/invoke/VarHandle" ∧ (parseMethodDescriptor yL_honestShare.desc).map (fun d => d.parameters.length) = some 2 := by decide +kernel
theorem cs_L_honestShare : kCst yL_honestShare (Cond.codeWith yL_honestShare cL_honestShare 3 (some .int) [(0, 7, 10, 124)]) := ⟨k_w 7 94 rfl rfl, k_w 2 0 rfl rfl, k_w 7 95 rfl rfl⟩
theorem pnL_account : yL_account.cls ≠ "java/lang/invoke/MethodHandle" ∧ yL_account.cls ≠ "java/lang/invoke/VarHandle" ∧ (parseMethodDescriptor yL_account.desc).map (fun d => d.parameters.length) = some 3 := by decide +kernel
theorem cs_L_account : kCst yL_account (Cond.codeWith yL_account cL_account 4 (some .int) [(0, 9, 12, 60)]) := ⟨k_w 7 102 rfl rfl, k_w 2 0 rfl rfl, k_w 7 103 rfl rfl⟩
theorem pnL_undo : yL_undo.cls ≠ "java/lang/invoke/MethodHandle" ∧ yL_undo.cls ≠ "java/lang/invoke/VarHandle" ∧ (parseMethodDescriptor yL_undo.desc).map (fun d => d.parameters.length) = some 2 := by decide +kernel
theorem cs_L_undo : kCst yL_undo (Cond.codeWith yL_undo cL_undo 3 (some .int) [(0, 8, 11, 105)]) := ⟨k_w 7 115 rfl rfl, k_w 2 0 rfl rfl, k_w 7 116 rfl rfl⟩
theorem pnL_restore : yL_restore.cls ≠ "java/lang/invoke/MethodHandle" ∧ yL_restore.cls ≠ "java/lang/invoke/VarHandle" ∧ (parseMethodDescriptor yL_restore.desc).map (fun d => d.parameters.length) = some 2 := by decide +kernel
theorem cs_L_restore : kCst yL_restore (Cond.codeWith yL_restore cL_restore 3 (some .int) [(0, 8, 11, 105)]) := ⟨k_w 7 127 rfl rfl, k_w 2 0 rfl rfl, k_w 7 128 rfl rfl⟩
theorem pnX5_jar : yX5_jar.cls ≠ "java/lang/invoke/MethodHandle" ∧ yX5_jar.cls ≠ "java/lang/invoke/VarHandle" ∧ (parseMethodDescriptor yX5_jar.desc).map (fun d => d.parameters.length) = some 2 := by decide +kernel
theorem ca_X5_jar : kCal yX5_jar (Cond.code yX5_jar cX5_jar 4 (some .int)) := ⟨k_w 7 212 rfl rfl, k_w 7 213 rfl rfl, k_w 2 10 rfl rfl, k_w 7 214 rfl rfl⟩
theorem pnX5_bag : yX5_bag.cls ≠ "java/lang/invoke/MethodHandle" ∧ yX5_bag.cls ≠ "java/lang/invoke/VarHandle" ∧ (parseMethodDescriptor yX5_bag.desc).map (fun d => d.parameters.length) = some 1 := by decide +kernel
theorem ca_X5_bag : kCal yX5_bag (Cond.code yX5_bag cX5_bag 4 (some .int)) := ⟨k_w 7 239 rfl rfl, k_w 8 0 rfl rfl, k_w 2 10 rfl rfl, k_w 8 1 rfl rfl⟩
theorem pnX5_fill : yX5_fill.cls ≠ "java/lang/invoke/MethodHandle" ∧ yX5_fill.cls ≠ "java/lang/invoke/VarHandle" ∧ (parseMethodDescriptor yX5_fill.desc).map (fun d => d.parameters.length) = some 3 := by decide +kernel
theorem ca_X5_fill : kCal yX5_fill (Cond.code yX5_fill cX5_fill 4 (some .int)) := ⟨k_w 8 7 rfl rfl, k_w 8 8 rfl rfl, k_w 2 10 rfl rfl, k_w 8 9 rfl rfl⟩
theorem pnX5_empty : yX5_empty.cls ≠ "java/lang/invoke/MethodHandle" ∧ yX5_empty.cls ≠ "java/lang/invoke/VarHandle" ∧ (parseMethodDescriptor yX5_empty.desc).map (fun d => d.parameters.length) = some 2 := by decide +kernel
theorem ca_X5_empty : kCal yX5_empty (Cond.code yX5_empty cX5_empty 3 (some .int)) := ⟨k_w 8 31 rfl rfl, k_w 8 32 rfl rfl, k_w 2 10 rfl rfl, k_w 8 33 rfl rfl⟩
theorem pnX5_beat : yX5_beat.cls ≠ "java/lang/invoke/MethodHandle" ∧ yX5_beat.cls ≠ "java/lang/invoke/VarHandle" ∧ (parseMethodDescriptor yX5_beat.desc).map (fun d => d.parameters.length) = some 1 := by decide +kernel
theorem ca_X5_beat : kCal yX5_beat (Cond.code yX5_beat cX5_beat 2 (some .int)) := ⟨k_w 8 43 rfl rfl, k_w 8 44 rfl rfl, k_w 2 10 rfl rfl, k_w 8 45 rfl rfl⟩
theorem pnX5_thumb : yX5_thumb.cls ≠ "java/lang/invoke/MethodHandle" ∧ yX5_thumb.cls ≠ "java/lang/invoke/VarHandle" ∧ (parseMethodDescriptor yX5_thumb.desc).map (fun d => d.parameters.length) = some 1 := by decide +kernel
theorem ca_X5_thumb : kCal yX5_thumb (Cond.code yX5_thumb cX5_thumb 2 (some .int)) := ⟨k_w 8 51 rfl rfl, k_w 8 52 rfl rfl, k_w 2 10 rfl rfl, k_w 8 53 rfl rfl⟩
theorem pnX5_weigh : yX5_weigh.cls ≠ "java/lang/invoke/MethodHandle" ∧ yX5_weigh.cls ≠ "java/lang/invoke/VarHandle" ∧ (parseMethodDescriptor yX5_weigh.desc).map (fun d => d.parameters.length) = some 1 := by decide +kernel
theorem ca_X5_weigh : kCal yX5_weigh (Cond.code yX5_weigh cX5_weigh 2 (some .int)) := ⟨k_w 8 67 rfl rfl, k_w 8 68 rfl rfl, k_w 2 10 rfl rfl, k_w 8 69 rfl rfl⟩
theorem pnX5_sell : yX5_sell.cls ≠ "java/lang/invoke/MethodHandle" ∧ yX5_sell.cls ≠ "java/lang/invoke/VarHandle" ∧ (parseMethodDescriptor yX5_sell.desc).map (fun d => d.parameters.length) = some 1 := by decide +kernel
theorem ca_X5_sell : kCal yX5_sell (Cond.code yX5_sell cX5_sell 2 (some .int)) := ⟨k_w 8 95 rfl rfl, k_w 8 96 rfl rfl, k_w 2 10 rfl rfl, k_w 8 97 rfl rfl⟩
theorem pnX5_oath : yX5_oath.cls ≠ "java/lang/invoke/MethodHandle" ∧ yX5_oath.cls ≠ "java/lang/invoke/VarHandle" ∧ (parseMethodDescriptor yX5_oath.desc).map (fun d => d.parameters.length) = some 0 := by decide +kernel
theorem ca_X5_oath : kCal yX5_oath (Cond.code yX5_oath cX5_oath 1 (some .int)) := ⟨k_w 8 114 rfl rfl, k_w 8 115 rfl rfl, k_w 2 10 rfl rfl, k_w 8 116 rfl rfl⟩
theorem pnX5_go : yX5_go.cls ≠ "java/lang/invoke/MethodHandle" ∧ yX5_go.cls ≠ "java/lang/invoke/VarHandle" ∧ (parseMethodDescriptor yX5_go.desc).map (fun d => d.parameters.length) = some 1 := by decide +kernel
theorem ca_X5_go : kCal yX5_go (Cond.code yX5_go cX5_go 2 (some .int)) := ⟨k_w 8 122 rfl rfl, k_w 8 123 rfl rfl, k_w 2 10 rfl rfl, k_w 8 124 rfl rfl⟩
theorem pnX5_seal : yX5_seal.cls ≠ "java/lang/invoke/MethodHandle" ∧ yX5_seal.cls ≠ "java/lang/invoke/VarHandle" ∧ (parseMethodDescriptor yX5_seal.desc).map (fun d => d.parameters.length) = some 1 := by decide +kernel
theorem ca_X5_seal : kCal yX5_seal (Cond.code yX5_seal cX5_seal 2 (some .int)) := ⟨k_w 8 141 rfl rfl, k_w 8 142 rfl rfl, k_w 2 10 rfl rfl, k_w 8 143 rfl rfl⟩
theorem pnX5_days : yX5_days.cls ≠ "java/lang/invoke/MethodHandle" ∧ yX5_days.cls ≠ "java/lang/invoke/VarHandle" ∧ (parseMethodDescriptor yX5_days.desc).map (fun d => d.parameters.length) = some 1 := by decide +kernel
theorem ca_X5_days : kCal yX5_days (Cond.code yX5_days cX5_days 2 (some .int)) := ⟨k_w 8 152 rfl rfl, k_w 8 153 rfl rfl, k_w 2 10 rfl rfl, k_w 8 154 rfl rfl⟩
theorem pnX5_jarOf : yX5_jarOf.cls ≠ "java/lang/invoke/MethodHandle" ∧ yX5_jarOf.cls ≠ "java/lang/invoke/VarHandle" ∧ (parseMethodDescriptor yX5_jarOf.desc).map (fun d => d.parameters.length) = some 2 := by decide +kernel
theorem ca_X5_jarOf : kCal yX5_jarOf (Cond.code yX5_jarOf cX5_jarOf 3 (some .int)) := ⟨k_w 8 164 rfl rfl, k_w 8 165 rfl rfl, k_w 2 10 rfl rfl, k_w 8 166 rfl rfl⟩
theorem pnX5_bagOf : yX5_bagOf.cls ≠ "java/lang/invoke/MethodHandle" ∧ yX5_bagOf.cls ≠ "java/lang/invoke/VarHandle" ∧ (parseMethodDescriptor yX5_bagOf.desc).map (fun d => d.parameters.length) = some 2 := by decide +kernel
theorem ca_X5_bagOf : kCal yX5_bagOf (Cond.code yX5_bagOf cX5_bagOf 3 (some .int)) := ⟨k_w 8 168 rfl rfl, k_w 8 169 rfl rfl, k_w 2 10 rfl rfl, k_w 8 170 rfl rfl⟩
theorem pnX5_weightOf : yX5_weightOf.cls ≠ "java/lang/invoke/MethodHandle" ∧ yX5_weightOf.cls ≠ "java/lang/invoke/VarHandle" ∧ (parseMethodDescriptor yX5_weightOf.desc).map (fun d => d.parameters.length) = some 2 := by decide +kernel
theorem ca_X5_weightOf : kCal yX5_weightOf (Cond.code yX5_weightOf cX5_weightOf 4 (some .int)) := ⟨k_w 8 172 rfl rfl, k_w 8 173 rfl rfl, k_w 2 10 rfl rfl, k_w 8 174 rfl rfl⟩
theorem pnX5_toldAgain : yX5_toldAgain.cls ≠ "java/lang/invoke/MethodHandle" ∧ yX5_toldAgain.cls ≠ "java/lang/invoke/VarHandle" ∧ (parseMethodDescriptor yX5_toldAgain.desc).map (fun d => d.parameters.length) = some 1 := by decide +kernel
theorem ca_X5_toldAgain : kCal yX5_toldAgain (Cond.code yX5_toldAgain cX5_toldAgain 2 (some .int)) := ⟨k_w 8 180 rfl rfl, k_w 8 181 rfl rfl, k_w 2 10 rfl rfl, k_w 8 182 rfl rfl⟩
theorem pnX5_onPan : yX5_onPan.cls ≠ "java/lang/invoke/MethodHandle" ∧ yX5_onPan.cls ≠ "java/lang/invoke/VarHandle" ∧ (parseMethodDescriptor yX5_onPan.desc).map (fun d => d.parameters.length) = some 1 := by decide +kernel
theorem ca_X5_onPan : kCal yX5_onPan (Cond.code yX5_onPan cX5_onPan 3 (some .int)) := ⟨k_w 8 185 rfl rfl, k_w 8 186 rfl rfl, k_w 2 10 rfl rfl, k_w 8 187 rfl rfl⟩
theorem pnX5_rest : yX5_rest.cls ≠ "java/lang/invoke/MethodHandle" ∧ yX5_rest.cls ≠ "java/lang/invoke/VarHandle" ∧ (parseMethodDescriptor yX5_rest.desc).map (fun d => d.parameters.length) = some 1 := by decide +kernel
theorem ca_X5_rest : kCal yX5_rest (Cond.code yX5_rest cX5_rest 3 (some .int)) := ⟨k_w 8 189 rfl rfl, k_w 8 190 rfl rfl, k_w 2 10 rfl rfl, k_w 8 191 rfl rfl⟩
theorem pnX5_honest : yX5_honest.cls ≠ "java/lang/invoke/MethodHandle" ∧ yX5_honest.cls ≠ "java/lang/invoke/VarHandle" ∧ (parseMethodDescriptor yX5_honest.desc).map (fun d => d.parameters.length) = some 1 := by decide +kernel
theorem ca_X5_honest : kCal yX5_honest (Cond.code yX5_honest cX5_honest 2 (some .int)) := ⟨k_w 8 193 rfl rfl, k_w 8 194 rfl rfl, k_w 2 10 rfl rfl, k_w 8 195 rfl rfl⟩
theorem pnX5_pays : yX5_pays.cls ≠ "java/lang/invoke/MethodHandle" ∧ yX5_pays.cls ≠ "java/lang/invoke/VarHandle" ∧ (parseMethodDescriptor yX5_pays.desc).map (fun d => d.parameters.length) = some 2 := by decide +kernel
theorem ca_X5_pays : kCal yX5_pays (Cond.code yX5_pays cX5_pays 3 (some .int)) := ⟨k_w 8 197 rfl rfl, k_w 8 198 rfl rfl, k_w 2 10 rfl rfl, k_w 8 199 rfl rfl⟩
theorem pnX5_wouldGet : yX5_wouldGet.cls ≠ "java/lang/invoke/MethodHandle" ∧ yX5_wouldGet.cls ≠ "java/lang/invoke/VarHandle" ∧ (parseMethodDescriptor yX5_wouldGet.desc).map (fun d => d.parameters.length) = some 2 := by decide +kernel
theorem ca_X5_wouldGet : kCal yX5_wouldGet (Cond.code yX5_wouldGet cX5_wouldGet 3 (some .int)) := ⟨k_w 8 201 rfl rfl, k_w 8 202 rfl rfl, k_w 2 10 rfl rfl, k_w 8 203 rfl rfl⟩
theorem pnX5_bestMarket : yX5_bestMarket.cls ≠ "java/lang/invoke/MethodHandle" ∧ yX5_bestMarket.cls ≠ "java/lang/invoke/VarHandle" ∧ (parseMethodDescriptor yX5_bestMarket.desc).map (fun d => d.parameters.length) = some 1 := by decide +kernel
theorem ca_X5_bestMarket : kCal yX5_bestMarket (Cond.code yX5_bestMarket cX5_bestMarket 6 (some .int)) := ⟨k_w 8 209 rfl rfl, k_w 8 210 rfl rfl, k_w 2 10 rfl rfl, k_w 8 211 rfl rfl⟩
theorem pnX5_oathUntil : yX5_oathUntil.cls ≠ "java/lang/invoke/MethodHandle" ∧ yX5_oathUntil.cls ≠ "java/lang/invoke/VarHandle" ∧ (parseMethodDescriptor yX5_oathUntil.desc).map (fun d => d.parameters.length) = some 1 := by decide +kernel
theorem ca_X5_oathUntil : kCal yX5_oathUntil (Cond.code yX5_oathUntil cX5_oathUntil 2 (some .int)) := ⟨k_w 8 213 rfl rfl, k_w 8 214 rfl rfl, k_w 2 10 rfl rfl, k_w 8 215 rfl rfl⟩
theorem pnX5_isNoticed : yX5_isNoticed.cls ≠ "java/lang/invoke/MethodHandle" ∧ yX5_isNoticed.cls ≠ "java/lang/invoke/VarHandle" ∧ (parseMethodDescriptor yX5_isNoticed.desc).map (fun d => d.parameters.length) = some 1 := by decide +kernel
theorem ca_X5_isNoticed : kCal yX5_isNoticed (Cond.code yX5_isNoticed cX5_isNoticed 2 (some .boolean)) := ⟨k_w 8 217 rfl rfl, k_w 8 218 rfl rfl, k_w 2 10 rfl rfl, k_w 8 219 rfl rfl⟩
theorem pnX5_ranked : yX5_ranked.cls ≠ "java/lang/invoke/MethodHandle" ∧ yX5_ranked.cls ≠ "java/lang/invoke/VarHandle" ∧ (parseMethodDescriptor yX5_ranked.desc).map (fun d => d.parameters.length) = some 1 := by decide +kernel
theorem ca_X5_ranked : kCal yX5_ranked (Cond.code yX5_ranked cX5_ranked 7 (some .int)) := ⟨k_w 8 221 rfl rfl, k_w 8 222 rfl rfl, k_w 2 10 rfl rfl, k_w 8 223 rfl rfl⟩
theorem pnX5_append : yX5_append.cls ≠ "java/lang/invoke/MethodHandle" ∧ yX5_append.cls ≠ "java/lang/invoke/VarHandle" ∧ (parseMethodDescriptor yX5_append.desc).map (fun d => d.parameters.length) = some 1 := by decide +kernel
theorem ca_X5_append : kCal yX5_append (Cond.code yX5_append cX5_append 2 (some .int)) := ⟨k_w 8 225 rfl rfl, k_w 8 226 rfl rfl, k_w 2 10 rfl rfl, k_w 8 227 rfl rfl⟩
theorem pnX5_commands : yX5_commands.cls ≠ "java/lang/invoke/MethodHandle" ∧ yX5_commands.cls ≠ "java/lang/invoke/VarHandle" ∧ (parseMethodDescriptor yX5_commands.desc).map (fun d => d.parameters.length) = some 0 := by decide +kernel
theorem ca_X5_commands : kCal yX5_commands (Cond.code yX5_commands cX5_commands 4 (some .int)) := ⟨k_w 8 229 rfl rfl, k_w 8 230 rfl rfl, k_w 2 10 rfl rfl, k_w 8 231 rfl rfl⟩
theorem pnX5_faultPosition : yX5_faultPosition.cls ≠ "java/lang/invoke/MethodHandle" ∧ yX5_faultPosition.cls ≠ "java/lang/invoke/VarHandle" ∧ (parseMethodDescriptor yX5_faultPosition.desc).map (fun d => d.parameters.length) = some 0 := by decide +kernel
theorem ca_X5_faultPosition : kCal yX5_faultPosition (Cond.code yX5_faultPosition cX5_faultPosition 1 (some .int)) := ⟨k_w 9 13 rfl rfl, k_w 9 14 rfl rfl, k_w 2 10 rfl rfl, k_w 9 15 rfl rfl⟩
theorem pnX5_reason : yX5_reason.cls ≠ "java/lang/invoke/MethodHandle" ∧ yX5_reason.cls ≠ "java/lang/invoke/VarHandle" ∧ (parseMethodDescriptor yX5_reason.desc).map (fun d => d.parameters.length) = some 1 := by decide +kernel
theorem ca_X5_reason : kCal yX5_reason (Cond.code yX5_reason cX5_reason 2 (some .int)) := ⟨k_w 9 17 rfl rfl, k_w 9 18 rfl rfl, k_w 2 10 rfl rfl, k_w 9 19 rfl rfl⟩
theorem pnX5_line : yX5_line.cls ≠ "java/lang/invoke/MethodHandle" ∧ yX5_line.cls ≠ "java/lang/invoke/VarHandle" ∧ (parseMethodDescriptor yX5_line.desc).map (fun d => d.parameters.length) = some 1 := by decide +kernel
theorem ca_X5_line : kCal yX5_line (Cond.code yX5_line cX5_line 4 (some .int)) := ⟨k_w 9 21 rfl rfl, k_w 9 22 rfl rfl, k_w 2 10 rfl rfl, k_w 9 23 rfl rfl⟩
theorem pnX5_character : yX5_character.cls ≠ "java/lang/invoke/MethodHandle" ∧ yX5_character.cls ≠ "java/lang/invoke/VarHandle" ∧ (parseMethodDescriptor yX5_character.desc).map (fun d => d.parameters.length) = some 1 := by decide +kernel
theorem ca_X5_character : kCal yX5_character (Cond.code yX5_character cX5_character 2 (some .char)) := ⟨k_w 9 29 rfl rfl, k_w 9 30 rfl rfl, k_w 2 10 rfl rfl, k_w 9 31 rfl rfl⟩
theorem ca_X5_meanDust : kCal yX5_meanDust (Cond.code yX5_meanDust cX5_meanDust 2 (some .float)) := ⟨k_w 9 33 rfl rfl, k_w 9 34 rfl rfl, k_w 2 10 rfl rfl, k_w 9 35 rfl rfl⟩
theorem ca_X5_honestShare : kCal yX5_honestShare (Cond.code yX5_honestShare cX5_honestShare 1 (some .double)) := ⟨k_w 9 37 rfl rfl, k_w 9 38 rfl rfl, k_w 2 10 rfl rfl, k_w 9 39 rfl rfl⟩
theorem pnX5_account : yX5_account.cls ≠ "java/lang/invoke/MethodHandle" ∧ yX5_account.cls ≠ "java/lang/invoke/VarHandle" ∧ (parseMethodDescriptor yX5_account.desc).map (fun d => d.parameters.length) = some 1 := by decide +kernel
theorem ca_X5_account : kCal yX5_account (Cond.code yX5_account cX5_account 4 (some .int)) := ⟨k_w 9 41 rfl rfl, k_w 9 42 rfl rfl, k_w 2 10 rfl rfl, k_w 9 43 rfl rfl⟩
theorem pnX5_undo : yX5_undo.cls ≠ "java/lang/invoke/MethodHandle" ∧ yX5_undo.cls ≠ "java/lang/invoke/VarHandle" ∧ (parseMethodDescriptor yX5_undo.desc).map (fun d => d.parameters.length) = some 0 := by decide +kernel
theorem ca_X5_undo : kCal yX5_undo (Cond.code yX5_undo cX5_undo 2 (some .int)) := ⟨k_w 9 45 rfl rfl, k_w 9 46 rfl rfl, k_w 2 10 rfl rfl, k_w 9 47 rfl rfl⟩
theorem pnX5_save : yX5_save.cls ≠ "java/lang/invoke/MethodHandle" ∧ yX5_save.cls ≠ "java/lang/invoke/VarHandle" ∧ (parseMethodDescriptor yX5_save.desc).map (fun d => d.parameters.length) = some 0 := by decide +kernel
theorem ca_X5_save : kCal yX5_save (Cond.code yX5_save cX5_save 2 (some .int)) := ⟨k_w 9 49 rfl rfl, k_w 9 50 rfl rfl, k_w 2 10 rfl rfl, k_w 9 51 rfl rfl⟩
theorem pnX5_restore : yX5_restore.cls ≠ "java/lang/invoke/MethodHandle" ∧ yX5_restore.cls ≠ "java/lang/invoke/VarHandle" ∧ (parseMethodDescriptor yX5_restore.desc).map (fun d => d.parameters.length) = some 0 := by decide +kernel
theorem ca_X5_restore : kCal yX5_restore (Cond.code yX5_restore cX5_restore 2 (some .int)) := ⟨k_w 9 53 rfl rfl, k_w 9 54 rfl rfl, k_w 2 10 rfl rfl, k_w 9 55 rfl rfl⟩
theorem pnX5_thrown : yX5_thrown.cls ≠ "java/lang/invoke/MethodHandle" ∧ yX5_thrown.cls ≠ "java/lang/invoke/VarHandle" ∧ (parseMethodDescriptor yX5_thrown.desc).map (fun d => d.parameters.length) = some 0 := by decide +kernel
theorem ca_X5_thrown : kCal yX5_thrown (Cond.code yX5_thrown cX5_thrown 1 (some .int)) := ⟨k_w 7 208 rfl rfl, k_w 7 209 rfl rfl, k_w 2 10 rfl rfl, k_w 7 210 rfl rfl⟩
theorem pnX4_faultPosition : yX4_faultPosition.cls ≠ "java/lang/invoke/MethodHandle" ∧ yX4_faultPosition.cls ≠ "java/lang/invoke/VarHandle" ∧ (parseMethodDescriptor yX4_faultPosition.desc).map (fun d => d.parameters.length) = some 0 := by decide +kernel
theorem ca_X4_faultPosition : kCal yX4_faultPosition (Cond.code yX4_faultPosition cX4_faultPosition 1 (some .int)) := ⟨k_w 3 18 rfl rfl, k_w 3 19 rfl rfl, k_w 2 1 rfl rfl, k_w 3 20 rfl rfl⟩
theorem pnX4_save : yX4_save.cls ≠ "java/lang/invoke/MethodHandle" ∧ yX4_save.cls ≠ "java/lang/invoke/VarHandle" ∧ (parseMethodDescriptor yX4_save.desc).map (fun d => d.parameters.length) = some 0 := by decide +kernel
theorem ca_X4_save : kCal yX4_save (Cond.code yX4_save cX4_save 1 (some .int)) := ⟨k_w 3 22 rfl rfl, k_w 3 23 rfl rfl, k_w 2 1 rfl rfl, k_w 3 24 rfl rfl⟩
