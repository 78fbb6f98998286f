
def kMF (l : Launch) (y : MethodName) (ws : List Cond) (f lo mc ms : Nat) (g : kG) (av : List Value) (cs : List va_W) (post : UInt32 → List va_W → Prop) : Prop :=
  ∀ sz : Nat, Met l y ws (kRm f mc ms lo) (kPre g av cs sz) (va_Qf post (fun u t => kp g u t.heap ∧ kd (va_A cs.flatten sz) u) (va_A cs.flatten sz)) mc ms (va_A cs.flatten sz)
def kXF (l : Launch) (y : MethodName) (ws : List Cond) (f lo mc ms : Nat) (g : kG) (av : List Value) (cs : List va_W) (post : UInt32 → List va_W → Prop) (px : String → List va_W → Prop) : Prop :=
  ∀ sz : Nat, vx_Met l y ws (kRm f mc ms lo) (kPre g av cs sz) (va_Qf post (fun u t => kp g u t.heap ∧ kd (va_A cs.flatten sz) u) (va_A cs.flatten sz)) (kXC g px (va_A cs.flatten sz)) mc ms (va_A cs.flatten sz)
section KROWSF
variable {p : Program} {l : Launch} {e : Env} {R : Room} {s : State} {m : MethodId} {args : Array Value} {below : List Frame} {meth : Method} {c : Code} {H : Heap} {locs : List Loc} {cells slots : Nat} {Q : State → Prop}
variable {cc : ByteArray} {pc nL : Nat} {ls : Array Slot} {st rest : List Value} {A : Nat → Prop} {H0 : Heap} {g : kG} {cs : List va_W} {own : String} {ret : Option FieldType}
theorem kMF_of {y : MethodName} {ws : List Cond} {f lo mc ms : Nat} {av : List Value} {post : UInt32 → List va_W → Prop} {lv : List (Nat × Value)} (hy : plainName y.cls = true) (hw : ws = Cond.code y cc nL ret :: kW) (hav : (lg_sl av).length ≤ nL) (hlv : lv_args 0 av = lv)
    (body : ∀ (p : Program) (e : Env) (s : State) (m : MethodId) (args : Array Value) (below : List Frame) (meth : Method) (c : Code) (ls : Array Slot) (A : Nat → Prop), kC p c cc s m args meth y.cls g nL ret → kp g cs s.heap → kd A cs → kE g A s s.heap → (∀ q, s.heap.size ≤ q → A q) → va_S A s.heap s.heap [] → lv_has ls nL lv →
      W p l e (kRm f mc ms lo) s m args below meth c s.heap [] 0 0 (MQ below (va_Qf post (fun u t => kp g u t.heap ∧ kd A u) A) args s mc ms A) (F0 m 0 ls [])) : kMF l y ws f lo mc ms g av cs post := by
  intro sz
  refine Met.ofW (cc := cc) (maxL := nL) (ret := ret) hy hw ?_
  intro p e s m args below meth c s₁ B hml hv
  obtain ⟨rfl, hsz, hP, hD, hE⟩ := hv
  subst hsz
  have hl := lv_entry av (n := nL) hav
  rw [lg_entry_eq]
  subst hlv
  exact body p e s m _ below meth c _ _ ⟨⟨B.exec, B.bytes, hml, findClass_of_methodNamed B.named, fun w h => atoms_spec (ws := ws) B.pre w (by rw [hw]; exact List.mem_cons_of_mem _ h)⟩, ⟨hE.1, hE.2.1⟩, B.returns, B.notSynchronized⟩ hP hD.self hE (fun q h => Or.inr h) va_S.rf hl
theorem kXF_of {y : MethodName} {ws : List Cond} {f lo mc ms : Nat} {av : List Value} {post : UInt32 → List va_W → Prop} {px : String → List va_W → Prop} {lv : List (Nat × Value)} (hy : plainName y.cls = true) (hw : ws = Cond.code y cc nL ret :: kW) (hav : (lg_sl av).length ≤ nL) (hlv : lv_args 0 av = lv)
    (body : ∀ (p : Program) (e : Env) (s : State) (m : MethodId) (args : Array Value) (below : List Frame) (meth : Method) (c : Code) (ls : Array Slot) (A : Nat → Prop), (∀ x ∈ c.exceptionTable.toList, False) → kC p c cc s m args meth y.cls g nL ret → kp g cs s.heap → kd A cs → kE g A s s.heap → (∀ q, s.heap.size ≤ q → A q) → va_S A s.heap s.heap [] → lv_has ls nL lv →
      W p l e (kRm f mc ms lo) s m args below meth c s.heap [] 0 0 (vx_MQ below (va_Qf post (fun u t => kp g u t.heap ∧ kd A u) A) (kXC g px A) args s mc ms A) (F0 m 0 ls [])) : kXF l y ws f lo mc ms g av cs post px := by
  intro sz
  refine vx_ofW (cc := cc) (maxL := nL) (ret := ret) hy hw ?_
  intro p e s m args below meth c s₁ B hml htb hv
  obtain ⟨rfl, hsz, hP, hD, hE⟩ := hv
  subst hsz
  have hl := lv_entry av (n := nL) hav
  rw [lg_entry_eq]
  subst hlv
  exact body p e s m _ below meth c _ _ htb ⟨⟨B.exec, B.bytes, hml, findClass_of_methodNamed B.named, fun w h => atoms_spec (ws := ws) B.pre w (by rw [hw]; exact List.mem_cons_of_mem _ h)⟩, ⟨hE.1, hE.2.1⟩, B.returns, B.notSynchronized⟩ hP hD.self hE (fun q h => Or.inr h) va_S.rf hl
theorem kMF_ret {x : UInt32} {u : List va_W} {post : UInt32 → List va_W → Prop} (C : kC p c cc s m args meth own g nL (some .float)) (hP : kp g u H) (hD : kd A u) (hS : va_S A s.heap H locs) (hp : post x u) (d : decode cc pc = .ok (.freturn, 1)) : W p l e R s m args below meth c H locs cells slots (MQ below (va_Qf post (fun u t => kp g u t.heap ∧ kd A u) A) args s cells slots A) (F0 m pc ls [.float x]) :=
  W.fret C.1.1 C.1.2.1 C.2.2.1 (fun t ht _ => ⟨⟨x, u, rfl, hp, by rw [ht]; exact hP, hD⟩, hS.F ht⟩) hS.2.2 d C.2.2.2
theorem kXF_ret {x : UInt32} {u : List va_W} {post : UInt32 → List va_W → Prop} {XC : String → State → State → Prop} {mc ms : Nat} (C : kC p c cc s m args meth own g nL (some .float)) (hP : kp g u H) (hD : kd A u) (hS : va_S A s.heap H locs) (hp : post x u) (hc : cells ≤ mc ∧ slots ≤ ms) (d : decode cc pc = .ok (.freturn, 1)) : W p l e R s m args below meth c H locs cells slots (vx_MQ below (va_Qf post (fun u t => kp g u t.heap ∧ kd A u) A) XC args s mc ms A) (F0 m pc ls [.float x]) :=
  W.widen hc.1 hc.2 (vx_ret (kMF_ret C hP hD hS hp d))
end KROWSF

def kMD (l : Launch) (y : MethodName) (ws : List Cond) (f lo mc ms : Nat) (g : kG) (av : List Value) (cs : List va_W) (post : UInt64 → List va_W → Prop) : Prop :=
  ∀ sz : Nat, Met l y ws (kRm f mc ms lo) (kPre g av cs sz) (va_Qd post (fun u t => kp g u t.heap ∧ kd (va_A cs.flatten sz) u) (va_A cs.flatten sz)) mc ms (va_A cs.flatten sz)
def kXD (l : Launch) (y : MethodName) (ws : List Cond) (f lo mc ms : Nat) (g : kG) (av : List Value) (cs : List va_W) (post : UInt64 → List va_W → Prop) (px : String → List va_W → Prop) : Prop :=
  ∀ sz : Nat, vx_Met l y ws (kRm f mc ms lo) (kPre g av cs sz) (va_Qd post (fun u t => kp g u t.heap ∧ kd (va_A cs.flatten sz) u) (va_A cs.flatten sz)) (kXC g px (va_A cs.flatten sz)) mc ms (va_A cs.flatten sz)
section KROWSD
variable {p : Program} {l : Launch} {e : Env} {R : Room} {s : State} {m : MethodId} {args : Array Value} {below : List Frame} {meth : Method} {c : Code} {H : Heap} {locs : List Loc} {cells slots : Nat} {Q : State → Prop}
variable {cc : ByteArray} {pc nL : Nat} {ls : Array Slot} {st rest : List Value} {A : Nat → Prop} {H0 : Heap} {g : kG} {cs : List va_W} {own : String} {ret : Option FieldType}
theorem kMD_of {y : MethodName} {ws : List Cond} {f lo mc ms : Nat} {av : List Value} {post : UInt64 → List va_W → Prop} {lv : List (Nat × Value)} (hy : plainName y.cls = true) (hw : ws = Cond.code y cc nL ret :: kW) (hav : (lg_sl av).length ≤ nL) (hlv : lv_args 0 av = lv)
    (body : ∀ (p : Program) (e : Env) (s : State) (m : MethodId) (args : Array Value) (below : List Frame) (meth : Method) (c : Code) (ls : Array Slot) (A : Nat → Prop), kC p c cc s m args meth y.cls g nL ret → kp g cs s.heap → kd A cs → kE g A s s.heap → (∀ q, s.heap.size ≤ q → A q) → va_S A s.heap s.heap [] → lv_has ls nL lv →
      W p l e (kRm f mc ms lo) s m args below meth c s.heap [] 0 0 (MQ below (va_Qd post (fun u t => kp g u t.heap ∧ kd A u) A) args s mc ms A) (F0 m 0 ls [])) : kMD l y ws f lo mc ms g av cs post := by
  intro sz
  refine Met.ofW (cc := cc) (maxL := nL) (ret := ret) hy hw ?_
  intro p e s m args below meth c s₁ B hml hv
  obtain ⟨rfl, hsz, hP, hD, hE⟩ := hv
  subst hsz
  have hl := lv_entry av (n := nL) hav
  rw [lg_entry_eq]
  subst hlv
  exact body p e s m _ below meth c _ _ ⟨⟨B.exec, B.bytes, hml, findClass_of_methodNamed B.named, fun w h => atoms_spec (ws := ws) B.pre w (by rw [hw]; exact List.mem_cons_of_mem _ h)⟩, ⟨hE.1, hE.2.1⟩, B.returns, B.notSynchronized⟩ hP hD.self hE (fun q h => Or.inr h) va_S.rf hl
theorem kXD_of {y : MethodName} {ws : List Cond} {f lo mc ms : Nat} {av : List Value} {post : UInt64 → List va_W → Prop} {px : String → List va_W → Prop} {lv : List (Nat × Value)} (hy : plainName y.cls = true) (hw : ws = Cond.code y cc nL ret :: kW) (hav : (lg_sl av).length ≤ nL) (hlv : lv_args 0 av = lv)
    (body : ∀ (p : Program) (e : Env) (s : State) (m : MethodId) (args : Array Value) (below : List Frame) (meth : Method) (c : Code) (ls : Array Slot) (A : Nat → Prop), (∀ x ∈ c.exceptionTable.toList, False) → kC p c cc s m args meth y.cls g nL ret → kp g cs s.heap → kd A cs → kE g A s s.heap → (∀ q, s.heap.size ≤ q → A q) → va_S A s.heap s.heap [] → lv_has ls nL lv →
      W p l e (kRm f mc ms lo) s m args below meth c s.heap [] 0 0 (vx_MQ below (va_Qd post (fun u t => kp g u t.heap ∧ kd A u) A) (kXC g px A) args s mc ms A) (F0 m 0 ls [])) : kXD l y ws f lo mc ms g av cs post px := by
  intro sz
  refine vx_ofW (cc := cc) (maxL := nL) (ret := ret) hy hw ?_
  intro p e s m args below meth c s₁ B hml htb hv
  obtain ⟨rfl, hsz, hP, hD, hE⟩ := hv
  subst hsz
  have hl := lv_entry av (n := nL) hav
  rw [lg_entry_eq]
  subst hlv
  exact body p e s m _ below meth c _ _ htb ⟨⟨B.exec, B.bytes, hml, findClass_of_methodNamed B.named, fun w h => atoms_spec (ws := ws) B.pre w (by rw [hw]; exact List.mem_cons_of_mem _ h)⟩, ⟨hE.1, hE.2.1⟩, B.returns, B.notSynchronized⟩ hP hD.self hE (fun q h => Or.inr h) va_S.rf hl
theorem kMD_ret {x : UInt64} {u : List va_W} {post : UInt64 → List va_W → Prop} (C : kC p c cc s m args meth own g nL (some .double)) (hP : kp g u H) (hD : kd A u) (hS : va_S A s.heap H locs) (hp : post x u) (d : decode cc pc = .ok (.dreturn, 1)) : W p l e R s m args below meth c H locs cells slots (MQ below (va_Qd post (fun u t => kp g u t.heap ∧ kd A u) A) args s cells slots A) (F0 m pc ls [.double x]) :=
  W.dret C.1.1 C.1.2.1 C.2.2.1 (fun t ht _ => ⟨⟨x, u, rfl, hp, by rw [ht]; exact hP, hD⟩, hS.F ht⟩) hS.2.2 d C.2.2.2
theorem kXD_ret {x : UInt64} {u : List va_W} {post : UInt64 → List va_W → Prop} {XC : String → State → State → Prop} {mc ms : Nat} (C : kC p c cc s m args meth own g nL (some .double)) (hP : kp g u H) (hD : kd A u) (hS : va_S A s.heap H locs) (hp : post x u) (hc : cells ≤ mc ∧ slots ≤ ms) (d : decode cc pc = .ok (.dreturn, 1)) : W p l e R s m args below meth c H locs cells slots (vx_MQ below (va_Qd post (fun u t => kp g u t.heap ∧ kd A u) A) XC args s mc ms A) (F0 m pc ls [.double x]) :=
  W.widen hc.1 hc.2 (vx_ret (kMD_ret C hP hD hS hp d))
end KROWSD
theorem kw135 : Cond.initialized "java/lang/ArithmeticException" ∈ kW := k_w 2 29 rfl rfl
theorem kw1395 : Cond.classLink RX4 239 "java/lang/ArithmeticException" ∈ kW := k_w 7 89 rfl rfl
theorem pnX5_meanDust : yX5_meanDust.cls ≠ "java/lang/invoke/MethodHandle" ∧ yX5_meanDust.cls ≠ "java/lang/invoke/VarHandle" ∧ (parseMethodDescriptor yX5_meanDust.desc).map (fun d => d.parameters.length) = some 0 := by decide +kernel
def X5_meanDust_f (vM : Nat → Int32) (aM : Nat → Nat → Int32) : UInt32 × (Nat → Int32) :=
  if aM 0 5 = 0 then (FP.i2f 0, upd (upd vM 21 0) 21 1) else (FP.fdiv (FP.i2f (X5_dust_f (upd vM 21 0) aM)) (FP.i2f (aM 0 5)), upd vM 21 0)
abbrev wX5_meanDust : List Cond := Cond.code yX5_meanDust cX5_meanDust 2 (some .float) :: kW
theorem X5_meanDust_c (l : Launch) (g : kG) (oM : Nat) (rM : Nat → Nat) (vM : Nat → Int32) (aM : Nat → Nat → Int32) (hB5 : ∃ n : Nat, n ≤ 6 ∧ aM 0 5 = nI n) : kMF l yX5_meanDust wX5_meanDust 2 60 0 0 g [.ref oM] [X5W g oM rM vM aM] (fun x u => x = (X5_meanDust_f vM aM).1 ∧ u = [X5W g oM rM (X5_meanDust_f vM aM).2 aM]) := by
  refine kMF_of (cc := cX5_meanDust) (nL := 2) (ret := (some .float)) (lv := [(0, .ref oM)]) (by decide) rfl (Nat.le_of_ble_eq_true rfl) rfl ?_
  intro p e s m args below meth c ls A C hP hD hE hA hS hl
  have C : kC p c cX5_meanDust s m args meth RX5 g 2 (some .float) := C
  have hx := C.1.1
  have hb := C.1.2.1
  have hts := C.1.2.2.2.2
  refine lv_aload_n hx hb dX5_meanDust_0 rfl (lv_at hl 0 rfl) ?_
  refine lv_iconst (v := 0) hx hb dX5_meanDust_1 (by decide) ?_
  refine kg_put C kFX5 (k := 21) kw1467 hP hD hS (i := 0) (q := 0) rfl rfl (by decide) rfl rfl rfl (Nat.le_of_ble_eq_true rfl) X5s_21 rfl dX5_meanDust_2 (fun H locs hP hD hS => ?_)
  have hP : kp g [X5W g oM rM (upd vM 21 0) aM] H := hP
  have hD : kd A [X5W g oM rM (upd vM 21 0) aM] := hD
  refine lv_aload_n hx hb dX5_meanDust_5 rfl (lv_at hl 0 rfl) ?_
  refine kg_get C kFX5 (k := 0) kw1446 hP (i := 0) (q := 0) rfl rfl (by decide) rfl dX5_meanDust_6 ?_
  refine lv_iconst (v := 5) hx hb dX5_meanDust_9 (by decide) ?_
  refine kg_iald C hP (i := 0) (q := 1) rfl rfl (by unfold vp_in; decide) dX5_meanDust_10 ?_
  refine k_top (y := aM 0 5) rfl ?_
  refine lv_istore_n (lv' := [(1, .int (aM 0 5)), (0, .ref oM)]) hx hb dX5_meanDust_11 rfl hl (by decide) rfl (fun ls hl => ?_)
  refine lv_iload_n hx hb dX5_meanDust_12 rfl (lv_at hl 0 rfl) ?_
  by_cases h0 : aM 0 5 = 0
  · refine lv_if_ne (tgt := 23) hx hb dX5_meanDust_13 (by decide) (fun z => absurd h0 z) (fun z => ?_)
    refine lv_aload_n hx hb dX5_meanDust_16 rfl (lv_at hl 1 rfl) ?_
    refine lv_iconst (v := 1) hx hb dX5_meanDust_17 (by decide) ?_
    refine kM_V (As := [.int 1]) (rest := []) (wr := []) C (X5_raises_c l g oM rM (upd vM 21 0) aM 1) (cwV 1 hts (k_gV kw1540 ca_X5_raises) rfl rfl rfl ⟨rfl, pnX5_raises⟩ ⟨Nat.le_of_ble_eq_true rfl, Nat.le_of_ble_eq_true rfl⟩) hE hS hA hP hD [0] [] rfl rfl ⟨rfl, rfl, by decide⟩ (k_recv C kFX5 hP (i := 0) (q := 0) rfl rfl) rfl hl.1 rfl rfl dX5_meanDust_18 ⟨Nat.le_of_ble_eq_true rfl, Nat.le_of_ble_eq_true rfl⟩ (fun r u H locs hp hP hD hS => ?_)
    obtain ⟨rfl, rfl⟩ := hp
    have hP : kp g [X5W g oM rM (upd (upd vM 21 0) 21 1) aM] H := hP
    have hD : kd A [X5W g oM rM (upd (upd vM 21 0) 21 1) aM] := hD
    refine lv_i2f hx hb dX5_meanDust_21 ?_
    have hF : X5_meanDust_f vM aM = (FP.i2f 0, upd (upd vM 21 0) 21 1) := if_pos h0
    exact kMF_ret C hP hD hS ⟨by rw [hF]; rfl, by rw [hF]⟩ dX5_meanDust_22
  refine lv_if_ne (tgt := 23) hx hb dX5_meanDust_13 (by decide) (fun z => ?_) (fun z => absurd z h0)
  refine lv_aload_n hx hb dX5_meanDust_23 rfl (lv_at hl 1 rfl) ?_
  refine kR_V (As := []) (rest := []) C (X5_dust_c l g oM rM (upd vM 21 0) aM hB5) (cwV 0 hts (k_gV kw1705 ca_X5_dust) rfl rfl rfl ⟨rfl, pnX5_dust⟩ ⟨Nat.le_of_ble_eq_true rfl, Nat.le_of_ble_eq_true rfl⟩) hE hS hP (k_recv C kFX5 hP (i := 0) (q := 0) rfl rfl) rfl hl.1 rfl rfl dX5_meanDust_24 ⟨Nat.le_of_ble_eq_true rfl, Nat.le_of_ble_eq_true rfl⟩ ?_
  refine lv_i2f hx hb dX5_meanDust_27 ?_
  refine lv_iload_n hx hb dX5_meanDust_28 rfl (lv_at hl 0 rfl) ?_
  refine lv_i2f hx hb dX5_meanDust_29 ?_
  refine lv_fdiv hx hb dX5_meanDust_30 (kff_ok _ _ h0) ?_
  have hF : X5_meanDust_f vM aM = (FP.fdiv (FP.i2f (X5_dust_f (upd vM 21 0) aM)) (FP.i2f (aM 0 5)), upd vM 21 0) := if_neg h0
  exact kMF_ret C hP hD hS ⟨by rw [hF], by rw [hF]⟩ dX5_meanDust_31
theorem pnX5_honestShare : yX5_honestShare.cls ≠ "java/lang/invoke/MethodHandle" ∧ yX5_honestShare.cls ≠ "java/lang/invoke/VarHandle" ∧ (parseMethodDescriptor yX5_honestShare.desc).map (fun d => d.parameters.length) = some 0 := by decide +kernel
def X5_honestShare_f (vM : Nat → Int32) (aM : Nat → Nat → Int32) : UInt64 × (Nat → Int32) :=
  if aM 0 8 = 0 then (FP.i2d 0, upd (upd vM 21 0) 21 1) else (FP.ddiv (FP.i2d (aM 0 6)) (FP.i2d (aM 0 7)), upd vM 21 0)
abbrev wX5_honestShare : List Cond := Cond.code yX5_honestShare cX5_honestShare 1 (some .double) :: kW
theorem X5_honestShare_c (l : Launch) (g : kG) (oM : Nat) (rM : Nat → Nat) (vM : Nat → Int32) (aM : Nat → Nat → Int32) (h87 : ¬ aM 0 8 = 0 → aM 0 7 ≠ 0) : kMD l yX5_honestShare wX5_honestShare 2 60 0 0 g [.ref oM] [X5W g oM rM vM aM] (fun x u => x = (X5_honestShare_f vM aM).1 ∧ u = [X5W g oM rM (X5_honestShare_f vM aM).2 aM]) := by
  refine kMD_of (cc := cX5_honestShare) (nL := 1) (ret := (some .double)) (lv := [(0, .ref oM)]) (by decide) rfl (Nat.le_of_ble_eq_true rfl) rfl ?_
  intro p e s m args below meth c ls A C hP hD hE hA hS hl
  have C : kC p c cX5_honestShare s m args meth RX5 g 1 (some .double) := C
  have hx := C.1.1
  have hb := C.1.2.1
  have hts := C.1.2.2.2.2
  refine lv_aload_n hx hb dX5_honestShare_0 rfl (lv_at hl 0 rfl) ?_
  refine lv_iconst (v := 0) hx hb dX5_honestShare_1 (by decide) ?_
  refine kg_put C kFX5 (k := 21) kw1467 hP hD hS (i := 0) (q := 0) rfl rfl (by decide) rfl rfl rfl (Nat.le_of_ble_eq_true rfl) X5s_21 rfl dX5_honestShare_2 (fun H locs hP hD hS => ?_)
  have hP : kp g [X5W g oM rM (upd vM 21 0) aM] H := hP
  have hD : kd A [X5W g oM rM (upd vM 21 0) aM] := hD
  refine lv_aload_n hx hb dX5_honestShare_5 rfl (lv_at hl 0 rfl) ?_
  refine kg_get C kFX5 (k := 0) kw1446 hP (i := 0) (q := 0) rfl rfl (by decide) rfl dX5_honestShare_6 ?_
  refine lv_bipush (v := 8) hx hb dX5_honestShare_9 (by decide) ?_
  refine kg_iald C hP (i := 0) (q := 1) rfl rfl (by unfold vp_in; decide) dX5_honestShare_11 ?_
  refine k_top (y := aM 0 8) rfl ?_
  by_cases h0 : aM 0 8 = 0
  · refine lv_if_ne (tgt := 22) hx hb dX5_honestShare_12 (by decide) (fun z => absurd h0 z) (fun z => ?_)
    refine lv_aload_n hx hb dX5_honestShare_15 rfl (lv_at hl 0 rfl) ?_
    refine lv_iconst (v := 1) hx hb dX5_honestShare_16 (by decide) ?_
    refine kM_V (As := [.int 1]) (rest := []) (wr := []) C (X5_raises_c l g oM rM (upd vM 21 0) aM 1) (cwV 1 hts (k_gV kw1540 ca_X5_raises) rfl rfl rfl ⟨rfl, pnX5_raises⟩ ⟨Nat.le_of_ble_eq_true rfl, Nat.le_of_ble_eq_true rfl⟩) hE hS hA hP hD [0] [] rfl rfl ⟨rfl, rfl, by decide⟩ (k_recv C kFX5 hP (i := 0) (q := 0) rfl rfl) rfl hl.1 rfl rfl dX5_honestShare_17 ⟨Nat.le_of_ble_eq_true rfl, Nat.le_of_ble_eq_true rfl⟩ (fun r u H locs hp hP hD hS => ?_)
    obtain ⟨rfl, rfl⟩ := hp
    have hP : kp g [X5W g oM rM (upd (upd vM 21 0) 21 1) aM] H := hP
    have hD : kd A [X5W g oM rM (upd (upd vM 21 0) 21 1) aM] := hD
    refine lv_i2d hx hb dX5_honestShare_20 ?_
    have hF : X5_honestShare_f vM aM = (FP.i2d 0, upd (upd vM 21 0) 21 1) := if_pos h0
    exact kMD_ret C hP hD hS ⟨by rw [hF]; rfl, by rw [hF]⟩ dX5_honestShare_21
  refine lv_if_ne (tgt := 22) hx hb dX5_honestShare_12 (by decide) (fun z => ?_) (fun z => absurd z h0)
  refine lv_aload_n hx hb dX5_honestShare_22 rfl (lv_at hl 0 rfl) ?_
  refine kg_get C kFX5 (k := 0) kw1446 hP (i := 0) (q := 0) rfl rfl (by decide) rfl dX5_honestShare_23 ?_
  refine lv_bipush (v := 6) hx hb dX5_honestShare_26 (by decide) ?_
  refine kg_iald C hP (i := 0) (q := 1) rfl rfl (by unfold vp_in; decide) dX5_honestShare_28 ?_
  refine k_top (y := aM 0 6) rfl ?_
  refine lv_i2d hx hb dX5_honestShare_29 ?_
  refine lv_aload_n hx hb dX5_honestShare_30 rfl (lv_at hl 0 rfl) ?_
  refine kg_get C kFX5 (k := 0) kw1446 hP (i := 0) (q := 0) rfl rfl (by decide) rfl dX5_honestShare_31 ?_
  refine lv_bipush (v := 7) hx hb dX5_honestShare_34 (by decide) ?_
  refine kg_iald C hP (i := 0) (q := 1) rfl rfl (by unfold vp_in; decide) dX5_honestShare_36 ?_
  refine k_top (y := aM 0 7) rfl ?_
  refine lv_i2d hx hb dX5_honestShare_37 ?_
  refine lv_ddiv hx hb dX5_honestShare_38 (kfd_ok _ _ (h87 h0)) ?_
  have hF : X5_honestShare_f vM aM = (FP.ddiv (FP.i2d (aM 0 6)) (FP.i2d (aM 0 7)), upd vM 21 0) := if_neg h0
  exact kMD_ret C hP hD hS ⟨by rw [hF], by rw [hF]⟩ dX5_honestShare_39
theorem pnX4_meanDust : yX4_meanDust.cls ≠ "java/lang/invoke/MethodHandle" ∧ yX4_meanDust.cls ≠ "java/lang/invoke/VarHandle" ∧ (parseMethodDescriptor yX4_meanDust.desc).map (fun d => d.parameters.length) = some 0 := by decide +kernel
theorem ca_X4_meanDust : kCal yX4_meanDust (Cond.code yX4_meanDust cX4_meanDust 1 (some .float)) := ⟨k_w 7 86 rfl rfl, k_w 7 87 rfl rfl, k_w 2 1 rfl rfl, k_w 7 88 rfl rfl⟩
def X4_meanDust_f (vC : Nat → Int32) (aC : Nat → Nat → Int32) : Nat × UInt32 :=
  if vC 7 = 0 then (6, 0) else (0, FP.fdiv (FP.i2f (X0_dustTogether_f vC aC)) (FP.i2f (vC 7)))
abbrev wX4_meanDust : List Cond := Cond.code yX4_meanDust cX4_meanDust 1 (some .float) :: kW
theorem X4_meanDust_c (l : Launch) (g : kG) (oF : Nat) (vF : Nat → Int32) (oS oH oR oT oB : Nat) (oC : Nat) (rC : Nat → Nat) (vC : Nat → Int32) (aC : Nat → Nat → Int32) (nb : Nat) (hnb : nb ≤ 6) (hv7 : vC 7 = nI nb) (hfl : l.stackTraces = false) : kXF l yX4_meanDust wX4_meanDust 7 200 1 6 g [.ref oF] [X4W g oF (kFr oC oS oH oR oT oB) vF, X0W g oC rC vC aC] (fun x u => (X4_meanDust_f vC aC).1 = 0 ∧ x = (X4_meanDust_f vC aC).2 ∧ u = [X4W g oF (kFr oC oS oH oR oT oB) vF, X0W g oC rC vC aC]) (fun E u => (X4_meanDust_f vC aC).1 ≠ 0 ∧ E = kEx (X4_meanDust_f vC aC).1 ∧ u = [X4W g oF (kFr oC oS oH oR oT oB) vF, X0W g oC rC vC aC]) := by
  refine kXF_of (cc := cX4_meanDust) (nL := 1) (ret := (some .float)) (lv := [(0, .ref oF)]) (by decide) rfl (Nat.le_of_ble_eq_true rfl) rfl ?_
  intro p e s m args below meth c ls A htb C hP hD hE hA hS hl
  have C : kC p c cX4_meanDust s m args meth RX4 g 1 (some .float) := C
  have hx := C.1.1
  have hb := C.1.2.1
  have hts := C.1.2.2.2.2
  refine lv_aload_n hx hb dX4_meanDust_0 rfl (lv_at hl 0 rfl) ?_
  refine kg_get (v := .ref oC) C kFX4 (k := 0) kw338 hP (i := 0) (q := 0) rfl rfl (by decide) rfl dX4_meanDust_1 ?_
  refine kg_getN C kFX0 (k := 7) (List.mem_of_getElem? (i := 15) rfl) hP (i := 1) (q := 0) rfl rfl (by decide) rfl dX4_meanDust_4 ?_
  by_cases h0 : vC 7 = 0
  · refine lv_if_ne (tgt := 20) hx hb dX4_meanDust_7 (by decide) (fun z => absurd h0 z) (fun z => ?_)
    have hF : X4_meanDust_f vC aC = (6, 0) := if_pos h0
    exact kX_throwS (names := ["java/lang/RuntimeException", "java/lang/Exception"]) C hfl htb (by decide) (by decide) kw1395 kw135 (List.mem_of_getElem? (i := 22) rfl) kx_at_ArithmeticException hE hS hl.1 hP hD ⟨by rw [hF]; exact (by decide : (6 : Nat) ≠ 0), by rw [hF]; rfl, rfl⟩ dX4_meanDust_10 dX4_meanDust_13 dX4_meanDust_14 dX4_meanDust_16 dX4_meanDust_19 (by decide) (Nat.le_of_ble_eq_true rfl) ⟨Nat.le_of_ble_eq_true rfl, Nat.le_of_ble_eq_true rfl⟩ ⟨Nat.le_of_ble_eq_true rfl, Nat.le_of_ble_eq_true rfl⟩
  refine lv_if_ne (tgt := 20) hx hb dX4_meanDust_7 (by decide) (fun z => ?_) (fun z => absurd z h0)
  refine lv_aload_n hx hb dX4_meanDust_20 rfl (lv_at hl 0 rfl) ?_
  refine kg_get (v := .ref oC) C kFX4 (k := 0) kw338 hP (i := 0) (q := 0) rfl rfl (by decide) rfl dX4_meanDust_21 ?_
  refine kR_VN (As := []) (rest := []) C (X0_dustTogether_c l g oC rC vC aC nb hnb hv7) ⟨va_cnB (host := "SpiceScale") 0 hts (k_gI ca_X0_dustTogether.2.2.2) rfl rfl rfl (C.2.1.2 _ (List.mem_of_getElem? (i := 81) rfl)) (hts _ ca_X0_dustTogether.2.2.1) pnX0_dustTogether ⟨Nat.le_of_ble_eq_true rfl, Nat.le_of_ble_eq_true rfl⟩, hts _ ca_X0_dustTogether.1, hts _ ca_X0_dustTogether.2.1⟩ hE hS (hP.pick [1] rfl) (k_recv C kFX0 hP (i := 1) (q := 0) rfl rfl) rfl hl.1 rfl rfl dX4_meanDust_24 ⟨Nat.le_of_ble_eq_true rfl, Nat.le_of_ble_eq_true rfl⟩ ?_
  refine lv_i2f hx hb dX4_meanDust_27 ?_
  refine lv_aload_n hx hb dX4_meanDust_28 rfl (lv_at hl 0 rfl) ?_
  refine kg_get (v := .ref oC) C kFX4 (k := 0) kw338 hP (i := 0) (q := 0) rfl rfl (by decide) rfl dX4_meanDust_29 ?_
  refine kg_getN C kFX0 (k := 7) (List.mem_of_getElem? (i := 15) rfl) hP (i := 1) (q := 0) rfl rfl (by decide) rfl dX4_meanDust_32 ?_
  refine lv_i2f hx hb dX4_meanDust_35 ?_
  refine lv_fdiv hx hb dX4_meanDust_36 (kff_ok _ _ h0) ?_
  have hF : X4_meanDust_f vC aC = (0, FP.fdiv (FP.i2f (X0_dustTogether_f vC aC)) (FP.i2f (vC 7))) := if_neg h0
  exact kXF_ret C hP hD hS ⟨by rw [hF], by rw [hF], rfl⟩ ⟨Nat.le_of_ble_eq_true rfl, Nat.le_of_ble_eq_true rfl⟩ dX4_meanDust_37
theorem pnX4_honestShare : yX4_honestShare.cls ≠ "java/lang/invoke/MethodHandle" ∧ yX4_honestShare.cls ≠ "java/lang/invoke/VarHandle" ∧ (parseMethodDescriptor yX4_honestShare.desc).map (fun d => d.parameters.length) = some 0 := by decide +kernel
theorem ca_X4_honestShare : kCal yX4_honestShare (Cond.code yX4_honestShare cX4_honestShare 1 (some .double)) := ⟨k_w 7 97 rfl rfl, k_w 7 98 rfl rfl, k_w 2 1 rfl rfl, k_w 7 99 rfl rfl⟩
def X4_honestShare_f (vC : Nat → Int32) (aC : Nat → Nat → Int32) : Nat × UInt64 :=
  if vC 17 = 0 then (6, 0) else (0, FP.ddiv (FP.i2d (vC 16)) (FP.i2d (vC 17)))
abbrev wX4_honestShare : List Cond := Cond.code yX4_honestShare cX4_honestShare 1 (some .double) :: kW
theorem X4_honestShare_c (l : Launch) (g : kG) (oF : Nat) (vF : Nat → Int32) (oS oH oR oT oB : Nat) (oC : Nat) (rC : Nat → Nat) (vC : Nat → Int32) (aC : Nat → Nat → Int32) (hfl : l.stackTraces = false) : kXD l yX4_honestShare wX4_honestShare 7 200 1 6 g [.ref oF] [X4W g oF (kFr oC oS oH oR oT oB) vF, X0W g oC rC vC aC] (fun x u => (X4_honestShare_f vC aC).1 = 0 ∧ x = (X4_honestShare_f vC aC).2 ∧ u = [X4W g oF (kFr oC oS oH oR oT oB) vF, X0W g oC rC vC aC]) (fun E u => (X4_honestShare_f vC aC).1 ≠ 0 ∧ E = kEx (X4_honestShare_f vC aC).1 ∧ u = [X4W g oF (kFr oC oS oH oR oT oB) vF, X0W g oC rC vC aC]) := by
  refine kXD_of (cc := cX4_honestShare) (nL := 1) (ret := (some .double)) (lv := [(0, .ref oF)]) (by decide) rfl (Nat.le_of_ble_eq_true rfl) rfl ?_
  intro p e s m args below meth c ls A htb C hP hD hE hA hS hl
  have C : kC p c cX4_honestShare s m args meth RX4 g 1 (some .double) := C
  have hx := C.1.1
  have hb := C.1.2.1
  have hts := C.1.2.2.2.2
  refine lv_aload_n hx hb dX4_honestShare_0 rfl (lv_at hl 0 rfl) ?_
  refine kg_get (v := .ref oC) C kFX4 (k := 0) kw338 hP (i := 0) (q := 0) rfl rfl (by decide) rfl dX4_honestShare_1 ?_
  refine kg_getN C kFX0 (k := 17) (List.mem_of_getElem? (i := 28) rfl) hP (i := 1) (q := 0) rfl rfl (by decide) rfl dX4_honestShare_4 ?_
  by_cases h0 : vC 17 = 0
  · refine lv_if_ne (tgt := 20) hx hb dX4_honestShare_7 (by decide) (fun z => absurd h0 z) (fun z => ?_)
    have hF : X4_honestShare_f vC aC = (6, 0) := if_pos h0
    exact kX_throwS (names := ["java/lang/RuntimeException", "java/lang/Exception"]) C hfl htb (by decide) (by decide) kw1395 kw135 (List.mem_of_getElem? (i := 23) rfl) kx_at_ArithmeticException hE hS hl.1 hP hD ⟨by rw [hF]; exact (by decide : (6 : Nat) ≠ 0), by rw [hF]; rfl, rfl⟩ dX4_honestShare_10 dX4_honestShare_13 dX4_honestShare_14 dX4_honestShare_16 dX4_honestShare_19 (by decide) (Nat.le_of_ble_eq_true rfl) ⟨Nat.le_of_ble_eq_true rfl, Nat.le_of_ble_eq_true rfl⟩ ⟨Nat.le_of_ble_eq_true rfl, Nat.le_of_ble_eq_true rfl⟩
  refine lv_if_ne (tgt := 20) hx hb dX4_honestShare_7 (by decide) (fun z => ?_) (fun z => absurd z h0)
  refine lv_aload_n hx hb dX4_honestShare_20 rfl (lv_at hl 0 rfl) ?_
  refine kg_get (v := .ref oC) C kFX4 (k := 0) kw338 hP (i := 0) (q := 0) rfl rfl (by decide) rfl dX4_honestShare_21 ?_
  refine kg_getN C kFX0 (k := 16) (List.mem_of_getElem? (i := 27) rfl) hP (i := 1) (q := 0) rfl rfl (by decide) rfl dX4_honestShare_24 ?_
  refine lv_i2d hx hb dX4_honestShare_27 ?_
  refine lv_aload_n hx hb dX4_honestShare_28 rfl (lv_at hl 0 rfl) ?_
  refine kg_get (v := .ref oC) C kFX4 (k := 0) kw338 hP (i := 0) (q := 0) rfl rfl (by decide) rfl dX4_honestShare_29 ?_
  refine kg_getN C kFX0 (k := 17) (List.mem_of_getElem? (i := 28) rfl) hP (i := 1) (q := 0) rfl rfl (by decide) rfl dX4_honestShare_32 ?_
  refine lv_i2d hx hb dX4_honestShare_35 ?_
  refine lv_ddiv hx hb dX4_honestShare_36 (kfd_ok _ _ h0) ?_
  have hF : X4_honestShare_f vC aC = (0, FP.ddiv (FP.i2d (vC 16)) (FP.i2d (vC 17))) := if_neg h0
  exact kXD_ret C hP hD hS ⟨by rw [hF], by rw [hF], rfl⟩ ⟨Nat.le_of_ble_eq_true rfl, Nat.le_of_ble_eq_true rfl⟩ dX4_honestShare_37
