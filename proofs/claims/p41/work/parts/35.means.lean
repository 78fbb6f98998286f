
def kMF (l : Launch) (y : MethodName) (ws : List Cond) (f lo mc ms : Nat) (g : kG) (av : List Value) (cs : List va_W) (post : UInt32 → List va_W → Prop) : Prop :=
  ∀ sz : Nat, Met l y ws (kRm f mc ms lo) (kPre g av cs sz) (va_Qf post (fun u t => kp g u t.heap ∧ kd (va_A cs.flatten sz) u) (va_A cs.flatten sz)) mc ms (va_A cs.flatten sz)
def kXF (l : Launch) (y : MethodName) (ws : List Cond) (f lo mc ms : Nat) (g : kG) (av : List Value) (cs : List va_W) (post : UInt32 → List va_W → Prop) (px : String → List va_W → Prop) : Prop :=
  ∀ sz : Nat, vx_Met l y ws (kRm f mc ms lo) (kPre g av cs sz) (va_Qf post (fun u t => kp g u t.heap ∧ kd (va_A cs.flatten sz) u) (va_A cs.flatten sz)) (kXC g px (va_A cs.flatten sz)) mc ms (va_A cs.flatten sz)
section KROWSF
variable {p : Program} {l : Launch} {e : Env} {R : Room} {s : State} {m : MethodId} {args : Array Value} {below : List Frame} {meth : Method} {c : Code} {H : Heap} {locs : List Loc} {cells slots : Nat} {Q : State → Prop}
variable {cc : ByteArray} {pc nL : Nat} {ls : Array Slot} {st rest : List Value} {A : Nat → Prop} {H0 : Heap} {g : kG} {cs : List va_W} {own : String} {ret : Option FieldType}
theorem kMF_of {y : MethodName} {ws : List Cond} {f lo mc ms : Nat} {av : List Value} {post : UInt32 → List va_W → Prop} {lv : List (Nat × Value)} (hy : plainName y.cls = true) (hw : ws = Cond.code y cc nL ret :: kW) (hav : (lg_sl av).length ≤ nL) (hlv : lv_args 0 av = lv)
    (body : ∀ (p : Program) (e : Env) (s : State) (m : MethodId) (args : Array Value) (below : List Frame) (meth : Method) (c : Code) (ls : Array Slot) (A : Nat → Prop), kC p c cc s m args meth y.cls g nL ret → kp g cs s.heap → kd A cs → kE g A s s.heap → (∀ q, s.heap.size ≤ q → A q) → va_S A s.heap s.heap [] → lv_has ls nL lv →
      W p l e (kRm f mc ms lo) s m args below meth c s.heap [] 0 0 (MQ below (va_Qf post (fun u t => kp g u t.heap ∧ kd A u) A) args s mc ms A) (F0 m 0 ls [])) : kMF l y ws f lo mc ms g av cs post := by
  intro sz
  refine Met.ofW (cc := cc) (maxL := nL) (ret := ret) hy hw ?_
  intro p e s m args below meth c s₁ B hml hv
  obtain ⟨rfl, hsz, hP, hD, hE⟩ := hv
  subst hsz
  have hl := lv_entry av (n := nL) hav
  rw [lg_entry_eq]
  subst hlv
  exact body p e s m _ below meth c _ _ ⟨⟨B.exec, B.bytes, hml, findClass_of_methodNamed B.named, fun w h => atoms_spec (ws := ws) B.pre w (by rw [hw]; exact List.mem_cons_of_mem _ h)⟩, ⟨hE.1, hE.2.1⟩, B.returns, B.notSynchronized⟩ hP hD.self hE (fun q h => Or.inr h) va_S.rf hl
theorem kXF_of {y : MethodName} {ws : List Cond} {f lo mc ms : Nat} {av : List Value} {post : UInt32 → List va_W → Prop} {px : String → List va_W → Prop} {lv : List (Nat × Value)} (hy : plainName y.cls = true) (hw : ws = Cond.code y cc nL ret :: kW) (hav : (lg_sl av).length ≤ nL) (hlv : lv_args 0 av = lv)
    (body : ∀ (p : Program) (e : Env) (s : State) (m : MethodId) (args : Array Value) (below : List Frame) (meth : Method) (c : Code) (ls : Array Slot) (A : Nat → Prop), (∀ x ∈ c.exceptionTable.toList, False) → kC p c cc s m args meth y.cls g nL ret → kp g cs s.heap → kd A cs → kE g A s s.heap → (∀ q, s.heap.size ≤ q → A q) → va_S A s.heap s.heap [] → lv_has ls nL lv →
      W p l e (kRm f mc ms lo) s m args below meth c s.heap [] 0 0 (vx_MQ below (va_Qf post (fun u t => kp g u t.heap ∧ kd A u) A) (kXC g px A) args s mc ms A) (F0 m 0 ls [])) : kXF l y ws f lo mc ms g av cs post px := by
  intro sz
  refine vx_ofW (cc := cc) (maxL := nL) (ret := ret) hy hw ?_
  intro p e s m args below meth c s₁ B hml htb hv
  obtain ⟨rfl, hsz, hP, hD, hE⟩ := hv
  subst hsz
  have hl := lv_entry av (n := nL) hav
  rw [lg_entry_eq]
  subst hlv
  exact body p e s m _ below meth c _ _ htb ⟨⟨B.exec, B.bytes, hml, findClass_of_methodNamed B.named, fun w h => atoms_spec (ws := ws) B.pre w (by rw [hw]; exact List.mem_cons_of_mem _ h)⟩, ⟨hE.1, hE.2.1⟩, B.returns, B.notSynchronized⟩ hP hD.self hE (fun q h => Or.inr h) va_S.rf hl
theorem kMF_ret {x : UInt32} {u : List va_W} {post : UInt32 → List va_W → Prop} (C : kC p c cc s m args meth own g nL (some .float)) (hP : kp g u H) (hD : kd A u) (hS : va_S A s.heap H locs) (hp : post x u) (d : decode cc pc = .ok (.freturn, 1)) : W p l e R s m args below meth c H locs cells slots (MQ below (va_Qf post (fun u t => kp g u t.heap ∧ kd A u) A) args s cells slots A) (F0 m pc ls [.float x]) :=
  W.fret C.1.1 C.1.2.1 C.2.2.1 (fun t ht _ => ⟨⟨x, u, rfl, hp, by rw [ht]; exact hP, hD⟩, hS.F ht⟩) hS.2.2 d C.2.2.2
theorem kXF_ret {x : UInt32} {u : List va_W} {post : UInt32 → List va_W → Prop} {XC : String → State → State → Prop} {mc ms : Nat} (C : kC p c cc s m args meth own g nL (some .float)) (hP : kp g u H) (hD : kd A u) (hS : va_S A s.heap H locs) (hp : post x u) (hc : cells ≤ mc ∧ slots ≤ ms) (d : decode cc pc = .ok (.freturn, 1)) : W p l e R s m args below meth c H locs cells slots (vx_MQ below (va_Qf post (fun u t => kp g u t.heap ∧ kd A u) A) XC args s mc ms A) (F0 m pc ls [.float x]) :=
  W.widen hc.1 hc.2 (vx_ret (kMF_ret C hP hD hS hp d))
end KROWSF

def kMD (l : Launch) (y : MethodName) (ws : List Cond) (f lo mc ms : Nat) (g : kG) (av : List Value) (cs : List va_W) (post : UInt64 → List va_W → Prop) : Prop :=
  ∀ sz : Nat, Met l y ws (kRm f mc ms lo) (kPre g av cs sz) (va_Qd post (fun u t => kp g u t.heap ∧ kd (va_A cs.flatten sz) u) (va_A cs.flatten sz)) mc ms (va_A cs.flatten sz)
def kXD (l : Launch) (y : MethodName) (ws : List Cond) (f lo mc ms : Nat) (g : kG) (av : List Value) (cs : List va_W) (post : UInt64 → List va_W → Prop) (px : String → List va_W → Prop) : Prop :=
  ∀ sz : Nat, vx_Met l y ws (kRm f mc ms lo) (kPre g av cs sz) (va_Qd post (fun u t => kp g u t.heap ∧ kd (va_A cs.flatten sz) u) (va_A cs.flatten sz)) (kXC g px (va_A cs.flatten sz)) mc ms (va_A cs.flatten sz)
section KROWSD
variable {p : Program} {l : Launch} {e : Env} {R : Room} {s : State} {m : MethodId} {args : Array Value} {below : List Frame} {meth : Method} {c : Code} {H : Heap} {locs : List Loc} {cells slots : Nat} {Q : State → Prop}
variable {cc : ByteArray} {pc nL : Nat} {ls : Array Slot} {st rest : List Value} {A : Nat → Prop} {H0 : Heap} {g : kG} {cs : List va_W} {own : String} {ret : Option FieldType}
theorem kMD_of {y : MethodName} {ws : List Cond} {f lo mc ms : Nat} {av : List Value} {post : UInt64 → List va_W → Prop} {lv : List (Nat × Value)} (hy : plainName y.cls = true) (hw : ws = Cond.code y cc nL ret :: kW) (hav : (lg_sl av).length ≤ nL) (hlv : lv_args 0 av = lv)
    (body : ∀ (p : Program) (e : Env) (s : State) (m : MethodId) (args : Array Value) (below : List Frame) (meth : Method) (c : Code) (ls : Array Slot) (A : Nat → Prop), kC p c cc s m args meth y.cls g nL ret → kp g cs s.heap → kd A cs → kE g A s s.heap → (∀ q, s.heap.size ≤ q → A q) → va_S A s.heap s.heap [] → lv_has ls nL lv →
      W p l e (kRm f mc ms lo) s m args below meth c s.heap [] 0 0 (MQ below (va_Qd post (fun u t => kp g u t.heap ∧ kd A u) A) args s mc ms A) (F0 m 0 ls [])) : kMD l y ws f lo mc ms g av cs post := by
  intro sz
  refine Met.ofW (cc := cc) (maxL := nL) (ret := ret) hy hw ?_
  intro p e s m args below meth c s₁ B hml hv
  obtain ⟨rfl, hsz, hP, hD, hE⟩ := hv
  subst hsz
  have hl := lv_entry av (n := nL) hav
  rw [lg_entry_eq]
  subst hlv
  exact body p e s m _ below meth c _ _ ⟨⟨B.exec, B.bytes, hml, findClass_of_methodNamed B.named, fun w h => atoms_spec (ws := ws) B.pre w (by rw [hw]; exact List.mem_cons_of_mem _ h)⟩, ⟨hE.1, hE.2.1⟩, B.returns, B.notSynchronized⟩ hP hD.self hE (fun q h => Or.inr h) va_S.rf hl
theorem kXD_of {y : MethodName} {ws : List Cond} {f lo mc ms : Nat} {av : List Value} {post : UInt64 → List va_W → Prop} {px : String → List va_W → Prop} {lv : List (Nat × Value)} (hy : plainName y.cls = true) (hw : ws = Cond.code y cc nL ret :: kW) (hav : (lg_sl av).length ≤ nL) (hlv : lv_args 0 av = lv)
    (body : ∀ (p : Program) (e : Env) (s : State) (m : MethodId) (args : Array Value) (below : List Frame) (meth : Method) (c : Code) (ls : Array Slot) (A : Nat → Prop), (∀ x ∈ c.exceptionTable.toList, False) → kC p c cc s m args meth y.cls g nL ret → kp g cs s.heap → kd A cs → kE g A s s.heap → (∀ q, s.heap.size ≤ q → A q) → va_S A s.heap s.heap [] → lv_has ls nL lv →
      W p l e (kRm f mc ms lo) s m args below meth c s.heap [] 0 0 (vx_MQ below (va_Qd post (fun u t => kp g u t.heap ∧ kd A u) A) (kXC g px A) args s mc ms A) (F0 m 0 ls [])) : kXD l y ws f lo mc ms g av cs post px := by
  intro sz
  refine vx_ofW (cc := cc) (maxL := nL) (ret := ret) hy hw ?_
  intro p e s m args below meth c s₁ B hml htb hv
  obtain ⟨rfl, hsz, hP, hD, hE⟩ := hv
  subst hsz
  have hl := lv_entry av (n := nL) hav
  rw [lg_entry_eq]
  subst hlv
  exact body p e s m _ below meth c _ _ htb ⟨⟨B.exec, B.bytes, hml, findClass_of_methodNamed B.named, fun w h => atoms_spec (ws := ws) B.pre w (by rw [hw]; exact List.mem_cons_of_mem _ h)⟩, ⟨hE.1, hE.2.1⟩, B.returns, B.notSynchronized⟩ hP hD.self hE (fun q h => Or.inr h) va_S.rf hl
theorem kMD_ret {x : UInt64} {u : List va_W} {post : UInt64 → List va_W → Prop} (C : kC p c cc s m args meth own g nL (some .double)) (hP : kp g u H) (hD : kd A u) (hS : va_S A s.heap H locs) (hp : post x u) (d : decode cc pc = .ok (.dreturn, 1)) : W p l e R s m args below meth c H locs cells slots (MQ below (va_Qd post (fun u t => kp g u t.heap ∧ kd A u) A) args s cells slots A) (F0 m pc ls [.double x]) :=
  W.dret C.1.1 C.1.2.1 C.2.2.1 (fun t ht _ => ⟨⟨x, u, rfl, hp, by rw [ht]; exact hP, hD⟩, hS.F ht⟩) hS.2.2 d C.2.2.2
theorem kXD_ret {x : UInt64} {u : List va_W} {post : UInt64 → List va_W → Prop} {XC : String → State → State → Prop} {mc ms : Nat} (C : kC p c cc s m args meth own g nL (some .double)) (hP : kp g u H) (hD : kd A u) (hS : va_S A s.heap H locs) (hp : post x u) (hc : cells ≤ mc ∧ slots ≤ ms) (d : decode cc pc = .ok (.dreturn, 1)) : W p l e R s m args below meth c H locs cells slots (vx_MQ below (va_Qd post (fun u t => kp g u t.heap ∧ kd A u) A) XC args s mc ms A) (F0 m pc ls [.double x]) :=
  W.widen hc.1 hc.2 (vx_ret (kMD_ret C hP hD hS hp d))
end KROWSD
theorem kw96 : Cond.initialized "java/lang/ArithmeticException" ∈ kW := k_w 2 28 rfl rfl
theorem kw1330 : Cond.classLink RX4 239 "java/lang/ArithmeticException" ∈ kW := k_w 7 62 rfl rfl
theorem pnX4_meanDust : yX4_meanDust.cls ≠ "java/lang/invoke/MethodHandle" ∧ yX4_meanDust.cls ≠ "java/lang/invoke/VarHandle" ∧ (parseMethodDescriptor yX4_meanDust.desc).map (fun d => d.parameters.length) = some 0 := by decide +kernel
theorem ca_X4_meanDust : kCal yX4_meanDust (Cond.code yX4_meanDust cX4_meanDust 1 (some .float)) := ⟨k_w 7 80 rfl rfl, k_w 7 81 rfl rfl, k_w 2 1 rfl rfl, k_w 7 82 rfl rfl⟩
def X4_meanDust_f (vC : Nat → Int32) (aC : Nat → Nat → Int32) : Nat × UInt32 :=
  if vC 7 = 0 then (6, 0) else (0, FP.fdiv (FP.i2f (X0_dustTogether_f vC aC)) (FP.i2f (vC 7)))
abbrev wX4_meanDust : List Cond := Cond.code yX4_meanDust cX4_meanDust 1 (some .float) :: kW
theorem X4_meanDust_c (l : Launch) (g : kG) (oF : Nat) (vF : Nat → Int32) (oS oH oR oT oB : Nat) (oC : Nat) (rC : Nat → Nat) (vC : Nat → Int32) (aC : Nat → Nat → Int32) (nb : Nat) (hnb : nb ≤ 6) (hv7 : vC 7 = nI nb) (hfl : l.stackTraces = false) : kXF l yX4_meanDust wX4_meanDust 7 200 1 6 g [.ref oF] [X4W g oF (kFr oC oS oH oR oT oB) vF, X0W g oC rC vC aC] (fun x u => (X4_meanDust_f vC aC).1 = 0 ∧ x = (X4_meanDust_f vC aC).2 ∧ u = [X4W g oF (kFr oC oS oH oR oT oB) vF, X0W g oC rC vC aC]) (fun E u => (X4_meanDust_f vC aC).1 ≠ 0 ∧ E = kEx (X4_meanDust_f vC aC).1 ∧ u = [X4W g oF (kFr oC oS oH oR oT oB) vF, X0W g oC rC vC aC]) := by
  refine kXF_of (cc := cX4_meanDust) (nL := 1) (ret := (some .float)) (lv := [(0, .ref oF)]) (by decide) rfl (Nat.le_of_ble_eq_true rfl) rfl ?_
  intro p e s m args below meth c ls A htb C hP hD hE hA hS hl
  have C : kC p c cX4_meanDust s m args meth RX4 g 1 (some .float) := C
  have hx := C.1.1
  have hb := C.1.2.1
  have hts := C.1.2.2.2.2
  refine lv_aload_n hx hb dX4_meanDust_0 rfl (lv_at hl 0 rfl) ?_
  refine kg_get (v := .ref oC) C kFX4 (k := 0) kw301 hP (i := 0) (q := 0) rfl rfl (by decide) rfl dX4_meanDust_1 ?_
  refine kg_getN C kFX0 (k := 7) (List.mem_of_getElem? (i := 15) rfl) hP (i := 1) (q := 0) rfl rfl (by decide) rfl dX4_meanDust_4 ?_
  by_cases h0 : vC 7 = 0
  · refine lv_if_ne (tgt := 20) hx hb dX4_meanDust_7 (by decide) (fun z => absurd h0 z) (fun z => ?_)
    have hF : X4_meanDust_f vC aC = (6, 0) := if_pos h0
    exact kX_throwS (names := ["java/lang/RuntimeException", "java/lang/Exception"]) C hfl htb (by decide) (by decide) kw1330 kw96 (List.mem_of_getElem? (i := 21) rfl) kx_at_ArithmeticException hE hS hl.1 hP hD ⟨by rw [hF]; exact (by decide : (6 : Nat) ≠ 0), by rw [hF]; rfl, rfl⟩ dX4_meanDust_10 dX4_meanDust_13 dX4_meanDust_14 dX4_meanDust_16 dX4_meanDust_19 (by decide) (Nat.le_of_ble_eq_true rfl) ⟨Nat.le_of_ble_eq_true rfl, Nat.le_of_ble_eq_true rfl⟩ ⟨Nat.le_of_ble_eq_true rfl, Nat.le_of_ble_eq_true rfl⟩
  refine lv_if_ne (tgt := 20) hx hb dX4_meanDust_7 (by decide) (fun z => ?_) (fun z => absurd z h0)
  refine lv_aload_n hx hb dX4_meanDust_20 rfl (lv_at hl 0 rfl) ?_
  refine kg_get (v := .ref oC) C kFX4 (k := 0) kw301 hP (i := 0) (q := 0) rfl rfl (by decide) rfl dX4_meanDust_21 ?_
  refine kR_VN (As := []) (rest := []) C (X0_dustTogether_c l g oC rC vC aC nb hnb hv7) ⟨va_cnB (host := "SpiceScale") 0 hts (k_gI ca_X0_dustTogether.2.2.2) rfl rfl rfl (C.2.1.2 _ (List.mem_of_getElem? (i := 77) rfl)) (hts _ ca_X0_dustTogether.2.2.1) pnX0_dustTogether ⟨Nat.le_of_ble_eq_true rfl, Nat.le_of_ble_eq_true rfl⟩, hts _ ca_X0_dustTogether.1, hts _ ca_X0_dustTogether.2.1⟩ hE hS (hP.pick [1] rfl) (k_recv C kFX0 hP (i := 1) (q := 0) rfl rfl) rfl hl.1 rfl rfl dX4_meanDust_24 ⟨Nat.le_of_ble_eq_true rfl, Nat.le_of_ble_eq_true rfl⟩ ?_
  refine lv_i2f hx hb dX4_meanDust_27 ?_
  refine lv_aload_n hx hb dX4_meanDust_28 rfl (lv_at hl 0 rfl) ?_
  refine kg_get (v := .ref oC) C kFX4 (k := 0) kw301 hP (i := 0) (q := 0) rfl rfl (by decide) rfl dX4_meanDust_29 ?_
  refine kg_getN C kFX0 (k := 7) (List.mem_of_getElem? (i := 15) rfl) hP (i := 1) (q := 0) rfl rfl (by decide) rfl dX4_meanDust_32 ?_
  refine lv_i2f hx hb dX4_meanDust_35 ?_
  refine lv_fdiv hx hb dX4_meanDust_36 (kff_ok _ _ h0) ?_
  have hF : X4_meanDust_f vC aC = (0, FP.fdiv (FP.i2f (X0_dustTogether_f vC aC)) (FP.i2f (vC 7))) := if_neg h0
  exact kXF_ret C hP hD hS ⟨by rw [hF], by rw [hF], rfl⟩ ⟨Nat.le_of_ble_eq_true rfl, Nat.le_of_ble_eq_true rfl⟩ dX4_meanDust_37
theorem pnX4_honestShare : yX4_honestShare.cls ≠ "java/lang/invoke/MethodHandle" ∧ yX4_honestShare.cls ≠ "java/lang/invoke/VarHandle" ∧ (parseMethodDescriptor yX4_honestShare.desc).map (fun d => d.parameters.length) = some 0 := by decide +kernel
theorem ca_X4_honestShare : kCal yX4_honestShare (Cond.code yX4_honestShare cX4_honestShare 1 (some .double)) := ⟨k_w 7 59 rfl rfl, k_w 7 60 rfl rfl, k_w 2 1 rfl rfl, k_w 7 61 rfl rfl⟩
def X4_honestShare_f (vC : Nat → Int32) (aC : Nat → Nat → Int32) : Nat × UInt64 :=
  if vC 17 = 0 then (6, 0) else (0, FP.ddiv (FP.i2d (vC 16)) (FP.i2d (vC 17)))
abbrev wX4_honestShare : List Cond := Cond.code yX4_honestShare cX4_honestShare 1 (some .double) :: kW
theorem X4_honestShare_c (l : Launch) (g : kG) (oF : Nat) (vF : Nat → Int32) (oS oH oR oT oB : Nat) (oC : Nat) (rC : Nat → Nat) (vC : Nat → Int32) (aC : Nat → Nat → Int32) (hfl : l.stackTraces = false) : kXD l yX4_honestShare wX4_honestShare 7 200 1 6 g [.ref oF] [X4W g oF (kFr oC oS oH oR oT oB) vF, X0W g oC rC vC aC] (fun x u => (X4_honestShare_f vC aC).1 = 0 ∧ x = (X4_honestShare_f vC aC).2 ∧ u = [X4W g oF (kFr oC oS oH oR oT oB) vF, X0W g oC rC vC aC]) (fun E u => (X4_honestShare_f vC aC).1 ≠ 0 ∧ E = kEx (X4_honestShare_f vC aC).1 ∧ u = [X4W g oF (kFr oC oS oH oR oT oB) vF, X0W g oC rC vC aC]) := by
  refine kXD_of (cc := cX4_honestShare) (nL := 1) (ret := (some .double)) (lv := [(0, .ref oF)]) (by decide) rfl (Nat.le_of_ble_eq_true rfl) rfl ?_
  intro p e s m args below meth c ls A htb C hP hD hE hA hS hl
  have C : kC p c cX4_honestShare s m args meth RX4 g 1 (some .double) := C
  have hx := C.1.1
  have hb := C.1.2.1
  have hts := C.1.2.2.2.2
  refine lv_aload_n hx hb dX4_honestShare_0 rfl (lv_at hl 0 rfl) ?_
  refine kg_get (v := .ref oC) C kFX4 (k := 0) kw301 hP (i := 0) (q := 0) rfl rfl (by decide) rfl dX4_honestShare_1 ?_
  refine kg_getN C kFX0 (k := 17) (List.mem_of_getElem? (i := 28) rfl) hP (i := 1) (q := 0) rfl rfl (by decide) rfl dX4_honestShare_4 ?_
  by_cases h0 : vC 17 = 0
  · refine lv_if_ne (tgt := 20) hx hb dX4_honestShare_7 (by decide) (fun z => absurd h0 z) (fun z => ?_)
    have hF : X4_honestShare_f vC aC = (6, 0) := if_pos h0
    exact kX_throwS (names := ["java/lang/RuntimeException", "java/lang/Exception"]) C hfl htb (by decide) (by decide) kw1330 kw96 (List.mem_of_getElem? (i := 20) rfl) kx_at_ArithmeticException hE hS hl.1 hP hD ⟨by rw [hF]; exact (by decide : (6 : Nat) ≠ 0), by rw [hF]; rfl, rfl⟩ dX4_honestShare_10 dX4_honestShare_13 dX4_honestShare_14 dX4_honestShare_16 dX4_honestShare_19 (by decide) (Nat.le_of_ble_eq_true rfl) ⟨Nat.le_of_ble_eq_true rfl, Nat.le_of_ble_eq_true rfl⟩ ⟨Nat.le_of_ble_eq_true rfl, Nat.le_of_ble_eq_true rfl⟩
  refine lv_if_ne (tgt := 20) hx hb dX4_honestShare_7 (by decide) (fun z => ?_) (fun z => absurd z h0)
  refine lv_aload_n hx hb dX4_honestShare_20 rfl (lv_at hl 0 rfl) ?_
  refine kg_get (v := .ref oC) C kFX4 (k := 0) kw301 hP (i := 0) (q := 0) rfl rfl (by decide) rfl dX4_honestShare_21 ?_
  refine kg_getN C kFX0 (k := 16) (List.mem_of_getElem? (i := 27) rfl) hP (i := 1) (q := 0) rfl rfl (by decide) rfl dX4_honestShare_24 ?_
  refine lv_i2d hx hb dX4_honestShare_27 ?_
  refine lv_aload_n hx hb dX4_honestShare_28 rfl (lv_at hl 0 rfl) ?_
  refine kg_get (v := .ref oC) C kFX4 (k := 0) kw301 hP (i := 0) (q := 0) rfl rfl (by decide) rfl dX4_honestShare_29 ?_
  refine kg_getN C kFX0 (k := 17) (List.mem_of_getElem? (i := 28) rfl) hP (i := 1) (q := 0) rfl rfl (by decide) rfl dX4_honestShare_32 ?_
  refine lv_i2d hx hb dX4_honestShare_35 ?_
  refine lv_ddiv hx hb dX4_honestShare_36 (kfd_ok _ _ h0) ?_
  have hF : X4_honestShare_f vC aC = (0, FP.ddiv (FP.i2d (vC 16)) (FP.i2d (vC 17))) := if_neg h0
  exact kXD_ret C hP hD hS ⟨by rw [hF], by rw [hF], rfl⟩ ⟨Nat.le_of_ble_eq_true rfl, Nat.le_of_ble_eq_true rfl⟩ dX4_honestShare_37
