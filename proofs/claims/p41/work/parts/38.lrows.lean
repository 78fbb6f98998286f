/-! rows for the law's methods: wrappers with handlers, methods without; answers of four kinds; a condition X on what lies outside the world -/
def kNc (U : State) : Prop := va_Nc "java/lang/IllegalArgumentException" "java/lang/IndexOutOfBoundsException" U ∧ va_Nc "java/util/NoSuchElementException" "java/lang/IndexOutOfBoundsException" U ∧ va_Nc "java/lang/UnsupportedOperationException" "java/lang/IllegalArgumentException" U ∧ va_Nc "java/util/NoSuchElementException" "java/lang/IllegalArgumentException" U
theorem kNc.moved {u U : State} (hvm : u.vm.Alike U.vm) (h : kNc u) : kNc U := ⟨va_Nc.moved hvm h.1, va_Nc.moved hvm h.2.1, va_Nc.moved hvm h.2.2.1, va_Nc.moved hvm h.2.2.2⟩
abbrev kXt : Type := (Nat → Prop) → State → Heap → Prop
def kX0 : kXt := fun _ _ _ => True
def kXs (X : kXt) : Prop := (∀ (A B : Nat → Prop) (s U : State) (H : Heap) (locs : List Loc), X A s s.heap → va_S A s.heap H locs → (∀ q, B q → A q) → U.heap = H → s.WarmedH U.vm → X B U U.heap) ∧ ∀ (A : Nat → Prop) (U : State) (f : JFrame) (mk : MethodId) (a : Array Value), X A U U.heap → X A (U.calling f mk a) (U.calling f mk a).heap
theorem kX0_s : kXs kX0 := ⟨fun _ _ _ _ _ _ _ _ _ _ _ => trivial, fun _ _ _ _ _ _ => trivial⟩
def kPreL (X : kXt) (g : kG) (av : List Value) (cs : List va_W) (sz : Nat) : Array Value → State → Prop := va_Pc av (fun U => (U.heap.size = sz ∧ kp g cs U.heap ∧ kd (fun _ => True) cs ∧ kE g (va_A cs.flatten sz) U U.heap) ∧ kNc U ∧ X (va_A cs.flatten sz) U U.heap)
abbrev kQt : Type := (Nat → Prop) → Array Value → State → Outcome → State → Prop
def kQl (g : kG) (post : Int64 → List va_W → Prop) : kQt := fun A => va_Ql post (fun u t => kp g u t.heap ∧ kd A u) A
def kQf (g : kG) (post : UInt32 → List va_W → Prop) : kQt := fun A => va_Qf post (fun u t => kp g u t.heap ∧ kd A u) A
def kQd (g : kG) (post : UInt64 → List va_W → Prop) : kQt := fun A => va_Qd post (fun u t => kp g u t.heap ∧ kd A u) A
/-- a method of the law -/
def kLg (X : kXt) (l : Launch) (y : MethodName) (ws : List Cond) (f lo mc ms : Nat) (g : kG) (av : List Value) (cs : List va_W) (Qk : kQt) : Prop :=
  ∀ sz : Nat, Met l y ws (kRm f mc ms lo) (kPreL X g av cs sz) (Qk (va_A cs.flatten sz)) mc ms (va_A cs.flatten sz)
def kL (X : kXt) (l : Launch) (y : MethodName) (ws : List Cond) (f lo mc ms : Nat) (g : kG) (av : List Value) (cs : List va_W) (post : Int32 → List va_W → Prop) : Prop := kLg X l y ws f lo mc ms g av cs (kQi g post)
def kLl (X : kXt) (l : Launch) (y : MethodName) (ws : List Cond) (f lo mc ms : Nat) (g : kG) (av : List Value) (cs : List va_W) (post : Int64 → List va_W → Prop) : Prop := kLg X l y ws f lo mc ms g av cs (kQl g post)
def kLf (X : kXt) (l : Launch) (y : MethodName) (ws : List Cond) (f lo mc ms : Nat) (g : kG) (av : List Value) (cs : List va_W) (post : UInt32 → List va_W → Prop) : Prop := kLg X l y ws f lo mc ms g av cs (kQf g post)
def kLd (X : kXt) (l : Launch) (y : MethodName) (ws : List Cond) (f lo mc ms : Nat) (g : kG) (av : List Value) (cs : List va_W) (post : UInt64 → List va_W → Prop) : Prop := kLg X l y ws f lo mc ms g av cs (kQd g post)
theorem kPreL_blind {X : kXt} (hX : kXs X) {g : kG} {av : List Value} {cs : List va_W} {sz : Nat} : FrameBlind (kPreL X g av cs sz) := fun a U f mk q => by
  obtain ⟨q0, ⟨q1, q2, q3, q4⟩, q5, q6⟩ := q
  exact ⟨q0, ⟨q1, q2, q3, q4.blind⟩, kNc.moved (u := U) (U := U.calling f mk a) (Vm.Alike.refl U.vm) q5, hX.2 _ U f mk a q6⟩
/-- a method that only reads, under X -/
def kRX (X : kXt) (l : Launch) (y : MethodName) (ws : List Cond) (f lo : Nat) (g : kG) (av : List Value) (cs : List va_W) (v : Int32) : Prop :=
  Met l y ws (kRm f 0 0 lo) (va_Pc av (fun U => (kp g cs U.heap ∧ kE g (fun _ => False) U U.heap) ∧ X (fun _ => False) U U.heap)) (vp_Si (fun r => r = v)) 0 0 (fun _ => False)
theorem kRX_blind {X : kXt} (hX : kXs X) {g : kG} {av : List Value} {cs : List va_W} {A : Nat → Prop} : FrameBlind (va_Pc av (fun U => (kp g cs U.heap ∧ kE g A U U.heap) ∧ X A U U.heap)) := fun a U f mk q => by
  obtain ⟨q0, ⟨q1, q2⟩, q3⟩ := q
  exact ⟨q0, ⟨q1, q2.blind⟩, hX.2 _ U f mk a q3⟩
section KROWSL
variable {p : Program} {l : Launch} {e : Env} {R : Room} {s : State} {m : MethodId} {args : Array Value} {below : List Frame} {meth : Method} {c : Code} {H : Heap} {locs : List Loc} {cells slots : Nat} {Q : State → Prop}
variable {cc : ByteArray} {pc nL : Nat} {ls : Array Slot} {st rest : List Value} {A : Nat → Prop} {H0 : Heap} {g : kG} {cs : List va_W} {own : String} {ret : Option FieldType} {X : kXt}
theorem kMet_ofWH {y : MethodName} {ws ws' : List Cond} {rm : Room} {Pc : Array Value → State → Prop} {Qc : Array Value → State → Outcome → State → Prop} {mc ms : Nat} {free : Addr → Prop} {maxL : Nat} {hh : List (Nat × Nat × Nat × Nat)}
    (hy : plainName y.cls = true) (hw : ws = Cond.codeWith y cc maxL ret hh :: ws')
    (body : ∀ p e s m args below meth c s₁, BodyLoose p l y (headSpec ws rm) cc maxL ret e s m args below meth c s₁ → c.maxLocals = maxL → Pc args s →
      W p l e (headSpec ws rm).room s m args below meth c s.heap [] 0 0 (MQ below Qc args s mc ms free) (entryFrame m args maxL)) : Met l y ws rm Pc Qc mc ms free := by
  refine MetFree.of_bodyS (code := cc) (maxLocals := maxL) (ret := ret) hy ?_ ?_
  · intro args s m h hn
    obtain ⟨m9, meth, c, hn9, h1, h2, h3, h4, -, h5, h6, -⟩ := Cond.codeWith_spec (atoms_spec (ws := ws) h _ (by rw [hw]; exact List.mem_cons_self))
    cases hn.symm.trans hn9
    exact ⟨meth, c, h1, h2, h3, h4, h5, h6⟩
  · intro p e s m args below meth c s₁ B hml hP _
    have hh0 : s₁.heap = s.heap := by rw [B.state]; rfl
    obtain ⟨t, a1, o, b1, b2, b3⟩ := body p e s m args below meth c s₁ B hml hP s₁ hh0 (Stand.of_body B)
    exact ⟨t, o, a1, b1, b2, ⟨b3.1, b3.2⟩⟩
theorem kLg_of {y : MethodName} {ws : List Cond} {f lo mc ms : Nat} {av : List Value} {Qk : kQt} {lv : List (Nat × Value)} {hh : List (Nat × Nat × Nat × Nat)} (hy : plainName y.cls = true) (hw : ws = Cond.codeWith y cc nL ret hh :: kW) (hav : (lg_sl av).length ≤ nL) (hlv : lv_args 0 av = lv)
    (body : ∀ (p : Program) (e : Env) (s : State) (m : MethodId) (args : Array Value) (below : List Frame) (meth : Method) (c : Code) (ls : Array Slot) (A : Nat → Prop), c.exceptionTable.toList = tableOf hh → kNc s → X A s s.heap → kC p c cc s m args meth y.cls g nL ret → kp g cs s.heap → kd A cs → kE g A s s.heap → (∀ q, s.heap.size ≤ q → A q) → va_S A s.heap s.heap [] → lv_has ls nL lv →
      W p l e (kRm f mc ms lo) s m args below meth c s.heap [] 0 0 (MQ below (Qk A) args s mc ms A) (F0 m 0 ls [])) : kLg X l y ws f lo mc ms g av cs Qk := by
  intro sz
  refine kMet_ofWH (cc := cc) (maxL := nL) (ret := ret) hy hw ?_
  intro p e s m args below meth c s₁ B hml hv
  have htab := vx_table (x := y) B (atoms_spec (ws := ws) B.pre _ (by rw [hw]; exact List.mem_cons_self))
  obtain ⟨rfl, ⟨hsz, hP, hD, hE⟩, hN, hX⟩ := hv
  subst hsz
  have hl := lv_entry av (n := nL) hav
  rw [lg_entry_eq]
  subst hlv
  exact body p e s m _ below meth c _ _ htab hN hX ⟨⟨B.exec, B.bytes, hml, findClass_of_methodNamed B.named, fun w h => atoms_spec (ws := ws) B.pre w (by rw [hw]; exact List.mem_cons_of_mem _ h)⟩, ⟨hE.1, hE.2.1⟩, B.returns, B.notSynchronized⟩ hP hD.self hE (fun q h => Or.inr h) va_S.rf hl
theorem kLg_ofC {y : MethodName} {ws : List Cond} {f lo mc ms : Nat} {av : List Value} {Qk : kQt} {lv : List (Nat × Value)} (hy : plainName y.cls = true) (hw : ws = Cond.code y cc nL ret :: kW) (hav : (lg_sl av).length ≤ nL) (hlv : lv_args 0 av = lv)
    (body : ∀ (p : Program) (e : Env) (s : State) (m : MethodId) (args : Array Value) (below : List Frame) (meth : Method) (c : Code) (ls : Array Slot) (A : Nat → Prop), kNc s → X A s s.heap → kC p c cc s m args meth y.cls g nL ret → kp g cs s.heap → kd A cs → kE g A s s.heap → (∀ q, s.heap.size ≤ q → A q) → va_S A s.heap s.heap [] → lv_has ls nL lv →
      W p l e (kRm f mc ms lo) s m args below meth c s.heap [] 0 0 (MQ below (Qk A) args s mc ms A) (F0 m 0 ls [])) : kLg X l y ws f lo mc ms g av cs Qk := by
  intro sz
  refine Met.ofW (cc := cc) (maxL := nL) (ret := ret) hy hw ?_
  intro p e s m args below meth c s₁ B hml hv
  obtain ⟨rfl, ⟨hsz, hP, hD, hE⟩, hN, hX⟩ := hv
  subst hsz
  have hl := lv_entry av (n := nL) hav
  rw [lg_entry_eq]
  subst hlv
  exact body p e s m _ below meth c _ _ hN hX ⟨⟨B.exec, B.bytes, hml, findClass_of_methodNamed B.named, fun w h => atoms_spec (ws := ws) B.pre w (by rw [hw]; exact List.mem_cons_of_mem _ h)⟩, ⟨hE.1, hE.2.1⟩, B.returns, B.notSynchronized⟩ hP hD.self hE (fun q h => Or.inr h) va_S.rf hl
theorem kRX_of {y : MethodName} {ws : List Cond} {f lo : Nat} {av : List Value} {v : Int32} {lv : List (Nat × Value)} (hy : plainName y.cls = true) (hw : ws = Cond.code y cc nL ret :: kW) (hav : (lg_sl av).length ≤ nL) (hlv : lv_args 0 av = lv)
    (body : ∀ (p : Program) (e : Env) (s : State) (m : MethodId) (args : Array Value) (below : List Frame) (meth : Method) (c : Code) (ls : Array Slot), X (fun _ => False) s s.heap → kC p c cc s m args meth y.cls g nL ret → kp g cs s.heap → kE g (fun _ => False) s s.heap → lv_has ls nL lv →
      W p l e (kRm f 0 0 lo) s m args below meth c s.heap [] 0 0 (MQ below (vp_Si (fun r => r = v)) args s 0 0 (fun _ => False)) (F0 m 0 ls [])) : kRX X l y ws f lo g av cs v := by
  refine Met.ofW (cc := cc) (maxL := nL) (ret := ret) hy hw ?_
  intro p e s m args below meth c s₁ B hml hv
  obtain ⟨rfl, ⟨hP, hE⟩, hX⟩ := hv
  have hl := lv_entry av (n := nL) hav
  rw [lg_entry_eq]
  subst hlv
  exact body p e s m _ below meth c _ hX ⟨⟨B.exec, B.bytes, hml, findClass_of_methodNamed B.named, fun w h => atoms_spec (ws := ws) B.pre w (by rw [hw]; exact List.mem_cons_of_mem _ h)⟩, ⟨hE.1, hE.2.1⟩, B.returns, B.notSynchronized⟩ hP hE hl
theorem kL_ret {x : Int32} {u : List va_W} {mc ms : Nat} {post : Int32 → List va_W → Prop} (C : kC p c cc s m args meth own g nL (some .int)) (hP : kp g u H) (hD : kd A u) (hS : va_S A s.heap H locs) (hp : post x u) (hc : cells ≤ mc ∧ slots ≤ ms) (d : decode cc pc = .ok (.ireturn, 1)) : W p l e R s m args below meth c H locs cells slots (MQ below (kQi g post A) args s mc ms A) (F0 m pc ls [.int x]) :=
  W.widen hc.1 hc.2 (kM_ret C hP hD hS hp d)
theorem kL_zret {b : Bool} {u : List va_W} {mc ms : Nat} {post : Int32 → List va_W → Prop} (C : kC p c cc s m args meth own g nL (some .boolean)) (hP : kp g u H) (hD : kd A u) (hS : va_S A s.heap H locs) (hp : post (b2i b) u) (hc : cells ≤ mc ∧ slots ≤ ms) (d : decode cc pc = .ok (.ireturn, 1)) : W p l e R s m args below meth c H locs cells slots (MQ below (kQi g post A) args s mc ms A) (F0 m pc ls [.int (b2i b)]) :=
  W.widen hc.1 hc.2 (kM_zret C (b2i_nar b) hP hD hS hp d)
theorem kLl_ret {x : Int64} {u : List va_W} {mc ms : Nat} {post : Int64 → List va_W → Prop} (C : kC p c cc s m args meth own g nL (some .long)) (hP : kp g u H) (hD : kd A u) (hS : va_S A s.heap H locs) (hp : post x u) (hc : cells ≤ mc ∧ slots ≤ ms) (d : decode cc pc = .ok (.lreturn, 1)) : W p l e R s m args below meth c H locs cells slots (MQ below (kQl g post A) args s mc ms A) (F0 m pc ls [.long x]) :=
  W.widen hc.1 hc.2 (W.lret C.1.1 C.1.2.1 C.2.2.1 (fun t ht _ => ⟨⟨x, u, rfl, hp, by rw [ht]; exact hP, hD⟩, hS.F ht⟩) hS.2.2 d C.2.2.2)
theorem kLf_ret {x : UInt32} {u : List va_W} {mc ms : Nat} {post : UInt32 → List va_W → Prop} (C : kC p c cc s m args meth own g nL (some .float)) (hP : kp g u H) (hD : kd A u) (hS : va_S A s.heap H locs) (hp : post x u) (hc : cells ≤ mc ∧ slots ≤ ms) (d : decode cc pc = .ok (.freturn, 1)) : W p l e R s m args below meth c H locs cells slots (MQ below (kQf g post A) args s mc ms A) (F0 m pc ls [.float x]) :=
  W.widen hc.1 hc.2 (W.fret C.1.1 C.1.2.1 C.2.2.1 (fun t ht _ => ⟨⟨x, u, rfl, hp, by rw [ht]; exact hP, hD⟩, hS.F ht⟩) hS.2.2 d C.2.2.2)
theorem kLd_ret {x : UInt64} {u : List va_W} {mc ms : Nat} {post : UInt64 → List va_W → Prop} (C : kC p c cc s m args meth own g nL (some .double)) (hP : kp g u H) (hD : kd A u) (hS : va_S A s.heap H locs) (hp : post x u) (hc : cells ≤ mc ∧ slots ≤ ms) (d : decode cc pc = .ok (.dreturn, 1)) : W p l e R s m args below meth c H locs cells slots (MQ below (kQd g post A) args s mc ms A) (F0 m pc ls [.double x]) :=
  W.widen hc.1 hc.2 (W.dret C.1.1 C.1.2.1 C.2.2.1 (fun t ht _ => ⟨⟨x, u, rfl, hp, by rw [ht]; exact hP, hD⟩, hS.F ht⟩) hS.2.2 d C.2.2.2)
/-! calls whose world is the last part of the caller's -/
theorem k_freeA {wr wc : List va_W} {H0 H : Heap} {locs : List Loc} (hD : kd A (wr ++ wc)) (hS : va_S A H0 H locs) (hA : ∀ q, H0.size ≤ q → A q) : ∀ q, va_A wc.flatten H.size q → A q := by
  intro q hq
  rcases k_in.mp hq with ⟨ch, hch, e, h⟩ | h
  · exact (kd_iff.mp hD).2.2 ch (List.mem_append_right _ hch) _ h
  · exact hA q (Nat.le_trans hS.1 h)
theorem kp_app {a b : List va_W} {H : Heap} : kp g (a ++ b) H ↔ kp g a H ∧ kp g b H := by
  rw [kp_iff, kp_iff, kp_iff]
  exact ⟨fun h => ⟨fun ch hc => h ch (List.mem_append_left _ hc), fun ch hc => h ch (List.mem_append_right _ hc)⟩, fun h ch hc => (List.mem_append.mp hc).elim (h.1 ch) (h.2 ch)⟩
theorem kd_app {a b : List va_W} : kd A (a ++ b) ↔ kd A a ∧ kd A b ∧ ∀ x ∈ a, ∀ y ∈ b, kap x y := by
  rw [kd_iff, kd_iff, kd_iff, List.pairwise_append]
  constructor
  · rintro ⟨h1, ⟨h2, h3, h4⟩, h5⟩
    exact ⟨⟨fun ch hc => h1 ch (List.mem_append_left _ hc), h2, fun ch hc => h5 ch (List.mem_append_left _ hc)⟩, ⟨fun ch hc => h1 ch (List.mem_append_right _ hc), h3, fun ch hc => h5 ch (List.mem_append_right _ hc)⟩, h4⟩
  · rintro ⟨⟨h1, h2, h3⟩, ⟨k1, k2, k3⟩, h4⟩
    exact ⟨fun ch hc => (List.mem_append.mp hc).elim (h1 ch) (k1 ch), ⟨h2, k2, h4⟩, fun ch hc => (List.mem_append.mp hc).elim (h3 ch) (k3 ch)⟩
theorem k_joinA {wr wc u : List va_W} {H H1 : Heap} (hP : kp g (wr ++ wc) H) (hD : kd A (wr ++ wc)) (hk : ∀ q : Nat, q < H.size → ¬ va_A wc.flatten H.size q → H1[q]? = H[q]?) (hF : ∀ q, va_A wc.flatten H.size q → A q) (hP1 : kp g u H1) (hD1 : kd (va_A wc.flatten H.size) u) : kp g (wr ++ u) H1 ∧ kd A (wr ++ u) := by
  obtain ⟨hPr, hPc⟩ := kp_app.mp hP
  obtain ⟨hDr, hDc, hap⟩ := kd_app.mp hD
  have apart : ∀ ch ∈ wr, ∀ q ∈ ch, q.1 < H.size ∧ ¬ va_A wc.flatten H.size q.1 := by
    intro ch hch q hq
    have hl : q.1 < H.size := (kp_iff.mp hPr ch hch q hq).lt
    refine ⟨hl, fun h => ?_⟩
    rcases k_in.mp h with ⟨ch2, hch2, e, h⟩ | h
    · exact hap ch hch ch2 hch2 q hq _ h rfl
    · omega
  refine ⟨kp_app.mpr ⟨kp_iff.mpr fun ch hch q hq => ?_, hP1⟩, kd_app.mpr ⟨hDr, hD1.weaken hF, fun a ha b hb p hp q hq e => ?_⟩⟩
  · obtain ⟨g1, g2⟩ := apart ch hch q hq
    exact (kp_iff.mp hPr ch hch q hq).kept (hk q.1 g1 g2)
  · exact (apart a ha p hp).2 (by rw [e]; exact (kd_iff.mp hD1).2.2 b hb q hq)
theorem kLg_pre {wr wc : List va_W} {av : List Value} (hN : kNc s) (hE : kE g A s s.heap) (hS : va_S A s.heap H locs) (hA : ∀ q, s.heap.size ≤ q → A q) (hP : kp g (wr ++ wc) H) (hD : kd A (wr ++ wc)) (hXU : ∀ U : State, U.heap = H → s.WarmedH U.vm → X (va_A wc.flatten H.size) U U.heap) : ∀ U : State, U.heap = H → s.WarmedH U.vm → kPreL X g av wc H.size av.toArray U :=
  fun U hU hW => ⟨rfl, ⟨by rw [hU], by rw [hU]; exact (kp_app.mp hP).2, ((kd_app.mp hD).2.1).weaken (fun _ _ => trivial), hE.call hS (k_freeA hD hS hA) hU hW⟩, hN.moved hW.alike, hXU U hU hW⟩
/-- X of the callee out of X of the frame -/
theorem kX_fr (hXs : kXs X) {wr wc : List va_W} (hX : X A s s.heap) (hS : va_S A s.heap H locs) (hA : ∀ q, s.heap.size ≤ q → A q) (hD : kd A (wr ++ wc)) : ∀ U : State, U.heap = H → s.WarmedH U.vm → X (va_A wc.flatten H.size) U U.heap :=
  fun U hU hW => hXs.1 A _ s U H locs hX hS (k_freeA hD hS hA) hU hW
theorem kX0_fr {B : Nat → Prop} : ∀ U : State, U.heap = H → s.WarmedH U.vm → kX0 B U U.heap := fun _ _ _ => trivial
theorem kL_SW (C : kC p c cc s m args meth own g nL ret) (hXs : kXs X) {y : MethodName} {ws : List Cond} {hh : List (Nat × Nat × Nat × Nat)} {index f lo mc ms maxL n : Nat} {bytes : ByteArray} {r2 : Option FieldType} {As : List Value} {wc wr : List va_W} {post : Int32 → List va_W → Prop} (hM : kL X l y ws f lo mc ms g As wc post) (hN : kNc s)
    (hXU : ∀ U : State, U.heap = H → s.WarmedH U.vm → X (va_A wc.flatten H.size) U U.heap) (cw : vx_CSW R s args own index y bytes maxL r2 hh ws (kRm f mc ms lo) mc ms n) (hE : kE g A s s.heap) (hS : va_S A s.heap H locs) (hA : ∀ q, s.heap.size ≤ q → A q) (hP : kp g (wr ++ wc) H) (hD : kd A (wr ++ wc))
    (hn : As.length = n) (hsz : ls.size = nL) (hst : st = As.reverse ++ rest) (hW : kSt rest) (d : decode cc pc = .ok (.invokestatic index, 3)) (hf : cells + mc ≤ R.cells ∧ slots + ms ≤ R.slots)
    (kk : ∀ (r : Int32) (u : List va_W) (H1 : Heap) (locs1 : List Loc), post r u → kp g (wr ++ u) H1 → kd A (wr ++ u) → va_S A s.heap H1 locs1 → W p l e R s m args below meth c H1 locs1 (cells + mc) (slots + ms) Q (F0 m (pc + 3) ls (.int r :: rest))) : W p l e R s m args below meth c H locs cells slots Q (F0 m pc ls st) := by
  have hF := k_freeA hD hS hA
  refine va_calli (vx_runSW (As := As) (rest := rest) C.1 (hM H.size) cw ⟨kPreL_blind hXs, kLg_pre hN hE hS hA hP hD hXU⟩ rfl hn hsz hst (lv_room (Nat.le_of_ble_eq_true hW)) d hf) hS (fun q _ h => hF q h) hF (fun r u t H1 locs ht hvm hw hB hz1 hk1 hS => ?_)
  obtain ⟨hP1, hD1⟩ := hB
  rw [ht] at hP1
  obtain ⟨hP2, hD2⟩ := k_joinA hP hD hk1 hF hP1 hD1
  exact kk r u H1 locs hw hP2 hD2 hS
theorem kL_SC (C : kC p c cc s m args meth own g nL ret) (hXs : kXs X) {y : MethodName} {ws : List Cond} {index f lo mc ms maxL n : Nat} {bytes : ByteArray} {r2 : Option FieldType} {As : List Value} {wc wr : List va_W} {post : Int32 → List va_W → Prop} (hM : kL X l y ws f lo mc ms g As wc post) (hN : kNc s)
    (hXU : ∀ U : State, U.heap = H → s.WarmedH U.vm → X (va_A wc.flatten H.size) U U.heap) (cw : CallB R s args own index y bytes maxL r2 ws (kRm f mc ms lo) mc ms n ∧ (Cond.static y).before args s = true) (hE : kE g A s s.heap) (hS : va_S A s.heap H locs) (hA : ∀ q, s.heap.size ≤ q → A q) (hP : kp g (wr ++ wc) H) (hD : kd A (wr ++ wc))
    (hn : As.length = n) (hsz : ls.size = nL) (hst : st = As.reverse ++ rest) (hW : kSt rest) (d : decode cc pc = .ok (.invokestatic index, 3)) (hf : cells + mc ≤ R.cells ∧ slots + ms ≤ R.slots)
    (kk : ∀ (r : Int32) (u : List va_W) (H1 : Heap) (locs1 : List Loc), post r u → kp g (wr ++ u) H1 → kd A (wr ++ u) → va_S A s.heap H1 locs1 → W p l e R s m args below meth c H1 locs1 (cells + mc) (slots + ms) Q (F0 m (pc + 3) ls (.int r :: rest))) : W p l e R s m args below meth c H locs cells slots Q (F0 m pc ls st) := by
  have hF := k_freeA hD hS hA
  refine va_calli (va_runS (As := As) (rest := rest) C.1 (hM H.size) cw ⟨kPreL_blind hXs, kLg_pre hN hE hS hA hP hD hXU⟩ rfl hn hsz hst (lv_room (Nat.le_of_ble_eq_true hW)) d hf) hS (fun q _ h => hF q h) hF (fun r u t H1 locs ht hvm hw hB hz1 hk1 hS => ?_)
  obtain ⟨hP1, hD1⟩ := hB
  rw [ht] at hP1
  obtain ⟨hP2, hD2⟩ := k_joinA hP hD hk1 hF hP1 hD1
  exact kk r u H1 locs hw hP2 hD2 hS
theorem kLl_SC (C : kC p c cc s m args meth own g nL ret) (hXs : kXs X) {y : MethodName} {ws : List Cond} {index f lo mc ms maxL n : Nat} {bytes : ByteArray} {r2 : Option FieldType} {As : List Value} {wc wr : List va_W} {post : Int64 → List va_W → Prop} (hM : kLl X l y ws f lo mc ms g As wc post) (hN : kNc s)
    (hXU : ∀ U : State, U.heap = H → s.WarmedH U.vm → X (va_A wc.flatten H.size) U U.heap) (cw : CallB R s args own index y bytes maxL r2 ws (kRm f mc ms lo) mc ms n ∧ (Cond.static y).before args s = true) (hE : kE g A s s.heap) (hS : va_S A s.heap H locs) (hA : ∀ q, s.heap.size ≤ q → A q) (hP : kp g (wr ++ wc) H) (hD : kd A (wr ++ wc))
    (hn : As.length = n) (hsz : ls.size = nL) (hst : st = As.reverse ++ rest) (hW : kSt rest) (d : decode cc pc = .ok (.invokestatic index, 3)) (hf : cells + mc ≤ R.cells ∧ slots + ms ≤ R.slots)
    (kk : ∀ (r : Int64) (u : List va_W) (H1 : Heap) (locs1 : List Loc), post r u → kp g (wr ++ u) H1 → kd A (wr ++ u) → va_S A s.heap H1 locs1 → W p l e R s m args below meth c H1 locs1 (cells + mc) (slots + ms) Q (F0 m (pc + 3) ls (.long r :: rest))) : W p l e R s m args below meth c H locs cells slots Q (F0 m pc ls st) := by
  have hF := k_freeA hD hS hA
  refine va_calll (va_runS (As := As) (rest := rest) C.1 (hM H.size) cw ⟨kPreL_blind hXs, kLg_pre hN hE hS hA hP hD hXU⟩ rfl hn hsz hst (lv_room (Nat.le_of_ble_eq_true hW)) d hf) hS (fun q _ h => hF q h) hF (fun r u t H1 locs ht hvm hw hB hz1 hk1 hS => ?_)
  obtain ⟨hP1, hD1⟩ := hB
  rw [ht] at hP1
  obtain ⟨hP2, hD2⟩ := k_joinA hP hD hk1 hF hP1 hD1
  exact kk r u H1 locs hw hP2 hD2 hS
theorem kLf_SW (C : kC p c cc s m args meth own g nL ret) (hXs : kXs X) {y : MethodName} {ws : List Cond} {hh : List (Nat × Nat × Nat × Nat)} {index f lo mc ms maxL n : Nat} {bytes : ByteArray} {r2 : Option FieldType} {As : List Value} {wc wr : List va_W} {post : UInt32 → List va_W → Prop} (hM : kLf X l y ws f lo mc ms g As wc post) (hN : kNc s)
    (hXU : ∀ U : State, U.heap = H → s.WarmedH U.vm → X (va_A wc.flatten H.size) U U.heap) (cw : vx_CSW R s args own index y bytes maxL r2 hh ws (kRm f mc ms lo) mc ms n) (hE : kE g A s s.heap) (hS : va_S A s.heap H locs) (hA : ∀ q, s.heap.size ≤ q → A q) (hP : kp g (wr ++ wc) H) (hD : kd A (wr ++ wc))
    (hn : As.length = n) (hsz : ls.size = nL) (hst : st = As.reverse ++ rest) (hW : kSt rest) (d : decode cc pc = .ok (.invokestatic index, 3)) (hf : cells + mc ≤ R.cells ∧ slots + ms ≤ R.slots)
    (kk : ∀ (r : UInt32) (u : List va_W) (H1 : Heap) (locs1 : List Loc), post r u → kp g (wr ++ u) H1 → kd A (wr ++ u) → va_S A s.heap H1 locs1 → W p l e R s m args below meth c H1 locs1 (cells + mc) (slots + ms) Q (F0 m (pc + 3) ls (.float r :: rest))) : W p l e R s m args below meth c H locs cells slots Q (F0 m pc ls st) := by
  have hF := k_freeA hD hS hA
  refine va_callf (vx_runSW (As := As) (rest := rest) C.1 (hM H.size) cw ⟨kPreL_blind hXs, kLg_pre hN hE hS hA hP hD hXU⟩ rfl hn hsz hst (lv_room (Nat.le_of_ble_eq_true hW)) d hf) hS (fun q _ h => hF q h) hF (fun r u t H1 locs ht hvm hw hB hz1 hk1 hS => ?_)
  obtain ⟨hP1, hD1⟩ := hB
  rw [ht] at hP1
  obtain ⟨hP2, hD2⟩ := k_joinA hP hD hk1 hF hP1 hD1
  exact kk r u H1 locs hw hP2 hD2 hS
theorem kLd_SW (C : kC p c cc s m args meth own g nL ret) (hXs : kXs X) {y : MethodName} {ws : List Cond} {hh : List (Nat × Nat × Nat × Nat)} {index f lo mc ms maxL n : Nat} {bytes : ByteArray} {r2 : Option FieldType} {As : List Value} {wc wr : List va_W} {post : UInt64 → List va_W → Prop} (hM : kLd X l y ws f lo mc ms g As wc post) (hN : kNc s)
    (hXU : ∀ U : State, U.heap = H → s.WarmedH U.vm → X (va_A wc.flatten H.size) U U.heap) (cw : vx_CSW R s args own index y bytes maxL r2 hh ws (kRm f mc ms lo) mc ms n) (hE : kE g A s s.heap) (hS : va_S A s.heap H locs) (hA : ∀ q, s.heap.size ≤ q → A q) (hP : kp g (wr ++ wc) H) (hD : kd A (wr ++ wc))
    (hn : As.length = n) (hsz : ls.size = nL) (hst : st = As.reverse ++ rest) (hW : kSt rest) (d : decode cc pc = .ok (.invokestatic index, 3)) (hf : cells + mc ≤ R.cells ∧ slots + ms ≤ R.slots)
    (kk : ∀ (r : UInt64) (u : List va_W) (H1 : Heap) (locs1 : List Loc), post r u → kp g (wr ++ u) H1 → kd A (wr ++ u) → va_S A s.heap H1 locs1 → W p l e R s m args below meth c H1 locs1 (cells + mc) (slots + ms) Q (F0 m (pc + 3) ls (.double r :: rest))) : W p l e R s m args below meth c H locs cells slots Q (F0 m pc ls st) := by
  have hF := k_freeA hD hS hA
  refine va_calld (vx_runSW (As := As) (rest := rest) C.1 (hM H.size) cw ⟨kPreL_blind hXs, kLg_pre hN hE hS hA hP hD hXU⟩ rfl hn hsz hst (lv_room (Nat.le_of_ble_eq_true hW)) d hf) hS (fun q _ h => hF q h) hF (fun r u t H1 locs ht hvm hw hB hz1 hk1 hS => ?_)
  obtain ⟨hP1, hD1⟩ := hB
  rw [ht] at hP1
  obtain ⟨hP2, hD2⟩ := k_joinA hP hD hk1 hF hP1 hD1
  exact kk r u H1 locs hw hP2 hD2 hS
theorem kRX_S (C : kC p c cc s m args meth own g nL ret) (hXs : kXs X) (hX : X A s s.heap) {y : MethodName} {ws : List Cond} {index f lo maxL n : Nat} {bytes : ByteArray} {r2 : Option FieldType} {As : List Value} {wc : List va_W} {v : Int32} (hM : kRX X l y ws f lo g As wc v)
    (cw : CallB R s args own index y bytes maxL r2 ws (kRm f 0 0 lo) 0 0 n ∧ (Cond.static y).before args s = true) (hE : kE g A s s.heap) (hS : va_S A s.heap H locs) (hPc : kp g wc H)
    (hn : As.length = n) (hsz : ls.size = nL) (hst : st = As.reverse ++ rest) (hW : kSt rest) (d : decode cc pc = .ok (.invokestatic index, 3)) (hf : cells ≤ R.cells ∧ slots ≤ R.slots)
    (kk : W p l e R s m args below meth c H locs cells slots Q (F0 m (pc + 3) ls (.int v :: rest))) : W p l e R s m args below meth c H locs cells slots Q (F0 m pc ls st) := by
  refine kR_back (y := y) (ws := ws) (f := f) (lo := lo) (av := As) (wc := wc) (y2 := y) (va_runS (As := As) (rest := rest) C.1 hM cw ⟨kRX_blind hXs, fun U hU hW => ⟨rfl, ⟨by rw [hU]; exact hPc, hE.call hS (fun _ q => q.elim) hU hW⟩, hXs.1 A _ s U H locs hX hS (fun _ q => q.elim) hU hW⟩⟩ rfl hn hsz hst (lv_room (Nat.le_of_ble_eq_true hW)) d hf) kk
theorem kRX_V (C : kC p c cc s m args meth own g nL ret) (hXs : kXs X) (hX : X A s s.heap) {y : MethodName} {ws : List Cond} {Cn : String} {index b f lo maxL n : Nat} {bytes : ByteArray} {r2 : Option FieldType} {As : List Value} {wc : List va_W} {v : Int32} (hM : kRX X l y ws f lo g (.ref b :: As) wc v)
    (cw : CallW R s args own Cn index y bytes maxL r2 ws (kRm f 0 0 lo) 0 0 n) (hE : kE g A s s.heap) (hS : va_S A s.heap H locs) (hPc : kp g wc H) (hrc : ∃ cell : Cell, H[b]? = some cell ∧ cell.vm.isStatics = false ∧ s.vm.findClass Cn = some cell.cls)
    (hn : As.length = n) (hsz : ls.size = nL) (hst : st = As.reverse ++ .ref b :: rest) (hW : kSt rest) (d : decode cc pc = .ok (.invokevirtual index, 3)) (hf : cells ≤ R.cells ∧ slots ≤ R.slots)
    (kk : W p l e R s m args below meth c H locs cells slots Q (F0 m (pc + 3) ls (.int v :: rest))) : W p l e R s m args below meth c H locs cells slots Q (F0 m pc ls st) := by
  refine kR_back (y := y) (ws := ws) (f := f) (lo := lo) (av := .ref b :: As) (wc := wc) (y2 := y) (va_runV (As := As) (rest := rest) C.1 hM cw ⟨kRX_blind hXs, hrc, fun U hU hW => ⟨rfl, ⟨by rw [hU]; exact hPc, hE.call hS (fun _ q => q.elim) hU hW⟩, hXs.1 A _ s U H locs hX hS (fun _ q => q.elim) hU hW⟩⟩ rfl hn hsz hst (lv_room (Nat.le_of_ble_eq_true hW)) d hf) kk
/-- ldc_w of a text -/
theorem lv_ldcwS (hexec : p.tables.exec = Jvm.exec) (hb : c.code = cc) {own tx : String} {index q : Nat} (hown : s.vm.findClass own = some m.cls) (hZ : vk_R own index tx q s) (hdg : decode cc pc = .ok (.ldc_w index, 3))
    (k : W p l e R s m args below meth c H locs cells slots Q (F0 m (pc + 3) ls (.ref q :: rest))) : W p l e R s m args below meth c H locs cells slots Q (F0 m pc ls rest) := by
  intro T hT X
  obtain ⟨t, a1, b1⟩ := k T hT X
  refine ⟨t, ?_, b1⟩
  obtain ⟨k, cf, i, a', hk, hcf, hcp, -, hr, hev'⟩ := Cond.stringRef_spec hown hZ.1
  cases hZ.2.symm.trans hev'
  obtain ⟨k', hk', he⟩ := X.warmed.alike.2.2 _ _ hk
  have hr' : k'.resolved[index]? = some (some (.string q)) := by
    rcases X.warmed.entry hk hk' index with h | ⟨h, -⟩
    · rw [h]; exact hr
    · rw [hr] at h; cases h
  subst hb
  jvm_step X.here [hexec, hdg, ldc_w.wp_string (e := e) (s := T) (f := F0 m pc ls rest) X.here.top hk' (by rw [he]; exact hcf) hcp hr']
  exact a1
theorem kg_ldcws (C : kC p c cc s m args meth own g nL ret) {index a : Nat} {tx : String} (hE : kE g A s s.heap) (hm : (own, index, tx, a) ∈ k_strs) (d : decode cc pc = .ok (.ldc_w index, 3))
    (kk : W p l e R s m args below meth c H locs cells slots Q (F0 m (pc + 3) ls (.ref (g.2.2 a) :: rest))) : W p l e R s m args below meth c H locs cells slots Q (F0 m pc ls rest) :=
  lv_ldcwS C.1.1 C.1.2.1 C.1.2.2.2.1 (hE.2.2.1 _ hm) d kk
/-- caught by the first handler -/
theorem kx_catch1 {E : String} {ce : Cell} {q : Addr} {a0 b0 h0 t0 : Nat} {hs : List (Nat × Nat × Nat × Nat)} (C : kC p c cc s m args meth own g nL ret) (htab : c.exceptionTable.toList = tableOf ((a0, b0, h0, t0) :: hs)) (hin : covers ⟨a0, b0, h0, t0⟩ pc = true) (ht : t0 ≠ 0) (hlink : Cond.classLink own t0 E ∈ kW) (hcast : Cond.castable E E ∈ k_nest) (hcell : H[q]? = some ce) (hv : ce.vm = .none) (hcl : s.vm.findClass E = some ce.cls)
    (kk : W p l e R s m args below meth c H locs cells slots Q (F0 m h0 ls [.ref q])) : vx_W p l e R s m args below meth c H locs cells slots Q (F0 m pc ls rest) q :=
  vx_catch C.1.2.2.2.1 [] ⟨a0, b0, h0, t0⟩ (tableOf hs) htab (fun z hz => absurd hz List.not_mem_nil) hin ht (C.1.2.2.2.2 _ hlink) (va_Nw.use rfl (C.2.1.2 _ hcast)) hcell hv hcl kk
/-- .. by the second -/
theorem kx_catch2 {E F : String} {ce : Cell} {q : Addr} {a0 b0 h0 t0 a1 b1 h1 t1 : Nat} {hs : List (Nat × Nat × Nat × Nat)} (C : kC p c cc s m args meth own g nL ret) (htab : c.exceptionTable.toList = tableOf ((a0, b0, h0, t0) :: (a1, b1, h1, t1) :: hs)) (ht0 : t0 ≠ 0) (hlink0 : Cond.classLink own t0 F ∈ kW) (hnc : va_Nc E F s) (hin : covers ⟨a1, b1, h1, t1⟩ pc = true) (ht : t1 ≠ 0) (hlink : Cond.classLink own t1 E ∈ kW) (hcast : Cond.castable E E ∈ k_nest) (hcell : H[q]? = some ce) (hv : ce.vm = .none) (hcl : s.vm.findClass E = some ce.cls)
    (kk : W p l e R s m args below meth c H locs cells slots Q (F0 m h1 ls [.ref q])) : vx_W p l e R s m args below meth c H locs cells slots Q (F0 m pc ls rest) q :=
  vx_catch C.1.2.2.2.1 [⟨a0, b0, h0, t0⟩] ⟨a1, b1, h1, t1⟩ (tableOf hs) htab (fun z hz => by
    obtain rfl := List.mem_singleton.mp hz
    exact Or.inr ⟨ht0, F, C.1.2.2.2.2 _ hlink0, hnc⟩) hin ht (C.1.2.2.2.2 _ hlink) (va_Nw.use rfl (C.2.1.2 _ hcast)) hcell hv hcl kk

theorem kXF_V (C : kC p c cc s m args meth own g nL ret) {y : MethodName} {ws : List Cond} {Cn : String} {index b f lo mc ms maxL n : Nat} {bytes : ByteArray} {r2 : Option FieldType} {As : List Value} {wc wr : List va_W} {post : UInt32 → List va_W → Prop} {px : String → List va_W → Prop} (hM : kXF l y ws f lo mc ms g (.ref b :: As) wc post px)
    (cw : CallW R s args own Cn index y bytes maxL r2 ws (kRm f mc ms lo) mc ms n) (hE : kE g A s s.heap) (hS : va_S A s.heap H locs) (hA : ∀ q, s.heap.size ≤ q → A q) (hP : kp g cs H) (hD : kd A cs) (iC iR : List Nat) (hC : iC.map (fun i => cs[i]?) = wc.map some) (hR : iR.map (fun i => cs[i]?) = wr.map some) (hnd : va_nd iC = true ∧ va_nd iR = true ∧ ∀ i ∈ iR, i ∉ iC) (hrc : ∃ cell : Cell, H[b]? = some cell ∧ cell.vm.isStatics = false ∧ s.vm.findClass Cn = some cell.cls)
    (hn : As.length = n) (hsz : ls.size = nL) (hst : st = As.reverse ++ .ref b :: rest) (hW : kSt rest) (d : decode cc pc = .ok (.invokevirtual index, 3)) (hf : cells + mc ≤ R.cells ∧ slots + ms ≤ R.slots)
    (kx : ∀ (E : String) (u : List va_W) (H1 : Heap) (locs1 : List Loc) (q9 : Addr) (ce : Cell), px E u → kp g (wr ++ u) H1 → kd A (wr ++ u) → va_S A s.heap H1 locs1 → H1[q9]? = some ce → ce.vm = .none → s.vm.findClass E = some ce.cls → vx_W p l e R s m args below meth c H1 locs1 (cells + mc) (slots + ms) Q (F0 m pc ls rest) q9)
    (kk : ∀ (r : UInt32) (u : List va_W) (H1 : Heap) (locs1 : List Loc), post r u → kp g (wr ++ u) H1 → kd A (wr ++ u) → va_S A s.heap H1 locs1 → W p l e R s m args below meth c H1 locs1 (cells + mc) (slots + ms) Q (F0 m (pc + 3) ls (.float r :: rest))) : W p l e R s m args below meth c H locs cells slots Q (F0 m pc ls st) := by
  have hF := k_free hD hS hA iC hC
  refine vx_callf (vx_runV (As := As) (rest := rest) C.1 (hM H.size) cw ⟨kPre_blind, hrc, kM_pre hE hS hA hP hD iC hC hnd.1⟩ rfl hn hsz hst (lv_room (Nat.le_of_ble_eq_true hW)) d hf) hS (fun q _ h => hF q h) hF (fun q _ h => hF q h) (fun E ce q9 u t H1 locs1 ht hvm _ hB hz1 hk1 hS hce hcv hcl => ?_) (fun r u t H1 locs ht hvm hw hB hz1 hk1 hS => ?_)
  · obtain ⟨hw, hP1, hD1⟩ := hB
    rw [ht] at hP1
    obtain ⟨hP2, hD2⟩ := k_join hP hD iC iR hC hR hnd.2.1 hnd.2.2 hk1 hF hP1 hD1
    exact kx E u H1 locs1 q9 ce hw hP2 hD2 hS hce hcv hcl
  · obtain ⟨hP1, hD1⟩ := hB
    rw [ht] at hP1
    obtain ⟨hP2, hD2⟩ := k_join hP hD iC iR hC hR hnd.2.1 hnd.2.2 hk1 hF hP1 hD1
    exact kk r u H1 locs hw hP2 hD2 hS
theorem kXD_V (C : kC p c cc s m args meth own g nL ret) {y : MethodName} {ws : List Cond} {Cn : String} {index b f lo mc ms maxL n : Nat} {bytes : ByteArray} {r2 : Option FieldType} {As : List Value} {wc wr : List va_W} {post : UInt64 → List va_W → Prop} {px : String → List va_W → Prop} (hM : kXD l y ws f lo mc ms g (.ref b :: As) wc post px)
    (cw : CallW R s args own Cn index y bytes maxL r2 ws (kRm f mc ms lo) mc ms n) (hE : kE g A s s.heap) (hS : va_S A s.heap H locs) (hA : ∀ q, s.heap.size ≤ q → A q) (hP : kp g cs H) (hD : kd A cs) (iC iR : List Nat) (hC : iC.map (fun i => cs[i]?) = wc.map some) (hR : iR.map (fun i => cs[i]?) = wr.map some) (hnd : va_nd iC = true ∧ va_nd iR = true ∧ ∀ i ∈ iR, i ∉ iC) (hrc : ∃ cell : Cell, H[b]? = some cell ∧ cell.vm.isStatics = false ∧ s.vm.findClass Cn = some cell.cls)
    (hn : As.length = n) (hsz : ls.size = nL) (hst : st = As.reverse ++ .ref b :: rest) (hW : kSt rest) (d : decode cc pc = .ok (.invokevirtual index, 3)) (hf : cells + mc ≤ R.cells ∧ slots + ms ≤ R.slots)
    (kx : ∀ (E : String) (u : List va_W) (H1 : Heap) (locs1 : List Loc) (q9 : Addr) (ce : Cell), px E u → kp g (wr ++ u) H1 → kd A (wr ++ u) → va_S A s.heap H1 locs1 → H1[q9]? = some ce → ce.vm = .none → s.vm.findClass E = some ce.cls → vx_W p l e R s m args below meth c H1 locs1 (cells + mc) (slots + ms) Q (F0 m pc ls rest) q9)
    (kk : ∀ (r : UInt64) (u : List va_W) (H1 : Heap) (locs1 : List Loc), post r u → kp g (wr ++ u) H1 → kd A (wr ++ u) → va_S A s.heap H1 locs1 → W p l e R s m args below meth c H1 locs1 (cells + mc) (slots + ms) Q (F0 m (pc + 3) ls (.double r :: rest))) : W p l e R s m args below meth c H locs cells slots Q (F0 m pc ls st) := by
  have hF := k_free hD hS hA iC hC
  refine vx_calld (vx_runV (As := As) (rest := rest) C.1 (hM H.size) cw ⟨kPre_blind, hrc, kM_pre hE hS hA hP hD iC hC hnd.1⟩ rfl hn hsz hst (lv_room (Nat.le_of_ble_eq_true hW)) d hf) hS (fun q _ h => hF q h) hF (fun q _ h => hF q h) (fun E ce q9 u t H1 locs1 ht hvm _ hB hz1 hk1 hS hce hcv hcl => ?_) (fun r u t H1 locs ht hvm hw hB hz1 hk1 hS => ?_)
  · obtain ⟨hw, hP1, hD1⟩ := hB
    rw [ht] at hP1
    obtain ⟨hP2, hD2⟩ := k_join hP hD iC iR hC hR hnd.2.1 hnd.2.2 hk1 hF hP1 hD1
    exact kx E u H1 locs1 q9 ce hw hP2 hD2 hS hce hcv hcl
  · obtain ⟨hP1, hD1⟩ := hB
    rw [ht] at hP1
    obtain ⟨hP2, hD2⟩ := k_join hP hD iC iR hC hR hnd.2.1 hnd.2.2 hk1 hF hP1 hD1
    exact kk r u H1 locs hw hP2 hD2 hS
end KROWSL
