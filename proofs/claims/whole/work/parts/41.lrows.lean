/-! rows for the law's wrappers: a body with handlers; longs and doubles laid out -/
def kNc (U : State) : Prop := va_Nc "java/lang/IllegalArgumentException" "java/lang/IndexOutOfBoundsException" U ∧ va_Nc "java/util/NoSuchElementException" "java/lang/IndexOutOfBoundsException" U ∧ va_Nc "java/lang/UnsupportedOperationException" "java/lang/IllegalArgumentException" U ∧ va_Nc "java/util/NoSuchElementException" "java/lang/IllegalArgumentException" U
theorem kNc.moved {u U : State} (hvm : u.vm.Alike U.vm) (h : kNc u) : kNc U := ⟨va_Nc.moved hvm h.1, va_Nc.moved hvm h.2.1, va_Nc.moved hvm h.2.2.1, va_Nc.moved hvm h.2.2.2⟩
def kPreL (g : kG) (av : List Value) (cs : List va_W) (sz : Nat) : Array Value → State → Prop := va_Pc av (fun U => (U.heap.size = sz ∧ kp g cs U.heap ∧ kd (fun _ => True) cs ∧ kE g (va_A cs.flatten sz) U U.heap) ∧ kNc U)
/-- a wrapper of the law -/
def kL (l : Launch) (y : MethodName) (ws : List Cond) (f lo mc ms : Nat) (g : kG) (av : List Value) (cs : List va_W) (post : Int32 → List va_W → Prop) : Prop :=
  ∀ sz : Nat, Met l y ws (kRm f mc ms lo) (kPreL g av cs sz) (kQi g post (va_A cs.flatten sz)) mc ms (va_A cs.flatten sz)
theorem kPreL_blind {g : kG} {av : List Value} {cs : List va_W} {sz : Nat} : FrameBlind (kPreL g av cs sz) := fun a U f mk q => by
  obtain ⟨q0, ⟨q1, q2, q3, q4⟩, q5⟩ := q
  exact ⟨q0, ⟨q1, q2, q3, q4.blind⟩, kNc.moved (u := U) (U := U.calling f mk a) (Vm.Alike.refl U.vm) q5⟩
/-- the out arrays -/
def OLW (g : kG) (o : Nat) (f : Nat → Int64) : va_W := [(o, .inl (g.2.1 3, 1, .inr (.inl f)))]
def ODW (g : kG) (o : Nat) (f : Nat → UInt64) : va_W := [(o, .inl (g.2.1 4, 1, .inr (.inr (.inr (.inl f)))))]
theorem OLs {g : kG} {o : Nat} {f h : Nat → Int64} : (OLW g o f).set 0 (o, .inl (g.2.1 3, 1, .inr (.inl h))) = OLW g o h := rfl
theorem ODs {g : kG} {o : Nat} {f h : Nat → UInt64} : (ODW g o f).set 0 (o, .inl (g.2.1 4, 1, .inr (.inr (.inr (.inl h))))) = ODW g o h := rfl
theorem k_updL0 (f : Nat → Int64) (x : Int64) : vp_updL f 0 x 0 = x := if_pos rfl
theorem k_updD0 (f : Nat → UInt64) (x : UInt64) : vf_upd f 0 x 0 = x := if_pos rfl
theorem k_inL : vp_in (0 : Int32) 1 := by unfold vp_in; decide
section KROWSL
variable {p : Program} {l : Launch} {e : Env} {R : Room} {s : State} {m : MethodId} {args : Array Value} {below : List Frame} {meth : Method} {c : Code} {H : Heap} {locs : List Loc} {cells slots : Nat} {Q : State → Prop}
variable {cc : ByteArray} {pc nL : Nat} {ls : Array Slot} {st rest : List Value} {A : Nat → Prop} {H0 : Heap} {g : kG} {cs : List va_W} {own : String} {ret : Option FieldType}
theorem kMet_ofWH {y : MethodName} {ws ws' : List Cond} {rm : Room} {Pc : Array Value → State → Prop} {Qc : Array Value → State → Outcome → State → Prop} {mc ms : Nat} {free : Addr → Prop} {maxL : Nat} {hh : List (Nat × Nat × Nat × Nat)}
    (hy : plainName y.cls = true) (hw : ws = Cond.codeWith y cc maxL ret hh :: ws')
    (body : ∀ p e s m args below meth c s₁, BodyLoose p l y (headSpec ws rm) cc maxL ret e s m args below meth c s₁ → c.maxLocals = maxL → Pc args s →
      W p l e (headSpec ws rm).room s m args below meth c s.heap [] 0 0 (MQ below Qc args s mc ms free) (entryFrame m args maxL)) : Met l y ws rm Pc Qc mc ms free := by
  refine MetFree.of_bodyS (code := cc) (maxLocals := maxL) (ret := ret) hy ?_ ?_
  · intro args s m h hn
    obtain ⟨m9, meth, c, hn9, h1, h2, h3, h4, -, h5, h6, -⟩ := Cond.codeWith_spec (atoms_spec (ws := ws) h _ (by rw [hw]; exact List.mem_cons_self))
    cases hn.symm.trans hn9
    exact ⟨meth, c, h1, h2, h3, h4, h5, h6⟩
  · intro p e s m args below meth c s₁ B hml hP _
    have hh0 : s₁.heap = s.heap := by rw [B.state]; rfl
    obtain ⟨t, a1, o, b1, b2, b3⟩ := body p e s m args below meth c s₁ B hml hP s₁ hh0 (Stand.of_body B)
    exact ⟨t, o, a1, b1, b2, ⟨b3.1, b3.2⟩⟩
theorem kL_of {y : MethodName} {ws : List Cond} {f lo mc ms : Nat} {av : List Value} {post : Int32 → List va_W → Prop} {lv : List (Nat × Value)} {hh : List (Nat × Nat × Nat × Nat)} (hy : plainName y.cls = true) (hw : ws = Cond.codeWith y cc nL ret hh :: kW) (hav : (lg_sl av).length ≤ nL) (hlv : lv_args 0 av = lv)
    (body : ∀ (p : Program) (e : Env) (s : State) (m : MethodId) (args : Array Value) (below : List Frame) (meth : Method) (c : Code) (ls : Array Slot) (A : Nat → Prop), c.exceptionTable.toList = tableOf hh → kNc s → kC p c cc s m args meth y.cls g nL ret → kp g cs s.heap → kd A cs → kE g A s s.heap → (∀ q, s.heap.size ≤ q → A q) → va_S A s.heap s.heap [] → lv_has ls nL lv →
      W p l e (kRm f mc ms lo) s m args below meth c s.heap [] 0 0 (MQ below (kQi g post A) args s mc ms A) (F0 m 0 ls [])) : kL l y ws f lo mc ms g av cs post := by
  intro sz
  refine kMet_ofWH (cc := cc) (maxL := nL) (ret := ret) hy hw ?_
  intro p e s m args below meth c s₁ B hml hv
  have htab := vx_table (x := y) B (atoms_spec (ws := ws) B.pre _ (by rw [hw]; exact List.mem_cons_self))
  obtain ⟨rfl, ⟨hsz, hP, hD, hE⟩, hN⟩ := hv
  subst hsz
  have hl := lv_entry av (n := nL) hav
  rw [lg_entry_eq]
  subst hlv
  exact body p e s m _ below meth c _ _ htab hN ⟨⟨B.exec, B.bytes, hml, findClass_of_methodNamed B.named, fun w h => atoms_spec (ws := ws) B.pre w (by rw [hw]; exact List.mem_cons_of_mem _ h)⟩, ⟨hE.1, hE.2.1⟩, B.returns, B.notSynchronized⟩ hP hD.self hE (fun q h => Or.inr h) va_S.rf hl
theorem kL_ret {x : Int32} {u : List va_W} {mc ms : Nat} {post : Int32 → List va_W → Prop} (C : kC p c cc s m args meth own g nL (some .int)) (hP : kp g u H) (hD : kd A u) (hS : va_S A s.heap H locs) (hp : post x u) (hc : cells ≤ mc ∧ slots ≤ ms) (d : decode cc pc = .ok (.ireturn, 1)) : W p l e R s m args below meth c H locs cells slots (MQ below (kQi g post A) args s mc ms A) (F0 m pc ls [.int x]) :=
  W.widen hc.1 hc.2 (kM_ret C hP hD hS hp d)
theorem kg_last (C : kC p c cc s m args meth own g nL ret) {a i : Nat} {f : Nat → Int64} {x : Int64} {cs' : List va_W} (hP : kp g cs H) (hD : kd A cs) (hS : va_S A H0 H locs) (hch : cs[i]? = some (OLW g a f)) (hcs : cs.set i (OLW g a (vp_updL f 0 x)) = cs') (d : decode cc pc = .ok (.lastore, 1))
    (kk : ∀ (H1 : Heap) (locs1 : List Loc), kp g cs' H1 → kd A cs' → va_S A H0 H1 locs1 → W p l e R s m args below meth c H1 locs1 cells slots Q (F0 m (pc + 1) ls rest)) : W p l e R s m args below meth c H locs cells slots Q (F0 m pc ls (.long x :: .int 0 :: .ref a :: rest)) := by
  obtain ⟨k, h1, h2⟩ := k_loc (q := 0) (x := (a, .inl (g.2.1 3, 1, .inr (.inl f)))) hch rfl
  subst hcs
  refine va_last C.1.1 C.1.2.1 C.2.1.1 hP hD hS k 3 h1 rfl k_inL d (fun H1 locs1 hP hD hS => ?_)
  rw [h2] at hP hD
  exact kk H1 locs1 hP hD hS
theorem kg_lald (C : kC p c cc s m args meth own g nL ret) {a i : Nat} {f : Nat → Int64} (hP : kp g cs H) (hch : cs[i]? = some (OLW g a f)) (d : decode cc pc = .ok (.laload, 1))
    (kk : W p l e R s m args below meth c H locs cells slots Q (F0 m (pc + 1) ls (.long (f 0) :: rest))) : W p l e R s m args below meth c H locs cells slots Q (F0 m pc ls (.int 0 :: .ref a :: rest)) := by
  obtain ⟨k, h1, -⟩ := k_loc (q := 0) (x := (a, .inl (g.2.1 3, 1, .inr (.inl f)))) hch rfl
  exact va_lald C.1.1 C.1.2.1 C.2.1.1 hP k 3 h1 rfl k_inL d kk
theorem kg_dast (C : kC p c cc s m args meth own g nL ret) {a i : Nat} {f : Nat → UInt64} {x : UInt64} {cs' : List va_W} (hP : kp g cs H) (hD : kd A cs) (hS : va_S A H0 H locs) (hch : cs[i]? = some (ODW g a f)) (hcs : cs.set i (ODW g a (vf_upd f 0 x)) = cs') (d : decode cc pc = .ok (.dastore, 1))
    (kk : ∀ (H1 : Heap) (locs1 : List Loc), kp g cs' H1 → kd A cs' → va_S A H0 H1 locs1 → W p l e R s m args below meth c H1 locs1 cells slots Q (F0 m (pc + 1) ls rest)) : W p l e R s m args below meth c H locs cells slots Q (F0 m pc ls (.double x :: .int 0 :: .ref a :: rest)) := by
  obtain ⟨k, h1, h2⟩ := k_loc (q := 0) (x := (a, .inl (g.2.1 4, 1, .inr (.inr (.inr (.inl f)))))) hch rfl
  subst hcs
  refine va_dast C.1.1 C.1.2.1 C.2.1.1 hP hD hS k 4 h1 rfl k_inL d (fun H1 locs1 hP hD hS => ?_)
  rw [h2] at hP hD
  exact kk H1 locs1 hP hD hS
theorem kg_dald (C : kC p c cc s m args meth own g nL ret) {a i : Nat} {f : Nat → UInt64} (hP : kp g cs H) (hch : cs[i]? = some (ODW g a f)) (d : decode cc pc = .ok (.daload, 1))
    (kk : W p l e R s m args below meth c H locs cells slots Q (F0 m (pc + 1) ls (.double (f 0) :: rest))) : W p l e R s m args below meth c H locs cells slots Q (F0 m pc ls (.int 0 :: .ref a :: rest)) := by
  obtain ⟨k, h1, -⟩ := k_loc (q := 0) (x := (a, .inl (g.2.1 4, 1, .inr (.inr (.inr (.inl f)))))) hch rfl
  exact va_dald C.1.1 C.1.2.1 C.2.1.1 hP k 4 h1 rfl k_inL d kk
theorem kL_S (C : kC p c cc s m args meth own g nL ret) {y : MethodName} {ws : List Cond} {hh : List (Nat × Nat × Nat × Nat)} {index f lo mc ms maxL n : Nat} {bytes : ByteArray} {r2 : Option FieldType} {As : List Value} {wc wr : List va_W} {post : Int32 → List va_W → Prop} (hM : kL l y ws f lo mc ms g As wc post) (hN : kNc s)
    (cw : vx_CSW R s args own index y bytes maxL r2 hh ws (kRm f mc ms lo) mc ms n) (hE : kE g A s s.heap) (hS : va_S A s.heap H locs) (hA : ∀ q, s.heap.size ≤ q → A q) (hP : kp g cs H) (hD : kd A cs) (iC iR : List Nat) (hC : iC.map (fun i => cs[i]?) = wc.map some) (hR : iR.map (fun i => cs[i]?) = wr.map some) (hnd : va_nd iC = true ∧ va_nd iR = true ∧ ∀ i ∈ iR, i ∉ iC)
    (hn : As.length = n) (hsz : ls.size = nL) (hst : st = As.reverse ++ rest) (hW : kSt rest) (d : decode cc pc = .ok (.invokestatic index, 3)) (hf : cells + mc ≤ R.cells ∧ slots + ms ≤ R.slots)
    (kk : ∀ (r : Int32) (u : List va_W) (H1 : Heap) (locs1 : List Loc), post r u → kp g (wr ++ u) H1 → kd A (wr ++ u) → va_S A s.heap H1 locs1 → W p l e R s m args below meth c H1 locs1 (cells + mc) (slots + ms) Q (F0 m (pc + 3) ls (.int r :: rest))) : W p l e R s m args below meth c H locs cells slots Q (F0 m pc ls st) :=
  kM_backi (av := As) (vx_runSW (As := As) (rest := rest) C.1 (hM H.size) cw ⟨kPreL_blind, fun U hU hW => ⟨(kM_pre (av := As) hE hS hA hP hD iC hC hnd.1 U hU hW).1, (kM_pre (av := As) hE hS hA hP hD iC hC hnd.1 U hU hW).2, hN.moved hW.alike⟩⟩ rfl hn hsz hst (lv_room (Nat.le_of_ble_eq_true hW)) d hf) hS hA hP hD iC iR hC hR hnd.2.1 hnd.2.2 kk
/-- caught by the first handler -/
theorem kx_catch1 {E : String} {ce : Cell} {q : Addr} {a0 b0 h0 t0 : Nat} {hs : List (Nat × Nat × Nat × Nat)} (C : kC p c cc s m args meth own g nL ret) (htab : c.exceptionTable.toList = tableOf ((a0, b0, h0, t0) :: hs)) (hin : covers ⟨a0, b0, h0, t0⟩ pc = true) (ht : t0 ≠ 0) (hlink : Cond.classLink own t0 E ∈ kW) (hcast : Cond.castable E E ∈ k_nest) (hcell : H[q]? = some ce) (hv : ce.vm = .none) (hcl : s.vm.findClass E = some ce.cls)
    (kk : W p l e R s m args below meth c H locs cells slots Q (F0 m h0 ls [.ref q])) : vx_W p l e R s m args below meth c H locs cells slots Q (F0 m pc ls rest) q :=
  vx_catch C.1.2.2.2.1 [] ⟨a0, b0, h0, t0⟩ (tableOf hs) htab (fun z hz => absurd hz List.not_mem_nil) hin ht (C.1.2.2.2.2 _ hlink) (va_Nw.use rfl (C.2.1.2 _ hcast)) hcell hv hcl kk
/-- .. by the second -/
theorem kx_catch2 {E F : String} {ce : Cell} {q : Addr} {a0 b0 h0 t0 a1 b1 h1 t1 : Nat} {hs : List (Nat × Nat × Nat × Nat)} (C : kC p c cc s m args meth own g nL ret) (htab : c.exceptionTable.toList = tableOf ((a0, b0, h0, t0) :: (a1, b1, h1, t1) :: hs)) (ht0 : t0 ≠ 0) (hlink0 : Cond.classLink own t0 F ∈ kW) (hnc : va_Nc E F s) (hin : covers ⟨a1, b1, h1, t1⟩ pc = true) (ht : t1 ≠ 0) (hlink : Cond.classLink own t1 E ∈ kW) (hcast : Cond.castable E E ∈ k_nest) (hcell : H[q]? = some ce) (hv : ce.vm = .none) (hcl : s.vm.findClass E = some ce.cls)
    (kk : W p l e R s m args below meth c H locs cells slots Q (F0 m h1 ls [.ref q])) : vx_W p l e R s m args below meth c H locs cells slots Q (F0 m pc ls rest) q :=
  vx_catch C.1.2.2.2.1 [⟨a0, b0, h0, t0⟩] ⟨a1, b1, h1, t1⟩ (tableOf hs) htab (fun z hz => by
    obtain rfl := List.mem_singleton.mp hz
    exact Or.inr ⟨ht0, F, C.1.2.2.2.2 _ hlink0, hnc⟩) hin ht (C.1.2.2.2.2 _ hlink) (va_Nw.use rfl (C.2.1.2 _ hcast)) hcell hv hcl kk

theorem kXF_V (C : kC p c cc s m args meth own g nL ret) {y : MethodName} {ws : List Cond} {Cn : String} {index b f lo mc ms maxL n : Nat} {bytes : ByteArray} {r2 : Option FieldType} {As : List Value} {wc wr : List va_W} {post : UInt32 → List va_W → Prop} {px : String → List va_W → Prop} (hM : kXF l y ws f lo mc ms g (.ref b :: As) wc post px)
    (cw : CallW R s args own Cn index y bytes maxL r2 ws (kRm f mc ms lo) mc ms n) (hE : kE g A s s.heap) (hS : va_S A s.heap H locs) (hA : ∀ q, s.heap.size ≤ q → A q) (hP : kp g cs H) (hD : kd A cs) (iC iR : List Nat) (hC : iC.map (fun i => cs[i]?) = wc.map some) (hR : iR.map (fun i => cs[i]?) = wr.map some) (hnd : va_nd iC = true ∧ va_nd iR = true ∧ ∀ i ∈ iR, i ∉ iC) (hrc : ∃ cell : Cell, H[b]? = some cell ∧ cell.vm.isStatics = false ∧ s.vm.findClass Cn = some cell.cls)
    (hn : As.length = n) (hsz : ls.size = nL) (hst : st = As.reverse ++ .ref b :: rest) (hW : kSt rest) (d : decode cc pc = .ok (.invokevirtual index, 3)) (hf : cells + mc ≤ R.cells ∧ slots + ms ≤ R.slots)
    (kx : ∀ (E : String) (u : List va_W) (H1 : Heap) (locs1 : List Loc) (q9 : Addr) (ce : Cell), px E u → kp g (wr ++ u) H1 → kd A (wr ++ u) → va_S A s.heap H1 locs1 → H1[q9]? = some ce → ce.vm = .none → s.vm.findClass E = some ce.cls → vx_W p l e R s m args below meth c H1 locs1 (cells + mc) (slots + ms) Q (F0 m pc ls rest) q9)
    (kk : ∀ (r : UInt32) (u : List va_W) (H1 : Heap) (locs1 : List Loc), post r u → kp g (wr ++ u) H1 → kd A (wr ++ u) → va_S A s.heap H1 locs1 → W p l e R s m args below meth c H1 locs1 (cells + mc) (slots + ms) Q (F0 m (pc + 3) ls (.float r :: rest))) : W p l e R s m args below meth c H locs cells slots Q (F0 m pc ls st) := by
  have hF := k_free hD hS hA iC hC
  refine vx_callf (vx_runV (As := As) (rest := rest) C.1 (hM H.size) cw ⟨kPre_blind, hrc, kM_pre hE hS hA hP hD iC hC hnd.1⟩ rfl hn hsz hst (lv_room (Nat.le_of_ble_eq_true hW)) d hf) hS (fun q _ h => hF q h) hF (fun q _ h => hF q h) (fun E ce q9 u t H1 locs1 ht hvm _ hB hz1 hk1 hS hce hcv hcl => ?_) (fun r u t H1 locs ht hvm hw hB hz1 hk1 hS => ?_)
  · obtain ⟨hw, hP1, hD1⟩ := hB
    rw [ht] at hP1
    obtain ⟨hP2, hD2⟩ := k_join hP hD iC iR hC hR hnd.2.1 hnd.2.2 hk1 hF hP1 hD1
    exact kx E u H1 locs1 q9 ce hw hP2 hD2 hS hce hcv hcl
  · obtain ⟨hP1, hD1⟩ := hB
    rw [ht] at hP1
    obtain ⟨hP2, hD2⟩ := k_join hP hD iC iR hC hR hnd.2.1 hnd.2.2 hk1 hF hP1 hD1
    exact kk r u H1 locs hw hP2 hD2 hS
theorem kMF_V (C : kC p c cc s m args meth own g nL ret) {y : MethodName} {ws : List Cond} {Cn : String} {index b f lo mc ms maxL n : Nat} {bytes : ByteArray} {r2 : Option FieldType} {As : List Value} {wc wr : List va_W} {post : UInt32 → List va_W → Prop} (hM : kMF l y ws f lo mc ms g (.ref b :: As) wc post)
    (cw : CallW R s args own Cn index y bytes maxL r2 ws (kRm f mc ms lo) mc ms n) (hE : kE g A s s.heap) (hS : va_S A s.heap H locs) (hA : ∀ q, s.heap.size ≤ q → A q) (hP : kp g cs H) (hD : kd A cs) (iC iR : List Nat) (hC : iC.map (fun i => cs[i]?) = wc.map some) (hR : iR.map (fun i => cs[i]?) = wr.map some) (hnd : va_nd iC = true ∧ va_nd iR = true ∧ ∀ i ∈ iR, i ∉ iC) (hrc : ∃ cell : Cell, H[b]? = some cell ∧ cell.vm.isStatics = false ∧ s.vm.findClass Cn = some cell.cls)
    (hn : As.length = n) (hsz : ls.size = nL) (hst : st = As.reverse ++ .ref b :: rest) (hW : kSt rest) (d : decode cc pc = .ok (.invokevirtual index, 3)) (hf : cells + mc ≤ R.cells ∧ slots + ms ≤ R.slots)
    (kk : ∀ (r : UInt32) (u : List va_W) (H1 : Heap) (locs1 : List Loc), post r u → kp g (wr ++ u) H1 → kd A (wr ++ u) → va_S A s.heap H1 locs1 → W p l e R s m args below meth c H1 locs1 (cells + mc) (slots + ms) Q (F0 m (pc + 3) ls (.float r :: rest))) : W p l e R s m args below meth c H locs cells slots Q (F0 m pc ls st) := by
  have hF := k_free hD hS hA iC hC
  refine va_callf (va_runV (As := As) (rest := rest) C.1 (hM H.size) cw ⟨kPre_blind, hrc, kM_pre hE hS hA hP hD iC hC hnd.1⟩ rfl hn hsz hst (lv_room (Nat.le_of_ble_eq_true hW)) d hf) hS (fun q _ h => hF q h) hF (fun r u t H1 locs ht hvm hw hB hz1 hk1 hS => ?_)
  obtain ⟨hP1, hD1⟩ := hB
  rw [ht] at hP1
  obtain ⟨hP2, hD2⟩ := k_join hP hD iC iR hC hR hnd.2.1 hnd.2.2 hk1 hF hP1 hD1
  exact kk r u H1 locs hw hP2 hD2 hS

theorem kXD_V (C : kC p c cc s m args meth own g nL ret) {y : MethodName} {ws : List Cond} {Cn : String} {index b f lo mc ms maxL n : Nat} {bytes : ByteArray} {r2 : Option FieldType} {As : List Value} {wc wr : List va_W} {post : UInt64 → List va_W → Prop} {px : String → List va_W → Prop} (hM : kXD l y ws f lo mc ms g (.ref b :: As) wc post px)
    (cw : CallW R s args own Cn index y bytes maxL r2 ws (kRm f mc ms lo) mc ms n) (hE : kE g A s s.heap) (hS : va_S A s.heap H locs) (hA : ∀ q, s.heap.size ≤ q → A q) (hP : kp g cs H) (hD : kd A cs) (iC iR : List Nat) (hC : iC.map (fun i => cs[i]?) = wc.map some) (hR : iR.map (fun i => cs[i]?) = wr.map some) (hnd : va_nd iC = true ∧ va_nd iR = true ∧ ∀ i ∈ iR, i ∉ iC) (hrc : ∃ cell : Cell, H[b]? = some cell ∧ cell.vm.isStatics = false ∧ s.vm.findClass Cn = some cell.cls)
    (hn : As.length = n) (hsz : ls.size = nL) (hst : st = As.reverse ++ .ref b :: rest) (hW : kSt rest) (d : decode cc pc = .ok (.invokevirtual index, 3)) (hf : cells + mc ≤ R.cells ∧ slots + ms ≤ R.slots)
    (kx : ∀ (E : String) (u : List va_W) (H1 : Heap) (locs1 : List Loc) (q9 : Addr) (ce : Cell), px E u → kp g (wr ++ u) H1 → kd A (wr ++ u) → va_S A s.heap H1 locs1 → H1[q9]? = some ce → ce.vm = .none → s.vm.findClass E = some ce.cls → vx_W p l e R s m args below meth c H1 locs1 (cells + mc) (slots + ms) Q (F0 m pc ls rest) q9)
    (kk : ∀ (r : UInt64) (u : List va_W) (H1 : Heap) (locs1 : List Loc), post r u → kp g (wr ++ u) H1 → kd A (wr ++ u) → va_S A s.heap H1 locs1 → W p l e R s m args below meth c H1 locs1 (cells + mc) (slots + ms) Q (F0 m (pc + 3) ls (.double r :: rest))) : W p l e R s m args below meth c H locs cells slots Q (F0 m pc ls st) := by
  have hF := k_free hD hS hA iC hC
  refine vx_calld (vx_runV (As := As) (rest := rest) C.1 (hM H.size) cw ⟨kPre_blind, hrc, kM_pre hE hS hA hP hD iC hC hnd.1⟩ rfl hn hsz hst (lv_room (Nat.le_of_ble_eq_true hW)) d hf) hS (fun q _ h => hF q h) hF (fun q _ h => hF q h) (fun E ce q9 u t H1 locs1 ht hvm _ hB hz1 hk1 hS hce hcv hcl => ?_) (fun r u t H1 locs ht hvm hw hB hz1 hk1 hS => ?_)
  · obtain ⟨hw, hP1, hD1⟩ := hB
    rw [ht] at hP1
    obtain ⟨hP2, hD2⟩ := k_join hP hD iC iR hC hR hnd.2.1 hnd.2.2 hk1 hF hP1 hD1
    exact kx E u H1 locs1 q9 ce hw hP2 hD2 hS hce hcv hcl
  · obtain ⟨hP1, hD1⟩ := hB
    rw [ht] at hP1
    obtain ⟨hP2, hD2⟩ := k_join hP hD iC iR hC hR hnd.2.1 hnd.2.2 hk1 hF hP1 hD1
    exact kk r u H1 locs hw hP2 hD2 hS
theorem kMD_V (C : kC p c cc s m args meth own g nL ret) {y : MethodName} {ws : List Cond} {Cn : String} {index b f lo mc ms maxL n : Nat} {bytes : ByteArray} {r2 : Option FieldType} {As : List Value} {wc wr : List va_W} {post : UInt64 → List va_W → Prop} (hM : kMD l y ws f lo mc ms g (.ref b :: As) wc post)
    (cw : CallW R s args own Cn index y bytes maxL r2 ws (kRm f mc ms lo) mc ms n) (hE : kE g A s s.heap) (hS : va_S A s.heap H locs) (hA : ∀ q, s.heap.size ≤ q → A q) (hP : kp g cs H) (hD : kd A cs) (iC iR : List Nat) (hC : iC.map (fun i => cs[i]?) = wc.map some) (hR : iR.map (fun i => cs[i]?) = wr.map some) (hnd : va_nd iC = true ∧ va_nd iR = true ∧ ∀ i ∈ iR, i ∉ iC) (hrc : ∃ cell : Cell, H[b]? = some cell ∧ cell.vm.isStatics = false ∧ s.vm.findClass Cn = some cell.cls)
    (hn : As.length = n) (hsz : ls.size = nL) (hst : st = As.reverse ++ .ref b :: rest) (hW : kSt rest) (d : decode cc pc = .ok (.invokevirtual index, 3)) (hf : cells + mc ≤ R.cells ∧ slots + ms ≤ R.slots)
    (kk : ∀ (r : UInt64) (u : List va_W) (H1 : Heap) (locs1 : List Loc), post r u → kp g (wr ++ u) H1 → kd A (wr ++ u) → va_S A s.heap H1 locs1 → W p l e R s m args below meth c H1 locs1 (cells + mc) (slots + ms) Q (F0 m (pc + 3) ls (.double r :: rest))) : W p l e R s m args below meth c H locs cells slots Q (F0 m pc ls st) := by
  have hF := k_free hD hS hA iC hC
  refine va_calld (va_runV (As := As) (rest := rest) C.1 (hM H.size) cw ⟨kPre_blind, hrc, kM_pre hE hS hA hP hD iC hC hnd.1⟩ rfl hn hsz hst (lv_room (Nat.le_of_ble_eq_true hW)) d hf) hS (fun q _ h => hF q h) hF (fun r u t H1 locs ht hvm hw hB hz1 hk1 hS => ?_)
  obtain ⟨hP1, hD1⟩ := hB
  rw [ht] at hP1
  obtain ⟨hP2, hD2⟩ := k_join hP hD iC iR hC hR hnd.2.1 hnd.2.2 hk1 hF hP1 hD1
  exact kk r u H1 locs hw hP2 hD2 hS
end KROWSL
