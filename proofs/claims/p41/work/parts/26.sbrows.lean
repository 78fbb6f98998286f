/-! StringBuilder: its object and its bytes as two chunks; arrays of bytes; refs as answers; calls of a superclass's methods -/
def JOW (o q : Nat) (ml cnt : Int32) : va_W := [(o, .inr (1, [.ref q, .int 0, .int ml, .int cnt]))]
def JAW (g : kG) (q n : Nat) (f : Nat → Int32) : va_W := [(q, .inl (g.2.1 0, n, .inl f))]
theorem kFJ4 : kFl RJ4 TJ4 4 1 tyJ4 := ⟨rfl, tyJ4_ok, nmJ4, ku_J4⟩
theorem JOs_0 {o q q' : Nat} {ml cnt : Int32} : (JOW o q ml cnt).set 0 (o, .inr (1, ([.ref q, .int 0, .int ml, .int cnt] : List Value).set 0 (.ref q'))) = JOW o q' ml cnt := rfl
theorem JOs_2 {o q : Nat} {ml cnt x : Int32} : (JOW o q ml cnt).set 0 (o, .inr (1, ([.ref q, .int 0, .int ml, .int cnt] : List Value).set 2 (.int x))) = JOW o q x cnt := rfl
theorem JOs_3 {o q : Nat} {ml cnt x : Int32} : (JOW o q ml cnt).set 0 (o, .inr (1, ([.ref q, .int 0, .int ml, .int cnt] : List Value).set 3 (.int x))) = JOW o q ml x := rfl
theorem k_raU {s : State} {cA cB : ClassId} {ty : FieldType} (hp : ∀ C, ty ≠ .object C) (h1 : va_RA s cA ty) (h2 : va_RA s cB ty) : cA = cB := by
  cases ty <;> first | exact absurd rfl (hp _) | exact Option.some.inj (Eq.trans (Eq.symm (show s.vm.findClass _ = some cA from h1)) h2)
def kQa (g : kG) (post : Nat → List va_W → Prop) (A : Nat → Prop) : Array Value → State → Outcome → State → Prop := va_Qr (fun u : Nat × List va_W => post u.1 u.2) (fun u a t => a = u.1 ∧ kp g u.2 t.heap ∧ kd A u.2) A
/-- a method that changes its world, and answers a reference -/
def kA (l : Launch) (y : MethodName) (ws : List Cond) (f lo mc ms : Nat) (g : kG) (av : List Value) (cs : List va_W) (post : Nat → List va_W → Prop) : Prop :=
  ∀ sz : Nat, Met l y ws (kRm f mc ms lo) (kPre g av cs sz) (kQa g post (va_A cs.flatten sz)) mc ms (va_A cs.flatten sz)
theorem k_cwSB {R : Room} {s : State} {args : Array Value} {own : String} {index : Nat} {y : MethodName} {bytes : ByteArray} {maxL f lo mc ms : Nat} {ret : Option FieldType} (n : Nat) (hts : ∀ w ∈ kW, w.before args s = true) (hl : Cond.methodLink own index y ∈ kW) (hi : Cond.instanceMethod y ∈ kW) (hs : Cond.selects "java/lang/StringBuilder" y y ∈ kW) (hn : Cond.initialized y.cls ∈ kW) (hc : Cond.code y bytes maxL ret ∈ kW)
    (pn : y.cls ≠ "java/lang/invoke/MethodHandle" ∧ y.cls ≠ "java/lang/invoke/VarHandle" ∧ (parseMethodDescriptor y.desc).map (fun d => d.parameters.length) = some n) (hR : (kRm f mc ms lo).frames + 1 ≤ R.frames ∧ 8 + (maxL + 11) + (kRm f mc ms lo).locals ≤ R.locals) : CallW R s args own "java/lang/StringBuilder" index y bytes maxL ret (Cond.code y bytes maxL ret :: kW) (kRm f mc ms lo) mc ms n :=
  ⟨callB_of n hts (k_gI hc) rfl rfl rfl (hts _ hn) (hts _ hl) pn hR, hts _ hi, hts _ hs⟩
theorem k_cwSU {R : Room} {s : State} {args : Array Value} {own : String} {index : Nat} {y : MethodName} {bytes : ByteArray} {maxL f lo mc ms : Nat} {ret : Option FieldType} (n : Nat) (hts : ∀ w ∈ kW, w.before args s = true) (hl : Cond.methodLink own index y ∈ kW) (hm : Cond.sameMethod y.cls y.cls y.name y.desc ∈ kW) (hu : Cond.superclass own y.cls ∈ kW) (hi : Cond.instanceMethod y ∈ kW) (hn : Cond.initialized y.cls ∈ kW) (hc : Cond.code y bytes maxL ret ∈ kW)
    (hd : y.name ≠ "<init>" ∧ (parseMethodDescriptor y.desc).map (fun d => d.parameters.length) = some n) (hR : (kRm f mc ms lo).frames + 1 ≤ R.frames ∧ 8 + (maxL + 11) + (kRm f mc ms lo).locals ≤ R.locals) : va_CS R s args own index y bytes maxL ret (Cond.code y bytes maxL ret :: kW) (kRm f mc ms lo) mc ms n := by
  refine va_cwSU n hts (k_gl fun w hw => ?_) rfl rfl rfl hd hR
  unfold va_wsSU at hw
  simp only [List.cons_append, List.nil_append, List.mem_cons] at hw
  rcases hw with rfl | rfl | rfl | rfl | rfl | rfl | hw
  · exact hl
  · exact hm
  · exact hu
  · exact hi
  · exact hn
  · exact hc
  · exact hw
section KROWSB
variable {p : Program} {l : Launch} {e : Env} {R : Room} {s : State} {m : MethodId} {args : Array Value} {below : List Frame} {meth : Method} {c : Code} {H : Heap} {locs : List Loc} {cells slots : Nat} {Q : State → Prop}
variable {cc : ByteArray} {pc nL : Nat} {ls : Array Slot} {st rest : List Value} {A : Nat → Prop} {H0 : Heap} {g : kG} {cs : List va_W} {own : String} {ret : Option FieldType}
theorem k_atSB (C : kC p c cc s m args meth own g nL ret) : ClassAt s "java/lang/StringBuilder" (g.1.1 1) := (C.2.1.1.1 1 _ rfl).2
/-- a new array of a primitive type -/
theorem kg_newA (C : kC p c cc s m args meth own g nL ret) {at' : ArrayType} {ty : FieldType} {t N' : Nat} {n : Int32} {a0 : vp_A} {cT : ClassId} (hw : Cond.arrayClass (newarray.typeOf at') ∈ kW) (hty : newarray.typeOf at' = ty) (hp : ∀ C, ty ≠ .object C) (ht : (kT g)[t]? = some (cT, ty)) (hP : kp g cs H) (hD : kd A cs) (hS : va_S A H0 H locs) (hA : ∀ q, H0.size ≤ q → A q) (ha : ∀ cA : ClassId, vp_cell cA a0 = arrV cA N' (fun _ => defaultValue ty)) (hn : ¬ n < 0) (hN : n.toNatClampNeg = N') (hbytes : N' * componentBytes ty ≤ 536870912) (hcells : cells + 1 ≤ R.cells) (hslots : slots + N' ≤ R.slots) (d : decode cc pc = .ok (.newarray at', 2))
    (kk : ∀ (q : Nat) (H1 : Heap), kp g (cs ++ [[(q, .inl (cT, a0))]]) H1 → kd A (cs ++ [[(q, .inl (cT, a0))]]) → va_S A H0 H1 locs → W p l e R s m args below meth c H1 locs (cells + 1) (slots + N') Q (F0 m (pc + 2) ls (.ref q :: rest))) : W p l e R s m args below meth c H locs cells slots Q (F0 m pc ls (.int n :: rest)) := by
  refine va_newa C.1.1 C.1.2.1 (C.1.2.2.2.2 _ hw) hty C.2.1.1 hP hD hS hA ha hn hN hbytes hcells hslots d (fun q cA H1 hK hP hD hS => ?_)
  have e : cA = cT := k_raU hp (hK.2 (kT g).length (cA, ty) List.getElem?_concat_length).2 (C.2.1.1.2 t _ ht).2
  rw [e] at hP hD
  refine kk q H1 ?_ ?_ hS
  · unfold kp; rw [List.flatten_append]; exact hP
  · unfold kd; rw [List.flatten_append]; exact hD
/-- a new object -/
theorem kg_new (C : kC p c cc s m args meth own g nL ret) {Cn : String} {T : u_T} {N ci index : Nat} {ty0 : Nat → FieldType} (hF : kFl Cn T N ci ty0) (hcl : Cond.classLink own index Cn ∈ kW) (hin : Cond.instantiable Cn N ∈ kW) (hini : Cond.initialized Cn ∈ kW) (hP : kp g cs H) (hD : kd A cs) (hS : va_S A H0 H locs) (hA : ∀ q, H0.size ≤ q → A q) {fs : List Value} (hfs : ∀ j, j < N → defaultValue (ty0 j) = vp_V fs j) (hcells : cells + 1 ≤ R.cells) (hslots : slots + N ≤ R.slots) (d : decode cc pc = .ok (.new index, 3))
    (kk : ∀ (q : Nat) (H1 : Heap), kp g (cs ++ [[(q, .inr (ci, fs))]]) H1 → kd A (cs ++ [[(q, .inr (ci, fs))]]) → va_S A H0 H1 locs → W p l e R s m args below meth c H1 locs (cells + 1) (slots + N) Q (F0 m (pc + 3) ls (.ref q :: rest))) : W p l e R s m args below meth c H locs cells slots Q (F0 m pc ls rest) := by
  have hts := C.1.2.2.2.2
  refine va_new C.1.1 C.1.2.1 hts hF.2.2.2 ty0 hF.2.1 C.1.2.2.2.1 (hts _ hcl) (hts _ hin) (hts _ hini) C.2.1.1 hP hD hS hA hF.1 hfs hcells hslots d (fun q H1 hP hD hS => ?_)
  refine kk q H1 ?_ ?_ hS
  · unfold kp; rw [List.flatten_append]; exact hP
  · unfold kd; rw [List.flatten_append]; exact hD
theorem kg_bald (C : kC p c cc s m args meth own g nL ret) {a i q n k : Nat} {ch : va_W} {f : Nat → Int32} {z : Int32} (hP : kp g cs H) (hch : cs[i]? = some ch) (he : ch[q]? = some (a, .inl (g.2.1 0, n, .inl f))) (hk : k < n) (hn : n < 2 ^ 31) (hz : f k = z) (d : decode cc pc = .ok (.baload, 1))
    (kk : W p l e R s m args below meth c H locs cells slots Q (F0 m (pc + 1) ls (.int z :: rest))) : W p l e R s m args below meth c H locs cells slots Q (F0 m pc ls (.int (nI k) :: .ref a :: rest)) := by
  obtain ⟨j, h1, -⟩ := k_loc hch he
  refine va_bald C.1.1 C.1.2.1 C.2.1.1 hP j 0 h1 rfl (vp_in_nI hk (by omega)) d ?_
  rw [nI_clamp (by omega), hz]
  exact kk
theorem kg_blen (C : kC p c cc s m args meth own g nL ret) {a i q n : Nat} {ch : va_W} {f : Nat → Int32} (hP : kp g cs H) (hch : cs[i]? = some ch) (he : ch[q]? = some (a, .inl (g.2.1 0, n, .inl f))) (d : decode cc pc = .ok (.arraylength, 1))
    (kk : W p l e R s m args below meth c H locs cells slots Q (F0 m (pc + 1) ls (.int (nI n) :: rest))) : W p l e R s m args below meth c H locs cells slots Q (F0 m pc ls (.ref a :: rest)) := by
  obtain ⟨k, h1, -⟩ := k_loc hch he
  exact va_alen C.1.1 C.1.2.1 C.2.1.1 hP k 0 h1 (ty := .byte) rfl rfl d kk
theorem kg_bast (C : kC p c cc s m args meth own g nL ret) {a i q n k : Nat} {ch : va_W} {f : Nat → Int32} {y z : Int32} {ch' : va_W} {cs' : List va_W} (hP : kp g cs H) (hD : kd A cs) (hS : va_S A H0 H locs) (hch : cs[i]? = some ch) (he : ch[q]? = some (a, .inl (g.2.1 0, n, .inl f))) (hk : k < n) (hn : n < 2 ^ 31) (hz : vp_nar .byte y = z) (hst : ch.set q (a, .inl (g.2.1 0, n, .inl (upd f k z))) = ch') (hcs : cs.set i ch' = cs') (d : decode cc pc = .ok (.bastore, 1))
    (kk : ∀ (H1 : Heap) (locs1 : List Loc), kp g cs' H1 → kd A cs' → va_S A H0 H1 locs1 → W p l e R s m args below meth c H1 locs1 cells slots Q (F0 m (pc + 1) ls rest)) : W p l e R s m args below meth c H locs cells slots Q (F0 m pc ls (.int y :: .int (nI k) :: .ref a :: rest)) := by
  obtain ⟨j, h1, h2⟩ := k_loc hch he
  subst hst; subst hcs; subst hz
  refine va_bast C.1.1 C.1.2.1 C.2.1.1 hP hD hS j 0 h1 rfl (vp_in_nI hk (by omega)) d (fun H1 locs1 hP hD hS => ?_)
  rw [nI_clamp (by omega), h2] at hP hD
  exact kk H1 locs1 hP hD hS
/-- System.arraycopy of the first k bytes -/
theorem kg_copyb (C : kC p c cc s m args meth own g nL ret) (hsz : ls.size = nL) {index : Nat} (h1 : Cond.methodLink own index arraycopyName ∈ kW) (h2 : Cond.native arraycopyName ∈ kW) (h3 : Cond.static arraycopyName ∈ kW) (h4 : Cond.initialized "java/lang/System" ∈ kW)
    (hP : kp g cs H) (hD : kd A cs) (hS : va_S A H0 H locs) {i0 q0 i1 q1 a0 a1 n0 n1 k : Nat} {ch0 ch1 ch' : va_W} {f0 f1 : Nat → Int32} {cs' : List va_W} (hc0 : cs[i0]? = some ch0) (he0 : ch0[q0]? = some (a0, .inl (g.2.1 0, n0, .inl f0))) (hc1 : cs[i1]? = some ch1) (he1 : ch1[q1]? = some (a1, .inl (g.2.1 0, n1, .inl f1))) (hf : sb_Fit f0) (hk : k < 2 ^ 31) (hk0 : k ≤ n0) (hk1 : k ≤ n1)
    (hst : ch1.set q1 (a1, .inl (g.2.1 0, n1, .inl (va_cpy f0 f1 0 0 k))) = ch') (hcs : cs.set i1 ch' = cs') (hfr : 1 ≤ R.frames) (hlo : (rest.map fun v => v.category).sum + (nativeFrameWords "java/lang/System" "arraycopy" 5 + 11) ≤ R.locals) (d : decode cc pc = .ok (.invokestatic index, 3))
    (kk : ∀ (H1 : Heap) (locs1 : List Loc), kp g cs' H1 → kd A cs' → va_S A H0 H1 locs1 → W p l e R s m args below meth c H1 locs1 cells slots Q (F0 m (pc + 3) ls rest)) : W p l e R s m args below meth c H locs cells slots Q (F0 m pc ls (.int (nI k) :: .int 0 :: .ref a1 :: .int 0 :: .ref a0 :: rest)) := by
  obtain ⟨k0, g0, -⟩ := k_loc hc0 he0
  obtain ⟨k1, g1, g2⟩ := k_loc hc1 he1
  subst hst; subst hcs
  have hts := C.1.2.2.2.2
  have z0 : (0 : Int32).toNatClampNeg = 0 := rfl
  refine va_copyi C.1.1 C.1.2.1 (by rw [C.1.2.2.1, hsz]) C.1.2.2.2.1 (hts _ h1) (hts _ h2) (hts _ h3) (hts _ h4) C.2.1.1 hP hD hS k0 k1 0 0 g0 g1 (ty := .byte) rfl rfl rfl (by decide) (by decide) (nI_pos hk) (by rw [z0, nI_clamp hk]; omega) (by rw [z0, nI_clamp hk]; omega) (fun i _ => hf _) hfr hlo d (fun H1 locs1 hP1 hD1 hS1 => ?_)
  rw [z0, nI_clamp hk, g2] at hP1 hD1
  exact kk H1 locs1 hP1 hD1 hS1
/-- Integer's tables of digits -/
theorem kg_tens (C : kC p c cc s m args meth own g nL ret) {index : Nat} {ref : String} (hr : ref = "java/lang/Integer") (hE : kE g A s s.heap) (hS : va_S A s.heap H locs) (hlink : Cond.fieldLink own index ref "DigitTens" "[B" ∈ kW) (d : decode cc pc = .ok (.getstatic index, 3))
    (kk : W p l e R s m args below meth c H locs cells slots Q (F0 m (pc + 3) ls (.ref (g.2.2 4) :: rest))) : W p l e R s m args below meth c H locs cells slots Q (F0 m pc ls rest) :=
  va_gets C.1.1 C.1.2.1 hE.2.2.2.2.2.1.1 hS C.1.2.2.2.1 (C.1.2.2.2.2 _ hlink) (fun _ h => by rw [hr]; exact h) d kk
theorem kg_ones (C : kC p c cc s m args meth own g nL ret) {index : Nat} {ref : String} (hr : ref = "java/lang/Integer") (hE : kE g A s s.heap) (hS : va_S A s.heap H locs) (hlink : Cond.fieldLink own index ref "DigitOnes" "[B" ∈ kW) (d : decode cc pc = .ok (.getstatic index, 3))
    (kk : W p l e R s m args below meth c H locs cells slots Q (F0 m (pc + 3) ls (.ref (g.2.2 5) :: rest))) : W p l e R s m args below meth c H locs cells slots Q (F0 m pc ls rest) :=
  va_gets C.1.1 C.1.2.1 hE.2.2.2.2.2.2.1.1 hS C.1.2.2.2.1 (C.1.2.2.2.2 _ hlink) (fun _ h => by rw [hr]; exact h) d kk
theorem kg_tensA (C : kC p c cc s m args meth own g nL ret) {k : Nat} {x : Int32} (hx : x = nI k) (hk : k < 100) (hE : kE g A s s.heap) (hS : va_S A s.heap H locs) (d : decode cc pc = .ok (.baload, 1))
    (kk : W p l e R s m args below meth c H locs cells slots Q (F0 m (pc + 1) ls (.int (nI (48 + k / 10)) :: rest))) : W p l e R s m args below meth c H locs cells slots Q (F0 m pc ls (.int x :: .ref (g.2.2 4) :: rest)) := by
  subst hx
  exact va_tb C.1.1 C.1.2.1 hE.2.2.2.2.2.1.2 hS (vp_in_nI hk (by decide)) (by rw [nI_clamp (by omega)]) d kk
theorem kg_onesA (C : kC p c cc s m args meth own g nL ret) {k : Nat} {x : Int32} (hx : x = nI k) (hk : k < 100) (hE : kE g A s s.heap) (hS : va_S A s.heap H locs) (d : decode cc pc = .ok (.baload, 1))
    (kk : W p l e R s m args below meth c H locs cells slots Q (F0 m (pc + 1) ls (.int (nI (48 + k % 10)) :: rest))) : W p l e R s m args below meth c H locs cells slots Q (F0 m pc ls (.int x :: .ref (g.2.2 5) :: rest)) := by
  subst hx
  exact va_tb C.1.1 C.1.2.1 hE.2.2.2.2.2.2.1.2 hS (vp_in_nI hk (by decide)) (by rw [nI_clamp (by omega)]) d kk
/-- a method of the superclass that only reads -/
theorem kR_SU (C : kC p c cc s m args meth own g nL ret) {y : MethodName} {ws : List Cond} {index b f lo maxL n : Nat} {bytes : ByteArray} {r2 : Option FieldType} {As : List Value} {wc : List va_W} {v : Int32} (hM : kR l y ws f lo g (.ref b :: As) wc v)
    (cw : va_CS R s args own index y bytes maxL r2 ws (kRm f 0 0 lo) 0 0 n) (hE : kE g A s s.heap) (hS : va_S A s.heap H locs) (hPc : kp g wc H) (hrc : ∃ cell : Cell, H[b]? = some cell ∧ cell.vm.isStatics = false ∧ s.vm.findClass "java/lang/StringBuilder" = some cell.cls)
    (hn : As.length = n) (hsz : ls.size = nL) (hst : st = As.reverse ++ .ref b :: rest) (hW : kSt rest) (d : decode cc pc = .ok (.invokespecial index, 3)) (hf : cells ≤ R.cells ∧ slots ≤ R.slots)
    (kk : W p l e R s m args below meth c H locs cells slots Q (F0 m (pc + 3) ls (.int v :: rest))) : W p l e R s m args below meth c H locs cells slots Q (F0 m pc ls st) := by
  refine kR_back (y := y) (ws := ws) (f := f) (lo := lo) (av := .ref b :: As) (wc := wc) (y2 := y) (va_runSU (As := As) (rest := rest) (k_atSB C) C.1 hM cw ⟨kR_blind, hrc, fun U hU hW => ⟨rfl, by rw [hU]; exact hPc, hE.call hS (fun _ q => q.elim) hU hW⟩⟩ rfl hn hsz hst (lv_room (Nat.le_of_ble_eq_true hW)) d hf) kk
theorem kV_SU (C : kC p c cc s m args meth own g nL ret) {y : MethodName} {ws : List Cond} {index b f lo mc ms maxL n : Nat} {bytes : ByteArray} {r2 : Option FieldType} {As : List Value} {wc wr : List va_W} {post : List va_W → Prop} (hM : kV l y ws f lo mc ms g (.ref b :: As) wc post)
    (cw : va_CS R s args own index y bytes maxL r2 ws (kRm f mc ms lo) mc ms n) (hE : kE g A s s.heap) (hS : va_S A s.heap H locs) (hA : ∀ q, s.heap.size ≤ q → A q) (hP : kp g cs H) (hD : kd A cs) (iC iR : List Nat) (hC : iC.map (fun i => cs[i]?) = wc.map some) (hR : iR.map (fun i => cs[i]?) = wr.map some) (hnd : va_nd iC = true ∧ va_nd iR = true ∧ ∀ i ∈ iR, i ∉ iC) (hrc : ∃ cell : Cell, H[b]? = some cell ∧ cell.vm.isStatics = false ∧ s.vm.findClass "java/lang/StringBuilder" = some cell.cls)
    (hn : As.length = n) (hsz : ls.size = nL) (hst : st = As.reverse ++ .ref b :: rest) (hW : kSt rest) (d : decode cc pc = .ok (.invokespecial index, 3)) (hf : cells + mc ≤ R.cells ∧ slots + ms ≤ R.slots)
    (kk : ∀ (u : List va_W) (H1 : Heap) (locs1 : List Loc), post u → kp g (wr ++ u) H1 → kd A (wr ++ u) → va_S A s.heap H1 locs1 → W p l e R s m args below meth c H1 locs1 (cells + mc) (slots + ms) Q (F0 m (pc + 3) ls rest)) : W p l e R s m args below meth c H locs cells slots Q (F0 m pc ls st) :=
  kM_backv (av := .ref b :: As) (va_runSU (As := As) (rest := rest) (k_atSB C) C.1 (hM H.size) cw ⟨kPre_blind, hrc, kM_pre hE hS hA hP hD iC hC hnd.1⟩ rfl hn hsz hst (lv_room (Nat.le_of_ble_eq_true hW)) d hf) hS hA hP hD iC iR hC hR hnd.2.1 hnd.2.2 kk
theorem kA_of {y : MethodName} {ws : List Cond} {f lo mc ms : Nat} {av : List Value} {post : Nat → List va_W → Prop} {lv : List (Nat × Value)} (hy : plainName y.cls = true) (hw : ws = Cond.code y cc nL ret :: kW) (hav : (lg_sl av).length ≤ nL) (hlv : lv_args 0 av = lv)
    (body : ∀ (p : Program) (e : Env) (s : State) (m : MethodId) (args : Array Value) (below : List Frame) (meth : Method) (c : Code) (ls : Array Slot) (A : Nat → Prop), kC p c cc s m args meth y.cls g nL ret → kp g cs s.heap → kd A cs → kE g A s s.heap → (∀ q, s.heap.size ≤ q → A q) → va_S A s.heap s.heap [] → lv_has ls nL lv →
      W p l e (kRm f mc ms lo) s m args below meth c s.heap [] 0 0 (MQ below (kQa g post A) args s mc ms A) (F0 m 0 ls [])) : kA l y ws f lo mc ms g av cs post := by
  intro sz
  refine Met.ofW (cc := cc) (maxL := nL) (ret := ret) hy hw ?_
  intro p e s m args below meth c s₁ B hml hv
  obtain ⟨rfl, hsz, hP, hD, hE⟩ := hv
  subst hsz
  have hl := lv_entry av (n := nL) hav
  rw [lg_entry_eq]
  subst hlv
  exact body p e s m _ below meth c _ _ ⟨⟨B.exec, B.bytes, hml, findClass_of_methodNamed B.named, fun w h => atoms_spec (ws := ws) B.pre w (by rw [hw]; exact List.mem_cons_of_mem _ h)⟩, ⟨hE.1, hE.2.1⟩, B.returns, B.notSynchronized⟩ hP hD.self hE (fun q h => Or.inr h) va_S.rf hl
theorem kA_ret {a mc ms : Nat} {u : List va_W} {post : Nat → List va_W → Prop} {rt : FieldType} (C : kC p c cc s m args meth own g nL (some rt)) (hrt : (∃ n, rt = .object n) ∨ ∃ t, rt = .array t) (hP : kp g u H) (hD : kd A u) (hS : va_S A s.heap H locs) (hp : post a u) (hc : cells ≤ mc ∧ slots ≤ ms) (d : decode cc pc = .ok (.areturn, 1)) : W p l e R s m args below meth c H locs cells slots (MQ below (kQa g post A) args s mc ms A) (F0 m pc ls [.ref a]) :=
  W.widen hc.1 hc.2 (W.aret C.1.1 C.1.2.1 C.2.2.1 hrt (Or.inr ⟨a, rfl⟩) (fun t ht _ => ⟨⟨(a, u), a, rfl, hp, rfl, by rw [ht]; exact hP, hD⟩, hS.F ht⟩) hS.2.2 d C.2.2.2)
theorem kV_retW {mc ms : Nat} {u : List va_W} {post : List va_W → Prop} (C : kC p c cc s m args meth own g nL none) (hP : kp g u H) (hD : kd A u) (hS : va_S A s.heap H locs) (hp : post u) (hc : cells ≤ mc ∧ slots ≤ ms) (d : decode cc pc = .ok (.return_, 1)) : W p l e R s m args below meth c H locs cells slots (MQ below (kQv g post A) args s mc ms A) (F0 m pc ls []) :=
  W.widen hc.1 hc.2 (kV_ret C hP hD hS hp d)
theorem kA_back {wc wr : List va_W} {post : Nat → List va_W → Prop} {av : List Value} {mc ms : Nat} (hr : va_Run p l e R s m args below meth c H locs cells slots mc ms (F0 m pc ls st) rest (kQa g post (va_A wc.flatten H.size) av.toArray) (va_A wc.flatten H.size))
    (hS : va_S A s.heap H locs) (hA : ∀ q, s.heap.size ≤ q → A q) (hP : kp g cs H) (hD : kd A cs) (iC iR : List Nat) (hC : iC.map (fun i => cs[i]?) = wc.map some) (hR : iR.map (fun i => cs[i]?) = wr.map some) (hn : va_nd iR = true) (hdis : ∀ i ∈ iR, i ∉ iC)
    (kk : ∀ (a : Nat) (u : List va_W) (H1 : Heap) (locs1 : List Loc), post a u → kp g (wr ++ u) H1 → kd A (wr ++ u) → va_S A s.heap H1 locs1 → W p l e R s m args below meth c H1 locs1 (cells + mc) (slots + ms) Q (F0 m (pc + 3) ls (.ref a :: rest))) : W p l e R s m args below meth c H locs cells slots Q (F0 m pc ls st) := by
  have hF := k_free hD hS hA iC hC
  refine va_callr hr hS (fun q _ h => hF q h) hF (fun u ra t H1 locs ht hvm hw hB hz1 hk1 hS => ?_)
  obtain ⟨hq, hP1, hD1⟩ := hB
  subst hq
  rw [ht] at hP1
  obtain ⟨hP2, hD2⟩ := k_join hP hD iC iR hC hR hn hdis hk1 hF hP1 hD1
  exact kk u.1 u.2 H1 locs hw hP2 hD2 hS
theorem kA_V (C : kC p c cc s m args meth own g nL ret) {y : MethodName} {ws : List Cond} {Cn : String} {index b f lo mc ms maxL n : Nat} {bytes : ByteArray} {r2 : Option FieldType} {As : List Value} {wc wr : List va_W} {post : Nat → List va_W → Prop} (hM : kA l y ws f lo mc ms g (.ref b :: As) wc post)
    (cw : CallW R s args own Cn index y bytes maxL r2 ws (kRm f mc ms lo) mc ms n) (hE : kE g A s s.heap) (hS : va_S A s.heap H locs) (hA : ∀ q, s.heap.size ≤ q → A q) (hP : kp g cs H) (hD : kd A cs) (iC iR : List Nat) (hC : iC.map (fun i => cs[i]?) = wc.map some) (hR : iR.map (fun i => cs[i]?) = wr.map some) (hnd : va_nd iC = true ∧ va_nd iR = true ∧ ∀ i ∈ iR, i ∉ iC) (hrc : ∃ cell : Cell, H[b]? = some cell ∧ cell.vm.isStatics = false ∧ s.vm.findClass Cn = some cell.cls)
    (hn : As.length = n) (hsz : ls.size = nL) (hst : st = As.reverse ++ .ref b :: rest) (hW : kSt rest) (d : decode cc pc = .ok (.invokevirtual index, 3)) (hf : cells + mc ≤ R.cells ∧ slots + ms ≤ R.slots)
    (kk : ∀ (a : Nat) (u : List va_W) (H1 : Heap) (locs1 : List Loc), post a u → kp g (wr ++ u) H1 → kd A (wr ++ u) → va_S A s.heap H1 locs1 → W p l e R s m args below meth c H1 locs1 (cells + mc) (slots + ms) Q (F0 m (pc + 3) ls (.ref a :: rest))) : W p l e R s m args below meth c H locs cells slots Q (F0 m pc ls st) :=
  kA_back (av := .ref b :: As) (va_runV (As := As) (rest := rest) C.1 (hM H.size) cw ⟨kPre_blind, hrc, kM_pre hE hS hA hP hD iC hC hnd.1⟩ rfl hn hsz hst (lv_room (Nat.le_of_ble_eq_true hW)) d hf) hS hA hP hD iC iR hC hR hnd.2.1 hnd.2.2 kk
theorem kA_SU (C : kC p c cc s m args meth own g nL ret) {y : MethodName} {ws : List Cond} {index b f lo mc ms maxL n : Nat} {bytes : ByteArray} {r2 : Option FieldType} {As : List Value} {wc wr : List va_W} {post : Nat → List va_W → Prop} (hM : kA l y ws f lo mc ms g (.ref b :: As) wc post)
    (cw : va_CS R s args own index y bytes maxL r2 ws (kRm f mc ms lo) mc ms n) (hE : kE g A s s.heap) (hS : va_S A s.heap H locs) (hA : ∀ q, s.heap.size ≤ q → A q) (hP : kp g cs H) (hD : kd A cs) (iC iR : List Nat) (hC : iC.map (fun i => cs[i]?) = wc.map some) (hR : iR.map (fun i => cs[i]?) = wr.map some) (hnd : va_nd iC = true ∧ va_nd iR = true ∧ ∀ i ∈ iR, i ∉ iC) (hrc : ∃ cell : Cell, H[b]? = some cell ∧ cell.vm.isStatics = false ∧ s.vm.findClass "java/lang/StringBuilder" = some cell.cls)
    (hn : As.length = n) (hsz : ls.size = nL) (hst : st = As.reverse ++ .ref b :: rest) (hW : kSt rest) (d : decode cc pc = .ok (.invokespecial index, 3)) (hf : cells + mc ≤ R.cells ∧ slots + ms ≤ R.slots)
    (kk : ∀ (a : Nat) (u : List va_W) (H1 : Heap) (locs1 : List Loc), post a u → kp g (wr ++ u) H1 → kd A (wr ++ u) → va_S A s.heap H1 locs1 → W p l e R s m args below meth c H1 locs1 (cells + mc) (slots + ms) Q (F0 m (pc + 3) ls (.ref a :: rest))) : W p l e R s m args below meth c H locs cells slots Q (F0 m pc ls st) :=
  kA_back (av := .ref b :: As) (va_runSU (As := As) (rest := rest) (k_atSB C) C.1 (hM H.size) cw ⟨kPre_blind, hrc, kM_pre hE hS hA hP hD iC hC hnd.1⟩ rfl hn hsz hst (lv_room (Nat.le_of_ble_eq_true hW)) d hf) hS hA hP hD iC iR hC hR hnd.2.1 hnd.2.2 kk
theorem kA_S (C : kC p c cc s m args meth own g nL ret) {y : MethodName} {ws : List Cond} {index f lo mc ms maxL n : Nat} {bytes : ByteArray} {r2 : Option FieldType} {As : List Value} {wc wr : List va_W} {post : Nat → List va_W → Prop} (hM : kA l y ws f lo mc ms g As wc post)
    (cw : CallB R s args own index y bytes maxL r2 ws (kRm f mc ms lo) mc ms n ∧ (Cond.static y).before args s = true) (hE : kE g A s s.heap) (hS : va_S A s.heap H locs) (hA : ∀ q, s.heap.size ≤ q → A q) (hP : kp g cs H) (hD : kd A cs) (iC iR : List Nat) (hC : iC.map (fun i => cs[i]?) = wc.map some) (hR : iR.map (fun i => cs[i]?) = wr.map some) (hnd : va_nd iC = true ∧ va_nd iR = true ∧ ∀ i ∈ iR, i ∉ iC)
    (hn : As.length = n) (hsz : ls.size = nL) (hst : st = As.reverse ++ rest) (hW : kSt rest) (d : decode cc pc = .ok (.invokestatic index, 3)) (hf : cells + mc ≤ R.cells ∧ slots + ms ≤ R.slots)
    (kk : ∀ (a : Nat) (u : List va_W) (H1 : Heap) (locs1 : List Loc), post a u → kp g (wr ++ u) H1 → kd A (wr ++ u) → va_S A s.heap H1 locs1 → W p l e R s m args below meth c H1 locs1 (cells + mc) (slots + ms) Q (F0 m (pc + 3) ls (.ref a :: rest))) : W p l e R s m args below meth c H locs cells slots Q (F0 m pc ls st) :=
  kA_back (av := As) (va_runS (As := As) (rest := rest) C.1 (hM H.size) cw ⟨kPre_blind, kM_pre hE hS hA hP hD iC hC hnd.1⟩ rfl hn hsz hst (lv_room (Nat.le_of_ble_eq_true hW)) d hf) hS hA hP hD iC iR hC hR hnd.2.1 hnd.2.2 kk
theorem kM_S (C : kC p c cc s m args meth own g nL ret) {y : MethodName} {ws : List Cond} {index f lo mc ms maxL n : Nat} {bytes : ByteArray} {r2 : Option FieldType} {As : List Value} {wc wr : List va_W} {post : Int32 → List va_W → Prop} (hM : kM l y ws f lo mc ms g As wc post)
    (cw : CallB R s args own index y bytes maxL r2 ws (kRm f mc ms lo) mc ms n ∧ (Cond.static y).before args s = true) (hE : kE g A s s.heap) (hS : va_S A s.heap H locs) (hA : ∀ q, s.heap.size ≤ q → A q) (hP : kp g cs H) (hD : kd A cs) (iC iR : List Nat) (hC : iC.map (fun i => cs[i]?) = wc.map some) (hR : iR.map (fun i => cs[i]?) = wr.map some) (hnd : va_nd iC = true ∧ va_nd iR = true ∧ ∀ i ∈ iR, i ∉ iC)
    (hn : As.length = n) (hsz : ls.size = nL) (hst : st = As.reverse ++ rest) (hW : kSt rest) (d : decode cc pc = .ok (.invokestatic index, 3)) (hf : cells + mc ≤ R.cells ∧ slots + ms ≤ R.slots)
    (kk : ∀ (r : Int32) (u : List va_W) (H1 : Heap) (locs1 : List Loc), post r u → kp g (wr ++ u) H1 → kd A (wr ++ u) → va_S A s.heap H1 locs1 → W p l e R s m args below meth c H1 locs1 (cells + mc) (slots + ms) Q (F0 m (pc + 3) ls (.int r :: rest))) : W p l e R s m args below meth c H locs cells slots Q (F0 m pc ls st) :=
  kM_backi (av := As) (va_runS (As := As) (rest := rest) C.1 (hM H.size) cw ⟨kPre_blind, kM_pre hE hS hA hP hD iC hC hnd.1⟩ rfl hn hsz hst (lv_room (Nat.le_of_ble_eq_true hW)) d hf) hS hA hP hD iC iR hC hR hnd.2.1 hnd.2.2 kk
end KROWSB
