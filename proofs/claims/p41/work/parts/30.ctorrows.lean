/-! rows for constructors -/
def kPreO (g : kG) (av : List Value) (cs : List va_W) (sz : Nat) : Array Value → State → Prop := va_Pc av (fun U => (U.heap.size = sz ∧ kp g cs U.heap ∧ kd (fun _ => True) cs ∧ kE g (va_A cs.flatten sz) U U.heap) ∧ va_AO "SpiceScale$Caravan" U)
/-- a constructor that makes an array of Caravans -/
def kVO (l : Launch) (y : MethodName) (ws : List Cond) (f lo mc ms : Nat) (g : kG) (av : List Value) (cs : List va_W) (post : List va_W → Prop) : Prop :=
  ∀ sz : Nat, Met l y ws (kRm f mc ms lo) (kPreO g av cs sz) (kQv g post (va_A cs.flatten sz)) mc ms (va_A cs.flatten sz)
theorem kPreO_blind {g : kG} {av : List Value} {cs : List va_W} {sz : Nat} : FrameBlind (kPreO g av cs sz) := fun a U f mk q => by
  obtain ⟨q0, ⟨q1, q2, q3, q4⟩, q5⟩ := q
  exact ⟨q0, ⟨q1, q2, q3, q4.blind⟩, va_AO.moved (u := U) (U := U.calling f mk a) (Vm.Alike.refl U.vm) q5⟩
def kNo : Nat → Option Nat := fun _ => none
abbrev kQA (f : Nat → Option Nat) (n : Nat) : vp_A := (n, .inr (.inr (.inr (.inr f))))
theorem k_cellq {cA : ClassId} {n : Nat} {f h : Nat → Option Nat} (e : ∀ j, j < n → f j = h j) : vp_cell cA (kQA f n) = vp_cell cA (kQA h n) := by
  show arrV cA n (fun j => va_rf (f j)) = arrV cA n (fun j => va_rf (h j))
  unfold arrV
  congr 1
  congr 1
  funext j
  show va_rf (f j.val) = va_rf (h j.val)
  rw [e j.val j.isLt]
theorem kp_second {g : kG} {a : Nat × va_E} {q : Nat} {e e' : va_E} {t : va_W} {cs : List va_W} {H : Heap} (h : kp g ((a :: (q, e) :: t) :: cs) H) (hc : va_at g.1 vwCl (q, e) H → va_at g.1 vwCl (q, e') H) : kp g ((a :: (q, e') :: t) :: cs) H := by
  rw [kp_iff] at h ⊢
  intro ch hch x hx
  rcases List.mem_cons.mp hch with rfl | hch
  · rcases List.mem_cons.mp hx with rfl | hx
    · exact h _ List.mem_cons_self _ List.mem_cons_self
    · rcases List.mem_cons.mp hx with rfl | hx
      · exact hc (h _ List.mem_cons_self _ (List.mem_cons_of_mem _ List.mem_cons_self))
      · exact h _ List.mem_cons_self _ (List.mem_cons_of_mem _ (List.mem_cons_of_mem _ hx))
  · exact h ch (List.mem_cons_of_mem _ hch) x hx
theorem kd_second {A : Nat → Prop} {a : Nat × va_E} {q : Nat} {e e' : va_E} {t : va_W} {cs : List va_W} (h : kd A ((a :: (q, e) :: t) :: cs)) : kd A ((a :: (q, e') :: t) :: cs) :=
  va_D.set (e := e') h (show ((a :: (q, e) :: t) :: cs).flatten[1]? = some (q, e) from rfl)
section KROWSC
variable {p : Program} {l : Launch} {e : Env} {R : Room} {s : State} {m : MethodId} {args : Array Value} {below : List Frame} {meth : Method} {c : Code} {H : Heap} {locs : List Loc} {cells slots : Nat} {Q : State → Prop}
variable {cc : ByteArray} {pc nL : Nat} {ls : Array Slot} {st rest : List Value} {A : Nat → Prop} {H0 : Heap} {g : kG} {cs : List va_W} {own : String} {ret : Option FieldType}
theorem kg_putF (C : kC p c cc s m args meth own g nL ret) {Cn : String} {T : u_T} {N ci index a i q k : Nat} {ty0 : Nat → FieldType} {ch : va_W} {fs : List Value} {v : Value} {ch' : va_W} {cs' : List va_W} (hF : kFl Cn T N ci ty0) (hlink : Cond.fieldLink own index (T k).1 (T k).2.1 (T k).2.2.1 ∈ kW) (hP : kp g cs H) (hD : kd A cs) (hS : va_S A H0 H locs) (hch : cs[i]? = some ch) (he : ch[q]? = some (a, .inr (ci, fs))) (hk : k < N) (hfin : (T k).2.2.2 = true) (hin2 : meth.name = "<init>") (hdecl : (T k).1 = own) (hn : narrow (ty0 k) v = v) (hfit : fits (ty0 k) v = true) (hl : k < fs.length) (hst : ch.set q (a, .inr (ci, fs.set k v)) = ch') (hcs : cs.set i ch' = cs') (d : decode cc pc = .ok (.putfield index, 3))
    (kk : ∀ (H1 : Heap) (locs1 : List Loc), kp g cs' H1 → kd A cs' → va_S A H0 H1 locs1 → W p l e R s m args below meth c H1 locs1 cells slots Q (F0 m (pc + 3) ls rest)) : W p l e R s m args below meth c H locs cells slots Q (F0 m pc ls (v :: .ref a :: rest)) := by
  obtain ⟨n, h1, h2⟩ := k_loc hch he
  subst hst; subst hcs
  refine va_putF (D := g.1) C.1.1 C.1.2.1 C.1.2.2.2.2 hF.2.2.2 ty0 hF.2.1 hF.2.2.1 C.1.2.2.2.1 C.2.1.1 hP hD hS n h1 hF.1 k hk (C.1.2.2.2.2 _ hlink) (fun _ h => h) hfin hin2 hdecl (hF.2.1 k hk) hn hfit hl d (fun H1 locs1 hP hD hS => ?_)
  rw [h2] at hP hD
  exact kk H1 locs1 hP hD hS
theorem kg_obj (C : kC p c cc s m args meth own g nL ret) (hsz : ls.size = nL) {index a : Nat} (h1 : Cond.methodLink own index Lib.objectInit ∈ kW) (h2 : Cond.instanceMethod Lib.objectInit ∈ kW) (h3 : Cond.code Lib.objectInit ⟨#[0xb1]⟩ 1 none ∈ kW) (hfr : 1 ≤ R.frames) (hlo : (rest.map fun v => v.category).sum + 12 ≤ R.locals) (d : decode cc pc = .ok (.invokespecial index, 3))
    (kk : W p l e R s m args below meth c H locs cells slots Q (F0 m (pc + 3) ls rest)) : W p l e R s m args below meth c H locs cells slots Q (F0 m pc ls (.ref a :: rest)) :=
  W.objInit C.1.1 C.1.2.1 C.1.2.2.2.1 (C.1.2.2.2.2 _ h1) (C.1.2.2.2.2 _ h2) (C.1.2.2.2.2 _ h3) rfl (by rw [C.1.2.2.1]; exact hsz) rfl d hfr (by show 2 * 0 + _ + 12 ≤ _; omega) kk
theorem kg_newq (C : kC p c cc s m args meth own g nL ret) {Cn : String} {index t N' : Nat} {n : Int32} {cT : ClassId} (hO : va_AO Cn s) (hcl : Cond.classLink own index Cn ∈ kW) (ht : (kT g)[t]? = some (cT, .object Cn)) (hP : kp g cs H) (hD : kd A cs) (hS : va_S A H0 H locs) (hA : ∀ q, H0.size ≤ q → A q) (hn : ¬ n < 0) (hN : n.toNatClampNeg = N') (hbytes : N' * 4 ≤ 536870912) (hcells : cells + 1 ≤ R.cells) (hslots : slots + N' ≤ R.slots) (d : decode cc pc = .ok (.anewarray index, 3))
    (kk : ∀ (q : Nat) (H1 : Heap), kp g (cs ++ [[(q, .inl (cT, kQA kNo N'))]]) H1 → kd A (cs ++ [[(q, .inl (cT, kQA kNo N'))]]) → va_S A H0 H1 locs → W p l e R s m args below meth c H1 locs (cells + 1) (slots + N') Q (F0 m (pc + 3) ls (.ref q :: rest))) : W p l e R s m args below meth c H locs cells slots Q (F0 m pc ls (.int n :: rest)) := by
  refine va_newq C.1.1 C.1.2.1 C.1.2.2.2.1 (C.1.2.2.2.2 _ hcl) hO C.2.1.1 hP hD hS hA hn hN hbytes hcells hslots d (fun q cA H1 hK hP hD hS => ?_)
  have e : cA = cT := by
    obtain ⟨k1, c1, -, -, -, h1⟩ := (hK.2 (kT g).length (cA, .object Cn) List.getElem?_concat_length).2
    obtain ⟨k2, c2, -, -, -, h2⟩ := (C.2.1.1.2 t _ ht).2
    exact Option.some.inj (h1.symm.trans h2)
  rw [e] at hP hD
  refine kk q H1 ?_ ?_ hS
  · unfold kp; rw [List.flatten_append]; exact hP
  · unfold kd; rw [List.flatten_append]; exact hD
theorem kg_aast (C : kC p c cc s m args meth own g nL ret) {a i q n k v j qj : Nat} {ch ch2 : va_W} {f : Nat → Option Nat} {vs : List Value} {ch' : va_W} {cs' : List va_W} (hP : kp g cs H) (hD : kd A cs) (hS : va_S A H0 H locs) (hch : cs[i]? = some ch) (he : ch[q]? = some (a, .inl (g.2.1 5, kQA f n))) (hc2 : cs[j]? = some ch2) (he2 : ch2[qj]? = some (v, .inr (4, vs))) (hk : k < n) (hn : n < 2 ^ 31) (hst : ch.set q (a, .inl (g.2.1 5, kQA (va_up f k (some v)) n)) = ch') (hcs : cs.set i ch' = cs') (d : decode cc pc = .ok (.aastore, 1))
    (kk : ∀ (H1 : Heap) (locs1 : List Loc), kp g cs' H1 → kd A cs' → va_S A H0 H1 locs1 → W p l e R s m args below meth c H1 locs1 cells slots Q (F0 m (pc + 1) ls rest)) : W p l e R s m args below meth c H locs cells slots Q (F0 m pc ls (.ref v :: .int (nI k) :: .ref a :: rest)) := by
  obtain ⟨j1, h1, h2⟩ := k_loc hch he
  obtain ⟨j2, g1, g2⟩ := k_loc hc2 he2
  subst hst; subst hcs
  refine va_astq C.1.1 C.1.2.1 C.2.1.1 hP hD hS j1 5 j2 4 h1 rfl g1 rfl (vp_in_nI hk (by omega)) d (fun H1 locs1 hP hD hS => ?_)
  rw [nI_clamp (by omega), h2] at hP hD
  exact kk H1 locs1 hP hD hS
/-- a constructor of a nest mate -/
theorem kV_IN (C : kC p c cc s m args meth own g nL ret) {y : MethodName} {ws : List Cond} {host : String} {index b f lo mc ms maxL n : Nat} {bytes : ByteArray} {As : List Value} {wc wr : List va_W} {post : List va_W → Prop} (hM : kV l y ws f lo mc ms g (.ref b :: As) wc post)
    (cw : va_CN R s args own index y host bytes maxL none ws (kRm f mc ms lo) mc ms n ∧ y.name = "<init>" ∧ (Cond.instanceMethod y).before args s = true) (hE : kE g A s s.heap) (hS : va_S A s.heap H locs) (hA : ∀ q, s.heap.size ≤ q → A q) (hP : kp g cs H) (hD : kd A cs) (iC iR : List Nat) (hC : iC.map (fun i => cs[i]?) = wc.map some) (hR : iR.map (fun i => cs[i]?) = wr.map some) (hnd : va_nd iC = true ∧ va_nd iR = true ∧ ∀ i ∈ iR, i ∉ iC)
    (hn : As.length = n) (hsz : ls.size = nL) (hst : st = As.reverse ++ .ref b :: rest) (hW : kSt rest) (d : decode cc pc = .ok (.invokespecial index, 3)) (hf : cells + mc ≤ R.cells ∧ slots + ms ≤ R.slots)
    (kk : ∀ (u : List va_W) (H1 : Heap) (locs1 : List Loc), post u → kp g (wr ++ u) H1 → kd A (wr ++ u) → va_S A s.heap H1 locs1 → W p l e R s m args below meth c H1 locs1 (cells + mc) (slots + ms) Q (F0 m (pc + 3) ls rest)) : W p l e R s m args below meth c H locs cells slots Q (F0 m pc ls st) :=
  kM_backv (av := .ref b :: As) (va_runIN (As := As) (rest := rest) C.1 (hM H.size) cw ⟨kPre_blind, kM_pre hE hS hA hP hD iC hC hnd.1⟩ rfl hn hsz hst (lv_room (Nat.le_of_ble_eq_true hW)) d hf) hS hA hP hD iC iR hC hR hnd.2.1 hnd.2.2 kk
theorem kV_I (C : kC p c cc s m args meth own g nL ret) {y : MethodName} {ws : List Cond} {index b f lo mc ms maxL n : Nat} {bytes : ByteArray} {As : List Value} {wc wr : List va_W} {post : List va_W → Prop} (hM : kV l y ws f lo mc ms g (.ref b :: As) wc post)
    (cw : CallB R s args own index y bytes maxL none ws (kRm f mc ms lo) mc ms n ∧ y.name = "<init>" ∧ (Cond.instanceMethod y).before args s = true) (hE : kE g A s s.heap) (hS : va_S A s.heap H locs) (hA : ∀ q, s.heap.size ≤ q → A q) (hP : kp g cs H) (hD : kd A cs) (iC iR : List Nat) (hC : iC.map (fun i => cs[i]?) = wc.map some) (hR : iR.map (fun i => cs[i]?) = wr.map some) (hnd : va_nd iC = true ∧ va_nd iR = true ∧ ∀ i ∈ iR, i ∉ iC)
    (hn : As.length = n) (hsz : ls.size = nL) (hst : st = As.reverse ++ .ref b :: rest) (hW : kSt rest) (d : decode cc pc = .ok (.invokespecial index, 3)) (hf : cells + mc ≤ R.cells ∧ slots + ms ≤ R.slots)
    (kk : ∀ (u : List va_W) (H1 : Heap) (locs1 : List Loc), post u → kp g (wr ++ u) H1 → kd A (wr ++ u) → va_S A s.heap H1 locs1 → W p l e R s m args below meth c H1 locs1 (cells + mc) (slots + ms) Q (F0 m (pc + 3) ls rest)) : W p l e R s m args below meth c H locs cells slots Q (F0 m pc ls st) :=
  kM_backv (av := .ref b :: As) (va_runI (As := As) (rest := rest) C.1 (hM H.size) cw ⟨kPre_blind, kM_pre hE hS hA hP hD iC hC hnd.1⟩ rfl hn hsz hst (lv_room (Nat.le_of_ble_eq_true hW)) d hf) hS hA hP hD iC iR hC hR hnd.2.1 hnd.2.2 kk
theorem kVO_IN (C : kC p c cc s m args meth own g nL ret) {y : MethodName} {ws : List Cond} {host : String} {index b f lo mc ms maxL n : Nat} {bytes : ByteArray} {As : List Value} {wc wr : List va_W} {post : List va_W → Prop} (hM : kVO l y ws f lo mc ms g (.ref b :: As) wc post) (hO : va_AO "SpiceScale$Caravan" s)
    (cw : va_CN R s args own index y host bytes maxL none ws (kRm f mc ms lo) mc ms n ∧ y.name = "<init>" ∧ (Cond.instanceMethod y).before args s = true) (hE : kE g A s s.heap) (hS : va_S A s.heap H locs) (hA : ∀ q, s.heap.size ≤ q → A q) (hP : kp g cs H) (hD : kd A cs) (iC iR : List Nat) (hC : iC.map (fun i => cs[i]?) = wc.map some) (hR : iR.map (fun i => cs[i]?) = wr.map some) (hnd : va_nd iC = true ∧ va_nd iR = true ∧ ∀ i ∈ iR, i ∉ iC)
    (hn : As.length = n) (hsz : ls.size = nL) (hst : st = As.reverse ++ .ref b :: rest) (hW : kSt rest) (d : decode cc pc = .ok (.invokespecial index, 3)) (hf : cells + mc ≤ R.cells ∧ slots + ms ≤ R.slots)
    (kk : ∀ (u : List va_W) (H1 : Heap) (locs1 : List Loc), post u → kp g (wr ++ u) H1 → kd A (wr ++ u) → va_S A s.heap H1 locs1 → W p l e R s m args below meth c H1 locs1 (cells + mc) (slots + ms) Q (F0 m (pc + 3) ls rest)) : W p l e R s m args below meth c H locs cells slots Q (F0 m pc ls st) :=
  kM_backv (av := .ref b :: As) (va_runIN (As := As) (rest := rest) C.1 (hM H.size) cw ⟨kPreO_blind, fun U hU hW => ⟨(kM_pre (av := .ref b :: As) hE hS hA hP hD iC hC hnd.1 U hU hW).1, (kM_pre (av := .ref b :: As) hE hS hA hP hD iC hC hnd.1 U hU hW).2, va_AO.moved hW.alike hO⟩⟩ rfl hn hsz hst (lv_room (Nat.le_of_ble_eq_true hW)) d hf) hS hA hP hD iC iR hC hR hnd.2.1 hnd.2.2 kk
theorem kVO_I (C : kC p c cc s m args meth own g nL ret) {y : MethodName} {ws : List Cond} {index b f lo mc ms maxL n : Nat} {bytes : ByteArray} {As : List Value} {wc wr : List va_W} {post : List va_W → Prop} (hM : kVO l y ws f lo mc ms g (.ref b :: As) wc post) (hO : va_AO "SpiceScale$Caravan" s)
    (cw : CallB R s args own index y bytes maxL none ws (kRm f mc ms lo) mc ms n ∧ y.name = "<init>" ∧ (Cond.instanceMethod y).before args s = true) (hE : kE g A s s.heap) (hS : va_S A s.heap H locs) (hA : ∀ q, s.heap.size ≤ q → A q) (hP : kp g cs H) (hD : kd A cs) (iC iR : List Nat) (hC : iC.map (fun i => cs[i]?) = wc.map some) (hR : iR.map (fun i => cs[i]?) = wr.map some) (hnd : va_nd iC = true ∧ va_nd iR = true ∧ ∀ i ∈ iR, i ∉ iC)
    (hn : As.length = n) (hsz : ls.size = nL) (hst : st = As.reverse ++ .ref b :: rest) (hW : kSt rest) (d : decode cc pc = .ok (.invokespecial index, 3)) (hf : cells + mc ≤ R.cells ∧ slots + ms ≤ R.slots)
    (kk : ∀ (u : List va_W) (H1 : Heap) (locs1 : List Loc), post u → kp g (wr ++ u) H1 → kd A (wr ++ u) → va_S A s.heap H1 locs1 → W p l e R s m args below meth c H1 locs1 (cells + mc) (slots + ms) Q (F0 m (pc + 3) ls rest)) : W p l e R s m args below meth c H locs cells slots Q (F0 m pc ls st) :=
  kM_backv (av := .ref b :: As) (va_runI (As := As) (rest := rest) C.1 (hM H.size) cw ⟨kPreO_blind, fun U hU hW => ⟨(kM_pre (av := .ref b :: As) hE hS hA hP hD iC hC hnd.1 U hU hW).1, (kM_pre (av := .ref b :: As) hE hS hA hP hD iC hC hnd.1 U hU hW).2, va_AO.moved hW.alike hO⟩⟩ rfl hn hsz hst (lv_room (Nat.le_of_ble_eq_true hW)) d hf) hS hA hP hD iC iR hC hR hnd.2.1 hnd.2.2 kk
theorem kVO_of {y : MethodName} {ws : List Cond} {f lo mc ms : Nat} {av : List Value} {post : List va_W → Prop} {lv : List (Nat × Value)} (hy : plainName y.cls = true) (hw : ws = Cond.code y cc nL ret :: kW) (hav : (lg_sl av).length ≤ nL) (hlv : lv_args 0 av = lv)
    (body : ∀ (p : Program) (e : Env) (s : State) (m : MethodId) (args : Array Value) (below : List Frame) (meth : Method) (c : Code) (ls : Array Slot) (A : Nat → Prop), va_AO "SpiceScale$Caravan" s → meth.name = y.name → kC p c cc s m args meth y.cls g nL ret → kp g cs s.heap → kd A cs → kE g A s s.heap → (∀ q, s.heap.size ≤ q → A q) → va_S A s.heap s.heap [] → lv_has ls nL lv →
      W p l e (kRm f mc ms lo) s m args below meth c s.heap [] 0 0 (MQ below (kQv g post A) args s mc ms A) (F0 m 0 ls [])) : kVO l y ws f lo mc ms g av cs post := by
  intro sz
  refine Met.ofW (cc := cc) (maxL := nL) (ret := ret) hy hw ?_
  intro p e s m args below meth c s₁ B hml hv
  obtain ⟨rfl, ⟨hsz, hP, hD, hE⟩, hO⟩ := hv
  subst hsz
  have hl := lv_entry av (n := nL) hav
  rw [lg_entry_eq]
  subst hlv
  exact body p e s m _ below meth c _ _ hO (name_of_methodNamed B.named B.method).1 ⟨⟨B.exec, B.bytes, hml, findClass_of_methodNamed B.named, fun w h => atoms_spec (ws := ws) B.pre w (by rw [hw]; exact List.mem_cons_of_mem _ h)⟩, ⟨hE.1, hE.2.1⟩, B.returns, B.notSynchronized⟩ hP hD.self hE (fun q h => Or.inr h) va_S.rf hl
end KROWSC
