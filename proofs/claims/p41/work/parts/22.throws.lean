/-! a throw of a class whose constructor calls its super by another pool index than 7 (NoSuchElementException: 13). kx_ctorN and kx_throwSWN follow the library's Stand.ctorThrowS and the kit's vx_throwSW, with the first link of the chain by itself. -/
def kx_six (b : Nat) : ByteArray := ⟨#[0x2a, 0x2b, 0xb7, 0x00, UInt8.ofNat b, 0xb1]⟩
def kx_tail (own : String) (ic : Nat) (X : String) : List Cond :=
  [.methodLink own ic (Bundle.initS X), .instantiable X 6, .castable X X, .selects X Bundle.tFill0 Bundle.tFill0, .selects X Bundle.tFill Bundle.tFill, .lays X Bundle.tN "cause" "Ljava/lang/Throwable;", .lays X Bundle.tN "stackTrace" Bundle.steD, .lays X Bundle.tN "suppressedExceptions" Bundle.listD, .lays X Bundle.tN "detailMessage" "Ljava/lang/String;", .isRef (.static Bundle.tN "UNASSIGNED_STACK" Bundle.steD), .isRef (.static Bundle.tN "SUPPRESSED_SENTINEL" Bundle.listD), .fieldLink Bundle.tN 198 Bundle.tN "backtrace" "Ljava/lang/Object;", .lays Bundle.tN Bundle.tN "backtrace" "Ljava/lang/Object;", .lays X Bundle.tN "backtrace" "Ljava/lang/Object;"]
def kx_atoms (own : String) (ic : Nat) (X Y : String) (names : List String) (b : Nat) : List Cond := Bundle.throwableAtoms ++ Bundle.throwableSAtoms ++ (Bundle.passSAtoms X Y b (kx_six b) ++ Bundle.chainSAtoms Y names) ++ kx_tail own ic X
section KXN
variable {p : Program} {l : Launch} {e : Env} {R : Room} {s : State} {m₀ : MethodId} {args : Array Value} {below : List Frame} {meth : Method} {c : Code} {W : State} {locs : List Loc} {cells slots : Nat}
set_option maxHeartbeats 1000000 in
theorem kx_ctorN (X : Stand p l e R s m₀ args below meth c W locs cells slots) (hexec : p.tables.exec = Jvm.exec) (htr : e.platform.stackTraces = false) {own cls Y1 : String} {names : List String} {ic b : Nat}
    (hown : s.vm.findClass own = some m₀.cls) (hcls : Bundle.fit cls = true) (hY1 : Bundle.fit Y1 = true) (hnames : ∀ n ∈ names, Bundle.fit n = true)
    (hb0 : decode (kx_six b) 0 = .ok (.aload_n 0, 1)) (hb1 : decode (kx_six b) 1 = .ok (.aload_n 1, 1)) (hb2 : decode (kx_six b) 2 = .ok (.invokespecial b, 3)) (hb5 : decode (kx_six b) 5 = .ok (.return_, 1))
    (h : ∀ a ∈ kx_atoms own ic cls Y1 names b, a.before args s = true)
    (hlocs : ∀ x ∈ locs, ∀ cell, s.heap[x.base]? = some cell → cell.vm.isStatics = false)
    {a : Addr} {cX : ClassId} {kX : Class} (hfoundX : s.vm.findClass cls = some cX) (hkX : s.vm.classes[cX]? = some kX) (hcell : W.heap[a]? = some (freshCell cX kX)) (hnew : s.heap.size ≤ a)
    {msg : Value} (hmsg : msg.isRef = true)
    {g : JFrame} (hg : g.method = m₀) (hsize : g.locals.size = c.maxLocals) (hlocked : g.locked = none) (hentered : g.entered = []) {rest : List Value} (hstack : g.stack = msg :: .ref a :: .ref a :: rest)
    (hd6 : decode c.code g.pc = .ok (.invokespecial ic, 3)) (hd9 : decode c.code (g.pc + 3) = .ok (.athrow, 1)) (hout : ∀ x ∈ c.exceptionTable.toList, covers x (g.pc + 3) = false)
    (hRframes : names.length + 4 < R.frames) (hRlocals : 2 * g.monitorRoom + ((Value.ref a :: rest).map fun v => v.category).sum + (13 * (names.length + 2) + 42) ≤ R.locals) (hlocks : meth.locks = false) :
    ∃ U : State, Steps p.tables e below (W.setTop g) U ∧ U.status = .running ∧ Ended U below (.threw a) ∧ s.WarmedH U.vm ∧ s.sameButNew ({ U with vm := s.vm } : State) locs cells slots ∧
      ∃ ce, U.heap[a]? = some ce ∧ ce.vm = .none ∧ s.vm.findClass cls = some ce.cls := by
  have howns : e.platform.frameOwnsMonitors = true := by rw [X.admits.platform]
  have hfin : e.platform.finalization = false := by rw [X.admits.platform]
  have hpl : e.platform.magicAccessors = ({} : Platform).magicAccessors := by rw [X.admits.platform]
  have hA1 : ∀ x ∈ Bundle.throwableAtoms, x.before args s = true := fun x hx => h x (by unfold kx_atoms; exact List.mem_append_left _ (List.mem_append_left _ (List.mem_append_left _ hx)))
  have hA2 : ∀ x ∈ Bundle.throwableSAtoms, x.before args s = true := fun x hx => h x (by unfold kx_atoms; exact List.mem_append_left _ (List.mem_append_left _ (List.mem_append_right _ hx)))
  have hA3 : ∀ x ∈ Bundle.passSAtoms cls Y1 b (kx_six b), x.before args s = true := fun x hx => h x (by unfold kx_atoms; exact List.mem_append_left _ (List.mem_append_right _ (List.mem_append_left _ hx)))
  have hA4 : ∀ x ∈ Bundle.chainSAtoms Y1 names, x.before args s = true := fun x hx => h x (by unfold kx_atoms; exact List.mem_append_left _ (List.mem_append_right _ (List.mem_append_right _ hx)))
  have a' : ∀ x, x ∈ kx_tail own ic cls → x.holds args s none s [] = true := fun x hx => h x (by unfold kx_atoms; exact List.mem_append_right _ hx)
  obtain ⟨T, Z0, L, -, Y⟩ := ThrowableC.of_atoms (args := args) howns hfin hpl hA1
  obtain ⟨Z, M, LZ, LM, hnZ⟩ := Init0T.ofS_atoms (args := args) hpl L Y hA2
  obtain ⟨P0, L0, hP0m, hP0s⟩ := PassC.ofS_atoms (args := args) (s := s) hpl (X := cls) (Y := Y1) (Bundle.fit_spec hcls).1 (Bundle.fit_spec hY1).2 hb0 hb1 hb2 hb5 hA3
  obtain ⟨P1, Ps, hlen, L1, hL, hP1m, hlink1, hlink⟩ := Bundle.chainS (args := args) hpl hnZ names Y1 hY1 hnames hA4
  have hfound : s.vm.findClass cls = some P0.m.cls := findClass_of_methodNamed hP0m
  cases Option.some.inj (hfoundX.symm.trans hfound)
  obtain ⟨c1, kX', hc1, hk, hord, -, -, hn6⟩ := Cond.instantiable_spec (a' (.instantiable cls 6) (by simp [kx_tail]))
  cases Option.some.inj (hc1.symm.trans hfound)
  cases Option.some.inj (hkX.symm.trans hk)
  have hsel0 : selectMethod e.platform s.vm P0.m.cls T.fill0 = .method T.fill0 := by
    obtain ⟨c2, r2, m2, q1, q2, q3, q4, -⟩ := Cond.selects_spec (a' (.selects cls Bundle.tFill0 Bundle.tFill0) (by simp [kx_tail]))
    cases Option.some.inj (q1.symm.trans hfound)
    cases Option.some.inj (q2.symm.trans (State.methodFound?_of_named Y.fill0 (by decide)))
    cases Option.some.inj (q3.symm.trans Y.fill0)
    rw [Launch.admits_selectMethod X.admits]; exact q4
  have hselF : selectMethod e.platform s.vm P0.m.cls T.fill = .method T.fill := by
    obtain ⟨c2, r2, m2, q1, q2, q3, q4, -⟩ := Cond.selects_spec (a' (.selects cls Bundle.tFill Bundle.tFill) (by simp [kx_tail]))
    cases Option.some.inj (q1.symm.trans hfound)
    cases Option.some.inj (q2.symm.trans (State.methodFound?_of_named Y.fill (by decide)))
    cases Option.some.inj (q3.symm.trans Y.fill)
    rw [Launch.admits_selectMethod X.admits]; exact q4
  obtain ⟨cellS0, hcS0, hiss⟩ := Y.statics
  obtain ⟨u0, hu0⟩ := Cond.staticRefV Y.unassigned L.unassignedStatic L.statics hcS0 hiss (a' (.isRef (.static Bundle.tN "UNASSIGNED_STACK" Bundle.steD)) (by simp [kx_tail]))
  obtain ⟨sen, hsen⟩ := Cond.staticRefV Y.sentinel L.sentinelStatic L.statics hcS0 hiss (a' (.isRef (.static Bundle.tN "SUPPRESSED_SENTINEL" Bundle.listD)) (by simp [kx_tail]))
  obtain ⟨ci198, i198, fB, hk198, hg198, ha198, hsB, -, hnB, htB, hffB⟩ := Cond.ownField (t := .object "java/lang/Object") Y.found L.cls (by decide +kernel) (a' (.fieldLink Bundle.tN 198 Bundle.tN "backtrace" "Ljava/lang/Object;") (by simp [kx_tail])) (a' (.lays Bundle.tN Bundle.tN "backtrace" "Ljava/lang/Object;") (by simp [kx_tail])) e.platform hpl
  obtain ⟨cellS, hcS', heS, -, hkeep⟩ := X.same.2.2.2.2.2 T.aS cellS0 hcS0
  have hcellS : W.heap[T.aS]? = some cellS := hcS'
  have hout' : ∀ i, (⟨T.aS, i⟩ : Loc) ∉ locs := fun i hmem => by
    have := hlocs _ hmem cellS0 hcS0
    rw [hiss] at this; cases this
  have hknownS : cellS.vm ≠ .unknown := by
    rw [heS]; intro hu
    rw [show cellS0.vm = .unknown from hu] at hiss
    cases hiss
  have hneS : T.aS ≠ a := Nat.ne_of_lt (Nat.lt_of_lt_of_le (Array.getElem?_eq_some_iff.mp hcS0).1 hnew)
  obtain ⟨iM, hffM⟩ := Y.msg
  obtain ⟨tyC, dC, hdC, hdnC⟩ := Cond.laysAt hfound hk Y.cause (a' (.lays cls Bundle.tN "cause" "Ljava/lang/Throwable;") (by simp [kx_tail]))
  obtain ⟨tyS, dS, hdS, hdnS⟩ := Cond.laysAt hfound hk Y.stack (a' (.lays cls Bundle.tN "stackTrace" Bundle.steD) (by simp [kx_tail]))
  obtain ⟨tyP, dP, hdP, hdnP⟩ := Cond.laysAt hfound hk Y.supp (a' (.lays cls Bundle.tN "suppressedExceptions" Bundle.listD) (by simp [kx_tail]))
  obtain ⟨tyM, dM, hdM, hdnM⟩ := Cond.laysAt hfound hk hffM (a' (.lays cls Bundle.tN "detailMessage" "Ljava/lang/String;") (by simp [kx_tail]))
  obtain ⟨tyB, dB, hdB, hdnB⟩ := Cond.laysAt hfound hk hffB (a' (.lays cls Bundle.tN "backtrace" "Ljava/lang/Object;") (by simp [kx_tail]))
  have bC := Cond.laysApart hdB hdC hdnB hdnC (by rw [hnB, Y.causeName]; decide)
  have bS := Cond.laysApart hdB hdS hdnB hdnS (by rw [hnB, Y.stackName]; decide)
  have bP := Cond.laysApart hdB hdP hdnB hdnP (by rw [hnB, Y.suppName]; decide)
  have hskip : SkipFacts T e.platform s (fun u => u) u0 ((preparedCellV T.toThrowableT (freshCell P0.m.cls kX) a u0 sen).withEntry W.cur) :=
    ⟨{ ci198 := ci198, i198 := i198, fBack := fB }, ⟨hk198, hg198, ha198, hsB⟩, by
      have := fresh_default (c := P0.m.cls) tyB
      rw [htB] at this
      simpa [preparedCellV, Cell.setSlot, Cell.withEntry, Array.getElem?_setIfInBounds, bC, bS, bP, bC.symm, bS.symm, bP.symm, defaultValue] using this, fun _ _ => rfl⟩
  obtain ⟨tm, methC, cdC, kC, vm₁, hnC, -, -, -, -, -, -, -, hW₁, st1⟩ := Steps.initColdS (tb := p.tables) (e := e) (below := below) (s := s) (U := W) X.here hexec X.warmed hpl hown (t := Bundle.initS cls) rfl rfl (Bundle.fit_spec hcls).2
    (a' (.methodLink own ic (Bundle.initS cls)) (by simp [kx_tail])) (hA3 (.instanceMethod (Bundle.initS cls)) (by simp [Bundle.passSAtoms])) (bytes := kx_six b) (maxL := 2) (hA3 (.code (Bundle.initS cls) (kx_six b) 2 none) (by simp [Bundle.passSAtoms]))
    (f := g) hg (a := a) (msg := msg) (rest := .ref a :: rest) hstack hd6
  cases Option.some.inj (hnC.symm.trans hP0m)
  have X₁ := X.noted hW₁
  obtain ⟨vm₂, X₂, st2⟩ := X₁.ctorMessageOffV hexec (g := { g with stack := .ref a :: rest }) hg hsize T L Z LZ M LM (P0 :: P1 :: Ps)
    (fun P hP => by
      rcases List.mem_cons.mp hP with rfl | hP
      · exact L0
      rcases List.mem_cons.mp hP with rfl | hP
      · exact L1
      · exact hL P hP) ⟨Option.some.inj (hP0s.symm.trans hP1m), hlink1, hlink⟩ (u0 := u0) (sen := sen) (self := a) hmsg (cell := freshCell P0.m.cls kX) (cellS := cellS)
    hcell (fun _ => by simp) (by simp) rfl rfl hsel0 hselF hcellS hneS hknownS (by rw [hkeep _ (hout' _)]; exact hu0) (by rw [hkeep _ (hout' _)]; exact hsen)
    (Takes.of_laid hk hord tyC (by rw [Y.causeType]; rfl)) (Takes.of_laid hk hord tyS (by rw [Y.stackType]; exact fits_refV_array _ u0)) (Takes.of_laid hk hord tyP (by rw [Y.suppType]; exact fits_refV_object _ sen))
    (Takes.of_laid hk hord tyM (by rw [Y.msgType]; exact fits_refV_object _ ⟨msg, hmsg⟩)) Y.objLocals hskip htr [] hd6
    (by simp only [List.length_cons, hlen]; omega) (by simp only [List.length_cons, hlen]; exact hRlocals)
  obtain ⟨hwalk, hrun, hended, hWU, hsame⟩ := X₂.athrowLeaves hexec (g := { g with stack := .ref a :: rest, pc := g.pc + 3 }) hg hlocked hentered hout (a := a) (rest := rest) rfl hd9
  have hlt : a < ((W.setVm vm₁).setVm vm₂).heap.size := (Array.getElem?_eq_some_iff.mp hcell).1
  have hU := heapAt_setCell_self (s := (W.setVm vm₁).setVm vm₂) (plainBareV T.toThrowableT (freshCell P0.m.cls kX) a u0 sen msg) hlt
  refine ⟨_, st1 _ (fun acts => ?_), hrun, hended, hWU, hsame.weaken (fun y hy hlt' => ?_) (Nat.le_refl _) (Nat.le_refl _), _, hU, rfl, hfound⟩
  · rw [doInvoke_state]
    exact st2 _ hwalk
  · rcases List.mem_append.mp hy with h1 | h1
    · exact h1
    · exfalso
      have hb : y.base = a := by
        simp only [List.mem_cons, List.not_mem_nil, or_false] at h1
        rcases h1 with rfl | rfl | rfl | rfl | rfl <;> rfl
      rw [hb] at hlt'
      exact Nat.not_lt.mpr hnew hlt'
end KXN
section KXN2
variable {p : Program} {l : Launch} {e : Env} {R : Room} {s : State} {m : MethodId} {args : Array Value} {below : List Frame} {meth : Method} {c : Code} {H : Heap} {locs : List Loc} {cells slots : Nat} {Q : State → Prop}
variable {mc ms : Nat} {free : Addr → Prop} {H0 : Heap} {ls : Array Slot} {rest : List Value}
variable {Qc : Array Value → State → Outcome → State → Prop} {XC : String → State → State → Prop}
/-- the words but the four that speak of the heap -/
theorem kx_own {args : Array Value} {s : State} {L : List Cond} (h1 : ∀ w ∈ L, vx_no w = true → w.before args s = true)
    (hU : (Cond.isRef (.static Bundle.tN "UNASSIGNED_STACK" Bundle.steD)).before args s = true) (hN : (Cond.isRef (.static Bundle.tN "SUPPRESSED_SENTINEL" Bundle.listD)).before args s = true)
    (lU : (Cond.laysStatic Bundle.tN "UNASSIGNED_STACK" Bundle.steD).before args s = true) (lN : (Cond.laysStatic Bundle.tN "SUPPRESSED_SENTINEL" Bundle.listD).before args s = true) : ∀ w ∈ L, w.before args s = true :=
  vx_own (L := L) (fun w hw => h1 w (List.mem_filter.mp hw).1 (List.mem_filter.mp hw).2) hU hN lU lN
theorem kx_throwSWN {cc : ByteArray} {pc : Nat} (hexec : p.tables.exec = Jvm.exec) (hb : c.code = cc) (hl : l.stackTraces = false) {own cls text Y1 : String} {names : List String} {ik is ic mc ms sa b : Nat} {A : Nat → Prop}
    (hown : s.vm.findClass own = some m.cls) (hcls : Bundle.fit cls = true) (hY1 : Bundle.fit Y1 = true) (hnames : ∀ n ∈ names, Bundle.fit n = true)
    (hb0 : decode (kx_six b) 0 = .ok (.aload_n 0, 1)) (hb1 : decode (kx_six b) 1 = .ok (.aload_n 1, 1)) (hb2 : decode (kx_six b) 2 = .ok (.invokespecial b, 3)) (hb5 : decode (kx_six b) 5 = .ok (.return_, 1))
    (hk : (Cond.classLink own ik cls).before args s = true) (hini : (Cond.initialized cls).before args s = true) (hstr : vk_R own is text sa s) (hat : ∀ w ∈ kx_atoms own ic cls Y1 names b, vx_no w = true → w.before args s = true)
    (hgk : vx_ot (Cond.classLink own ik cls) = true) (hgi : vx_ot (Cond.initialized cls) = true) (hgood : ∀ w ∈ kx_atoms own ic cls Y1 names b, vx_no w = true → vx_ot w = true)
    (hU : vx_Zq Bundle.tN "UNASSIGNED_STACK" Bundle.steD A s s.heap) (hN : vx_Zq Bundle.tN "SUPPRESSED_SENTINEL" Bundle.listD A s s.heap) (hS : va_S A s.heap H locs) (hsize : ls.size = c.maxLocals)
    (d0 : decode cc pc = .ok (.new ik, 3)) (d3 : decode cc (pc + 3) = .ok (.dup, 1)) (d4 : decode cc (pc + 4) = .ok (.ldc_w is, 3)) (d7 : decode cc (pc + 7) = .ok (.invokespecial ic, 3)) (d10 : decode cc (pc + 10) = .ok (.athrow, 1))
    (hout : ∀ x ∈ c.exceptionTable.toList, covers x (pc + 10) = false)
    (hRframes : names.length + 4 < R.frames) (hRlocals : (rest.map fun v => v.category).sum + (13 * (names.length + 2) + 43) ≤ R.locals) (hRcells : cells + 1 ≤ R.cells) (hRslots : slots + 6 ≤ R.slots) (hlocks : meth.locks = false)
    (hx : ∀ t : State, s.vm.Alike t.vm → H.size ≤ t.heap.size → (∀ q : Nat, q < H.size → t.heap[q]? = H[q]?) → XC cls s t)
    (hf : ∀ z ∈ locs, free z.base) (hc : cells + 1 ≤ mc) (hs : slots + 6 ≤ ms) :
    W p l e R s m args below meth c H locs cells slots (vx_MQ below Qc XC args s mc ms free) (F0 m pc ls rest) := by
  intro T hT X
  have htr : e.platform.stackTraces = false := (show e.platform.stackTraces = l.stackTraces by rw [X.admits.platform]).trans hl
  have Y := vx_rebase X (R' := { frames := R.frames, locals := R.locals, cells := 1, slots := 6 }) (Nat.le_refl _) (Nat.le_refl _) hRcells hRslots
  obtain ⟨s', hA⟩ : ∃ z, z = (T.setVm s.vm).setFrames (.invoking m args :: below) := ⟨_, rfl⟩
  rw [← hA] at Y
  have hvm : s'.vm = s.vm := by rw [hA]; rfl
  have hhp : s'.heap = H := by rw [hA]; exact hT
  have hW0 : s.WarmedH s'.vm := by rw [hvm]; exact State.WarmedH.refl s
  have hat' : ∀ w ∈ kx_atoms own ic cls Y1 names b, vx_no w = true → w.before args s' = true := fun w hw hn => vx_ot_at hW0 hvm.symm (hgood w hw hn) (hat w hw hn)
  have hk' : (Cond.classLink own ik cls).before args s' = true := vx_ot_at hW0 hvm.symm hgk hk
  have hini' : (Cond.initialized cls).before args s' = true := vx_ot_at hW0 hvm.symm hgi hini
  have hU' : vx_Zq Bundle.tN "UNASSIGNED_STACK" Bundle.steD A s' s'.heap := by rw [hhp]; exact vx_Zq.moved hW0.alike (hU.kept hS.2.1)
  have hN' : vx_Zq Bundle.tN "SUPPRESSED_SENTINEL" Bundle.listD A s' s'.heap := by rw [hhp]; exact vx_Zq.moved hW0.alike (hN.kept hS.2.1)
  have h : ∀ w ∈ kx_atoms own ic cls Y1 names b, w.before args s' = true := kx_own hat' (vx_isRefq hU'.1) (vx_isRefq hN'.1) hU'.2.word hN'.2.word
  have hown' : s'.vm.findClass own = some m.cls := by rw [hvm]; exact hown
  have hins : (Cond.instantiable cls 6).before args s' = true := h _ (by unfold kx_atoms; exact List.mem_append_right _ (by simp [kx_tail]))
  obtain ⟨vm₁, cX, kX, hfX, hkX, -, -, X₁, st1⟩ := Y.newCold hexec (own := own) (C := cls) (index := ik) (n := 6) hown' hk' hins hini'
    (g := F0 m pc ls rest) rfl (by rw [hb]; exact d0) (Nat.le_refl _) (Nat.le_refl _)
  generalize hT1 : (T.setVm vm₁).pushCell { cls := cX, slots := kX.instanceTypes.map defaultValue, vm := .none } = T1 at X₁ st1
  have hcat : (Value.ref T.heap.size).category = 1 := rfl
  have hcellA : T1.heap[T.heap.size]? = some (freshCell cX kX) := by rw [← hT1]; exact State.heap_pushCell_size _ _
  have d3' : decode c.code (pc + 3) = .ok (.dup, 1) := by rw [hb]; exact d3
  have d4' : decode c.code (pc + 4) = .ok (.ldc_w is, 3) := by rw [hb]; exact d4
  have hstr' : vk_R own is text sa s' := vk_R.warm hW0 hstr
  obtain ⟨U, hsteps, hrun, hend, hW, hsame, ce, hce, hcv, hcl0⟩ := kx_ctorN X₁ hexec htr (own := own) (cls := cls) (names := names) (ic := ic) hown' hcls hY1 hnames hb0 hb1 hb2 hb5 h (fun x hx => nomatch hx) hfX hkX hcellA (by rw [hhp, hT]; exact Nat.le_refl _) (msg := .ref sa) rfl
    (g := { method := m, pc := pc + 7, locals := ls, stack := .ref sa :: .ref T.heap.size :: .ref T.heap.size :: rest, locked := none }) rfl hsize rfl rfl (rest := rest) rfl
    (by rw [hb]; exact d7) (by rw [hb]; exact d10) hout hRframes (by simp only [List.map_cons, List.sum_cons, hcat]; omega) hlocks
  obtain ⟨f1, f2⟩ := vx_frame hsame
  rw [hhp] at f1 f2
  have hWs : s.WarmedH U.vm := State.WarmedH.trans hW0 hW
  have hcl : s.vm.findClass cls = some ce.cls := by
    rw [hvm] at hcl0
    exact hcl0
  have hall : s.sameButNew ({ U with vm := s.vm } : State) locs mc ms := by
    subst hA
    obtain ⟨e1, e2⟩ := hsame
    rw [State.setFrames_setFrames] at e1
    have h2 : (T.setVm s.vm).sameButNew ({ U with vm := s.vm } : State) [] (0 + 1) (0 + 6) := ⟨e1, e2⟩
    have h3 := X.same.trans h2
    rw [List.append_nil] at h3
    exact h3.mono hc hs
  refine ⟨U, ?_, .threw T.heap.size, hrun, hend, Or.inr ⟨T.heap.size, rfl, cls, ce, locs, hx U hWs.alike f1 (fun q hq => f2 q hq (fun z hz => nomatch hz)), hce, hcv, hcl, hWs, hall, hf⟩⟩
  refine st1 _ ?_
  show Steps p.tables e below (T1.setTop { method := m, pc := pc + 3, locals := ls, stack := .ref T.heap.size :: rest, locked := none }) _
  jvm_step X₁.here [X₁.here.top, hexec, d3', Value.category]
  exact X₁.ldcStringW hexec (own := own) (text := text) (index := is) (a := sa) hown' hstr'.1 hstr'.2
    (g := { method := m, pc := pc + 4, locals := ls, stack := .ref T.heap.size :: .ref T.heap.size :: rest, locked := none }) rfl d4' _ hsteps
theorem kx_throwSN {cc : ByteArray} {pc : Nat} (hexec : p.tables.exec = Jvm.exec) (hb : c.code = cc) (hl : l.stackTraces = false) {own cls text Y1 : String} {names : List String} {ik is ic mc ms sa b : Nat} {A : Nat → Prop}
    (hown : s.vm.findClass own = some m.cls) (hcls : Bundle.fit cls = true) (hY1 : Bundle.fit Y1 = true) (hnames : ∀ n ∈ names, Bundle.fit n = true)
    (hb0 : decode (kx_six b) 0 = .ok (.aload_n 0, 1)) (hb1 : decode (kx_six b) 1 = .ok (.aload_n 1, 1)) (hb2 : decode (kx_six b) 2 = .ok (.invokespecial b, 3)) (hb5 : decode (kx_six b) 5 = .ok (.return_, 1))
    (hk : (Cond.classLink own ik cls).before args s = true) (hini : (Cond.initialized cls).before args s = true) (hstr : vk_R own is text sa s) (hat : ∀ w ∈ kx_atoms own ic cls Y1 names b, vx_no w = true → w.before args s = true)
    (hgk : vx_ot (Cond.classLink own ik cls) = true) (hgi : vx_ot (Cond.initialized cls) = true) (hgood : ∀ w ∈ kx_atoms own ic cls Y1 names b, vx_no w = true → vx_ot w = true)
    (hU : vx_Zq Bundle.tN "UNASSIGNED_STACK" Bundle.steD A s s.heap) (hN : vx_Zq Bundle.tN "SUPPRESSED_SENTINEL" Bundle.listD A s s.heap) (hS : va_S A s.heap H locs) (hsize : ls.size = c.maxLocals)
    (d0 : decode cc pc = .ok (.new ik, 3)) (d3 : decode cc (pc + 3) = .ok (.dup, 1)) (d4 : decode cc (pc + 4) = .ok (.ldc is, 2)) (d7 : decode cc (pc + 6) = .ok (.invokespecial ic, 3)) (d10 : decode cc (pc + 9) = .ok (.athrow, 1))
    (hout : ∀ x ∈ c.exceptionTable.toList, covers x (pc + 9) = false)
    (hRframes : names.length + 4 < R.frames) (hRlocals : (rest.map fun v => v.category).sum + (13 * (names.length + 2) + 43) ≤ R.locals) (hRcells : cells + 1 ≤ R.cells) (hRslots : slots + 6 ≤ R.slots) (hlocks : meth.locks = false)
    (hx : ∀ t : State, s.vm.Alike t.vm → H.size ≤ t.heap.size → (∀ q : Nat, q < H.size → t.heap[q]? = H[q]?) → XC cls s t)
    (hf : ∀ z ∈ locs, free z.base) (hc : cells + 1 ≤ mc) (hs : slots + 6 ≤ ms) :
    W p l e R s m args below meth c H locs cells slots (vx_MQ below Qc XC args s mc ms free) (F0 m pc ls rest) := by
  intro T hT X
  have htr : e.platform.stackTraces = false := (show e.platform.stackTraces = l.stackTraces by rw [X.admits.platform]).trans hl
  have Y := vx_rebase X (R' := { frames := R.frames, locals := R.locals, cells := 1, slots := 6 }) (Nat.le_refl _) (Nat.le_refl _) hRcells hRslots
  obtain ⟨s', hA⟩ : ∃ z, z = (T.setVm s.vm).setFrames (.invoking m args :: below) := ⟨_, rfl⟩
  rw [← hA] at Y
  have hvm : s'.vm = s.vm := by rw [hA]; rfl
  have hhp : s'.heap = H := by rw [hA]; exact hT
  have hW0 : s.WarmedH s'.vm := by rw [hvm]; exact State.WarmedH.refl s
  have hat' : ∀ w ∈ kx_atoms own ic cls Y1 names b, vx_no w = true → w.before args s' = true := fun w hw hn => vx_ot_at hW0 hvm.symm (hgood w hw hn) (hat w hw hn)
  have hk' : (Cond.classLink own ik cls).before args s' = true := vx_ot_at hW0 hvm.symm hgk hk
  have hini' : (Cond.initialized cls).before args s' = true := vx_ot_at hW0 hvm.symm hgi hini
  have hU' : vx_Zq Bundle.tN "UNASSIGNED_STACK" Bundle.steD A s' s'.heap := by rw [hhp]; exact vx_Zq.moved hW0.alike (hU.kept hS.2.1)
  have hN' : vx_Zq Bundle.tN "SUPPRESSED_SENTINEL" Bundle.listD A s' s'.heap := by rw [hhp]; exact vx_Zq.moved hW0.alike (hN.kept hS.2.1)
  have h : ∀ w ∈ kx_atoms own ic cls Y1 names b, w.before args s' = true := kx_own hat' (vx_isRefq hU'.1) (vx_isRefq hN'.1) hU'.2.word hN'.2.word
  have hown' : s'.vm.findClass own = some m.cls := by rw [hvm]; exact hown
  have hins : (Cond.instantiable cls 6).before args s' = true := h _ (by unfold kx_atoms; exact List.mem_append_right _ (by simp [kx_tail]))
  obtain ⟨vm₁, cX, kX, hfX, hkX, -, -, X₁, st1⟩ := Y.newCold hexec (own := own) (C := cls) (index := ik) (n := 6) hown' hk' hins hini'
    (g := F0 m pc ls rest) rfl (by rw [hb]; exact d0) (Nat.le_refl _) (Nat.le_refl _)
  generalize hT1 : (T.setVm vm₁).pushCell { cls := cX, slots := kX.instanceTypes.map defaultValue, vm := .none } = T1 at X₁ st1
  have hcat : (Value.ref T.heap.size).category = 1 := rfl
  have hcellA : T1.heap[T.heap.size]? = some (freshCell cX kX) := by rw [← hT1]; exact State.heap_pushCell_size _ _
  have d3' : decode c.code (pc + 3) = .ok (.dup, 1) := by rw [hb]; exact d3
  have d4' : decode c.code (pc + 4) = .ok (.ldc is, 2) := by rw [hb]; exact d4
  have hstr' : vk_R own is text sa s' := vk_R.warm hW0 hstr
  obtain ⟨U, hsteps, hrun, hend, hW, hsame, ce, hce, hcv, hcl0⟩ := kx_ctorN X₁ hexec htr (own := own) (cls := cls) (names := names) (ic := ic) hown' hcls hY1 hnames hb0 hb1 hb2 hb5 h (fun x hx => nomatch hx) hfX hkX hcellA (by rw [hhp, hT]; exact Nat.le_refl _) (msg := .ref sa) rfl
    (g := { method := m, pc := pc + 6, locals := ls, stack := .ref sa :: .ref T.heap.size :: .ref T.heap.size :: rest, locked := none }) rfl hsize rfl rfl (rest := rest) rfl
    (by rw [hb]; exact d7) (by rw [hb]; exact d10) hout hRframes (by simp only [List.map_cons, List.sum_cons, hcat]; omega) hlocks
  obtain ⟨f1, f2⟩ := vx_frame hsame
  rw [hhp] at f1 f2
  have hWs : s.WarmedH U.vm := State.WarmedH.trans hW0 hW
  have hcl : s.vm.findClass cls = some ce.cls := by
    rw [hvm] at hcl0
    exact hcl0
  have hall : s.sameButNew ({ U with vm := s.vm } : State) locs mc ms := by
    subst hA
    obtain ⟨e1, e2⟩ := hsame
    rw [State.setFrames_setFrames] at e1
    have h2 : (T.setVm s.vm).sameButNew ({ U with vm := s.vm } : State) [] (0 + 1) (0 + 6) := ⟨e1, e2⟩
    have h3 := X.same.trans h2
    rw [List.append_nil] at h3
    exact h3.mono hc hs
  refine ⟨U, ?_, .threw T.heap.size, hrun, hend, Or.inr ⟨T.heap.size, rfl, cls, ce, locs, hx U hWs.alike f1 (fun q hq => f2 q hq (fun z hz => nomatch hz)), hce, hcv, hcl, hWs, hall, hf⟩⟩
  refine st1 _ ?_
  show Steps p.tables e below (T1.setTop { method := m, pc := pc + 3, locals := ls, stack := .ref T.heap.size :: rest, locked := none }) _
  jvm_step X₁.here [X₁.here.top, hexec, d3', Value.category]
  exact X₁.ldcString hexec (own := own) (text := text) (index := is) (a := sa) hown' hstr'.1 hstr'.2
    (g := { method := m, pc := pc + 4, locals := ls, stack := .ref T.heap.size :: .ref T.heap.size :: rest, locked := none }) rfl d4' _ hsteps
end KXN2
/-! methods that may throw: what is thrown, and the world behind it -/
def kEx : Nat → String := fun i => match i with
  | 1 => "java/lang/UnsupportedOperationException"
  | 2 => "java/lang/IndexOutOfBoundsException"
  | 3 => "java/lang/IllegalArgumentException"
  | 4 => "java/util/NoSuchElementException"
  | 5 => "java/lang/IllegalStateException"
  | _ => "java/lang/ArithmeticException"
def kXC (g : kG) (px : String → List va_W → Prop) (A : Nat → Prop) : String → State → State → Prop := vx_X (fun _ : List va_W => True) (fun E u t => px E u ∧ kp g u t.heap ∧ kd A u) A
def kX (l : Launch) (y : MethodName) (ws : List Cond) (f lo mc ms : Nat) (g : kG) (av : List Value) (cs : List va_W) (post : Int32 → List va_W → Prop) (px : String → List va_W → Prop) : Prop :=
  ∀ sz : Nat, vx_Met l y ws (kRm f mc ms lo) (kPre g av cs sz) (kQi g post (va_A cs.flatten sz)) (kXC g px (va_A cs.flatten sz)) mc ms (va_A cs.flatten sz)
def kXV (l : Launch) (y : MethodName) (ws : List Cond) (f lo mc ms : Nat) (g : kG) (av : List Value) (cs : List va_W) (post : List va_W → Prop) (px : String → List va_W → Prop) : Prop :=
  ∀ sz : Nat, vx_Met l y ws (kRm f mc ms lo) (kPre g av cs sz) (kQv g post (va_A cs.flatten sz)) (kXC g px (va_A cs.flatten sz)) mc ms (va_A cs.flatten sz)
theorem kp.keep {g : kG} {cs : List va_W} {H H1 : Heap} (h : kp g cs H) (hk : ∀ q : Nat, q < H.size → H1[q]? = H[q]?) : kp g cs H1 := by
  rw [kp_iff] at h ⊢
  intro ch hch q hq
  exact (h ch hch q hq).kept (hk q.1 (h ch hch q hq).lt)
section KXROWS
variable {p : Program} {l : Launch} {e : Env} {R : Room} {s : State} {m : MethodId} {args : Array Value} {below : List Frame} {meth : Method} {c : Code} {H : Heap} {locs : List Loc} {cells slots : Nat} {Q : State → Prop}
variable {cc : ByteArray} {pc nL : Nat} {ls : Array Slot} {st rest : List Value} {A : Nat → Prop} {H0 : Heap} {g : kG} {cs : List va_W} {own : String} {ret : Option FieldType}
theorem kX_of {y : MethodName} {ws : List Cond} {f lo mc ms : Nat} {av : List Value} {post : Int32 → List va_W → Prop} {px : String → List va_W → Prop} {lv : List (Nat × Value)} (hy : plainName y.cls = true) (hw : ws = Cond.code y cc nL ret :: kW) (hav : (lg_sl av).length ≤ nL) (hlv : lv_args 0 av = lv)
    (body : ∀ (p : Program) (e : Env) (s : State) (m : MethodId) (args : Array Value) (below : List Frame) (meth : Method) (c : Code) (ls : Array Slot) (A : Nat → Prop), (∀ x ∈ c.exceptionTable.toList, False) → kC p c cc s m args meth y.cls g nL ret → kp g cs s.heap → kd A cs → kE g A s s.heap → (∀ q, s.heap.size ≤ q → A q) → va_S A s.heap s.heap [] → lv_has ls nL lv →
      W p l e (kRm f mc ms lo) s m args below meth c s.heap [] 0 0 (vx_MQ below (kQi g post A) (kXC g px A) args s mc ms A) (F0 m 0 ls [])) : kX l y ws f lo mc ms g av cs post px := by
  intro sz
  refine vx_ofW (cc := cc) (maxL := nL) (ret := ret) hy hw ?_
  intro p e s m args below meth c s₁ B hml htb hv
  obtain ⟨rfl, hsz, hP, hD, hE⟩ := hv
  subst hsz
  have hl := lv_entry av (n := nL) hav
  rw [lg_entry_eq]
  subst hlv
  exact body p e s m _ below meth c _ _ htb ⟨⟨B.exec, B.bytes, hml, findClass_of_methodNamed B.named, fun w h => atoms_spec (ws := ws) B.pre w (by rw [hw]; exact List.mem_cons_of_mem _ h)⟩, ⟨hE.1, hE.2.1⟩, B.returns, B.notSynchronized⟩ hP hD.self hE (fun q h => Or.inr h) va_S.rf hl
theorem kXV_of {y : MethodName} {ws : List Cond} {f lo mc ms : Nat} {av : List Value} {post : List va_W → Prop} {px : String → List va_W → Prop} {lv : List (Nat × Value)} (hy : plainName y.cls = true) (hw : ws = Cond.code y cc nL ret :: kW) (hav : (lg_sl av).length ≤ nL) (hlv : lv_args 0 av = lv)
    (body : ∀ (p : Program) (e : Env) (s : State) (m : MethodId) (args : Array Value) (below : List Frame) (meth : Method) (c : Code) (ls : Array Slot) (A : Nat → Prop), (∀ x ∈ c.exceptionTable.toList, False) → kC p c cc s m args meth y.cls g nL ret → kp g cs s.heap → kd A cs → kE g A s s.heap → (∀ q, s.heap.size ≤ q → A q) → va_S A s.heap s.heap [] → lv_has ls nL lv →
      W p l e (kRm f mc ms lo) s m args below meth c s.heap [] 0 0 (vx_MQ below (kQv g post A) (kXC g px A) args s mc ms A) (F0 m 0 ls [])) : kXV l y ws f lo mc ms g av cs post px := by
  intro sz
  refine vx_ofW (cc := cc) (maxL := nL) (ret := ret) hy hw ?_
  intro p e s m args below meth c s₁ B hml htb hv
  obtain ⟨rfl, hsz, hP, hD, hE⟩ := hv
  subst hsz
  have hl := lv_entry av (n := nL) hav
  rw [lg_entry_eq]
  subst hlv
  exact body p e s m _ below meth c _ _ htb ⟨⟨B.exec, B.bytes, hml, findClass_of_methodNamed B.named, fun w h => atoms_spec (ws := ws) B.pre w (by rw [hw]; exact List.mem_cons_of_mem _ h)⟩, ⟨hE.1, hE.2.1⟩, B.returns, B.notSynchronized⟩ hP hD.self hE (fun q h => Or.inr h) va_S.rf hl
theorem kX_ret {x : Int32} {u : List va_W} {post : Int32 → List va_W → Prop} {XC : String → State → State → Prop} {mc ms : Nat} (C : kC p c cc s m args meth own g nL (some .int)) (hP : kp g u H) (hD : kd A u) (hS : va_S A s.heap H locs) (hp : post x u) (hc : cells ≤ mc ∧ slots ≤ ms) (d : decode cc pc = .ok (.ireturn, 1)) : W p l e R s m args below meth c H locs cells slots (vx_MQ below (kQi g post A) XC args s mc ms A) (F0 m pc ls [.int x]) :=
  W.widen hc.1 hc.2 (vx_ret (kM_ret C hP hD hS hp d))
theorem kX_zret {x : Int32} {u : List va_W} {ty : FieldType} {post : Int32 → List va_W → Prop} {XC : String → State → State → Prop} {mc ms : Nat} (C : kC p c cc s m args meth own g nL (some ty)) (hn : narrow ty (.int x) = .int x) (hP : kp g u H) (hD : kd A u) (hS : va_S A s.heap H locs) (hp : post x u) (hc : cells ≤ mc ∧ slots ≤ ms) (d : decode cc pc = .ok (.ireturn, 1)) : W p l e R s m args below meth c H locs cells slots (vx_MQ below (kQi g post A) XC args s mc ms A) (F0 m pc ls [.int x]) :=
  W.widen hc.1 hc.2 (vx_ret (kM_zret C hn hP hD hS hp d))
theorem kXV_ret {u : List va_W} {post : List va_W → Prop} {XC : String → State → State → Prop} {mc ms : Nat} (C : kC p c cc s m args meth own g nL none) (hP : kp g u H) (hD : kd A u) (hS : va_S A s.heap H locs) (hp : post u) (hc : cells ≤ mc ∧ slots ≤ ms) (d : decode cc pc = .ok (.return_, 1)) : W p l e R s m args below meth c H locs cells slots (vx_MQ below (kQv g post A) XC args s mc ms A) (F0 m pc ls []) :=
  W.widen hc.1 hc.2 (vx_ret (kV_ret C hP hD hS hp d))
/-- throw new E("text"), and nothing here catches it -/
theorem kX_throw {Qc : Array Value → State → Outcome → State → Prop} {px : String → List va_W → Prop} {u : List va_W} {cls text : String} {names : List String} {ik is ic mc ms sa : Nat} (C : kC p c cc s m args meth own g nL ret) (hfl : l.stackTraces = false) (ht : ∀ x ∈ c.exceptionTable.toList, False) (hcls : Bundle.fit cls = true) (hnames : ∀ n ∈ names, Bundle.fit n = true)
    (hk : Cond.classLink own ik cls ∈ kW) (hini : Cond.initialized cls ∈ kW) (hm : (own, is, text, sa) ∈ k_strs) (hat : ∀ w ∈ vx_atS own ic cls names, w ∈ kW ∨ w ∈ k_nest) (hE : kE g A s s.heap) (hS : va_S A s.heap H locs) (hsz : ls.size = nL) (hP : kp g u H) (hD : kd A u) (hp : px cls u)
    (d0 : decode cc pc = .ok (.new ik, 3)) (d3 : decode cc (pc + 3) = .ok (.dup, 1)) (d4 : decode cc (pc + 4) = .ok (.ldc_w is, 3)) (d7 : decode cc (pc + 7) = .ok (.invokespecial ic, 3)) (d10 : decode cc (pc + 10) = .ok (.athrow, 1))
    (hRf : names.length + 3 < R.frames) (hRl : (rest.map fun v => v.category).sum + (13 * (names.length + 1) + 43) ≤ R.locals) (hR : cells + 1 ≤ R.cells ∧ slots + 6 ≤ R.slots) (hc : cells + 1 ≤ mc ∧ slots + 6 ≤ ms) :
    W p l e R s m args below meth c H locs cells slots (vx_MQ below Qc (kXC g px A) args s mc ms A) (F0 m pc ls rest) := by
  have hts := C.1.2.2.2.2
  have bf : ∀ w, w ∈ kW ∨ w ∈ k_nest → w.before args s = true := fun w h => h.elim (hts w) (fun h => va_Nw.use (k_nest_tab (k_nest_ok w h)) (C.2.1.2 w h))
  have ot : ∀ w, w ∈ kW ∨ w ∈ k_nest → vx_ot w = true := fun w h => h.elim (fun h => by unfold vx_ot; rw [k_w_good h, Bool.or_true]) (fun h => by unfold vx_ot; rw [k_nest_tab (k_nest_ok w h), Bool.true_or])
  refine vx_throwSW C.1.1 C.1.2.1 hfl C.1.2.2.2.1 hcls hnames (hts _ hk) (hts _ hini) (hE.2.2.1 _ hm) (fun w h => bf w (hat w h)) ?_ hE.2.2.2.2.2.2.2.1.1 hE.2.2.2.2.2.2.2.1.2 hS (hsz.trans C.1.2.2.1.symm) d0 d3 d4 d7 d10 (fun x hx => (ht x hx).elim) hRf hRl hR.1 hR.2 C.2.2.2 ?_ hS.2.2 hc.1 hc.2
  · intro w hw
    rcases List.mem_cons.mp hw with rfl | hw
    · exact ot _ (Or.inl hk)
    rcases List.mem_cons.mp hw with rfl | hw
    · exact ot _ (Or.inl hini)
    · exact ot w (hat w hw)
  · intro t ha hz hq
    exact ⟨u, trivial, ⟨hp, hP.keep hq, hD⟩, Nat.le_trans hS.1 hz, fun q h1 h2 => (hq q (Nat.lt_of_lt_of_le h1 hS.1)).trans (hS.2.1 q h1 h2)⟩
/-- .. the same, of a class whose constructor calls its super by the pool index b -/
theorem kX_throwN {Qc : Array Value → State → Outcome → State → Prop} {px : String → List va_W → Prop} {u : List va_W} {cls text Y1 : String} {names : List String} {ik is ic mc ms sa b : Nat} (C : kC p c cc s m args meth own g nL ret) (hfl : l.stackTraces = false) (ht : ∀ x ∈ c.exceptionTable.toList, False) (hcls : Bundle.fit cls = true) (hY1 : Bundle.fit Y1 = true) (hnames : ∀ n ∈ names, Bundle.fit n = true)
    (hb0 : decode (kx_six b) 0 = .ok (.aload_n 0, 1)) (hb1 : decode (kx_six b) 1 = .ok (.aload_n 1, 1)) (hb2 : decode (kx_six b) 2 = .ok (.invokespecial b, 3)) (hb5 : decode (kx_six b) 5 = .ok (.return_, 1))
    (hk : Cond.classLink own ik cls ∈ kW) (hini : Cond.initialized cls ∈ kW) (hm : (own, is, text, sa) ∈ k_strs) (hat : ∀ w ∈ kx_atoms own ic cls Y1 names b, vx_no w = true → w ∈ kW ∨ w ∈ k_nest) (hE : kE g A s s.heap) (hS : va_S A s.heap H locs) (hsz : ls.size = nL) (hP : kp g u H) (hD : kd A u) (hp : px cls u)
    (d0 : decode cc pc = .ok (.new ik, 3)) (d3 : decode cc (pc + 3) = .ok (.dup, 1)) (d4 : decode cc (pc + 4) = .ok (.ldc_w is, 3)) (d7 : decode cc (pc + 7) = .ok (.invokespecial ic, 3)) (d10 : decode cc (pc + 10) = .ok (.athrow, 1))
    (hRf : names.length + 4 < R.frames) (hRl : (rest.map fun v => v.category).sum + (13 * (names.length + 2) + 43) ≤ R.locals) (hR : cells + 1 ≤ R.cells ∧ slots + 6 ≤ R.slots) (hc : cells + 1 ≤ mc ∧ slots + 6 ≤ ms) :
    W p l e R s m args below meth c H locs cells slots (vx_MQ below Qc (kXC g px A) args s mc ms A) (F0 m pc ls rest) := by
  have hts := C.1.2.2.2.2
  have bf : ∀ w, w ∈ kW ∨ w ∈ k_nest → w.before args s = true := fun w h => h.elim (hts w) (fun h => va_Nw.use (k_nest_tab (k_nest_ok w h)) (C.2.1.2 w h))
  have ot : ∀ w, w ∈ kW ∨ w ∈ k_nest → vx_ot w = true := fun w h => h.elim (fun h => by unfold vx_ot; rw [k_w_good h, Bool.or_true]) (fun h => by unfold vx_ot; rw [k_nest_tab (k_nest_ok w h), Bool.true_or])
  refine kx_throwSWN C.1.1 C.1.2.1 hfl C.1.2.2.2.1 hcls hY1 hnames hb0 hb1 hb2 hb5 (hts _ hk) (hts _ hini) (hE.2.2.1 _ hm) (fun w h hn => bf w (hat w h hn)) (ot _ (Or.inl hk)) (ot _ (Or.inl hini)) (fun w h hn => ot w (hat w h hn)) hE.2.2.2.2.2.2.2.1.1 hE.2.2.2.2.2.2.2.1.2 hS (hsz.trans C.1.2.2.1.symm) d0 d3 d4 d7 d10 (fun x hx => (ht x hx).elim) hRf hRl hR.1 hR.2 C.2.2.2 ?_ hS.2.2 hc.1 hc.2
  intro t ha hz hq
  exact ⟨u, trivial, ⟨hp, hP.keep hq, hD⟩, Nat.le_trans hS.1 hz, fun q h1 h2 => (hq q (Nat.lt_of_lt_of_le h1 hS.1)).trans (hS.2.1 q h1 h2)⟩
/-- throw new E("text"), and nothing here catches it -/
theorem kX_throwS {Qc : Array Value → State → Outcome → State → Prop} {px : String → List va_W → Prop} {u : List va_W} {cls text : String} {names : List String} {ik is ic mc ms sa : Nat} (C : kC p c cc s m args meth own g nL ret) (hfl : l.stackTraces = false) (ht : ∀ x ∈ c.exceptionTable.toList, False) (hcls : Bundle.fit cls = true) (hnames : ∀ n ∈ names, Bundle.fit n = true)
    (hk : Cond.classLink own ik cls ∈ kW) (hini : Cond.initialized cls ∈ kW) (hm : (own, is, text, sa) ∈ k_strs) (hat : ∀ w ∈ vx_atS own ic cls names, w ∈ kW ∨ w ∈ k_nest) (hE : kE g A s s.heap) (hS : va_S A s.heap H locs) (hsz : ls.size = nL) (hP : kp g u H) (hD : kd A u) (hp : px cls u)
    (d0 : decode cc pc = .ok (.new ik, 3)) (d3 : decode cc (pc + 3) = .ok (.dup, 1)) (d4 : decode cc (pc + 4) = .ok (.ldc is, 2)) (d7 : decode cc (pc + 6) = .ok (.invokespecial ic, 3)) (d10 : decode cc (pc + 9) = .ok (.athrow, 1))
    (hRf : names.length + 3 < R.frames) (hRl : (rest.map fun v => v.category).sum + (13 * (names.length + 1) + 43) ≤ R.locals) (hR : cells + 1 ≤ R.cells ∧ slots + 6 ≤ R.slots) (hc : cells + 1 ≤ mc ∧ slots + 6 ≤ ms) :
    W p l e R s m args below meth c H locs cells slots (vx_MQ below Qc (kXC g px A) args s mc ms A) (F0 m pc ls rest) := by
  have hts := C.1.2.2.2.2
  have bf : ∀ w, w ∈ kW ∨ w ∈ k_nest → w.before args s = true := fun w h => h.elim (hts w) (fun h => va_Nw.use (k_nest_tab (k_nest_ok w h)) (C.2.1.2 w h))
  have ot : ∀ w, w ∈ kW ∨ w ∈ k_nest → vx_ot w = true := fun w h => h.elim (fun h => by unfold vx_ot; rw [k_w_good h, Bool.or_true]) (fun h => by unfold vx_ot; rw [k_nest_tab (k_nest_ok w h), Bool.true_or])
  refine vx_throwS C.1.1 C.1.2.1 hfl C.1.2.2.2.1 hcls hnames (hts _ hk) (hts _ hini) (hE.2.2.1 _ hm) (fun w h => bf w (hat w h)) ?_ hE.2.2.2.2.2.2.2.1.1 hE.2.2.2.2.2.2.2.1.2 hS (hsz.trans C.1.2.2.1.symm) d0 d3 d4 d7 d10 (fun x hx => (ht x hx).elim) hRf hRl hR.1 hR.2 C.2.2.2 ?_ hS.2.2 hc.1 hc.2
  · intro w hw
    rcases List.mem_cons.mp hw with rfl | hw
    · exact ot _ (Or.inl hk)
    rcases List.mem_cons.mp hw with rfl | hw
    · exact ot _ (Or.inl hini)
    · exact ot w (hat w hw)
  · intro t ha hz hq
    exact ⟨u, trivial, ⟨hp, hP.keep hq, hD⟩, Nat.le_trans hS.1 hz, fun q h1 h2 => (hq q (Nat.lt_of_lt_of_le h1 hS.1)).trans (hS.2.1 q h1 h2)⟩
/-- .. the same, of a class whose constructor calls its super by the pool index b -/
theorem kX_throwSN {Qc : Array Value → State → Outcome → State → Prop} {px : String → List va_W → Prop} {u : List va_W} {cls text Y1 : String} {names : List String} {ik is ic mc ms sa b : Nat} (C : kC p c cc s m args meth own g nL ret) (hfl : l.stackTraces = false) (ht : ∀ x ∈ c.exceptionTable.toList, False) (hcls : Bundle.fit cls = true) (hY1 : Bundle.fit Y1 = true) (hnames : ∀ n ∈ names, Bundle.fit n = true)
    (hb0 : decode (kx_six b) 0 = .ok (.aload_n 0, 1)) (hb1 : decode (kx_six b) 1 = .ok (.aload_n 1, 1)) (hb2 : decode (kx_six b) 2 = .ok (.invokespecial b, 3)) (hb5 : decode (kx_six b) 5 = .ok (.return_, 1))
    (hk : Cond.classLink own ik cls ∈ kW) (hini : Cond.initialized cls ∈ kW) (hm : (own, is, text, sa) ∈ k_strs) (hat : ∀ w ∈ kx_atoms own ic cls Y1 names b, vx_no w = true → w ∈ kW ∨ w ∈ k_nest) (hE : kE g A s s.heap) (hS : va_S A s.heap H locs) (hsz : ls.size = nL) (hP : kp g u H) (hD : kd A u) (hp : px cls u)
    (d0 : decode cc pc = .ok (.new ik, 3)) (d3 : decode cc (pc + 3) = .ok (.dup, 1)) (d4 : decode cc (pc + 4) = .ok (.ldc is, 2)) (d7 : decode cc (pc + 6) = .ok (.invokespecial ic, 3)) (d10 : decode cc (pc + 9) = .ok (.athrow, 1))
    (hRf : names.length + 4 < R.frames) (hRl : (rest.map fun v => v.category).sum + (13 * (names.length + 2) + 43) ≤ R.locals) (hR : cells + 1 ≤ R.cells ∧ slots + 6 ≤ R.slots) (hc : cells + 1 ≤ mc ∧ slots + 6 ≤ ms) :
    W p l e R s m args below meth c H locs cells slots (vx_MQ below Qc (kXC g px A) args s mc ms A) (F0 m pc ls rest) := by
  have hts := C.1.2.2.2.2
  have bf : ∀ w, w ∈ kW ∨ w ∈ k_nest → w.before args s = true := fun w h => h.elim (hts w) (fun h => va_Nw.use (k_nest_tab (k_nest_ok w h)) (C.2.1.2 w h))
  have ot : ∀ w, w ∈ kW ∨ w ∈ k_nest → vx_ot w = true := fun w h => h.elim (fun h => by unfold vx_ot; rw [k_w_good h, Bool.or_true]) (fun h => by unfold vx_ot; rw [k_nest_tab (k_nest_ok w h), Bool.true_or])
  refine kx_throwSN C.1.1 C.1.2.1 hfl C.1.2.2.2.1 hcls hY1 hnames hb0 hb1 hb2 hb5 (hts _ hk) (hts _ hini) (hE.2.2.1 _ hm) (fun w h hn => bf w (hat w h hn)) (ot _ (Or.inl hk)) (ot _ (Or.inl hini)) (fun w h hn => ot w (hat w h hn)) hE.2.2.2.2.2.2.2.1.1 hE.2.2.2.2.2.2.2.1.2 hS (hsz.trans C.1.2.2.1.symm) d0 d3 d4 d7 d10 (fun x hx => (ht x hx).elim) hRf hRl hR.1 hR.2 C.2.2.2 ?_ hS.2.2 hc.1 hc.2
  intro t ha hz hq
  exact ⟨u, trivial, ⟨hp, hP.keep hq, hD⟩, Nat.le_trans hS.1 hz, fun q h1 h2 => (hq q (Nat.lt_of_lt_of_le h1 hS.1)).trans (hS.2.1 q h1 h2)⟩
/-- what a callee threw goes on to the caller -/
theorem kX_out {Qc : Array Value → State → Outcome → State → Prop} {px : String → List va_W → Prop} {u : List va_W} {E : String} {ce : Cell} {q : Addr} {mc ms : Nat} (C : kC p c cc s m args meth own g nL ret) (ht : ∀ x ∈ c.exceptionTable.toList, False) (hcell : H[q]? = some ce) (hv : ce.vm = .none) (hcl : s.vm.findClass E = some ce.cls) (hP : kp g u H) (hD : kd A u) (hS : va_S A s.heap H locs) (hp : px E u) (hc : cells ≤ mc ∧ slots ≤ ms) :
    vx_W p l e R s m args below meth c H locs cells slots (vx_MQ below Qc (kXC g px A) args s mc ms A) (F0 m pc ls rest) q :=
  vx_out (fun x hx => (ht x hx).elim) C.2.2.2 hcell hv hcl (fun t e _ => ⟨u, trivial, ⟨hp, by rw [e]; exact hP, hD⟩, hS.F e⟩) hS.2.2 hc.1 hc.2
theorem kX_backi {wc wr : List va_W} {post : Int32 → List va_W → Prop} {px : String → List va_W → Prop} {av : List Value} {mc ms : Nat} (hr : vx_Run p l e R s m args below meth c H locs cells slots mc ms (F0 m pc ls st) rest (kQi g post (va_A wc.flatten H.size) av.toArray) (kXC g px (va_A wc.flatten H.size)) (va_A wc.flatten H.size))
    (hS : va_S A s.heap H locs) (hA : ∀ q, s.heap.size ≤ q → A q) (hP : kp g cs H) (hD : kd A cs) (iC iR : List Nat) (hC : iC.map (fun i => cs[i]?) = wc.map some) (hR : iR.map (fun i => cs[i]?) = wr.map some) (hn : va_nd iR = true) (hdis : ∀ i ∈ iR, i ∉ iC)
    (kx : ∀ (E : String) (u : List va_W) (H1 : Heap) (locs1 : List Loc) (q9 : Addr) (ce : Cell), px E u → kp g (wr ++ u) H1 → kd A (wr ++ u) → va_S A s.heap H1 locs1 → H1[q9]? = some ce → ce.vm = .none → s.vm.findClass E = some ce.cls → vx_W p l e R s m args below meth c H1 locs1 (cells + mc) (slots + ms) Q (F0 m pc ls rest) q9)
    (kk : ∀ (r : Int32) (u : List va_W) (H1 : Heap) (locs1 : List Loc), post r u → kp g (wr ++ u) H1 → kd A (wr ++ u) → va_S A s.heap H1 locs1 → W p l e R s m args below meth c H1 locs1 (cells + mc) (slots + ms) Q (F0 m (pc + 3) ls (.int r :: rest))) : W p l e R s m args below meth c H locs cells slots Q (F0 m pc ls st) := by
  have hF := k_free hD hS hA iC hC
  refine vx_calli hr hS (fun q _ h => hF q h) hF (fun q _ h => hF q h) (fun E ce q9 u t H1 locs1 ht hvm _ hB hz1 hk1 hS hce hcv hcl => ?_) (fun r u t H1 locs ht hvm hw hB hz1 hk1 hS => ?_)
  · obtain ⟨hw, hP1, hD1⟩ := hB
    rw [ht] at hP1
    obtain ⟨hP2, hD2⟩ := k_join hP hD iC iR hC hR hn hdis hk1 hF hP1 hD1
    exact kx E u H1 locs1 q9 ce hw hP2 hD2 hS hce hcv hcl
  · obtain ⟨hP1, hD1⟩ := hB
    rw [ht] at hP1
    obtain ⟨hP2, hD2⟩ := k_join hP hD iC iR hC hR hn hdis hk1 hF hP1 hD1
    exact kk r u H1 locs hw hP2 hD2 hS
theorem kX_backv {wc wr : List va_W} {post : List va_W → Prop} {px : String → List va_W → Prop} {av : List Value} {mc ms : Nat} (hr : vx_Run p l e R s m args below meth c H locs cells slots mc ms (F0 m pc ls st) rest (kQv g post (va_A wc.flatten H.size) av.toArray) (kXC g px (va_A wc.flatten H.size)) (va_A wc.flatten H.size))
    (hS : va_S A s.heap H locs) (hA : ∀ q, s.heap.size ≤ q → A q) (hP : kp g cs H) (hD : kd A cs) (iC iR : List Nat) (hC : iC.map (fun i => cs[i]?) = wc.map some) (hR : iR.map (fun i => cs[i]?) = wr.map some) (hn : va_nd iR = true) (hdis : ∀ i ∈ iR, i ∉ iC)
    (kx : ∀ (E : String) (u : List va_W) (H1 : Heap) (locs1 : List Loc) (q9 : Addr) (ce : Cell), px E u → kp g (wr ++ u) H1 → kd A (wr ++ u) → va_S A s.heap H1 locs1 → H1[q9]? = some ce → ce.vm = .none → s.vm.findClass E = some ce.cls → vx_W p l e R s m args below meth c H1 locs1 (cells + mc) (slots + ms) Q (F0 m pc ls rest) q9)
    (kk : ∀ (u : List va_W) (H1 : Heap) (locs1 : List Loc), post u → kp g (wr ++ u) H1 → kd A (wr ++ u) → va_S A s.heap H1 locs1 → W p l e R s m args below meth c H1 locs1 (cells + mc) (slots + ms) Q (F0 m (pc + 3) ls rest)) : W p l e R s m args below meth c H locs cells slots Q (F0 m pc ls st) := by
  have hF := k_free hD hS hA iC hC
  refine vx_callv hr hS (fun q _ h => hF q h) hF (fun q _ h => hF q h) (fun E ce q9 u t H1 locs1 ht hvm _ hB hz1 hk1 hS hce hcv hcl => ?_) (fun u t H1 locs ht hvm hw hB hz1 hk1 hS => ?_)
  · obtain ⟨hw, hP1, hD1⟩ := hB
    rw [ht] at hP1
    obtain ⟨hP2, hD2⟩ := k_join hP hD iC iR hC hR hn hdis hk1 hF hP1 hD1
    exact kx E u H1 locs1 q9 ce hw hP2 hD2 hS hce hcv hcl
  · obtain ⟨hP1, hD1⟩ := hB
    rw [ht] at hP1
    obtain ⟨hP2, hD2⟩ := k_join hP hD iC iR hC hR hn hdis hk1 hF hP1 hD1
    exact kk u H1 locs hw hP2 hD2 hS
theorem kX_V (C : kC p c cc s m args meth own g nL ret) {y : MethodName} {ws : List Cond} {Cn : String} {index b f lo mc ms maxL n : Nat} {bytes : ByteArray} {r2 : Option FieldType} {As : List Value} {wc wr : List va_W} {post : Int32 → List va_W → Prop} {px : String → List va_W → Prop} (hM : kX l y ws f lo mc ms g (.ref b :: As) wc post px)
    (cw : CallW R s args own Cn index y bytes maxL r2 ws (kRm f mc ms lo) mc ms n) (hE : kE g A s s.heap) (hS : va_S A s.heap H locs) (hA : ∀ q, s.heap.size ≤ q → A q) (hP : kp g cs H) (hD : kd A cs) (iC iR : List Nat) (hC : iC.map (fun i => cs[i]?) = wc.map some) (hR : iR.map (fun i => cs[i]?) = wr.map some) (hnd : va_nd iC = true ∧ va_nd iR = true ∧ ∀ i ∈ iR, i ∉ iC) (hrc : ∃ cell : Cell, H[b]? = some cell ∧ cell.vm.isStatics = false ∧ s.vm.findClass Cn = some cell.cls) 
    (hn : As.length = n) (hsz : ls.size = nL) (hst : st = As.reverse ++ .ref b :: rest) (hW : kSt rest) (d : decode cc pc = .ok (.invokevirtual index, 3)) (hf : cells + mc ≤ R.cells ∧ slots + ms ≤ R.slots)
    (kx : ∀ (E : String) (u : List va_W) (H1 : Heap) (locs1 : List Loc) (q9 : Addr) (ce : Cell), px E u → kp g (wr ++ u) H1 → kd A (wr ++ u) → va_S A s.heap H1 locs1 → H1[q9]? = some ce → ce.vm = .none → s.vm.findClass E = some ce.cls → vx_W p l e R s m args below meth c H1 locs1 (cells + mc) (slots + ms) Q (F0 m pc ls rest) q9)
    (kk : ∀ (r : Int32) (u : List va_W) (H1 : Heap) (locs1 : List Loc), post r u → kp g (wr ++ u) H1 → kd A (wr ++ u) → va_S A s.heap H1 locs1 → W p l e R s m args below meth c H1 locs1 (cells + mc) (slots + ms) Q (F0 m (pc + 3) ls (.int r :: rest))) : W p l e R s m args below meth c H locs cells slots Q (F0 m pc ls st) :=
  kX_backi (av := .ref b :: As) (vx_runV (As := As) (rest := rest) C.1 (hM H.size) cw ⟨kPre_blind, hrc, kM_pre hE hS hA hP hD iC hC hnd.1⟩ rfl hn hsz hst (lv_room (Nat.le_of_ble_eq_true hW)) d hf) hS hA hP hD iC iR hC hR hnd.2.1 hnd.2.2 kx kk
theorem kX_S (C : kC p c cc s m args meth own g nL ret) {y : MethodName} {ws : List Cond} {index f lo mc ms maxL n : Nat} {bytes : ByteArray} {r2 : Option FieldType} {As : List Value} {wc wr : List va_W} {post : Int32 → List va_W → Prop} {px : String → List va_W → Prop} (hM : kX l y ws f lo mc ms g (As) wc post px)
    (cw : CallB R s args own index y bytes maxL r2 ws (kRm f mc ms lo) mc ms n ∧ (Cond.static y).before args s = true) (hE : kE g A s s.heap) (hS : va_S A s.heap H locs) (hA : ∀ q, s.heap.size ≤ q → A q) (hP : kp g cs H) (hD : kd A cs) (iC iR : List Nat) (hC : iC.map (fun i => cs[i]?) = wc.map some) (hR : iR.map (fun i => cs[i]?) = wr.map some) (hnd : va_nd iC = true ∧ va_nd iR = true ∧ ∀ i ∈ iR, i ∉ iC) 
    (hn : As.length = n) (hsz : ls.size = nL) (hst : st = As.reverse ++ rest) (hW : kSt rest) (d : decode cc pc = .ok (.invokestatic index, 3)) (hf : cells + mc ≤ R.cells ∧ slots + ms ≤ R.slots)
    (kx : ∀ (E : String) (u : List va_W) (H1 : Heap) (locs1 : List Loc) (q9 : Addr) (ce : Cell), px E u → kp g (wr ++ u) H1 → kd A (wr ++ u) → va_S A s.heap H1 locs1 → H1[q9]? = some ce → ce.vm = .none → s.vm.findClass E = some ce.cls → vx_W p l e R s m args below meth c H1 locs1 (cells + mc) (slots + ms) Q (F0 m pc ls rest) q9)
    (kk : ∀ (r : Int32) (u : List va_W) (H1 : Heap) (locs1 : List Loc), post r u → kp g (wr ++ u) H1 → kd A (wr ++ u) → va_S A s.heap H1 locs1 → W p l e R s m args below meth c H1 locs1 (cells + mc) (slots + ms) Q (F0 m (pc + 3) ls (.int r :: rest))) : W p l e R s m args below meth c H locs cells slots Q (F0 m pc ls st) :=
  kX_backi (av := As) (vx_runS (As := As) (rest := rest) C.1 (hM H.size) cw ⟨kPre_blind, kM_pre hE hS hA hP hD iC hC hnd.1⟩ rfl hn hsz hst (lv_room (Nat.le_of_ble_eq_true hW)) d hf) hS hA hP hD iC iR hC hR hnd.2.1 hnd.2.2 kx kk
theorem kXV_V (C : kC p c cc s m args meth own g nL ret) {y : MethodName} {ws : List Cond} {Cn : String} {index b f lo mc ms maxL n : Nat} {bytes : ByteArray} {r2 : Option FieldType} {As : List Value} {wc wr : List va_W} {post : List va_W → Prop} {px : String → List va_W → Prop} (hM : kXV l y ws f lo mc ms g (.ref b :: As) wc post px)
    (cw : CallW R s args own Cn index y bytes maxL r2 ws (kRm f mc ms lo) mc ms n) (hE : kE g A s s.heap) (hS : va_S A s.heap H locs) (hA : ∀ q, s.heap.size ≤ q → A q) (hP : kp g cs H) (hD : kd A cs) (iC iR : List Nat) (hC : iC.map (fun i => cs[i]?) = wc.map some) (hR : iR.map (fun i => cs[i]?) = wr.map some) (hnd : va_nd iC = true ∧ va_nd iR = true ∧ ∀ i ∈ iR, i ∉ iC) (hrc : ∃ cell : Cell, H[b]? = some cell ∧ cell.vm.isStatics = false ∧ s.vm.findClass Cn = some cell.cls) 
    (hn : As.length = n) (hsz : ls.size = nL) (hst : st = As.reverse ++ .ref b :: rest) (hW : kSt rest) (d : decode cc pc = .ok (.invokevirtual index, 3)) (hf : cells + mc ≤ R.cells ∧ slots + ms ≤ R.slots)
    (kx : ∀ (E : String) (u : List va_W) (H1 : Heap) (locs1 : List Loc) (q9 : Addr) (ce : Cell), px E u → kp g (wr ++ u) H1 → kd A (wr ++ u) → va_S A s.heap H1 locs1 → H1[q9]? = some ce → ce.vm = .none → s.vm.findClass E = some ce.cls → vx_W p l e R s m args below meth c H1 locs1 (cells + mc) (slots + ms) Q (F0 m pc ls rest) q9)
    (kk : ∀ (u : List va_W) (H1 : Heap) (locs1 : List Loc), post u → kp g (wr ++ u) H1 → kd A (wr ++ u) → va_S A s.heap H1 locs1 → W p l e R s m args below meth c H1 locs1 (cells + mc) (slots + ms) Q (F0 m (pc + 3) ls rest)) : W p l e R s m args below meth c H locs cells slots Q (F0 m pc ls st) :=
  kX_backv (av := .ref b :: As) (vx_runV (As := As) (rest := rest) C.1 (hM H.size) cw ⟨kPre_blind, hrc, kM_pre hE hS hA hP hD iC hC hnd.1⟩ rfl hn hsz hst (lv_room (Nat.le_of_ble_eq_true hW)) d hf) hS hA hP hD iC iR hC hR hnd.2.1 hnd.2.2 kx kk
theorem kXV_S (C : kC p c cc s m args meth own g nL ret) {y : MethodName} {ws : List Cond} {index f lo mc ms maxL n : Nat} {bytes : ByteArray} {r2 : Option FieldType} {As : List Value} {wc wr : List va_W} {post : List va_W → Prop} {px : String → List va_W → Prop} (hM : kXV l y ws f lo mc ms g (As) wc post px)
    (cw : CallB R s args own index y bytes maxL r2 ws (kRm f mc ms lo) mc ms n ∧ (Cond.static y).before args s = true) (hE : kE g A s s.heap) (hS : va_S A s.heap H locs) (hA : ∀ q, s.heap.size ≤ q → A q) (hP : kp g cs H) (hD : kd A cs) (iC iR : List Nat) (hC : iC.map (fun i => cs[i]?) = wc.map some) (hR : iR.map (fun i => cs[i]?) = wr.map some) (hnd : va_nd iC = true ∧ va_nd iR = true ∧ ∀ i ∈ iR, i ∉ iC) 
    (hn : As.length = n) (hsz : ls.size = nL) (hst : st = As.reverse ++ rest) (hW : kSt rest) (d : decode cc pc = .ok (.invokestatic index, 3)) (hf : cells + mc ≤ R.cells ∧ slots + ms ≤ R.slots)
    (kx : ∀ (E : String) (u : List va_W) (H1 : Heap) (locs1 : List Loc) (q9 : Addr) (ce : Cell), px E u → kp g (wr ++ u) H1 → kd A (wr ++ u) → va_S A s.heap H1 locs1 → H1[q9]? = some ce → ce.vm = .none → s.vm.findClass E = some ce.cls → vx_W p l e R s m args below meth c H1 locs1 (cells + mc) (slots + ms) Q (F0 m pc ls rest) q9)
    (kk : ∀ (u : List va_W) (H1 : Heap) (locs1 : List Loc), post u → kp g (wr ++ u) H1 → kd A (wr ++ u) → va_S A s.heap H1 locs1 → W p l e R s m args below meth c H1 locs1 (cells + mc) (slots + ms) Q (F0 m (pc + 3) ls rest)) : W p l e R s m args below meth c H locs cells slots Q (F0 m pc ls st) :=
  kX_backv (av := As) (vx_runS (As := As) (rest := rest) C.1 (hM H.size) cw ⟨kPre_blind, kM_pre hE hS hA hP hD iC hC hnd.1⟩ rfl hn hsz hst (lv_room (Nat.le_of_ble_eq_true hW)) d hf) hS hA hP hD iC iR hC hR hnd.2.1 hnd.2.2 kx kk
end KXROWS
theorem kx_thr : ∀ w ∈ Bundle.throwableAtoms, vx_no w = true → w ∈ kW ∨ w ∈ k_nest := by
  intro w hw hn
  unfold Bundle.throwableAtoms at hw
  rcases List.mem_cons.mp hw with rfl | hw
  · exact Or.inl (k_w 2 10 rfl rfl)
  rcases List.mem_cons.mp hw with rfl | hw
  · exact Or.inl (k_w 3 183 rfl rfl)
  rcases List.mem_cons.mp hw with rfl | hw
  · exact Or.inl (k_w 3 192 rfl rfl)
  rcases List.mem_cons.mp hw with rfl | hw
  · exact Or.inl (k_w 3 201 rfl rfl)
  rcases List.mem_cons.mp hw with rfl | hw
  · exact Or.inl (k_w 3 204 rfl rfl)
  rcases List.mem_cons.mp hw with rfl | hw
  · exact Or.inl (k_w 3 206 rfl rfl)
  rcases List.mem_cons.mp hw with rfl | hw
  · exact Or.inl (k_w 3 184 rfl rfl)
  rcases List.mem_cons.mp hw with rfl | hw
  · exact Or.inl (k_w 3 185 rfl rfl)
  rcases List.mem_cons.mp hw with rfl | hw
  · exact Or.inl (k_w 2 37 rfl rfl)
  rcases List.mem_cons.mp hw with rfl | hw
  · exact Or.inl (k_w 2 38 rfl rfl)
  rcases List.mem_cons.mp hw with rfl | hw
  · exact Or.inl (k_w 3 186 rfl rfl)
  rcases List.mem_cons.mp hw with rfl | hw
  · exact Or.inl (k_w 3 191 rfl rfl)
  rcases List.mem_cons.mp hw with rfl | hw
  · exact Or.inl (k_w 3 202 rfl rfl)
  rcases List.mem_cons.mp hw with rfl | hw
  · exact Or.inl (k_w 3 222 rfl rfl)
  rcases List.mem_cons.mp hw with rfl | hw
  · exact Or.inl (k_w 3 173 rfl rfl)
  rcases List.mem_cons.mp hw with rfl | hw
  · exact Or.inl (k_w 3 223 rfl rfl)
  rcases List.mem_cons.mp hw with rfl | hw
  · exact Or.inl (k_w 3 175 rfl rfl)
  rcases List.mem_cons.mp hw with rfl | hw
  · exact Or.inl (k_w 3 224 rfl rfl)
  rcases List.mem_cons.mp hw with rfl | hw
  · exact Or.inl (k_w 3 177 rfl rfl)
  rcases List.mem_cons.mp hw with rfl | hw
  · exact Or.inl (k_w 3 187 rfl rfl)
  rcases List.mem_cons.mp hw with rfl | hw
  · exact absurd hn (by decide)
  rcases List.mem_cons.mp hw with rfl | hw
  · exact Or.inl (k_w 3 189 rfl rfl)
  rcases List.mem_cons.mp hw with rfl | hw
  · exact absurd hn (by decide)
  rcases List.mem_cons.mp hw with rfl | hw
  · exact Or.inl (k_w 3 179 rfl rfl)
  exact absurd hw List.not_mem_nil

theorem kx_ths : ∀ w ∈ Bundle.throwableSAtoms, vx_no w = true → w ∈ kW ∨ w ∈ k_nest := by
  intro w hw hn
  unfold Bundle.throwableSAtoms at hw
  rcases List.mem_cons.mp hw with rfl | hw
  · exact Or.inl (k_w 3 218 rfl rfl)
  rcases List.mem_cons.mp hw with rfl | hw
  · exact Or.inl (k_w 3 219 rfl rfl)
  rcases List.mem_cons.mp hw with rfl | hw
  · exact Or.inl (k_w 3 221 rfl rfl)
  rcases List.mem_cons.mp hw with rfl | hw
  · exact Or.inl (k_w 3 179 rfl rfl)
  exact absurd hw List.not_mem_nil

theorem kx_p_IllegalArgumentException_RuntimeException : ∀ w ∈ Bundle.passSAtoms "java/lang/IllegalArgumentException" "java/lang/RuntimeException" 7 Bundle.six, vx_no w = true → w ∈ kW ∨ w ∈ k_nest := by
  intro w hw hn
  unfold Bundle.passSAtoms at hw
  rcases List.mem_cons.mp hw with rfl | hw
  · exact Or.inl (k_w 4 219 rfl rfl)
  rcases List.mem_cons.mp hw with rfl | hw
  · exact Or.inl (k_w 4 220 rfl rfl)
  rcases List.mem_cons.mp hw with rfl | hw
  · exact Or.inl (k_w 4 221 rfl rfl)
  rcases List.mem_cons.mp hw with rfl | hw
  · exact Or.inl (k_w 3 212 rfl rfl)
  rcases List.mem_cons.mp hw with rfl | hw
  · exact Or.inr (List.mem_of_getElem? (i := 90) rfl)
  exact absurd hw List.not_mem_nil

theorem kx_p_RuntimeException_Exception : ∀ w ∈ Bundle.passSAtoms "java/lang/RuntimeException" "java/lang/Exception" 7 Bundle.six, vx_no w = true → w ∈ kW ∨ w ∈ k_nest := by
  intro w hw hn
  unfold Bundle.passSAtoms at hw
  rcases List.mem_cons.mp hw with rfl | hw
  · exact Or.inl (k_w 3 212 rfl rfl)
  rcases List.mem_cons.mp hw with rfl | hw
  · exact Or.inl (k_w 3 213 rfl rfl)
  rcases List.mem_cons.mp hw with rfl | hw
  · exact Or.inl (k_w 3 214 rfl rfl)
  rcases List.mem_cons.mp hw with rfl | hw
  · exact Or.inl (k_w 3 215 rfl rfl)
  rcases List.mem_cons.mp hw with rfl | hw
  · exact Or.inr (List.mem_of_getElem? (i := 91) rfl)
  exact absurd hw List.not_mem_nil

theorem kx_p_Exception_Throwable : ∀ w ∈ Bundle.passSAtoms "java/lang/Exception" "java/lang/Throwable" 7 Bundle.six, vx_no w = true → w ∈ kW ∨ w ∈ k_nest := by
  intro w hw hn
  unfold Bundle.passSAtoms at hw
  rcases List.mem_cons.mp hw with rfl | hw
  · exact Or.inl (k_w 3 215 rfl rfl)
  rcases List.mem_cons.mp hw with rfl | hw
  · exact Or.inl (k_w 3 216 rfl rfl)
  rcases List.mem_cons.mp hw with rfl | hw
  · exact Or.inl (k_w 3 217 rfl rfl)
  rcases List.mem_cons.mp hw with rfl | hw
  · exact Or.inl (k_w 3 218 rfl rfl)
  rcases List.mem_cons.mp hw with rfl | hw
  · exact Or.inr (List.mem_of_getElem? (i := 92) rfl)
  exact absurd hw List.not_mem_nil

theorem kx_o_IllegalArgumentException : ∀ w ∈ [.methodLink RX4 104 (Bundle.initS "java/lang/IllegalArgumentException"), .instantiable "java/lang/IllegalArgumentException" 6, .castable "java/lang/IllegalArgumentException" "java/lang/IllegalArgumentException", .selects "java/lang/IllegalArgumentException" Bundle.tFill0 Bundle.tFill0, .selects "java/lang/IllegalArgumentException" Bundle.tFill Bundle.tFill, .lays "java/lang/IllegalArgumentException" Bundle.tN "cause" "Ljava/lang/Throwable;", .lays "java/lang/IllegalArgumentException" Bundle.tN "stackTrace" Bundle.steD, .lays "java/lang/IllegalArgumentException" Bundle.tN "suppressedExceptions" Bundle.listD, .lays "java/lang/IllegalArgumentException" Bundle.tN "detailMessage" "Ljava/lang/String;", .isRef (.static Bundle.tN "UNASSIGNED_STACK" Bundle.steD), .isRef (.static Bundle.tN "SUPPRESSED_SENTINEL" Bundle.listD), .fieldLink Bundle.tN 198 Bundle.tN "backtrace" "Ljava/lang/Object;", .lays Bundle.tN Bundle.tN "backtrace" "Ljava/lang/Object;", .lays "java/lang/IllegalArgumentException" Bundle.tN "backtrace" "Ljava/lang/Object;"], vx_no w = true → w ∈ kW ∨ w ∈ k_nest := by
  intro w hw hn
  rcases List.mem_cons.mp hw with rfl | hw
  · exact Or.inl (k_w 4 218 rfl rfl)
  rcases List.mem_cons.mp hw with rfl | hw
  · exact Or.inl (k_w 4 209 rfl rfl)
  rcases List.mem_cons.mp hw with rfl | hw
  · exact Or.inr (List.mem_of_getElem? (i := 86) rfl)
  rcases List.mem_cons.mp hw with rfl | hw
  · exact Or.inl (k_w 4 211 rfl rfl)
  rcases List.mem_cons.mp hw with rfl | hw
  · exact Or.inl (k_w 3 196 rfl rfl)
  rcases List.mem_cons.mp hw with rfl | hw
  · exact Or.inl (k_w 4 212 rfl rfl)
  rcases List.mem_cons.mp hw with rfl | hw
  · exact Or.inl (k_w 4 213 rfl rfl)
  rcases List.mem_cons.mp hw with rfl | hw
  · exact Or.inl (k_w 4 214 rfl rfl)
  rcases List.mem_cons.mp hw with rfl | hw
  · exact Or.inl (k_w 4 215 rfl rfl)
  rcases List.mem_cons.mp hw with rfl | hw
  · exact absurd hn (by decide)
  rcases List.mem_cons.mp hw with rfl | hw
  · exact absurd hn (by decide)
  rcases List.mem_cons.mp hw with rfl | hw
  · exact Or.inl (k_w 3 182 rfl rfl)
  rcases List.mem_cons.mp hw with rfl | hw
  · exact Or.inl (k_w 3 181 rfl rfl)
  rcases List.mem_cons.mp hw with rfl | hw
  · exact Or.inl (k_w 4 216 rfl rfl)
  exact absurd hw List.not_mem_nil

theorem kx_at_IllegalArgumentException : ∀ w ∈ vx_atS RX4 104 "java/lang/IllegalArgumentException" ["java/lang/RuntimeException", "java/lang/Exception"], w ∈ kW ∨ w ∈ k_nest := by
  intro w hw
  obtain ⟨hw, hn⟩ := List.mem_filter.mp hw
  unfold Bundle.ownAtoms at hw
  rcases List.mem_append.mp hw with hw | hw
  · rcases List.mem_append.mp hw with hw | hw
    · rcases List.mem_append.mp hw with hw | hw
      · exact kx_thr w hw hn
      · exact kx_ths w hw hn
    · rcases List.mem_append.mp (show w ∈ Bundle.passSAtoms "java/lang/IllegalArgumentException" "java/lang/RuntimeException" 7 Bundle.six ++ (Bundle.passSAtoms "java/lang/RuntimeException" "java/lang/Exception" 7 Bundle.six ++ Bundle.passSAtoms "java/lang/Exception" Bundle.tN 7 Bundle.six) from hw) with hw | hw
      · exact kx_p_IllegalArgumentException_RuntimeException w hw hn
      · rcases List.mem_append.mp hw with hw | hw
        · exact kx_p_RuntimeException_Exception w hw hn
        · exact kx_p_Exception_Throwable w hw hn
  · exact kx_o_IllegalArgumentException w hw hn

theorem kx_p_NoSuch : ∀ w ∈ Bundle.passSAtoms "java/util/NoSuchElementException" "java/lang/RuntimeException" 13 (kx_six 13), vx_no w = true → w ∈ kW ∨ w ∈ k_nest := by
  intro w hw hn
  unfold Bundle.passSAtoms at hw
  rcases List.mem_cons.mp hw with rfl | hw
  · exact Or.inl (k_w 5 229 rfl rfl)
  rcases List.mem_cons.mp hw with rfl | hw
  · exact Or.inl (k_w 5 230 rfl rfl)
  rcases List.mem_cons.mp hw with rfl | hw
  · exact Or.inl (k_w 5 231 rfl rfl)
  rcases List.mem_cons.mp hw with rfl | hw
  · exact Or.inl (k_w 3 212 rfl rfl)
  rcases List.mem_cons.mp hw with rfl | hw
  · exact Or.inr (List.mem_of_getElem? (i := 90) rfl)
  exact absurd hw List.not_mem_nil

theorem kx_o_NoSuch : ∀ w ∈ kx_tail RX4 168 "java/util/NoSuchElementException", vx_no w = true → w ∈ kW ∨ w ∈ k_nest := by
  intro w hw hn
  unfold kx_tail at hw
  rcases List.mem_cons.mp hw with rfl | hw
  · exact Or.inl (k_w 5 228 rfl rfl)
  rcases List.mem_cons.mp hw with rfl | hw
  · exact Or.inl (k_w 5 219 rfl rfl)
  rcases List.mem_cons.mp hw with rfl | hw
  · exact Or.inr (List.mem_of_getElem? (i := 87) rfl)
  rcases List.mem_cons.mp hw with rfl | hw
  · exact Or.inl (k_w 5 221 rfl rfl)
  rcases List.mem_cons.mp hw with rfl | hw
  · exact Or.inl (k_w 3 200 rfl rfl)
  rcases List.mem_cons.mp hw with rfl | hw
  · exact Or.inl (k_w 5 222 rfl rfl)
  rcases List.mem_cons.mp hw with rfl | hw
  · exact Or.inl (k_w 5 223 rfl rfl)
  rcases List.mem_cons.mp hw with rfl | hw
  · exact Or.inl (k_w 5 224 rfl rfl)
  rcases List.mem_cons.mp hw with rfl | hw
  · exact Or.inl (k_w 5 225 rfl rfl)
  rcases List.mem_cons.mp hw with rfl | hw
  · exact absurd hn (by decide)
  rcases List.mem_cons.mp hw with rfl | hw
  · exact absurd hn (by decide)
  rcases List.mem_cons.mp hw with rfl | hw
  · exact Or.inl (k_w 3 182 rfl rfl)
  rcases List.mem_cons.mp hw with rfl | hw
  · exact Or.inl (k_w 3 181 rfl rfl)
  rcases List.mem_cons.mp hw with rfl | hw
  · exact Or.inl (k_w 5 226 rfl rfl)
  exact absurd hw List.not_mem_nil

theorem kx_at_NoSuchElementException : ∀ w ∈ kx_atoms RX4 168 "java/util/NoSuchElementException" "java/lang/RuntimeException" ["java/lang/Exception"] 13, vx_no w = true → w ∈ kW ∨ w ∈ k_nest := by
  intro w hw hn
  unfold kx_atoms at hw
  rcases List.mem_append.mp hw with hw | hw
  · rcases List.mem_append.mp hw with hw | hw
    · rcases List.mem_append.mp hw with hw | hw
      · exact kx_thr w hw hn
      · exact kx_ths w hw hn
    · rcases List.mem_append.mp hw with hw | hw
      · exact kx_p_NoSuch w hw hn
      · rcases List.mem_append.mp (show w ∈ Bundle.passSAtoms "java/lang/RuntimeException" "java/lang/Exception" 7 Bundle.six ++ Bundle.passSAtoms "java/lang/Exception" Bundle.tN 7 Bundle.six from hw) with hw | hw
        · exact kx_p_RuntimeException_Exception w hw hn
        · exact kx_p_Exception_Throwable w hw hn
  · exact kx_o_NoSuch w hw hn

theorem kx_p_IllegalStateException_RuntimeException : ∀ w ∈ Bundle.passSAtoms "java/lang/IllegalStateException" "java/lang/RuntimeException" 7 Bundle.six, vx_no w = true → w ∈ kW ∨ w ∈ k_nest := by
  intro w hw hn
  unfold Bundle.passSAtoms at hw
  rcases List.mem_cons.mp hw with rfl | hw
  · exact Or.inl (k_w 5 72 rfl rfl)
  rcases List.mem_cons.mp hw with rfl | hw
  · exact Or.inl (k_w 5 73 rfl rfl)
  rcases List.mem_cons.mp hw with rfl | hw
  · exact Or.inl (k_w 5 74 rfl rfl)
  rcases List.mem_cons.mp hw with rfl | hw
  · exact Or.inl (k_w 3 212 rfl rfl)
  rcases List.mem_cons.mp hw with rfl | hw
  · exact Or.inr (List.mem_of_getElem? (i := 90) rfl)
  exact absurd hw List.not_mem_nil

theorem kx_o_IllegalStateException : ∀ w ∈ [.methodLink RX4 190 (Bundle.initS "java/lang/IllegalStateException"), .instantiable "java/lang/IllegalStateException" 6, .castable "java/lang/IllegalStateException" "java/lang/IllegalStateException", .selects "java/lang/IllegalStateException" Bundle.tFill0 Bundle.tFill0, .selects "java/lang/IllegalStateException" Bundle.tFill Bundle.tFill, .lays "java/lang/IllegalStateException" Bundle.tN "cause" "Ljava/lang/Throwable;", .lays "java/lang/IllegalStateException" Bundle.tN "stackTrace" Bundle.steD, .lays "java/lang/IllegalStateException" Bundle.tN "suppressedExceptions" Bundle.listD, .lays "java/lang/IllegalStateException" Bundle.tN "detailMessage" "Ljava/lang/String;", .isRef (.static Bundle.tN "UNASSIGNED_STACK" Bundle.steD), .isRef (.static Bundle.tN "SUPPRESSED_SENTINEL" Bundle.listD), .fieldLink Bundle.tN 198 Bundle.tN "backtrace" "Ljava/lang/Object;", .lays Bundle.tN Bundle.tN "backtrace" "Ljava/lang/Object;", .lays "java/lang/IllegalStateException" Bundle.tN "backtrace" "Ljava/lang/Object;"], vx_no w = true → w ∈ kW ∨ w ∈ k_nest := by
  intro w hw hn
  rcases List.mem_cons.mp hw with rfl | hw
  · exact Or.inl (k_w 5 71 rfl rfl)
  rcases List.mem_cons.mp hw with rfl | hw
  · exact Or.inl (k_w 5 62 rfl rfl)
  rcases List.mem_cons.mp hw with rfl | hw
  · exact Or.inr (List.mem_of_getElem? (i := 88) rfl)
  rcases List.mem_cons.mp hw with rfl | hw
  · exact Or.inl (k_w 5 64 rfl rfl)
  rcases List.mem_cons.mp hw with rfl | hw
  · exact Or.inl (k_w 3 197 rfl rfl)
  rcases List.mem_cons.mp hw with rfl | hw
  · exact Or.inl (k_w 5 65 rfl rfl)
  rcases List.mem_cons.mp hw with rfl | hw
  · exact Or.inl (k_w 5 66 rfl rfl)
  rcases List.mem_cons.mp hw with rfl | hw
  · exact Or.inl (k_w 5 67 rfl rfl)
  rcases List.mem_cons.mp hw with rfl | hw
  · exact Or.inl (k_w 5 68 rfl rfl)
  rcases List.mem_cons.mp hw with rfl | hw
  · exact absurd hn (by decide)
  rcases List.mem_cons.mp hw with rfl | hw
  · exact absurd hn (by decide)
  rcases List.mem_cons.mp hw with rfl | hw
  · exact Or.inl (k_w 3 182 rfl rfl)
  rcases List.mem_cons.mp hw with rfl | hw
  · exact Or.inl (k_w 3 181 rfl rfl)
  rcases List.mem_cons.mp hw with rfl | hw
  · exact Or.inl (k_w 5 69 rfl rfl)
  exact absurd hw List.not_mem_nil

theorem kx_at_IllegalStateException : ∀ w ∈ vx_atS RX4 190 "java/lang/IllegalStateException" ["java/lang/RuntimeException", "java/lang/Exception"], w ∈ kW ∨ w ∈ k_nest := by
  intro w hw
  obtain ⟨hw, hn⟩ := List.mem_filter.mp hw
  unfold Bundle.ownAtoms at hw
  rcases List.mem_append.mp hw with hw | hw
  · rcases List.mem_append.mp hw with hw | hw
    · rcases List.mem_append.mp hw with hw | hw
      · exact kx_thr w hw hn
      · exact kx_ths w hw hn
    · rcases List.mem_append.mp (show w ∈ Bundle.passSAtoms "java/lang/IllegalStateException" "java/lang/RuntimeException" 7 Bundle.six ++ (Bundle.passSAtoms "java/lang/RuntimeException" "java/lang/Exception" 7 Bundle.six ++ Bundle.passSAtoms "java/lang/Exception" Bundle.tN 7 Bundle.six) from hw) with hw | hw
      · exact kx_p_IllegalStateException_RuntimeException w hw hn
      · rcases List.mem_append.mp hw with hw | hw
        · exact kx_p_RuntimeException_Exception w hw hn
        · exact kx_p_Exception_Throwable w hw hn
  · exact kx_o_IllegalStateException w hw hn

theorem kx_p_UnsupportedOperationException_RuntimeException : ∀ w ∈ Bundle.passSAtoms "java/lang/UnsupportedOperationException" "java/lang/RuntimeException" 7 Bundle.six, vx_no w = true → w ∈ kW ∨ w ∈ k_nest := by
  intro w hw hn
  unfold Bundle.passSAtoms at hw
  rcases List.mem_cons.mp hw with rfl | hw
  · exact Or.inl (k_w 3 209 rfl rfl)
  rcases List.mem_cons.mp hw with rfl | hw
  · exact Or.inl (k_w 3 210 rfl rfl)
  rcases List.mem_cons.mp hw with rfl | hw
  · exact Or.inl (k_w 3 211 rfl rfl)
  rcases List.mem_cons.mp hw with rfl | hw
  · exact Or.inl (k_w 3 212 rfl rfl)
  rcases List.mem_cons.mp hw with rfl | hw
  · exact Or.inr (List.mem_of_getElem? (i := 90) rfl)
  exact absurd hw List.not_mem_nil

theorem kx_o_UnsupportedOperationException : ∀ w ∈ [.methodLink RX4 211 (Bundle.initS "java/lang/UnsupportedOperationException"), .instantiable "java/lang/UnsupportedOperationException" 6, .castable "java/lang/UnsupportedOperationException" "java/lang/UnsupportedOperationException", .selects "java/lang/UnsupportedOperationException" Bundle.tFill0 Bundle.tFill0, .selects "java/lang/UnsupportedOperationException" Bundle.tFill Bundle.tFill, .lays "java/lang/UnsupportedOperationException" Bundle.tN "cause" "Ljava/lang/Throwable;", .lays "java/lang/UnsupportedOperationException" Bundle.tN "stackTrace" Bundle.steD, .lays "java/lang/UnsupportedOperationException" Bundle.tN "suppressedExceptions" Bundle.listD, .lays "java/lang/UnsupportedOperationException" Bundle.tN "detailMessage" "Ljava/lang/String;", .isRef (.static Bundle.tN "UNASSIGNED_STACK" Bundle.steD), .isRef (.static Bundle.tN "SUPPRESSED_SENTINEL" Bundle.listD), .fieldLink Bundle.tN 198 Bundle.tN "backtrace" "Ljava/lang/Object;", .lays Bundle.tN Bundle.tN "backtrace" "Ljava/lang/Object;", .lays "java/lang/UnsupportedOperationException" Bundle.tN "backtrace" "Ljava/lang/Object;"], vx_no w = true → w ∈ kW ∨ w ∈ k_nest := by
  intro w hw hn
  rcases List.mem_cons.mp hw with rfl | hw
  · exact Or.inl (k_w 3 208 rfl rfl)
  rcases List.mem_cons.mp hw with rfl | hw
  · exact Or.inl (k_w 3 162 rfl rfl)
  rcases List.mem_cons.mp hw with rfl | hw
  · exact Or.inr (List.mem_of_getElem? (i := 84) rfl)
  rcases List.mem_cons.mp hw with rfl | hw
  · exact Or.inl (k_w 3 170 rfl rfl)
  rcases List.mem_cons.mp hw with rfl | hw
  · exact Or.inl (k_w 3 171 rfl rfl)
  rcases List.mem_cons.mp hw with rfl | hw
  · exact Or.inl (k_w 3 172 rfl rfl)
  rcases List.mem_cons.mp hw with rfl | hw
  · exact Or.inl (k_w 3 174 rfl rfl)
  rcases List.mem_cons.mp hw with rfl | hw
  · exact Or.inl (k_w 3 176 rfl rfl)
  rcases List.mem_cons.mp hw with rfl | hw
  · exact Or.inl (k_w 3 178 rfl rfl)
  rcases List.mem_cons.mp hw with rfl | hw
  · exact absurd hn (by decide)
  rcases List.mem_cons.mp hw with rfl | hw
  · exact absurd hn (by decide)
  rcases List.mem_cons.mp hw with rfl | hw
  · exact Or.inl (k_w 3 182 rfl rfl)
  rcases List.mem_cons.mp hw with rfl | hw
  · exact Or.inl (k_w 3 181 rfl rfl)
  rcases List.mem_cons.mp hw with rfl | hw
  · exact Or.inl (k_w 3 180 rfl rfl)
  exact absurd hw List.not_mem_nil

theorem kx_at_UnsupportedOperationException : ∀ w ∈ vx_atS RX4 211 "java/lang/UnsupportedOperationException" ["java/lang/RuntimeException", "java/lang/Exception"], w ∈ kW ∨ w ∈ k_nest := by
  intro w hw
  obtain ⟨hw, hn⟩ := List.mem_filter.mp hw
  unfold Bundle.ownAtoms at hw
  rcases List.mem_append.mp hw with hw | hw
  · rcases List.mem_append.mp hw with hw | hw
    · rcases List.mem_append.mp hw with hw | hw
      · exact kx_thr w hw hn
      · exact kx_ths w hw hn
    · rcases List.mem_append.mp (show w ∈ Bundle.passSAtoms "java/lang/UnsupportedOperationException" "java/lang/RuntimeException" 7 Bundle.six ++ (Bundle.passSAtoms "java/lang/RuntimeException" "java/lang/Exception" 7 Bundle.six ++ Bundle.passSAtoms "java/lang/Exception" Bundle.tN 7 Bundle.six) from hw) with hw | hw
      · exact kx_p_UnsupportedOperationException_RuntimeException w hw hn
      · rcases List.mem_append.mp hw with hw | hw
        · exact kx_p_RuntimeException_Exception w hw hn
        · exact kx_p_Exception_Throwable w hw hn
  · exact kx_o_UnsupportedOperationException w hw hn

theorem kx_p_ArithmeticException_RuntimeException : ∀ w ∈ Bundle.passSAtoms "java/lang/ArithmeticException" "java/lang/RuntimeException" 7 Bundle.six, vx_no w = true → w ∈ kW ∨ w ∈ k_nest := by
  intro w hw hn
  unfold Bundle.passSAtoms at hw
  rcases List.mem_cons.mp hw with rfl | hw
  · exact Or.inl (k_w 7 46 rfl rfl)
  rcases List.mem_cons.mp hw with rfl | hw
  · exact Or.inl (k_w 7 47 rfl rfl)
  rcases List.mem_cons.mp hw with rfl | hw
  · exact Or.inl (k_w 7 48 rfl rfl)
  rcases List.mem_cons.mp hw with rfl | hw
  · exact Or.inl (k_w 3 212 rfl rfl)
  rcases List.mem_cons.mp hw with rfl | hw
  · exact Or.inr (List.mem_of_getElem? (i := 90) rfl)
  exact absurd hw List.not_mem_nil

theorem kx_o_ArithmeticException : ∀ w ∈ [.methodLink RX4 243 (Bundle.initS "java/lang/ArithmeticException"), .instantiable "java/lang/ArithmeticException" 6, .castable "java/lang/ArithmeticException" "java/lang/ArithmeticException", .selects "java/lang/ArithmeticException" Bundle.tFill0 Bundle.tFill0, .selects "java/lang/ArithmeticException" Bundle.tFill Bundle.tFill, .lays "java/lang/ArithmeticException" Bundle.tN "cause" "Ljava/lang/Throwable;", .lays "java/lang/ArithmeticException" Bundle.tN "stackTrace" Bundle.steD, .lays "java/lang/ArithmeticException" Bundle.tN "suppressedExceptions" Bundle.listD, .lays "java/lang/ArithmeticException" Bundle.tN "detailMessage" "Ljava/lang/String;", .isRef (.static Bundle.tN "UNASSIGNED_STACK" Bundle.steD), .isRef (.static Bundle.tN "SUPPRESSED_SENTINEL" Bundle.listD), .fieldLink Bundle.tN 198 Bundle.tN "backtrace" "Ljava/lang/Object;", .lays Bundle.tN Bundle.tN "backtrace" "Ljava/lang/Object;", .lays "java/lang/ArithmeticException" Bundle.tN "backtrace" "Ljava/lang/Object;"], vx_no w = true → w ∈ kW ∨ w ∈ k_nest := by
  intro w hw hn
  rcases List.mem_cons.mp hw with rfl | hw
  · exact Or.inl (k_w 7 64 rfl rfl)
  rcases List.mem_cons.mp hw with rfl | hw
  · exact Or.inl (k_w 7 45 rfl rfl)
  rcases List.mem_cons.mp hw with rfl | hw
  · exact Or.inr (List.mem_of_getElem? (i := 89) rfl)
  rcases List.mem_cons.mp hw with rfl | hw
  · exact Or.inl (k_w 7 57 rfl rfl)
  rcases List.mem_cons.mp hw with rfl | hw
  · exact Or.inl (k_w 3 194 rfl rfl)
  rcases List.mem_cons.mp hw with rfl | hw
  · exact Or.inl (k_w 7 51 rfl rfl)
  rcases List.mem_cons.mp hw with rfl | hw
  · exact Or.inl (k_w 7 52 rfl rfl)
  rcases List.mem_cons.mp hw with rfl | hw
  · exact Or.inl (k_w 7 54 rfl rfl)
  rcases List.mem_cons.mp hw with rfl | hw
  · exact Or.inl (k_w 7 50 rfl rfl)
  rcases List.mem_cons.mp hw with rfl | hw
  · exact absurd hn (by decide)
  rcases List.mem_cons.mp hw with rfl | hw
  · exact absurd hn (by decide)
  rcases List.mem_cons.mp hw with rfl | hw
  · exact Or.inl (k_w 3 182 rfl rfl)
  rcases List.mem_cons.mp hw with rfl | hw
  · exact Or.inl (k_w 3 181 rfl rfl)
  rcases List.mem_cons.mp hw with rfl | hw
  · exact Or.inl (k_w 7 49 rfl rfl)
  exact absurd hw List.not_mem_nil

theorem kx_at_ArithmeticException : ∀ w ∈ vx_atS RX4 243 "java/lang/ArithmeticException" ["java/lang/RuntimeException", "java/lang/Exception"], w ∈ kW ∨ w ∈ k_nest := by
  intro w hw
  obtain ⟨hw, hn⟩ := List.mem_filter.mp hw
  unfold Bundle.ownAtoms at hw
  rcases List.mem_append.mp hw with hw | hw
  · rcases List.mem_append.mp hw with hw | hw
    · rcases List.mem_append.mp hw with hw | hw
      · exact kx_thr w hw hn
      · exact kx_ths w hw hn
    · rcases List.mem_append.mp (show w ∈ Bundle.passSAtoms "java/lang/ArithmeticException" "java/lang/RuntimeException" 7 Bundle.six ++ (Bundle.passSAtoms "java/lang/RuntimeException" "java/lang/Exception" 7 Bundle.six ++ Bundle.passSAtoms "java/lang/Exception" Bundle.tN 7 Bundle.six) from hw) with hw | hw
      · exact kx_p_ArithmeticException_RuntimeException w hw hn
      · rcases List.mem_append.mp hw with hw | hw
        · exact kx_p_RuntimeException_Exception w hw hn
        · exact kx_p_Exception_Throwable w hw hn
  · exact kx_o_ArithmeticException w hw hn

theorem kx_p_IndexOutOfBoundsException_RuntimeException : ∀ w ∈ Bundle.passSAtoms "java/lang/IndexOutOfBoundsException" "java/lang/RuntimeException" 7 Bundle.six, vx_no w = true → w ∈ kW ∨ w ∈ k_nest := by
  intro w hw hn
  unfold Bundle.passSAtoms at hw
  rcases List.mem_cons.mp hw with rfl | hw
  · exact Or.inl (k_w 4 165 rfl rfl)
  rcases List.mem_cons.mp hw with rfl | hw
  · exact Or.inl (k_w 4 166 rfl rfl)
  rcases List.mem_cons.mp hw with rfl | hw
  · exact Or.inl (k_w 4 167 rfl rfl)
  rcases List.mem_cons.mp hw with rfl | hw
  · exact Or.inl (k_w 3 212 rfl rfl)
  rcases List.mem_cons.mp hw with rfl | hw
  · exact Or.inr (List.mem_of_getElem? (i := 90) rfl)
  exact absurd hw List.not_mem_nil

theorem kx_o_IndexOutOfBoundsException : ∀ w ∈ [.methodLink RX4 67 (Bundle.initS "java/lang/IndexOutOfBoundsException"), .instantiable "java/lang/IndexOutOfBoundsException" 6, .castable "java/lang/IndexOutOfBoundsException" "java/lang/IndexOutOfBoundsException", .selects "java/lang/IndexOutOfBoundsException" Bundle.tFill0 Bundle.tFill0, .selects "java/lang/IndexOutOfBoundsException" Bundle.tFill Bundle.tFill, .lays "java/lang/IndexOutOfBoundsException" Bundle.tN "cause" "Ljava/lang/Throwable;", .lays "java/lang/IndexOutOfBoundsException" Bundle.tN "stackTrace" Bundle.steD, .lays "java/lang/IndexOutOfBoundsException" Bundle.tN "suppressedExceptions" Bundle.listD, .lays "java/lang/IndexOutOfBoundsException" Bundle.tN "detailMessage" "Ljava/lang/String;", .isRef (.static Bundle.tN "UNASSIGNED_STACK" Bundle.steD), .isRef (.static Bundle.tN "SUPPRESSED_SENTINEL" Bundle.listD), .fieldLink Bundle.tN 198 Bundle.tN "backtrace" "Ljava/lang/Object;", .lays Bundle.tN Bundle.tN "backtrace" "Ljava/lang/Object;", .lays "java/lang/IndexOutOfBoundsException" Bundle.tN "backtrace" "Ljava/lang/Object;"], vx_no w = true → w ∈ kW ∨ w ∈ k_nest := by
  intro w hw hn
  rcases List.mem_cons.mp hw with rfl | hw
  · exact Or.inl (k_w 4 200 rfl rfl)
  rcases List.mem_cons.mp hw with rfl | hw
  · exact Or.inl (k_w 4 191 rfl rfl)
  rcases List.mem_cons.mp hw with rfl | hw
  · exact Or.inr (List.mem_of_getElem? (i := 85) rfl)
  rcases List.mem_cons.mp hw with rfl | hw
  · exact Or.inl (k_w 4 193 rfl rfl)
  rcases List.mem_cons.mp hw with rfl | hw
  · exact Or.inl (k_w 3 198 rfl rfl)
  rcases List.mem_cons.mp hw with rfl | hw
  · exact Or.inl (k_w 4 194 rfl rfl)
  rcases List.mem_cons.mp hw with rfl | hw
  · exact Or.inl (k_w 4 195 rfl rfl)
  rcases List.mem_cons.mp hw with rfl | hw
  · exact Or.inl (k_w 4 196 rfl rfl)
  rcases List.mem_cons.mp hw with rfl | hw
  · exact Or.inl (k_w 4 197 rfl rfl)
  rcases List.mem_cons.mp hw with rfl | hw
  · exact absurd hn (by decide)
  rcases List.mem_cons.mp hw with rfl | hw
  · exact absurd hn (by decide)
  rcases List.mem_cons.mp hw with rfl | hw
  · exact Or.inl (k_w 3 182 rfl rfl)
  rcases List.mem_cons.mp hw with rfl | hw
  · exact Or.inl (k_w 3 181 rfl rfl)
  rcases List.mem_cons.mp hw with rfl | hw
  · exact Or.inl (k_w 4 198 rfl rfl)
  exact absurd hw List.not_mem_nil

theorem kx_at_IndexOutOfBoundsException : ∀ w ∈ vx_atS RX4 67 "java/lang/IndexOutOfBoundsException" ["java/lang/RuntimeException", "java/lang/Exception"], w ∈ kW ∨ w ∈ k_nest := by
  intro w hw
  obtain ⟨hw, hn⟩ := List.mem_filter.mp hw
  unfold Bundle.ownAtoms at hw
  rcases List.mem_append.mp hw with hw | hw
  · rcases List.mem_append.mp hw with hw | hw
    · rcases List.mem_append.mp hw with hw | hw
      · exact kx_thr w hw hn
      · exact kx_ths w hw hn
    · rcases List.mem_append.mp (show w ∈ Bundle.passSAtoms "java/lang/IndexOutOfBoundsException" "java/lang/RuntimeException" 7 Bundle.six ++ (Bundle.passSAtoms "java/lang/RuntimeException" "java/lang/Exception" 7 Bundle.six ++ Bundle.passSAtoms "java/lang/Exception" Bundle.tN 7 Bundle.six) from hw) with hw | hw
      · exact kx_p_IndexOutOfBoundsException_RuntimeException w hw hn
      · rcases List.mem_append.mp hw with hw | hw
        · exact kx_p_RuntimeException_Exception w hw hn
        · exact kx_p_Exception_Throwable w hw hn
  · exact kx_o_IndexOutOfBoundsException w hw hn
