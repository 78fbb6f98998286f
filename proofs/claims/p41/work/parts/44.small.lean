/-! small rows: remainders, the script, texts, a call over ten words -/
theorem kq_irem (x y : Int32) : x - (x / y) * y = x % y := by
  apply Int32.toInt_inj.mp
  have h1 := Int32.le_toInt (x % y)
  have h2 := Int32.toInt_lt (x % y)
  rw [Int32.toInt_sub, Int32.toInt_mul, Int32.toInt_div, Int.bmod_mul_bmod, Int.sub_bmod_bmod, Int.mul_comm (x.toInt.tdiv y.toInt), ← Int.tmod_def, ← Int32.toInt_mod]
  exact Int.bmod_eq_of_le_mul_two (by omega) (by omega)
def kSome (v n : Int32) : Int32 := if v - v / n * n < 0 then v - v / n * n + n else v - v / n * n
theorem kSome_in (v : Int32) {m : Nat} (h0 : 0 < m) (hm : m < 2 ^ 30) : ∃ j, j < m ∧ kSome v (nI m) = nI j := by
  unfold kSome
  rw [kq_irem]
  have e : (v % nI m).toInt = v.toInt.tmod m := by rw [Int32.toInt_mod, nI_toInt (by omega)]
  have b1 : (v.toInt.tmod m) < m := Int.tmod_lt_of_pos _ (by omega)
  have b2 : -(m : Int) < v.toInt.tmod m := Int.lt_tmod_of_pos _ (by omega)
  by_cases c : v % nI m < 0
  · rw [if_pos c]
    rw [Int32.lt_iff_toInt_lt, Int32.toInt_zero, e] at c
    refine ⟨(v.toInt.tmod m + m).toNat, by omega, ?_⟩
    apply Int32.toInt_inj.mp
    rw [Int32.toInt_add, e, nI_toInt (by omega), nI_toInt (by omega), Int.bmod_eq_of_le (by omega) (by omega)]
    omega
  · rw [if_neg c]
    rw [Int32.lt_iff_toInt_lt, Int32.toInt_zero, e] at c
    refine ⟨(v.toInt.tmod m).toNat, by omega, ?_⟩
    apply Int32.toInt_inj.mp
    rw [e, nI_toInt (by omega)]
    omega
def kAt (L : Nat) (xs : Nat → Int32) (j : Nat) : Int32 := if j < L then xs j else 0
def kScr (b L : Nat) (xs : Nat → Int32) : kXt := fun A U H => va_X b L xs U H ∧ b < H.size ∧ ¬ A b
theorem kScr_s {b L : Nat} {xs : Nat → Int32} : kXs (kScr b L xs) := by
  refine ⟨fun A B s U H locs hX hS hAB hU hW => ?_, fun A U f mk a hX => ?_⟩
  · obtain ⟨h1, h2, h3⟩ := hX
    subst hU
    exact ⟨va_X.moved hW.alike (h1.kept (hS.2.1 b h2 h3)), Nat.lt_of_lt_of_le h2 hS.1, fun q => h3 (hAB _ q)⟩
  · exact ⟨va_X.moved (u := U) (U := U.calling f mk a) (Vm.Alike.refl U.vm) hX.1, hX.2⟩
def kStr (a v : Nat) (n : Nat) (bs : List Int32) : kXt := fun A U H => vk_S 1 [n] [bs] (fun _ => a) (fun _ => v) A U H
theorem kStr_s {a v n : Nat} {bs : List Int32} : kXs (kStr a v n bs) := by
  refine ⟨fun A B s U H locs hX hS hAB hU hW => ?_, fun A U f mk z hX => ?_⟩
  · subst hU
    exact (vk_S.moved hW.alike (vk_S.kept hX hS.2.1)).narrow hAB
  · exact vk_S.moved (u := U) (U := U.calling f mk z) (Vm.Alike.refl U.vm) hX
/-- the law's texts -/
theorem kStr_of {g : kG} {A : Nat → Prop} {U : State} {H : Heap} (hE : kE g A U H) (i : Nat) (hi : i < 9) : kStr (g.2.2 (1000 + i)) (g.2.2 (1050 + i)) (kq_len.getD i 0) (kq_byt.getD i []) A U H :=
  ⟨fun j hj => by obtain rfl : j = 0 := by omega
                  exact (hE.2.2.2.2.2.2.2.2.2.2.1 i hi), fun i j hi hj _ => by omega⟩
def kChr (b : Int32) : Int32 := ((b &&& 255).toUInt32 % 65536).toInt32
section SMALL
variable {p : Program} {l : Launch} {e : Env} {R : Room} {s : State} {m : MethodId} {args : Array Value} {below : List Frame} {meth : Method} {c : Code} {H : Heap} {locs : List Loc} {cells slots : Nat} {Q : State → Prop}
variable {cc : ByteArray} {pc nL : Nat} {ls : Array Slot} {st rest : List Value} {A : Nat → Prop} {H0 : Heap} {g : kG} {cs : List va_W} {own : String} {ret : Option FieldType} {X : kXt}
theorem kO_lret {v : Int64} (C : kC p c cc s m args meth own g nL (some .long)) (d : decode cc pc = .ok (.lreturn, 1)) : W p l e R s m args below meth c s.heap [] 0 0 (MQ below (fun _ st o t => o = .returned (some (.long v)) ∧ t.heap = st.heap) args s 0 0 (fun _ => False)) (F0 m pc ls [.long v]) :=
  W.lret C.1.1 C.1.2.1 C.2.2.1 (fun t ht _ => ⟨rfl, ht⟩) (fun q hq => absurd hq List.not_mem_nil) d C.2.2.2
theorem kR_ofF {y : MethodName} {ws : List Cond} {f lo : Nat} {av : List Value} {v : Int32} {lv : List (Nat × Value)} (hy : plainFor y = true) (hw : ws = Cond.code y cc nL ret :: kW) (hav : (lg_sl av).length ≤ nL) (hlv : lv_args 0 av = lv)
    (body : ∀ (p : Program) (e : Env) (s : State) (m : MethodId) (args : Array Value) (below : List Frame) (meth : Method) (c : Code) (ls : Array Slot), kC p c cc s m args meth y.cls g nL ret → kp g cs s.heap → kE g (fun _ => False) s s.heap → lv_has ls nL lv →
      W p l e (kRm f 0 0 lo) s m args below meth c s.heap [] 0 0 (MQ below (vp_Si (fun r => r = v)) args s 0 0 (fun _ => False)) (F0 m 0 ls [])) : kR l y ws f lo g av cs v := by
  refine va_MetF (cc := cc) (maxL := nL) (ret := ret) hy hw ?_
  intro p e s m args below meth c s₁ B hml hv
  obtain ⟨rfl, hP, hE⟩ := hv
  have hl := lv_entry av (n := nL) hav
  rw [lg_entry_eq]
  subst hlv
  exact body p e s m _ below meth c _ ⟨⟨B.exec, B.bytes, hml, findClass_of_methodNamed B.named, fun w h => atoms_spec (ws := ws) B.pre w (by rw [hw]; exact List.mem_cons_of_mem _ h)⟩, ⟨hE.1, hE.2.1⟩, B.returns, B.notSynchronized⟩ hP hE hl
/-- texts, under kStr -/
theorem ks_val (C : kC p c cc s m args meth own g nL ret) {a v n index : Nat} {bs : List Int32} (hX : kStr a v n bs A s s.heap) (hS : va_S A s.heap H locs) (hlink : Cond.fieldLink own index "java/lang/String" "value" "[B" ∈ kW) (d : decode cc pc = .ok (.getfield index, 3))
    (kk : W p l e R s m args below meth c H locs cells slots Q (F0 m (pc + 3) ls (.ref v :: rest))) : W p l e R s m args below meth c H locs cells slots Q (F0 m pc ls (.ref a :: rest)) :=
  vk_getf C.1.1 C.1.2.1 (hX.1 0 (by decide)).2.2.1 hS C.1.2.2.2.1 (C.1.2.2.2.2 _ hlink) (fun _ h => h) d kk
theorem ks_cod (C : kC p c cc s m args meth own g nL ret) {a v n index : Nat} {bs : List Int32} (hX : kStr a v n bs A s s.heap) (hS : va_S A s.heap H locs) (hlink : Cond.fieldLink own index "java/lang/String" "coder" "B" ∈ kW) (d : decode cc pc = .ok (.getfield index, 3))
    (kk : W p l e R s m args below meth c H locs cells slots Q (F0 m (pc + 3) ls (.int 0 :: rest))) : W p l e R s m args below meth c H locs cells slots Q (F0 m pc ls (.ref a :: rest)) :=
  vk_getf C.1.1 C.1.2.1 (hX.1 0 (by decide)).2.1 hS C.1.2.2.2.1 (C.1.2.2.2.2 _ hlink) (fun _ h => h) d kk
theorem ks_len (C : kC p c cc s m args meth own g nL ret) {a v n : Nat} {bs : List Int32} (hX : kStr a v n bs A s s.heap) (hS : va_S A s.heap H locs) (d : decode cc pc = .ok (.arraylength, 1))
    (kk : W p l e R s m args below meth c H locs cells slots Q (F0 m (pc + 1) ls (.int (nI n) :: rest))) : W p l e R s m args below meth c H locs cells slots Q (F0 m pc ls (.ref v :: rest)) :=
  va_tlen C.1.1 C.1.2.1 (hX.1 0 (by decide)).2.2.2 hS rfl d kk
theorem ks_ald (C : kC p c cc s m args meth own g nL ret) {a v n : Nat} {bs : List Int32} {x : Int32} (hX : kStr a v n bs A s s.heap) (hS : va_S A s.heap H locs) (hin : vp_in x n) (d : decode cc pc = .ok (.baload, 1))
    (kk : W p l e R s m args below meth c H locs cells slots Q (F0 m (pc + 1) ls (.int (bs.getD x.toNatClampNeg 0) :: rest))) : W p l e R s m args below meth c H locs cells slots Q (F0 m pc ls (.int x :: .ref v :: rest)) :=
  va_tb C.1.1 C.1.2.1 (hX.1 0 (by decide)).2.2.2 hS hin rfl d kk
theorem ks_recv {a v n : Nat} {bs : List Int32} (hX : kStr a v n bs A s s.heap) (hS : va_S A s.heap H locs) : ∃ cell : Cell, H[a]? = some cell ∧ cell.vm.isStatics = false ∧ s.vm.findClass "java/lang/String" = some cell.cls :=
  vk_recv (adK := fun _ => a) (i := 0) hX (by decide) hS
/-- a call with ten words below it -/
theorem kx_runSW10 {y : MethodName} {bytes cc : ByteArray} {maxL nL mc ms n index : Nat} {ret : Option FieldType} {hh : List (Nat × Nat × Nat × Nat)} {ws : List Cond} {rm : Room} {Pc : Array Value → State → Prop} {Qc : Array Value → State → Outcome → State → Prop} {free : Addr → Prop} {Ts : List Cond} {own : String} {As rest : List Value} {g : JFrame}
    (S : CallFix p m c cc nL s args Ts own) (hM : Met l y ws rm Pc Qc mc ms free) (cw : vx_CSW R s args own index y bytes maxL ret hh ws rm mc ms n) (hlo9 : 10 + (maxL + 11) + rm.locals ≤ R.locals) (hp : PreS s H Pc As)
    (hg : g.method = m) (hn : As.length = n) (hsize : g.locals.size = nL) (hstack : g.stack = As.reverse ++ rest) (hW : 2 * g.monitorRoom + (rest.map fun v => v.category).sum ≤ 10) (hdg : decode cc g.pc = .ok (.invokestatic index, 3)) (hf : cells + mc ≤ R.cells ∧ slots + ms ≤ R.slots) :
    va_Run p l e R s m args below meth c H locs cells slots mc ms g rest (Qc As.toArray) (free) := by
  obtain ⟨⟨hrc, hrs, hfr, -, hws, hcw⟩, hcode, hini, hy, hlen, hl, hstt⟩ := cw
  have hK : Back l R p e below s args y 3 10 (PreOf R mc ms Pc) (PostOf Qc mc ms free) := va_backW (hh := hh) (bytes := bytes) (maxL := maxL) (ret := ret) hM hp.1 hrc hrs hfr hlo9 hws hcw (fun a' U hW => word_at hW (Or.inl (by first | rfl | simp [Cond.onTables, Cond.keeps, Cond.steady])) hini)
  obtain ⟨hx, hb, hml, ho, -⟩ := S
  intro T hT X
  obtain ⟨v, vm₁, ⟨U', l2, c2, s2⟩, hW₁, X', ⟨g', mk, t, L, e1, e2, hq, h1, hL, h2, h3⟩, st⟩ := vx_callSW X hx (hh := hh) (bytes := bytes) (maxL := maxL) (ret := ret) ho hl hstt hini hcode hy hK hg (hsize.trans hml.symm) (argsL := As) (rest := rest) (fun sig h => hn.trans (hlen sig h)) hstack hW (by rw [hb]; exact hdg)
    (fun vm₁ hW₁ => ⟨hf.1, hf.2, hp.2 (T.setVm vm₁) hT hW₁⟩)
  dsimp only [Pt.U, Pt.locs, Pt.cells, Pt.slots] at X' e1 e2 h1 h2 h3 st
  subst h1; subst h2; subst h3
  exact ⟨v, (T.setVm vm₁).calling g' mk As.toArray, t, U', L, hT, X', hL, e1, e2, hq, st⟩
theorem kL_SW10 (C : kC p c cc s m args meth own g nL ret) (hXs : kXs X) {y : MethodName} {ws : List Cond} {hh : List (Nat × Nat × Nat × Nat)} {index f lo mc ms maxL n : Nat} {bytes : ByteArray} {r2 : Option FieldType} {As : List Value} {wc wr : List va_W} {post : Int32 → List va_W → Prop} (hM : kL X l y ws f lo mc ms g As wc post) (hN : kNc s)
    (hXU : ∀ U : State, U.heap = H → s.WarmedH U.vm → X (va_A wc.flatten H.size) U U.heap) (cw : vx_CSW R s args own index y bytes maxL r2 hh ws (kRm f mc ms lo) mc ms n) (hlo9 : 10 + (maxL + 11) + lo ≤ R.locals) (hE : kE g A s s.heap) (hS : va_S A s.heap H locs) (hA : ∀ q, s.heap.size ≤ q → A q) (hP : kp g (wr ++ wc) H) (hD : kd A (wr ++ wc))
    (hn : As.length = n) (hsz : ls.size = nL) (hst : st = As.reverse ++ rest) (hW : Nat.ble ((rest.map fun v => v.category).sum) 10 = true) (d : decode cc pc = .ok (.invokestatic index, 3)) (hf : cells + mc ≤ R.cells ∧ slots + ms ≤ R.slots)
    (kk : ∀ (r : Int32) (u : List va_W) (H1 : Heap) (locs1 : List Loc), post r u → kp g (wr ++ u) H1 → kd A (wr ++ u) → va_S A s.heap H1 locs1 → W p l e R s m args below meth c H1 locs1 (cells + mc) (slots + ms) Q (F0 m (pc + 3) ls (.int r :: rest))) : W p l e R s m args below meth c H locs cells slots Q (F0 m pc ls st) := by
  have hF := k_freeA hD hS hA
  refine va_calli (kx_runSW10 (As := As) (rest := rest) C.1 (hM H.size) cw hlo9 ⟨kPreL_blind hXs, kLg_pre hN hE hS hA hP hD hXU⟩ rfl hn hsz hst (by show 2 * 0 + _ ≤ 10; have := Nat.le_of_ble_eq_true hW; omega) d hf) hS (fun q _ h => hF q h) hF (fun r u t H1 locs ht hvm hw hB hz1 hk1 hS => ?_)
  obtain ⟨hP1, hD1⟩ := hB
  rw [ht] at hP1
  obtain ⟨hP2, hD2⟩ := k_joinA hP hD hk1 hF hP1 hD1
  exact kk r u H1 locs hw hP2 hD2 hS
end SMALL
