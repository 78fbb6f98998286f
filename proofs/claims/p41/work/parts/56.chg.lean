/-! calls in a world that ends with the callee's; the StringBuilder as one chunk pair; what a change leaves -/
theorem kp_sw {g : kG} {a b : List va_W} {H : Heap} (h : kp g (a ++ b) H) : kp g (b ++ a) H := kp_app.mpr ⟨(kp_app.mp h).2, (kp_app.mp h).1⟩
theorem kd_sw {A : Nat → Prop} {a b : List va_W} (h : kd A (a ++ b)) : kd A (b ++ a) := kd_app.mpr ⟨(kd_app.mp h).2.1, (kd_app.mp h).1, fun x hx y hy => kap_symm ((kd_app.mp h).2.2 y hy x hx)⟩
section CHR
variable {p : Program} {l : Launch} {e : Env} {R : Room} {s : State} {m : MethodId} {args : Array Value} {below : List Frame} {meth : Method} {c : Code} {H : Heap} {locs : List Loc} {cells slots : Nat} {Q : State → Prop}
variable {cc : ByteArray} {pc nL : Nat} {ls : Array Slot} {st rest : List Value} {A : Nat → Prop} {H0 : Heap} {g : kG} {cs : List va_W} {own : String} {ret : Option FieldType} {X : kXt}
theorem kW_I (C : kC p c cc s m args meth own g nL ret) {y : MethodName} {ws : List Cond} {index b f lo mc ms maxL n : Nat} {bytes : ByteArray} {As : List Value} {wc wr : List va_W} {post : List va_W → Prop} (hM : kV l y ws f lo mc ms g (.ref b :: As) wc post)
    (cw : CallB R s args own index y bytes maxL none ws (kRm f mc ms lo) mc ms n ∧ y.name = "<init>" ∧ (Cond.instanceMethod y).before args s = true) (hE : kE g A s s.heap) (hS : va_S A s.heap H locs) (hA : ∀ q, s.heap.size ≤ q → A q) (hP : kp g (wr ++ wc) H) (hD : kd A (wr ++ wc))
    (hn : As.length = n) (hsz : ls.size = nL) (hst : st = As.reverse ++ .ref b :: rest) (hW : kSt rest) (d : decode cc pc = .ok (.invokespecial index, 3)) (hf : cells + mc ≤ R.cells ∧ slots + ms ≤ R.slots)
    (kk : ∀ (u : List va_W) (H1 : Heap) (locs1 : List Loc), post u → kp g (wr ++ u) H1 → kd A (wr ++ u) → va_S A s.heap H1 locs1 → W p l e R s m args below meth c H1 locs1 (cells + mc) (slots + ms) Q (F0 m (pc + 3) ls rest)) : W p l e R s m args below meth c H locs cells slots Q (F0 m pc ls st) :=
  kL_backv (av := (.ref b :: As).toArray) (va_runI (As := As) (rest := rest) C.1 (hM H.size) cw ⟨kPre_blind, kM_preA (av := .ref b :: As) hE hS hA hP hD⟩ rfl hn hsz hst (lv_room (Nat.le_of_ble_eq_true hW)) d hf) hS hA hP hD kk
theorem kW_V (C : kC p c cc s m args meth own g nL ret) {y : MethodName} {ws : List Cond} {Cn : String} {index b f lo mc ms maxL n : Nat} {bytes : ByteArray} {r2 : Option FieldType} {As : List Value} {wc wr : List va_W} {post : Nat → List va_W → Prop} (hM : kA l y ws f lo mc ms g (.ref b :: As) wc post)
    (cw : CallW R s args own Cn index y bytes maxL r2 ws (kRm f mc ms lo) mc ms n) (hE : kE g A s s.heap) (hS : va_S A s.heap H locs) (hA : ∀ q, s.heap.size ≤ q → A q) (hP : kp g (wr ++ wc) H) (hD : kd A (wr ++ wc)) (hrc : ∃ cell : Cell, H[b]? = some cell ∧ cell.vm.isStatics = false ∧ s.vm.findClass Cn = some cell.cls)
    (hn : As.length = n) (hsz : ls.size = nL) (hst : st = As.reverse ++ .ref b :: rest) (hW : kSt rest) (d : decode cc pc = .ok (.invokevirtual index, 3)) (hf : cells + mc ≤ R.cells ∧ slots + ms ≤ R.slots)
    (kk : ∀ (a : Nat) (u : List va_W) (H1 : Heap) (locs1 : List Loc), post a u → kp g (wr ++ u) H1 → kd A (wr ++ u) → va_S A s.heap H1 locs1 → W p l e R s m args below meth c H1 locs1 (cells + mc) (slots + ms) Q (F0 m (pc + 3) ls (.ref a :: rest))) : W p l e R s m args below meth c H locs cells slots Q (F0 m pc ls st) :=
  kL_backa (av := (.ref b :: As).toArray) (va_runV (As := As) (rest := rest) C.1 (hM H.size) cw ⟨kPre_blind, hrc, kM_preA (av := .ref b :: As) hE hS hA hP hD⟩ rfl hn hsz hst (lv_room (Nat.le_of_ble_eq_true hW)) d hf) hS hA hP hD kk
theorem kY_V (C : kC p c cc s m args meth own g nL ret) (hXs : kXs X) {y : MethodName} {ws : List Cond} {Cn : String} {index b f lo mc ms maxL n : Nat} {bytes : ByteArray} {r2 : Option FieldType} {As : List Value} {wc wr : List va_W} {post : Nat → List va_W → Prop} (hM : kLa X l y ws f lo mc ms g (.ref b :: As) wc post) (hN : kNc s)
    (hXU : ∀ U : State, U.heap = H → s.WarmedH U.vm → X (va_A wc.flatten H.size) U U.heap) (cw : CallW R s args own Cn index y bytes maxL r2 ws (kRm f mc ms lo) mc ms n) (hE : kE g A s s.heap) (hS : va_S A s.heap H locs) (hA : ∀ q, s.heap.size ≤ q → A q) (hP : kp g (wr ++ wc) H) (hD : kd A (wr ++ wc)) (hrc : ∃ cell : Cell, H[b]? = some cell ∧ cell.vm.isStatics = false ∧ s.vm.findClass Cn = some cell.cls)
    (hn : As.length = n) (hsz : ls.size = nL) (hst : st = As.reverse ++ .ref b :: rest) (hW : kSt rest) (d : decode cc pc = .ok (.invokevirtual index, 3)) (hf : cells + mc ≤ R.cells ∧ slots + ms ≤ R.slots)
    (kk : ∀ (a : Nat) (u : List va_W) (H1 : Heap) (locs1 : List Loc), post a u → kp g (wr ++ u) H1 → kd A (wr ++ u) → va_S A s.heap H1 locs1 → W p l e R s m args below meth c H1 locs1 (cells + mc) (slots + ms) Q (F0 m (pc + 3) ls (.ref a :: rest))) : W p l e R s m args below meth c H locs cells slots Q (F0 m pc ls st) :=
  kL_backa (av := (.ref b :: As).toArray) (va_runV (As := As) (rest := rest) C.1 (hM H.size) cw ⟨kPreL_blind hXs, hrc, kLg_pre (av := .ref b :: As) hN hE hS hA hP hD hXU⟩ rfl hn hsz hst (lv_room (Nat.le_of_ble_eq_true hW)) d hf) hS hA hP hD kk
/-- a fresh text, for a callee that does not hold it -/
theorem kStr_nw (C : kC p c cc s m args meth own g nL ret) {wr wc : List va_W} (hP : kp g (wr ++ wc) H) (hD : kd A (wr ++ wc)) {a v n : Nat} {f : Nat → Int32} (h1 : JSW a (.ref v) ∈ wr) (h2 : JAW g v n f ∈ wr) (hn : n < 2 ^ 31) : ∀ U : State, U.heap = H → s.WarmedH U.vm → kStr a v n ((List.range n).map f) (va_A wc.flatten H.size) U U.heap := by
  intro U hU hW
  have hp := kp_iff.mp hP
  have hd := (kd_app.mp hD).2.2
  have p1 : kp g [JSW a (.ref v), JAW g v n f] H := kp_iff.mpr (fun ch hch => by
    rcases List.mem_cons.mp hch with rfl | hch
    · exact hp _ (List.mem_append_left _ h1)
    · rw [List.mem_singleton.mp hch]
      exact hp _ (List.mem_append_left _ h2))
  have hav : ∀ ch ∈ wr, ∀ z ∈ ch, z.1 < H.size → ¬ va_A wc.flatten H.size z.1 := by
    intro ch hch z hz hlt hin
    rcases k_in.mp hin with ⟨ch2, hch2, e2, he2⟩ | h
    · exact hd ch hch ch2 hch2 z hz _ he2 rfl
    · omega
  have hza : a < H.size := by
    obtain ⟨r, hr, cell, q1, -⟩ := (kp_iff.mp p1) (JSW a (.ref v)) (by simp) (a, .inr (0, [.ref v, .int 0, .int 0, .int 0])) (by unfold JSW; simp)
    exact (Array.getElem?_eq_some_iff.mp q1).1
  have hzv : v < H.size := by
    have hc : H[v]? = some (vp_cell (g.2.1 0) (n, .inl f)) := (kp_iff.mp p1) (JAW g v n f) (by simp) (v, .inl (g.2.1 0, n, .inl f)) (by unfold JAW; simp)
    exact (Array.getElem?_eq_some_iff.mp hc).1
  have := kStr_new (args := args) C.1.2.2.2.2 C.2.1.1 p1 hn (hav _ h1 (a, .inr (0, [.ref v, .int 0, .int 0, .int 0])) (by unfold JSW; simp) hza) (hav _ h2 (v, .inl (g.2.1 0, n, .inl f)) (by unfold JAW; simp) hzv)
  subst hU
  exact vk_S.moved hW.alike this
end CHR
def kSB (g : kG) (o k : Nat) (u : List va_W) : Prop := ∃ (q n : Nat) (ml : Int32) (f : Nat → Int32) (t : Nat → Nat), u = [JOW o q ml (nI k), JAW g q n f] ∧ (n = 16 ∨ n = 34) ∧ k ≤ n ∧ sb_Fit f ∧ sb_Lat t k f
theorem kSB_0 {g : kG} {o q : Nat} : kSB g o 0 [JOW o q 0 0, JAW g q 16 (fun _ => 0)] := ⟨q, 16, 0, _, fun _ => 0, rfl, Or.inl rfl, by omega, fun _ => rfl, fun j hj => absurd hj (by omega)⟩
theorem ap_s (l : Launch) (g : kG) (a v n : Nat) (bs : List Int32) (o k : Nat) (cs : List va_W) (hB : kSB g o k cs) (s0 : Nat → Nat) (hs0 : ∀ i, i < n → s0 i < 256 ∧ bs.getD i 0 = sb_b (s0 i)) (h34 : k + n ≤ 34) : kLa (kStr a v n bs) l yJ4_append_15ec4 wJ4_append_15ec4_x 5 320 1 34 g [.ref o, .ref a] cs (fun r u => r = o ∧ kSB g o (k + n) u) := by
  obtain ⟨q, n0, ml, f, t, rfl, hn0, hk, hff, hL⟩ := hB
  refine kLg_ofC (cc := cJ4_append_15ec4) (nL := 2) (ret := (some (.object "java/lang/StringBuilder"))) (lv := [(0, .ref o), (1, .ref a)]) (by decide) rfl (Nat.le_of_ble_eq_true rfl) rfl ?_
  intro p e s m args below meth c ls A hN hX C hP hD hE hA hS hl
  have C : kC p c cJ4_append_15ec4 s m args meth RJ4 g 2 (some (.object "java/lang/StringBuilder")) := C
  have hx := C.1.1
  have hb := C.1.2.1
  have hts := C.1.2.2.2.2
  refine lv_aload_n hx hb dJ4_append_15ec4_0 rfl (lv_at hl 0 rfl) ?_
  refine lv_aload_n hx hb dJ4_append_15ec4_1 rfl (lv_at hl 1 rfl) ?_
  refine kL_backa (wr := []) (va_runSU (As := [.ref a]) (rest := []) (k_atSB C) C.1 ((js_ap5 l g a v n bs o q n0 ml f t k hn0 hk hff hL s0 hs0 h34) s.heap.size) (k_cwSU 1 hts kw1055 kw1473 kw299 kw1056 kw74 kw1057 ⟨by decide +kernel, pnJ5_append_cf1ce.2.2⟩ ⟨Nat.le_of_ble_eq_true rfl, Nat.le_of_ble_eq_true rfl⟩) ⟨kPreL_blind kStr_s, (k_recv C kFJ4 hP (i := 0) (q := 0) rfl rfl), kLg_pre (wr := []) hN hE hS hA hP hD (kX_fr kStr_s (wr := []) hX hS hA hD)⟩ rfl rfl hl.1 rfl (lv_room (Nat.le_of_ble_eq_true rfl)) dJ4_append_15ec4_2 ⟨Nat.le_of_ble_eq_true rfl, Nat.le_of_ble_eq_true rfl⟩) hS hA hP hD (fun ra u H locs hp hP hD hS => ?_)
  refine lv_pop hx hb dJ4_append_15ec4_5 rfl ?_
  refine lv_aload_n hx hb dJ4_append_15ec4_6 rfl (lv_at hl 0 rfl) ?_
  obtain ⟨q', n', ml', f', hu, h1, h2, h3, h4⟩ := hp
  exact kA_ret C (Or.inl ⟨_, rfl⟩) hP hD hS ⟨rfl, q', n', ml', f', _, hu, h1, h2, h3, h4⟩ ⟨Nat.le_of_ble_eq_true rfl, Nat.le_of_ble_eq_true rfl⟩ dJ4_append_15ec4_7
theorem ap_i (l : Launch) (g : kG) (o k : Nat) (cs : List va_W) (hB : kSB g o k cs) (v : Nat) (hv : v < 1000) (h34 : k + sb_dg v ≤ 34) : kA l yJ4_append_bf812 wJ4_append_bf812 5 300 1 34 g [.ref o, .int (nI v)] cs (fun r u => r = o ∧ kSB g o (k + sb_dg v) u) := by
  obtain ⟨q, n, ml, f, t, rfl, hn, hk, hf, hL⟩ := hB
  refine kA_of (cc := cJ4_append_bf812) (nL := 2) (ret := (some (.object "java/lang/StringBuilder"))) (lv := [(0, .ref o), (1, .int (nI v))]) (by decide) rfl (Nat.le_of_ble_eq_true rfl) rfl ?_
  intro p e s m args below meth c ls A C hP hD hE hA hS hl
  have C : kC p c cJ4_append_bf812 s m args meth RJ4 g 2 (some (.object "java/lang/StringBuilder")) := C
  have hx := C.1.1
  have hb := C.1.2.1
  have hts := C.1.2.2.2.2
  refine lv_aload_n hx hb dJ4_append_bf812_0 rfl (lv_at hl 0 rfl) ?_
  refine lv_iload_n hx hb dJ4_append_bf812_1 rfl (lv_at hl 1 rfl) ?_
  refine kA_SU (As := [.int (nI v)]) (rest := []) (wr := []) C (J5_append_c97b9_c l g o q n ml f t k hn hk hf hL v hv h34) (k_cwSU 1 hts kw1152 kw1480 kw299 kw1153 kw74 kw1154 ⟨by decide +kernel, pnJ5_append_c97b9.2.2⟩ ⟨Nat.le_of_ble_eq_true rfl, Nat.le_of_ble_eq_true rfl⟩) hE hS hA hP hD [0, 1] [] rfl rfl ⟨rfl, rfl, by decide⟩ (k_recv C kFJ4 hP (i := 0) (q := 0) rfl rfl) rfl hl.1 rfl rfl dJ4_append_bf812_2 ⟨Nat.le_of_ble_eq_true rfl, Nat.le_of_ble_eq_true rfl⟩ (fun ra u H locs hp hP hD hS => ?_)
  refine lv_pop hx hb dJ4_append_bf812_5 rfl ?_
  refine lv_aload_n hx hb dJ4_append_bf812_6 rfl (lv_at hl 0 rfl) ?_
  obtain ⟨q', n', ml', f', hu, h1, h2, h3, h4⟩ := hp
  exact kA_ret C (Or.inl ⟨_, rfl⟩) hP hD hS ⟨rfl, q', n', ml', f', _, hu, h1, h2, h3, h4⟩ ⟨Nat.le_refl _, Nat.le_refl _⟩ dJ4_append_bf812_7
theorem dg1 {v : Nat} (h : v < 10) : sb_dg v = 1 := by unfold sb_dg; rw [if_pos h]
theorem dg2 {v : Nat} (h : v < 100) : sb_dg v ≤ 2 := by unfold sb_dg; rw [if_pos h]; split <;> omega
theorem ap_rec {p : Program} {c : Code} {cc : ByteArray} {s : State} {m : MethodId} {args : Array Value} {meth : Method} {own : String} {g : kG} {nL : Nat} {ret : Option FieldType} {H : Heap} {o k : Nat} {wr cs : List va_W} (C : kC p c cc s m args meth own g nL ret) (hP : kp g (wr ++ cs) H) (hB : kSB g o k cs) : ∃ cell : Cell, H[o]? = some cell ∧ cell.vm.isStatics = false ∧ s.vm.findClass "java/lang/StringBuilder" = some cell.cls := by
  obtain ⟨q, n, ml, f, t, rfl, -⟩ := hB
  exact k_recv C kFJ4 (kp_app.mp hP).2 (i := 0) (q := 0) rfl rfl
/-- what a change leaves -/
def kDone (g : kG) (oF : Nat) (F : Nat → Int32) (C S : kK) (h : List kK) (ln : kTx) (D : Nat) (b : Bool) (u : List va_W) : Prop := ∃ (E : kK) (h1 : List kK) (R1 : Nat → Int32) (T1 : kK) (F1 : Nat → Int32), T1.1 1 = 0 ∧ F1 2 = F 2 ∧ ((b = false ∧ E = C ∧ h1 = h) ∨ (b = true ∧ kRg (D + 6200) E ∧ h1 = kPush C h)) ∧ kOb g oF F1 E S h1 R1 T1 ln u
theorem ch_done {g : kG} {oF : Nat} {F : Nat → Int32} {C S : kK} {h : List kK} {R : Nat → Int32} {T : kK} {ln : kTx} {a p1 p2 p3 x : Int32} {u : List va_W} {D : Nat} (hD : D ≤ 700000) (hT : T.1 1 = 0) (hC : kRg D C) (hp : kChg g oF F C S h R T ln a p1 p2 p3 x u) : (x < 0 ∧ kDone g oF F C S h ln D false u) ∨ (¬ x < 0 ∧ kDone g oF F C S h ln D true u) := by
  obtain ⟨R1, -, ⟨-, hx, hO⟩ | ⟨hap, E, hE, hx, hO⟩⟩ := hp
  · exact Or.inl ⟨by rw [hx]; decide, C, h, R1, T, F, hT, rfl, Or.inl ⟨rfl, rfl, rfl⟩, hO⟩
  · have hSt := kStep_ok (by omega) (R := R) hC hap
    refine Or.inr ⟨by rw [hx]; exact hSt.1.nn (by omega), kN E, _, R1, T, F, hT, rfl, Or.inr ⟨rfl, ?_, rfl⟩, hO⟩
    rw [hE]
    exact kRg_N (hSt.2.mono (by omega))
theorem ch_cmd {g : kG} {oF : Nat} {F : Nat → Int32} {C S : kK} {h : List kK} {R : Nat → Int32} {T : kK} {ln : kTx} {x : Int32} {u : List va_W} {D : Nat} (hD : D ≤ 700000) (hC : kRg D C) (hp : kCmd g oF F C S h R T ln x u) : (x < 0 ∧ kDone g oF F C S h ln D false u) ∨ (¬ x < 0 ∧ kDone g oF F C S h ln D true u) := by
  obtain ⟨T', hT', ⟨-, hx, hO⟩ | ⟨-, -, hx, hO⟩ | ⟨n, h1, h60, -, -, hx, -, hO⟩⟩ := hp
  · exact Or.inl ⟨by rw [hx]; decide, C, h, _, T', upd F 6 ((kCt T).2.1 2), hT', rfl, Or.inl ⟨rfl, rfl, rfl⟩, hO⟩
  · exact Or.inl ⟨by rw [hx]; decide, C, h, _, T', upd F 6 (-1), hT', rfl, Or.inl ⟨rfl, rfl, rfl⟩, hO⟩
  · exact Or.inr ⟨by rw [hx]; exact nI_pos (by omega), _, _, _, T', upd F 6 (-1), hT', rfl, Or.inr ⟨rfl, kRg_N ((kRunC_rg (by omega) hC).mono (by omega)), rfl⟩, hO⟩
