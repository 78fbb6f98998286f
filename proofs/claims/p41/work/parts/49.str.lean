/-! methods under X that answer nothing or a reference; calls in a world that ends with the callee's -/
def kLv (X : kXt) (l : Launch) (y : MethodName) (ws : List Cond) (f lo mc ms : Nat) (g : kG) (av : List Value) (cs : List va_W) (post : List va_W → Prop) : Prop := kLg X l y ws f lo mc ms g av cs (kQv g post)
def kLa (X : kXt) (l : Launch) (y : MethodName) (ws : List Cond) (f lo mc ms : Nat) (g : kG) (av : List Value) (cs : List va_W) (post : Nat → List va_W → Prop) : Prop := kLg X l y ws f lo mc ms g av cs (kQa g post)
section STRR
variable {p : Program} {l : Launch} {e : Env} {R : Room} {s : State} {m : MethodId} {args : Array Value} {below : List Frame} {meth : Method} {c : Code} {H : Heap} {locs : List Loc} {cells slots : Nat} {Q : State → Prop}
variable {cc : ByteArray} {pc nL : Nat} {ls : Array Slot} {st rest : List Value} {A : Nat → Prop} {H0 : Heap} {g : kG} {cs : List va_W} {own : String} {ret : Option FieldType} {X : kXt}
theorem kL_backv {wc wr : List va_W} {post : List va_W → Prop} {av : Array Value} {mc ms : Nat} (hr : va_Run p l e R s m args below meth c H locs cells slots mc ms (F0 m pc ls st) rest (kQv g post (va_A wc.flatten H.size) av) (va_A wc.flatten H.size))
    (hS : va_S A s.heap H locs) (hA : ∀ q, s.heap.size ≤ q → A q) (hP : kp g (wr ++ wc) H) (hD : kd A (wr ++ wc))
    (kk : ∀ (u : List va_W) (H1 : Heap) (locs1 : List Loc), post u → kp g (wr ++ u) H1 → kd A (wr ++ u) → va_S A s.heap H1 locs1 → W p l e R s m args below meth c H1 locs1 (cells + mc) (slots + ms) Q (F0 m (pc + 3) ls rest)) : W p l e R s m args below meth c H locs cells slots Q (F0 m pc ls st) := by
  have hF := k_freeA hD hS hA
  refine va_callv hr hS (fun q _ h => hF q h) hF (fun u t H1 locs ht hvm hw hB hz1 hk1 hS => ?_)
  obtain ⟨hP1, hD1⟩ := hB
  rw [ht] at hP1
  obtain ⟨hP2, hD2⟩ := k_joinA hP hD hk1 hF hP1 hD1
  exact kk u H1 locs hw hP2 hD2 hS
theorem kL_backa {wc wr : List va_W} {post : Nat → List va_W → Prop} {av : Array Value} {mc ms : Nat} (hr : va_Run p l e R s m args below meth c H locs cells slots mc ms (F0 m pc ls st) rest (kQa g post (va_A wc.flatten H.size) av) (va_A wc.flatten H.size))
    (hS : va_S A s.heap H locs) (hA : ∀ q, s.heap.size ≤ q → A q) (hP : kp g (wr ++ wc) H) (hD : kd A (wr ++ wc))
    (kk : ∀ (a : Nat) (u : List va_W) (H1 : Heap) (locs1 : List Loc), post a u → kp g (wr ++ u) H1 → kd A (wr ++ u) → va_S A s.heap H1 locs1 → W p l e R s m args below meth c H1 locs1 (cells + mc) (slots + ms) Q (F0 m (pc + 3) ls (.ref a :: rest))) : W p l e R s m args below meth c H locs cells slots Q (F0 m pc ls st) := by
  have hF := k_freeA hD hS hA
  refine va_callr hr hS (fun q _ h => hF q h) hF (fun u ra t H1 locs ht hvm hw hB hz1 hk1 hS => ?_)
  obtain ⟨hq, hP1, hD1⟩ := hB
  subst hq
  rw [ht] at hP1
  obtain ⟨hP2, hD2⟩ := k_joinA hP hD hk1 hF hP1 hD1
  exact kk u.1 u.2 H1 locs hw hP2 hD2 hS
theorem kM_preA {wr wc : List va_W} {av : List Value} (hE : kE g A s s.heap) (hS : va_S A s.heap H locs) (hA : ∀ q, s.heap.size ≤ q → A q) (hP : kp g (wr ++ wc) H) (hD : kd A (wr ++ wc)) : ∀ U : State, U.heap = H → s.WarmedH U.vm → kPre g av wc H.size av.toArray U :=
  fun U hU hW => ⟨rfl, by rw [hU], by rw [hU]; exact (kp_app.mp hP).2, ((kd_app.mp hD).2.1).weaken (fun _ _ => trivial), hE.call hS (k_freeA hD hS hA) hU hW⟩
/-- a text's bytes into an array -/
theorem ks_copy (C : kC p c cc s m args meth own g nL ret) (hsz : ls.size = nL) {index : Nat} (h1 : Cond.methodLink own index arraycopyName ∈ kW) (h2 : Cond.native arraycopyName ∈ kW) (h3 : Cond.static arraycopyName ∈ kW) (h4 : Cond.initialized "java/lang/System" ∈ kW)
    {a v n : Nat} {bs : List Int32} (hX : kStr a v n bs A s s.heap) (hP : kp g cs H) (hD : kd A cs) (hS : va_S A s.heap H locs) {i1 q1 a1 n1 k : Nat} {ch1 ch' : va_W} {f1 : Nat → Int32} {cs' : List va_W} (hc1 : cs[i1]? = some ch1) (he1 : ch1[q1]? = some (a1, .inl (g.2.1 0, n1, .inl f1))) (hf : ∀ i, i < n → fits .byte (.int (bs.getD i 0)) = true) (hk : k < 2 ^ 30) (hn : n < 2 ^ 30) (hk1 : k + n ≤ n1)
    (hst : ch1.set q1 (a1, .inl (g.2.1 0, n1, .inl (va_cpy (fun j => bs.getD j 0) f1 0 k n))) = ch') (hcs : cs.set i1 ch' = cs') (hfr : 1 ≤ R.frames) (hlo : (rest.map fun v => v.category).sum + (nativeFrameWords "java/lang/System" "arraycopy" 5 + 11) ≤ R.locals) (d : decode cc pc = .ok (.invokestatic index, 3))
    (kk : ∀ (H1 : Heap) (locs1 : List Loc), kp g cs' H1 → kd A cs' → va_S A s.heap H1 locs1 → W p l e R s m args below meth c H1 locs1 cells slots Q (F0 m (pc + 3) ls rest)) : W p l e R s m args below meth c H locs cells slots Q (F0 m pc ls (.int (nI n) :: .int (nI k) :: .ref a1 :: .int 0 :: .ref v :: rest)) := by
  obtain ⟨k1, g1, g2⟩ := k_loc hc1 he1
  subst hst; subst hcs
  have hts := C.1.2.2.2.2
  have z0 : (0 : Int32).toNatClampNeg = 0 := rfl
  refine vk_copyt C.1.1 C.1.2.1 (by rw [C.1.2.2.1, hsz]) C.1.2.2.2.1 (hts _ h1) (hts _ h2) (hts _ h3) (hts _ h4) C.2.1.1 hP hD hS (hX.1 0 (by decide)).2.2.2 k1 0 g1 rfl (by decide) (nI_pos (by omega)) (nI_pos (by omega)) (by rw [z0, nI_clamp (by omega)]; exact Nat.le_of_eq (Nat.zero_add n)) (by rw [nI_clamp (by omega), nI_clamp (by omega)]; exact hk1) (fun i hi => by rw [nI_clamp (by omega)] at hi; rw [z0, Nat.zero_add]; exact hf i hi) hfr hlo d (fun H1 locs1 hP1 hD1 hS1 => ?_)
  rw [z0, nI_clamp (by omega), nI_clamp (by omega), g2] at hP1 hD1
  exact kk H1 locs1 hP1 hD1 hS1
/-- a virtual call whose method the receiver's class overrides, that only reads -/
theorem kR_VO (C : kC p c cc s m args meth own g nL ret) {x y : MethodName} {ws : List Cond} {Cn owner : String} {index b f lo maxL n : Nat} {bytes : ByteArray} {r2 : Option FieldType} {As : List Value} {wc : List va_W} {v : Int32} (hM : kR l y ws f lo g (.ref b :: As) wc v)
    (cw : va_CU R s args own Cn owner index x y bytes maxL r2 ws (kRm f 0 0 lo) 0 0 n) (hE : kE g A s s.heap) (hS : va_S A s.heap H locs) (hPc : kp g wc H) (hrc : ∃ cell : Cell, H[b]? = some cell ∧ cell.vm.isStatics = false ∧ s.vm.findClass Cn = some cell.cls)
    (hn : As.length = n) (hsz : ls.size = nL) (hst : st = As.reverse ++ .ref b :: rest) (hW : kSt rest) (d : decode cc pc = .ok (.invokevirtual index, 3)) (hf : cells ≤ R.cells ∧ slots ≤ R.slots)
    (kk : W p l e R s m args below meth c H locs cells slots Q (F0 m (pc + 3) ls (.int v :: rest))) : W p l e R s m args below meth c H locs cells slots Q (F0 m pc ls st) := by
  refine kR_back (y := y) (ws := ws) (f := f) (lo := lo) (av := .ref b :: As) (wc := wc) (y2 := y) (va_runU (As := As) (rest := rest) C.1 hM cw ⟨kR_blind, hrc, fun U hU hW => ⟨rfl, by rw [hU]; exact hPc, hE.call hS (fun _ q => q.elim) hU hW⟩⟩ rfl hn hsz hst (lv_room (Nat.le_of_ble_eq_true hW)) d hf) kk
theorem k_gO {own C owner : String} {idx : Nat} {x y : MethodName} {code : Cond} (h1 : Cond.methodLink own idx x ∈ kW) (h6 : Cond.sameMethod x.cls owner x.name x.desc ∈ kW) (h7 : Cond.instanceMethod ⟨owner, x.name, x.desc⟩ ∈ kW) (h2 : Cond.selects C x y ∈ kW) (h3 : Cond.instanceMethod y ∈ kW) (h4 : Cond.initialized y.cls ∈ kW) (h5 : code ∈ kW) : GoodIn kW (va_wsO own idx C owner x y (code :: kW)) := k_gl fun w hw => by
  unfold va_wsO at hw
  simp only [List.cons_append, List.nil_append, List.mem_cons] at hw
  rcases hw with rfl | rfl | rfl | rfl | rfl | rfl | rfl | hw
  · exact h1
  · exact h6
  · exact h7
  · exact h2
  · exact h3
  · exact h4
  · exact h5
  · exact hw
theorem kChr_nar (b : Int32) : narrow .char (.int (kChr b)) = .int (kChr b) := by
  unfold kChr
  rw [sc_c2]
  exact sc_nar _
end STRR

theorem js_coder (l : Launch) (g : kG) (a v n : Nat) (bs : List Int32) : kRX (kStr a v n bs) l yJ0_coder_7d493 wJ0_coder_7d493 0 0 g [.ref a] [] 0 := by
  refine kRX_of (cc := cJ0_coder_7d493) (nL := 1) (ret := (some .byte)) (lv := [(0, .ref a)]) (by decide) rfl (Nat.le_of_ble_eq_true rfl) rfl ?_
  intro p e s m args below meth c ls hX C hP hE hl
  have hS : va_S (fun _ => False) s.heap s.heap [] := va_S.rf
  have C : kC p c cJ0_coder_7d493 s m args meth RJ0 g 1 (some .byte) := C
  have hx := C.1.1
  have hb := C.1.2.1
  have hts := C.1.2.2.2.2
  refine kg_compact C rfl hE hS kw904 dJ0_coder_7d493_0 ?_
  refine lv_if_eq (tgt := 13) hx hb dJ0_coder_7d493_3 (by decide) (fun z => absurd z (by decide)) (fun _ => ?_)
  refine lv_aload_n hx hb dJ0_coder_7d493_6 rfl (lv_at hl 0 rfl) ?_
  refine ks_cod C hX hS kw1227 dJ0_coder_7d493_7 ?_
  refine lv_goto (tgt := 14) hx hb dJ0_coder_7d493_10 (by decide) ?_
  exact kR_zret C rfl rfl dJ0_coder_7d493_14
theorem js_lat (l : Launch) (g : kG) (a v n : Nat) (bs : List Int32) : kRX (kStr a v n bs) l yJ0_isLatin1_aae02 wJ0_isLatin1_aae02 0 0 g [.ref a] [] 1 := by
  refine kRX_of (cc := cJ0_isLatin1_aae02) (nL := 1) (ret := (some .boolean)) (lv := [(0, .ref a)]) (by decide) rfl (Nat.le_of_ble_eq_true rfl) rfl ?_
  intro p e s m args below meth c ls hX C hP hE hl
  have hS : va_S (fun _ => False) s.heap s.heap [] := va_S.rf
  have C : kC p c cJ0_isLatin1_aae02 s m args meth RJ0 g 1 (some .boolean) := C
  have hx := C.1.1
  have hb := C.1.2.1
  have hts := C.1.2.2.2.2
  refine kg_compact C rfl hE hS kw904 dJ0_isLatin1_aae02_0 ?_
  refine lv_if_eq (tgt := 17) hx hb dJ0_isLatin1_aae02_3 (by decide) (fun z => absurd z (by decide)) (fun _ => ?_)
  refine lv_aload_n hx hb dJ0_isLatin1_aae02_6 rfl (lv_at hl 0 rfl) ?_
  refine ks_cod C hX hS kw1227 dJ0_isLatin1_aae02_7 ?_
  refine lv_if_ne (tgt := 17) hx hb dJ0_isLatin1_aae02_10 (by decide) (fun z => absurd rfl z) (fun _ => ?_)
  refine lv_iconst (v := 1) hx hb dJ0_isLatin1_aae02_13 (by decide) ?_
  refine lv_goto (tgt := 18) hx hb dJ0_isLatin1_aae02_14 (by decide) ?_
  exact kR_zret C rfl rfl dJ0_isLatin1_aae02_18
theorem js_len (l : Launch) (g : kG) (a v n : Nat) (bs : List Int32) : kRX (kStr a v n bs) l yJ0_length_8abf5 wJ0_length_8abf5 1 20 g [.ref a] [] (nI n) := by
  refine kRX_of (cc := cJ0_length_8abf5) (nL := 1) (ret := (some .int)) (lv := [(0, .ref a)]) (by decide) rfl (Nat.le_of_ble_eq_true rfl) rfl ?_
  intro p e s m args below meth c ls hX C hP hE hl
  have hS : va_S (fun _ => False) s.heap s.heap [] := va_S.rf
  have C : kC p c cJ0_length_8abf5 s m args meth RJ0 g 1 (some .int) := C
  have hx := C.1.1
  have hb := C.1.2.1
  have hts := C.1.2.2.2.2
  refine lv_aload_n hx hb dJ0_length_8abf5_0 rfl (lv_at hl 0 rfl) ?_
  refine ks_val C hX hS kw1226 dJ0_length_8abf5_1 ?_
  refine ks_len C hX hS dJ0_length_8abf5_4 ?_
  refine lv_aload_n hx hb dJ0_length_8abf5_5 rfl (lv_at hl 0 rfl) ?_
  refine kRX_V (As := []) (rest := [.int (nI n)]) C kStr_s hX (js_coder l g a v n bs) (cwV 0 hts (k_gV kw900 ca_J0_coder_7d493) rfl rfl rfl ⟨rfl, pnJ0_coder_7d493⟩ ⟨Nat.le_of_ble_eq_true rfl, Nat.le_of_ble_eq_true rfl⟩) hE hS (hP.pick [] rfl) (ks_recv hX hS) rfl hl.1 rfl rfl dJ0_length_8abf5_6 ⟨Nat.le_of_ble_eq_true rfl, Nat.le_of_ble_eq_true rfl⟩ ?_
  refine lv_ishr hx hb dJ0_length_8abf5_9 ?_
  exact kR_ret C (sb_shr0 (nI n)) dJ0_length_8abf5_10
theorem js_chv (l : Launch) (g : kG) (a v n : Nat) (bs : List Int32) (hn : n < 2 ^ 30) (i : Nat) (hi : i < n) : kRX (kStr a v n bs) l yJ1_charAt_3b067 wJ1_charAt_3b067 2 43 g [.ref v, .int (nI i)] [] (kChr (bs.getD i 0)) := by
  refine kRX_of (cc := cJ1_charAt_3b067) (nL := 2) (ret := (some .char)) (lv := [(0, .ref v), (1, .int (nI i))]) (by decide) rfl (Nat.le_of_ble_eq_true rfl) rfl ?_
  intro p e s m args below meth c ls hX C hP hE hl
  have hS : va_S (fun _ => False) s.heap s.heap [] := va_S.rf
  have C : kC p c cJ1_charAt_3b067 s m args meth RJ1 g 2 (some .char) := C
  have hx := C.1.1
  have hb := C.1.2.1
  have hts := C.1.2.2.2.2
  refine lv_iload_n hx hb dJ1_charAt_3b067_0 rfl (lv_at hl 1 rfl) ?_
  refine lv_aload_n hx hb dJ1_charAt_3b067_1 rfl (lv_at hl 0 rfl) ?_
  refine ks_len C hX hS dJ1_charAt_3b067_2 ?_
  refine kO_S (As := [.int (nI i), .int (nI n)]) (rest := []) C (J0_checkIndex_df160_c l g (nI i) (nI n) (nI_pos (by omega)) (nI_lt hi (by omega))) (va_cwS 2 hts (k_gS kw916 cs_J0_checkIndex_df160) rfl rfl rfl pnJ0_checkIndex_df160 ⟨Nat.le_of_ble_eq_true rfl, Nat.le_of_ble_eq_true rfl⟩) hE hS (hP.pick [] rfl) rfl hl.1 rfl rfl dJ1_charAt_3b067_3 ⟨Nat.le_of_ble_eq_true rfl, Nat.le_of_ble_eq_true rfl⟩ ?_
  refine lv_aload_n hx hb dJ1_charAt_3b067_6 rfl (lv_at hl 0 rfl) ?_
  refine lv_iload_n hx hb dJ1_charAt_3b067_7 rfl (lv_at hl 1 rfl) ?_
  refine ks_ald C hX hS (vp_in_nI hi (by omega)) dJ1_charAt_3b067_8 ?_
  rw [nI_clamp (by omega)]
  refine lv_sipush (v := 255) hx hb dJ1_charAt_3b067_9 (by decide) ?_
  refine lv_iand hx hb dJ1_charAt_3b067_12 ?_
  refine lv_i2c (v := kChr (bs.getD i 0)) hx hb dJ1_charAt_3b067_13 rfl ?_
  exact kR_zret C (kChr_nar _) rfl dJ1_charAt_3b067_14
theorem js_ch (l : Launch) (g : kG) (a v n : Nat) (bs : List Int32) (hn : n < 2 ^ 30) (i : Nat) (hi : i < n) : kRX (kStr a v n bs) l yJ0_charAt_5068e wJ0_charAt_5068e 3 64 g [.ref a, .int (nI i)] [] (kChr (bs.getD i 0)) := by
  refine kRX_of (cc := cJ0_charAt_5068e) (nL := 2) (ret := (some .char)) (lv := [(0, .ref a), (1, .int (nI i))]) (by decide) rfl (Nat.le_of_ble_eq_true rfl) rfl ?_
  intro p e s m args below meth c ls hX C hP hE hl
  have hS : va_S (fun _ => False) s.heap s.heap [] := va_S.rf
  have C : kC p c cJ0_charAt_5068e s m args meth RJ0 g 2 (some .char) := C
  have hx := C.1.1
  have hb := C.1.2.1
  have hts := C.1.2.2.2.2
  refine lv_aload_n hx hb dJ0_charAt_5068e_0 rfl (lv_at hl 0 rfl) ?_
  refine kRX_V (As := []) (rest := []) C kStr_s hX (js_lat l g a v n bs) (cwV 0 hts (k_gV kw909 ca_J0_isLatin1_aae02) rfl rfl rfl ⟨rfl, pnJ0_isLatin1_aae02⟩ ⟨Nat.le_of_ble_eq_true rfl, Nat.le_of_ble_eq_true rfl⟩) hE hS (hP.pick [] rfl) (ks_recv hX hS) rfl hl.1 rfl rfl dJ0_charAt_5068e_1 ⟨Nat.le_of_ble_eq_true rfl, Nat.le_of_ble_eq_true rfl⟩ ?_
  refine lv_if_eq (tgt := 16) hx hb dJ0_charAt_5068e_4 (by decide) (fun z => absurd z (by decide)) (fun _ => ?_)
  refine lv_aload_n hx hb dJ0_charAt_5068e_7 rfl (lv_at hl 0 rfl) ?_
  refine ks_val C hX hS kw1226 dJ0_charAt_5068e_8 ?_
  refine lv_iload_n hx hb dJ0_charAt_5068e_11 rfl (lv_at hl 1 rfl) ?_
  refine kRX_S (As := [.ref v, .int (nI i)]) (rest := []) C kStr_s hX (js_chv l g a v n bs hn i hi) (va_cwS 2 hts (k_gS kw913 cs_J1_charAt_3b067) rfl rfl rfl pnJ1_charAt_3b067 ⟨Nat.le_of_ble_eq_true rfl, Nat.le_of_ble_eq_true rfl⟩) hE hS (hP.pick [] rfl) rfl hl.1 rfl rfl dJ0_charAt_5068e_12 ⟨Nat.le_of_ble_eq_true rfl, Nat.le_of_ble_eq_true rfl⟩ ?_
  exact kR_zret C (kChr_nar _) rfl dJ0_charAt_5068e_15
