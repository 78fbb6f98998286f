/-! the law: literals for a Caravan, the object just made, saved -/
def kLt (vs : List Int32) (as : List (List Int32)) : kK := kN (fun i => vs.getD i 0, fun s j => (as.getD s []).getD j 0)
abbrev kEq (c d : kK) : Prop := (∀ i, i < 19 → c.1 i = d.1 i) ∧ ∀ s, s < 15 → ∀ j, j < 8 → c.2 s j = d.2 s j
theorem kEq_ic {c d : kK} (h : kEq c d) (hc : kIC c.1) : kIC d.1 := by
  obtain ⟨⟨n, h1, h2⟩, ⟨m, h3, h4⟩, h5⟩ := hc
  exact ⟨⟨n, h1, (h.1 7 (by decide)).symm.trans h2⟩, ⟨m, h3, (h.1 4 (by decide)).symm.trans h4⟩, by rw [← h.1 1 (by decide)]; exact h5⟩
/-- the chunks of a Caravan depend on what lies in it alone -/
theorem kX0_cg {g : kG} {o : Nat} {r : Nat → Nat} {c d : kK} (h : kEq c d) {H : Heap} (hP : ∀ q ∈ X0W g o r c.1 c.2, va_at g.1 vwCl q H) : ∀ q ∈ X0W g o r d.1 d.2, va_at g.1 vwCl q H := by
  have hf : X0F r d.1 = X0F r c.1 := by
    unfold X0F
    rw [h.1 0 (by decide), h.1 1 (by decide), h.1 2 (by decide), h.1 3 (by decide), h.1 4 (by decide), h.1 7 (by decide), h.1 15 (by decide), h.1 16 (by decide), h.1 17 (by decide), h.1 18 (by decide)]
  have ar : ∀ s n, s < 15 → n ≤ 8 → va_at g.1 vwCl (r s, .inl (g.2.1 2, n, .inl (c.2 s))) H → va_at g.1 vwCl (r s, .inl (g.2.1 2, n, .inl (d.2 s))) H := by
    intro s n hs hn ha
    have ha : H[r s]? = some (vp_cell (g.2.1 2) (n, .inl (c.2 s))) := ha
    show H[r s]? = some (vp_cell (g.2.1 2) (n, .inl (d.2 s)))
    rw [ha, k_cellcg (fun j hj => h.2 s hs j (by omega))]
  intro q hq
  simp only [X0W, List.mem_cons, List.not_mem_nil, or_false] at hq hP
  rcases hq with rfl | rfl | rfl | rfl | rfl | rfl | rfl | rfl | rfl | rfl
  · rw [hf]; exact hP _ (Or.inl rfl)
  · exact ar 5 6 (by decide) (by decide) (hP _ (by simp))
  · exact ar 6 6 (by decide) (by decide) (hP _ (by simp))
  · exact ar 8 6 (by decide) (by decide) (hP _ (by simp))
  · exact ar 9 6 (by decide) (by decide) (hP _ (by simp))
  · exact ar 10 6 (by decide) (by decide) (hP _ (by simp))
  · exact ar 11 6 (by decide) (by decide) (hP _ (by simp))
  · exact ar 12 6 (by decide) (by decide) (hP _ (by simp))
  · exact ar 13 8 (by decide) (by decide) (hP _ (by simp))
  · exact ar 14 4 (by decide) (by decide) (hP _ (by simp))
theorem kd_cg {A : Nat → Prop} {a b : List va_W} (h : b.flatten.map (·.1) = a.flatten.map (·.1)) (hD : kd A a) : kd A b := by
  have hD : va_D A a.flatten := hD
  show va_D A b.flatten
  rw [kd_w] at hD ⊢
  refine ⟨?_, fun q hq => ?_⟩
  · have h1 : (a.flatten.map (·.1)).Pairwise (· ≠ ·) := List.pairwise_map.mpr hD.1
    rw [← h] at h1
    show b.flatten.Pairwise (fun p q => p.1 ≠ q.1)
    exact List.pairwise_map.mp h1
  · have : q.1 ∈ a.flatten.map (·.1) := by rw [← h]; exact List.mem_map_of_mem hq
    obtain ⟨z, hz, e⟩ := List.mem_map.mp this
    rw [← e]
    exact hD.2 z hz
theorem kOb_cg {g : kG} {oF : Nat} {F : Nat → Int32} {E C S : kK} {h : List kK} {R : Nat → Int32} {T : kK} {ln : kTx} {u : List va_W} {A : Nat → Prop} {H : Heap} (hO : kOb g oF F E S h R T ln u) (hP : kp g u H) (hD : kd A u) (he : kEq E C) (hN : kN C = C) : ∃ u', kOb g oF F C S h R T ln u' ∧ kp g u' H ∧ kd A u' := by
  obtain ⟨oC, oS, oH, oR, oT, oB, rC, rS, rH, rR, rT, oQ, rQ, vH, aH, q, n, ml, f, rfl, h1, h2, h3⟩ := hO
  refine ⟨_, ⟨oC, oS, oH, oR, oT, oB, rC, rS, rH, rR, rT, oQ, rQ, vH, aH, q, n, ml, f, rfl, h1, h2, kEq_ic he h3.1, h3.2.1, h3.2.2.1, h3.2.2.2.1, hN⟩, ?_, ?_⟩
  · rw [kp_iff] at hP ⊢
    intro ch hch
    rcases List.mem_cons.mp hch with rfl | hch
    · exact hP _ (by simp)
    rcases List.mem_cons.mp hch with rfl | hch
    · exact kX0_cg he (hP _ (by simp))
    · exact hP ch (List.mem_cons_of_mem _ (List.mem_cons_of_mem _ hch))
  · refine kd_cg ?_ hD
    rw [List.flatten_cons, List.flatten_cons, List.flatten_cons, List.flatten_cons, List.map_append, List.map_append, List.map_append, List.map_append]
    rfl
theorem kPush_len (C : kK) (h : List kK) : (kPush C h).length = min 8 (h.length + 1) := by
  unfold kPush
  rw [List.length_take, List.length_cons]
/-- a change carried out, between literals -/
theorem e_ch {g : kG} {oF : Nat} {F : Nat → Int32} {C C' S : kK} {h : List kK} {R : Nat → Int32} {T : kK} {ln : kTx} {a p1 p2 p3 x x0 : Int32} {u : List va_W} {A : Nat → Prop} {H : Heap} (hap : ∀ R, (kAp C R a p1 p2 p3).1 = false) (hs : (kCo C a p1 p2 p3).1 = x0 ∧ kEq (kN (kCo C a p1 p2 p3).2) C') (hN : kN C' = C') (hp : kChg g oF F C S h R T ln a p1 p2 p3 x u) (hP : kp g u H) (hD : kd A u) :
    x = x0 ∧ ∃ (h1 : List kK) (R1 : Nat → Int32) (u' : List va_W), h1.length = min 8 (h.length + 1) ∧ kOb g oF F C' S h1 R1 T ln u' ∧ kp g u' H ∧ kd A u' := by
  obtain ⟨E, R1, hE, hx, hO⟩ := mk_done (hap R) hp
  obtain ⟨u', h1, h2, h3⟩ := kOb_cg hO hP hD (by rw [hE]; exact hs.2) hN
  exact ⟨hx.trans hs.1, _, R1, u', kPush_len C h, h1, h2, h3⟩
theorem kHi_0 {vH : Nat → Int32} {aH : Nat → kK} (h1 : vH 1 = 0) (h2 : vH 2 = 0) : kHi vH aH [] := ⟨0, by omega, h1, by simp, h2, fun i c hc => by simp at hc⟩
def kC0 : kK := kLt [0, 0, 20] [[], [], [], [], [], [], [], [], [], [], [], [], [], [], [-1, -1, -1, -1]]
theorem kC0_eq : kN (X0i_v, X0i_a) = kC0 := by
  refine Prod.ext rfl (funext fun s => ?_)
  show (kN (X0i_v, X0i_a)).2 s = kC0.2 s
  unfold kC0 kLt kN X0_copyFrom_f va_up
  dsimp only
  repeat' split
  all_goals first | rfl | (funext j; match j with | 0 => rfl | 1 => rfl | 2 => rfl | 3 => rfl | n + 4 => rfl)
theorem kOb_init {g : kG} {oF : Nat} {u : List va_W} (h : kX4i g oF u) : kOb g oF X4i_v kC0 kC0 [] (fun _ => 0) (fun _ => 0, fun _ _ => 0) (fun _ => 0, 0) u := by
  obtain ⟨oC, oS, oH, oR, oT, oB, rC, rS, rH, oQ, rQ, rT, qB, rfl⟩ := h
  refine ⟨oC, oS, oH, oR, oT, oB, rC, rS, rH, fun _ => 0, rT, oQ, rQ, fun _ => 0, fun _ => (X0i_v, X0i_a), qB, 16, 0, fun _ => 0, ?_, ⟨Or.inl rfl, by omega, fun _ => rfl, fun j hj => absurd hj (by omega)⟩, kHi_0 rfl rfl, ⟨⟨0, by omega, rfl⟩, ⟨0, by omega, rfl⟩, vp_in_nI (n := 0) (by omega) (by omega)⟩, ⟨⟨0, by omega, rfl⟩, ⟨0, by omega, rfl⟩, vp_in_nI (n := 0) (by omega) (by omega)⟩, fun c hc => absurd hc List.not_mem_nil, ⟨0, by omega, rfl⟩, ?_⟩
  · rw [← kC0_eq, kN_W, kN_W]; rfl
  · rw [← kC0_eq, kN_N]
/-- saved -/
theorem kOb_save {g : kG} {oF : Nat} {F : Nat → Int32} {C S : kK} {h : List kK} {R : Nat → Int32} {T : kK} {ln : kTx} {oC oS oH oR oT oB : Nat} {rC rS rH rR rT : Nat → Nat} {oQ : Nat → Nat} {rQ : Nat → Nat → Nat} {vH : Nat → Int32} {aH : Nat → kK} {q n : Nat} {ml : Int32} {f : Nat → Int32} (h1 : (n = 16 ∨ n = 34) ∧ ln.2 ≤ n ∧ sb_Fit f ∧ sb_Lat ln.1 ln.2 f) (h2 : kHi vH aH h) (h3 : kIv C S h T) :
    kOb g oF (upd F 2 1) C C h R T ln [X4W g oF (kFr oC oS oH oR oT oB) (X4_save_f F C.1 C.2 S.1 S.2).2.1, X0W g oC rC C.1 C.2, X0W g oS rS (X4_save_f F C.1 C.2 S.1 S.2).2.2.1 (X4_save_f F C.1 C.2 S.1 S.2).2.2.2, X2W g oH rH vH oQ rQ aH, X3W g oR rR R kA0, X1W g oT rT T.1 T.2, JOW oB q ml (nI ln.2), JAW g q n f] := by
  refine ⟨oC, oS, oH, oR, oT, oB, rC, rS, rH, rR, rT, oQ, rQ, vH, aH, q, n, ml, f, ?_, h1, h2, h3.save⟩
  have e : X0W g oS rS (X4_save_f F C.1 C.2 S.1 S.2).2.2.1 (X4_save_f F C.1 C.2 S.1 S.2).2.2.2 = X0W g oS rS C.1 C.2 := by
    have : kN (X0_copyFrom_f C.1 C.2 S.1 S.2) = C := (kN_cp C S).trans h3.2.2.2.2
    rw [← this, kN_W]
    rfl
  rw [e]
  rfl
/-! what refuses does not depend on what was refused before -/
theorem r_mi (R A p n) : (X3_ofMissing_f R A p n).1 = !p := by unfold X3_ofMissing_f; cases p <;> rfl
theorem r_os (v a R A p q) : (X3_ofOtherSpice_f v a R A p q).1 = !decide (a 10 p.toNatClampNeg = a 5 q.toNatClampNeg) := by
  unfold X3_ofOtherSpice_f
  by_cases c : a 10 p.toNatClampNeg = a 5 q.toNatClampNeg
  · rw [if_pos c, decide_eq_true c]; rfl
  · rw [if_neg c, decide_eq_false c]; rfl
theorem r_oh (v a R A) : (X3_ofOathHere_f v a R A).1 = X0_isOathInForce_f v a (v 1) := by
  unfold X3_ofOathHere_f X3_keepIf_f
  cases h : X0_isOathInForce_f v a (v 1) <;> rfl
theorem kAp_R (C : kK) (R : Nat → Int32) (a p1 p2 p3 : Int32) : (kAp C R a p1 p2 p3).1 = (kAp C kF0 a p1 p2 p3).1 := by
  show (X3_applies_f C.1 C.2 R kA0 a p1 p2 p3).1 = (X3_applies_f C.1 C.2 kF0 kA0 a p1 p2 p3).1
  unfold X3_applies_f X3_ofBag_f X3_ofJar_f X3_ofEmptying_f X3_ofFilling_f X3_ofGoing_f X3_ofOath_f X3_ofSelling_f X3_ofThumb_f X3_ofSealing_f
  simp only [r_mi, r_os, r_oh, apply_ite Prod.fst]
