/-! the law's end, its array, what it knows of the changes -/
theorem law_end {p : Program} {l : Launch} {e : Env} {s : State} {m : MethodId} {below : List Frame} {meth : Method} {c : Code} {b : Nat} {g : kG} {A : Nat → Prop} {H : Heap} {locs : List Loc} {cells slots : Nat} {ls : Array Slot} (hAe : A = kAh s) (K : kC p c code s m #[Value.ref b] meth RL g 11 ret) (hS : va_S A s.heap H locs) (hc : cells ≤ 1029076) (hs : slots ≤ 6003061) : W p l e room_1 s m #[Value.ref b] below meth c H locs cells slots (lw_Z below #[Value.ref b] s) (F0 m 1041 ls [.int 1]) := by
  subst hAe
  refine va_forget (fun q hq => hS.2.2 q hq) ?_
  refine W.widen (k := 1029076) (n := 6003061) hc hs ?_
  refine W.base ?_
  exact lw_ret (Drawn.sameBut.refl s.drawn lw_cs) K.1.1 K.1.2.1 K.2.2.1 K.2.2.2 dL_law_1041
def WAW (g : kG) (w : Nat) (f : Nat → Int64) : va_W := [(w, .inl (g.2.1 3, 13, .inr (.inl f)))]
/-- what the array keeps of the states before -/
def kWas (done : Nat) (h : List kK) (f : Nat → Int64) : Prop := h.length ≤ 8 ∧ min 8 done ≤ h.length ∧ ∀ j c, j < done → h[j]? = some c → f (done - 1 - j) = kAsk c
theorem kWas_0 {h : List kK} {f : Nat → Int64} (hl : h.length ≤ 8) : kWas 0 h f := ⟨hl, by omega, fun j c hj => absurd hj (by omega)⟩
theorem kWas_push {done : Nat} {C : kK} {h : List kK} {f : Nat → Int64} (hN : kN C = C) (H : kWas done h f) : kWas (done + 1) (kPush C h) (vp_updL f done (kAsk C)) := by
  obtain ⟨h1, h2, h3⟩ := H
  refine ⟨by rw [kPush_len]; omega, by rw [kPush_len]; omega, fun j c hj hc => ?_⟩
  unfold kPush at hc
  rw [List.getElem?_take] at hc
  by_cases h8 : j < 8
  · rw [if_pos h8] at hc
    cases j with
    | zero =>
      have : c = C := by rw [hN] at hc; simpa using hc.symm
      subst this
      show vp_updL f done (kAsk c) (done + 1 - 1 - 0) = _
      unfold vp_updL
      exact if_pos (by omega)
    | succ j =>
      have hc2 : h[j]? = some c := by simpa using hc
      have : vp_updL f done (kAsk C) (done + 1 - 1 - (j + 1)) = f (done - 1 - j) := by
        unfold vp_updL
        rw [if_neg (by omega)]
        congr 1
        omega
      rw [this]
      exact h3 j c (by omega) hc2
  · rw [if_neg h8] at hc; cases hc
theorem kOb_N {g : kG} {oF : Nat} {F : Nat → Int32} {C S : kK} {h : List kK} {R : Nat → Int32} {T : kK} {ln : kTx} {u : List va_W} (hO : kOb g oF F C S h R T ln u) : kN C = C ∧ h.length ≤ 8 ∧ kN S = kN S := by
  obtain ⟨oC, oS, oH, oR, oT, oB, rC, rS, rH, rR, rT, oQ, rQ, vH, aH, q, n, ml, f, -, -, h2, h3⟩ := hO
  exact ⟨h3.2.2.2.2, h2.len, rfl⟩
theorem kMin (d : Nat) (hd : d < 100) : (if nI d < 8 then nI d else 8) = nI (min 8 d) := (by decide +kernel : ∀ d, d < 100 → (if nI d < 8 then nI d else 8) = nI (min 8 d)) d hd
theorem kIn2 {a b : Nat} (h : ¬ b ≤ a) (ha : a < 2 ^ 31) (hb : b < 2 ^ 31) : nI a < nI b := (nI_ltI ha hb).mpr (by omega)
theorem kMk_0 : kMk 0 0 0 kC0 := by
  refine ⟨⟨⟨⟨0, by omega, rfl⟩, ⟨0, by omega, rfl⟩, ⟨0, by omega, rfl⟩, ⟨0, by omega, rfl⟩, ⟨0, by omega, rfl⟩⟩, fun j hj => ⟨⟨0, by omega, rfl⟩, ⟨0, by omega, rfl⟩⟩, fun j hj => ⟨⟨0, by omega, rfl⟩, ⟨0, by omega, rfl⟩, ⟨0, by omega, rfl⟩, fun z => absurd rfl z⟩, fun j hj => ⟨0, by omega, rfl⟩⟩, rfl, rfl, rfl, rfl, ?_, fun i _ hi => absurd hi (by omega)⟩
  decide +kernel
