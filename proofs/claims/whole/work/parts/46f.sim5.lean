/-! the scales -/
def kSum (f : Nat → Int32) : Nat → Int32
  | 0 => 0
  | n + 1 => kSum f n + f n
def kPt (s : Nat → Int32) (B : Nat) (j : Nat) : Int32 := if B.testBit j = true then s j else 0
theorem kSum_congr {f g : Nat → Int32} : ∀ {n : Nat}, (∀ j, j < n → f j = g j) → kSum f n = kSum g n := by
  intro n
  induction n with
  | zero => intro _; rfl
  | succ n ih =>
    intro h
    show kSum f n + f n = kSum g n + g n
    rw [ih (fun j hj => h j (Nat.lt_succ_of_lt hj)), h n (Nat.lt_succ_self n)]
theorem kSum_set {f g : Nat → Int32} {i : Nat} {x : Int32} (hi : g i = f i + x) : ∀ {n : Nat}, i < n → (∀ j, j < n → j ≠ i → g j = f j) → kSum g n = kSum f n + x := by
  intro n
  induction n with
  | zero => intro h; omega
  | succ n ih =>
    intro h hj
    show kSum g n + g n = kSum f n + f n + x
    rcases Nat.lt_or_ge i n with h1 | h1
    · rw [ih h1 (fun j h2 => hj j (Nat.lt_succ_of_lt h2)), hj n (Nat.lt_succ_self n) (by omega), Int32.add_assoc, Int32.add_assoc, Int32.add_comm x]
    · obtain rfl : i = n := by omega
      rw [kSum_congr (f := g) (g := f) (fun j h2 => hj j (Nat.lt_succ_of_lt h2) (by omega)), hi, Int32.add_assoc]
theorem k_among {B i : Nat} (hB : B < 256) (hi : i < 8) : X4_isAmong_f (nI i) (nI B) = B.testBit i := (by decide +kernel : ∀ B, B < 256 → ∀ i, i < 8 → X4_isAmong_f (nI i) (nI B) = B.testBit i) B hB i hi
theorem k_shand {B i : Nat} (hB : B < 256) (hi : i < 8) : ((nI B >>> (nI i &&& 31)) &&& 1) = if B.testBit i = true then 1 else 0 := (by decide +kernel : ∀ B, B < 256 → ∀ i, i < 8 → ((nI B >>> (nI i &&& 31)) &&& 1 : Int32) = if B.testBit i = true then 1 else 0) B hB i hi
theorem k_bit {B i : Nat} (hB : B < 256) (hi : i < 8) (h0 : B % 2 ^ (i + 1) = 0) : B + 2 ^ i < 256 ∧ (B + 2 ^ i) % 2 ^ i = 0 ∧ B % 2 ^ i = 0 ∧ B.testBit i = false ∧ nI B ||| (1 <<< (nI i &&& 31)) = nI (B + 2 ^ i) ∧ ∀ j, j < 8 → (B + 2 ^ i).testBit j = (B.testBit j || decide (j = i)) := (by decide +kernel : ∀ B, B < 256 → ∀ i, i < 8 → B % 2 ^ (i + 1) = 0 → B + 2 ^ i < 256 ∧ (B + 2 ^ i) % 2 ^ i = 0 ∧ B % 2 ^ i = 0 ∧ B.testBit i = false ∧ (nI B ||| (1 <<< (nI i &&& 31)) : Int32) = nI (B + 2 ^ i) ∧ ∀ j, j < 8 → (B + 2 ^ i).testBit j = (B.testBit j || decide (j = i))) B hB i hi h0
theorem kPt_bit {s : Nat → Int32} {B i : Nat} (hB : B < 256) (hi : i < 8) (h0 : B % 2 ^ (i + 1) = 0) : kSum (kPt s (B + 2 ^ i)) 8 = kSum (kPt s B) 8 + s i := by
  obtain ⟨-, -, -, h4, -, h6⟩ := k_bit hB hi h0
  refine kSum_set ?_ hi (fun j hj hne => ?_)
  · unfold kPt
    rw [h6 i hi, h4]
    simp
  · unfold kPt
    rw [h6 j hj]
    simp [hne]
section S5
variable {N : Nat} {vC : Nat → Int32} {aC : Nat → Nat → Int32} {vR : Nat → Int32} {aR : Nat → Nat → Int32} {vM : Nat → Int32} {aM : Nat → Nat → Int32} {p p1 p2 p3 x y : Int32}
theorem short_lp {B : Nat} (hB : B < 256) : ∀ (n j : Nat) (s : Int32), j ≤ 8 → 8 - j < n → s = kSum (kPt (fun j => X0_shortnessOf_f vC aC (nI j)) B) j → X0_shortnessTogether_lp4 vC aC (nI B) n s (nI j) = kSum (kPt (fun j => X0_shortnessOf_f vC aC (nI j)) B) 8 := by
  intro n
  induction n with
  | zero => intro j s h3 h4; omega
  | succ n ih =>
    intro j s h3 h4 hs
    show X0_shortnessTogether_lp4b vC aC (nI B) (X0_shortnessTogether_lp4 vC aC (nI B) n) s (nI j) = _
    unfold X0_shortnessTogether_lp4b
    by_cases c : (8 : Int32) ≤ nI j
    · rw [if_pos c]
      have : 8 ≤ j := (nI_leI (a := 8) (by omega) (by omega)).mp c
      obtain rfl : j = 8 := by omega
      exact hs
    · rw [if_neg c]
      have hj : j < 8 := by
        rcases Nat.lt_or_ge j 8 with h | h
        · exact h
        · exact absurd ((nI_leI (a := 8) (by omega) (by omega)).mpr h) c
      rw [k_among hB hj]
      by_cases e : B.testBit j = true
      · rw [if_pos e, nI_add1]
        refine ih (j + 1) _ hj (by omega) ?_
        rw [hs]
        exact congrArg (_ + ·) (show _ = kPt _ B j from (if_pos e).symm)
      · rw [if_neg e, nI_add1]
        refine ih (j + 1) _ hj (by omega) ?_
        rw [hs]
        show _ = _ + kPt _ B j
        rw [show kPt (fun j => X0_shortnessOf_f vC aC (nI j)) B j = 0 from if_neg e, Int32.add_zero]
theorem told_lp {B : Nat} (hB : B < 256) : ∀ (n j : Nat) (s : Int32), j ≤ 8 → 8 - j < n → s = kSum (kPt (k_tab 2) B) j → X4_toldBy_lp4 (nI B) n s (nI j) = kSum (kPt (k_tab 2) B) 8 := by
  intro n
  induction n with
  | zero => intro j s h3 h4; omega
  | succ n ih =>
    intro j s h3 h4 hs
    show X4_toldBy_lp4b (nI B) (X4_toldBy_lp4 (nI B) n) s (nI j) = _
    unfold X4_toldBy_lp4b
    by_cases c : (8 : Int32) ≤ nI j
    · rw [if_pos c]
      have : 8 ≤ j := (nI_leI (a := 8) (by omega) (by omega)).mp c
      obtain rfl : j = 8 := by omega
      exact hs
    · rw [if_neg c]
      have hj : j < 8 := by
        rcases Nat.lt_or_ge j 8 with h | h
        · exact h
        · exact absurd ((nI_leI (a := 8) (by omega) (by omega)).mpr h) c
      rw [k_among hB hj]
      by_cases e : B.testBit j = true
      · rw [if_pos e, nI_add1, nI_clamp (n := j) (by omega)]
        refine ih (j + 1) _ hj (by omega) ?_
        rw [hs]
        exact congrArg (_ + ·) (show _ = kPt _ B j from (if_pos e).symm)
      · rw [if_neg e, nI_add1]
        refine ih (j + 1) _ hj (by omega) ?_
        rw [hs]
        show _ = _ + kPt _ B j
        rw [show kPt (k_tab 2) B j = 0 from if_neg e, Int32.add_zero]
def kTo (B : Nat) : Int32 := kSum (kPt (k_tab 2) B) 8
def kSh (vC : Nat → Int32) (aC : Nat → Nat → Int32) (B : Nat) : Int32 := kSum (kPt (fun j => X0_shortnessOf_f vC aC (nI j)) B) 8
theorem told_ok {B : Nat} (hB : B < 256) : X4_toldBy_f (nI B) = kTo B := told_lp hB 9 0 0 (Nat.zero_le _) (by omega) rfl
theorem short_ok {B : Nat} (hB : B < 256) : X0_shortnessTogether_f vC aC (nI B) = kSh vC aC B := short_lp hB 9 0 0 (Nat.zero_le _) (by omega) rfl
theorem k_r1 (a b w s : Int32) : a - b + (w - s) = a + w - (b + s) := by
  rw [Int32.sub_eq_add_neg, Int32.sub_eq_add_neg, Int32.sub_eq_add_neg, Int32.neg_add, Int32.sub_eq_add_neg]
  ac_rfl
theorem k_weight (i : Nat) (h : i < 8) : X5_weight_f (nI i) = k_tab 2 i := (by decide +kernel : ∀ i, i < 8 → X5_weight_f (nI i) = k_tab 2 i) i h
theorem scales_lp (h : SimC N vC aC (aM 0)) (load : Int32) : ∀ (n r B : Nat) (S : Nat → Int32), r ≤ 8 → r < n → B < 256 → B % 2 ^ r = 0 → (∀ k, k ≠ 19 → k ≠ 20 → S k = vM k) → S 19 = nI B → S 20 = kTo B - kSh vC aC B → ∃ B', B' < 256 ∧ X0_weightsFor_lp8 vC aC load n (nI B) (S 20) (nI r - 1) = nI B' ∧ (X5_scales_lp15 vM aM load n (kTo B) (nI r - 1) S).1 = kTo B' ∧ (X5_scales_lp15 vM aM load n (kTo B) (nI r - 1) S).2 19 = nI B' ∧ (X5_scales_lp15 vM aM load n (kTo B) (nI r - 1) S).2 20 = kTo B' - kSh vC aC B' ∧ ∀ k, k ≠ 19 → k ≠ 20 → (X5_scales_lp15 vM aM load n (kTo B) (nI r - 1) S).2 k = vM k := by
  intro n
  induction n with
  | zero => intro r B S h1 h2; omega
  | succ n ih =>
    intro r B S h1 h2 hB h0 hk e19 e20
    show ∃ B', B' < 256 ∧ X0_weightsFor_lp8b vC aC load (X0_weightsFor_lp8 vC aC load n) (nI B) (S 20) (nI r - 1) = nI B' ∧ (X5_scales_lp15b vM aM load (X5_scales_lp15 vM aM load n) (kTo B) (nI r - 1) S).1 = kTo B' ∧ (X5_scales_lp15b vM aM load (X5_scales_lp15 vM aM load n) (kTo B) (nI r - 1) S).2 19 = nI B' ∧ (X5_scales_lp15b vM aM load (X5_scales_lp15 vM aM load n) (kTo B) (nI r - 1) S).2 20 = kTo B' - kSh vC aC B' ∧ ∀ k, k ≠ 19 → k ≠ 20 → (X5_scales_lp15b vM aM load (X5_scales_lp15 vM aM load n) (kTo B) (nI r - 1) S).2 k = vM k
    unfold X0_weightsFor_lp8b X5_scales_lp15b
    cases r with
    | zero =>
      rw [if_pos (by decide : (nI 0 - 1 : Int32) < 0), if_pos (by decide : (nI 0 - 1 : Int32) < 0)]
      exact ⟨B, hB, rfl, rfl, e19, e20, hk⟩
    | succ i =>
      have hi : i < 8 := by omega
      rw [nI_pred, if_neg (nI_pos (by omega)), if_neg (nI_pos (by omega)), k_weight i hi, nI_clamp (n := i) (by omega), ← sim_short (vM := S) h hi]
      obtain ⟨b1, b2, b3, b4, b5, b6⟩ := k_bit hB hi h0
      by_cases c : S 20 + (k_tab 2 i - X0_shortnessOf_f vC aC (nI i)) ≤ load
      · rw [if_pos c, if_neg (Int32.not_lt.mpr c), e19, b5]
        have t1 : kTo B + k_tab 2 i = kTo (B + 2 ^ i) := (kPt_bit hB hi h0).symm
        have t2 : kSh vC aC B + X0_shortnessOf_f vC aC (nI i) = kSh vC aC (B + 2 ^ i) := (kPt_bit (s := fun j => X0_shortnessOf_f vC aC (nI j)) hB hi h0).symm
        have t3 : S 20 + (k_tab 2 i - X0_shortnessOf_f vC aC (nI i)) = kTo (B + 2 ^ i) - kSh vC aC (B + 2 ^ i) := by rw [e20, k_r1, t1, t2]
        rw [t1, t3, ← Int32.sub_eq_add_neg]
        refine ih i (B + 2 ^ i) (upd (upd S 20 (kTo (B + 2 ^ i) - kSh vC aC (B + 2 ^ i))) 19 (nI (B + 2 ^ i))) (by omega) (by omega) b1 b2 ?_ pk_us ?_
        · intro k k1 k2
          rw [pk_un k1, pk_un k2]
          exact hk k k1 k2
        · rw [pk_un (by decide), pk_us]
      · rw [if_neg c, if_pos (k_nlt.mp c), ← Int32.sub_eq_add_neg]
        exact ih i B S (by omega) (by omega) hB b3 hk e19 e20
/-- what the scales do -/
theorem scales_ok (h : SimC N vC aC (aM 0)) (load : Int32) : ∃ B, B < 256 ∧ X0_weightsFor_f vC aC load = nI B ∧ (X5_scales_f vM aM load).1 = X4_toldBy_f (nI B) ∧ (X5_scales_f vM aM load).2 19 = nI B ∧ (X5_scales_f vM aM load).2 20 = X4_toldBy_f (nI B) - X0_shortnessTogether_f vC aC (nI B) ∧ ∀ k, k ≠ 19 → k ≠ 20 → (X5_scales_f vM aM load).2 k = vM k := by
  obtain ⟨B, hB, h1, h2, h3, h4, h5⟩ := scales_lp (vM := vM) h load 9 8 0 (upd (upd vM 19 0) 20 0) (by omega) (by omega) (by omega) (by omega) (fun k k1 k2 => by rw [pk_un k2, pk_un k1]) (by rw [pk_un (by decide), pk_us]; rfl) (by
    rw [pk_us]
    have a1 : kTo 0 = 0 := by decide +kernel
    have a2 : kSh vC aC 0 = 0 := rfl
    rw [a1, a2]
    rfl)
  refine ⟨B, hB, ?_, ?_, h3, ?_, h5⟩
  · rw [← h1, pk_us]; rfl
  · rw [told_ok hB, ← h2]; rfl
  · rw [told_ok hB, short_ok hB, ← h4]; rfl
theorem k_told388 {B : Nat} (hB : B < 256) : ∃ T, T ≤ 388 ∧ X4_toldBy_f (nI B) = nI T := ⟨_, (by decide +kernel : ∀ B, B < 256 → (X4_toldBy_f (nI B)).toNatClampNeg ≤ 388 ∧ X4_toldBy_f (nI B) = nI (X4_toldBy_f (nI B)).toNatClampNeg) B hB⟩
/-- a bag's load -/
theorem sim_load {b : Nat} (h : SimC N vC aC (aM 0)) (hb : b < 6) (hB : SimB b aC (aM 0)) : X5_load_f vM aM (nI b) = X0_loadOf_f vC aC (nI b) := by
  obtain ⟨t, gr, g1, g2, g3, g4, g5, g6, g7, g8, g9, g10⟩ := hB
  obtain ⟨t0, ht0, f1, f2⟩ := h.thumbE
  unfold X5_load_f X0_loadOf_f
  rw [of_0 hb, of_1 hb, of_3 hb, nI_clamp (n := b) (by omega), g4, g5, g6, g8, g9, f1, f2]
end S5
