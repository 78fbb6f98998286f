/-! weighing and selling -/
theorem k_net {T t : Nat} (ht : t ≤ 50) (h : 0 < nI T - nI t) : t < T ∧ nI T - nI t = nI (T - t) := by
  rcases Nat.lt_or_ge t T with h1 | h1
  · exact ⟨h1, pk_sub (Nat.le_of_lt h1)⟩
  · exact absurd h ((by decide +kernel : ∀ t, t < 51 → ∀ T, T < 51 → T ≤ t → ¬ 0 < nI T - nI t) t (by omega) T (by omega) h1)
theorem k_upd5 {f : Nat → Int32} {c2 c9 c6 c7 c8 : Int32} : upd (upd (upd (upd (upd f 2 c2) 9 c9) 6 c6) 7 c7) 8 c8 = upd (upd (upd (upd (upd f 8 c8) 6 c6) 7 c7) 9 c9) 2 c2 := by
  funext k
  unfold upd
  (repeat' split) <;> first | rfl | omega
section S6
variable {N : Nat} {vC : Nat → Int32} {aC : Nat → Nat → Int32} {vR : Nat → Int32} {aR : Nat → Nat → Int32} {vM : Nat → Int32} {aM : Nat → Nat → Int32} {p p1 p2 p3 x y : Int32}
theorem weigh_lp {b B : Nat} {S : Nat → Int32} {T : Int32} (hb : b < 6) (hB : B < 256) (hS : (X5_scales_f vM aM (X5_load_f vM aM (nI b))).2 = S) (h19 : S 19 = nI B) (hw : aM 0 (38 + 5 * b) = aC 12 b) : ∀ (n j : Nat) (aC1 aM1 : Nat → Nat → Int32), j ≤ 8 → 8 - j < n → (∀ k, k ≠ 13 → aC1 k = aC k) → (∀ k, k ≠ 0 → aM1 k = aM k) → (∀ i, 22 ≤ i → aM1 0 i = aM 0 i) → SimC N vC aC1 (aM1 0) →
    (X0_weighBag_lp12 vC aC (nI b) n (nI B) (nI j) aC1).1 = X4_toldBy_f (nI B) ∧ (X5_weighs_lp12 vM aM (nI b) n T (nI j) aM1).1 = T ∧ (X5_weighs_lp12 vM aM (nI b) n T (nI j) aM1).2.1 = S ∧ (∀ k, k ≠ 0 → (X5_weighs_lp12 vM aM (nI b) n T (nI j) aM1).2.2 k = aM k) ∧ (∀ k, k ≠ 12 → k ≠ 13 → (X0_weighBag_lp12 vC aC (nI b) n (nI B) (nI j) aC1).2 k = aC k) ∧ SimC N vC (X0_weighBag_lp12 vC aC (nI b) n (nI B) (nI j) aC1).2 ((X5_weighs_lp12 vM aM (nI b) n T (nI j) aM1).2.2 0) := by
  intro n
  induction n with
  | zero => intro j aC1 aM1 h3 h4; omega
  | succ n ih =>
    intro j aC1 aM1 h3 h4 k1 k2 k3 hs
    show (X0_weighBag_lp12b vC aC (nI b) (X0_weighBag_lp12 vC aC (nI b) n) (nI B) (nI j) aC1).1 = X4_toldBy_f (nI B) ∧ (X5_weighs_lp12b vM aM (nI b) (X5_weighs_lp12 vM aM (nI b) n) T (nI j) aM1).1 = T ∧ (X5_weighs_lp12b vM aM (nI b) (X5_weighs_lp12 vM aM (nI b) n) T (nI j) aM1).2.1 = S ∧ (∀ k, k ≠ 0 → (X5_weighs_lp12b vM aM (nI b) (X5_weighs_lp12 vM aM (nI b) n) T (nI j) aM1).2.2 k = aM k) ∧ (∀ k, k ≠ 12 → k ≠ 13 → (X0_weighBag_lp12b vC aC (nI b) (X0_weighBag_lp12 vC aC (nI b) n) (nI B) (nI j) aC1).2 k = aC k) ∧ SimC N vC (X0_weighBag_lp12b vC aC (nI b) (X0_weighBag_lp12 vC aC (nI b) n) (nI B) (nI j) aC1).2 ((X5_weighs_lp12b vM aM (nI b) (X5_weighs_lp12 vM aM (nI b) n) T (nI j) aM1).2.2 0)
    unfold X0_weighBag_lp12b X5_weighs_lp12b
    rw [hS]
    by_cases c : (8 : Int32) ≤ nI j
    · rw [if_pos c, if_pos c, of_4 hb, sets_4 hb, nI_clamp (n := b) (by omega), k1 12 (by decide), k3 _ (by omega), hw]
      refine ⟨rfl, rfl, rfl, fun k h0 => (va_un h0).trans (k2 k h0), fun k h12 h13 => (va_un h12).trans (k1 k h13), ?_⟩
      have := hs.weighings (x := aC 12 b + 1) hb
      rw [k1 12 (by decide)] at this
      exact this
    · rw [if_neg c, if_neg c]
      have hj : j < 8 := by
        rcases Nat.lt_or_ge j 8 with h | h
        · exact h
        · exact absurd ((nI_leI (a := 8) (by omega) (by omega)).mpr h) c
      rw [k_among hB hj, h19, k_shand hB hj, nI_add1, ix_w j hj, nI_clamp (n := j) (by omega)]
      have hu : aM1 0 (14 + j) = aC1 13 j := hs.usesE hj
      by_cases e : B.testBit j = true
      · simp only [if_pos e]
        rw [hu]
        exact ih (j + 1) _ _ hj (by omega) (fun k h13 => (va_un h13).trans (k1 k h13)) (fun k h0 => (va_un h0).trans (k2 k h0)) (fun i hi => (show upd (aM1 0) (14 + j) (aC1 13 j + 1) i = _ from pk_un (by omega)).trans (k3 i hi)) (hs.uses hj)
      · simp only [if_neg e]
        rw [Int32.add_zero, k_upd_self]
        refine ih (j + 1) _ _ hj (by omega) k1 (fun k h0 => (va_un h0).trans (k2 k h0)) k3 hs
theorem weigh_ok {b : Nat} (h : SimC N vC aC (aM 0)) (hb : b < 6) (hBb : SimB b aC (aM 0)) : (X5_weighs_f vM aM (nI b)).1 = (X0_weighBag_f vC aC (nI b)).1 ∧ (X0_weighBag_f vC aC (nI b)).1 = X4_toldBy_f (X0_weightsFor_f vC aC (X0_loadOf_f vC aC (nI b))) ∧ (∀ k, k ≠ 19 → k ≠ 20 → (X5_weighs_f vM aM (nI b)).2.1 k = vM k) ∧ (∀ k, k ≠ 0 → (X5_weighs_f vM aM (nI b)).2.2 k = aM k) ∧ (∀ k, k ≠ 12 → k ≠ 13 → (X0_weighBag_f vC aC (nI b)).2 k = aC k) ∧ SimC N vC (X0_weighBag_f vC aC (nI b)).2 ((X5_weighs_f vM aM (nI b)).2.2 0) := by
  obtain ⟨B, hB, s1, s2, s3, s4, s5⟩ := scales_ok (vM := vM) h (X5_load_f vM aM (nI b))
  have hl := sim_load (vM := vM) h hb hBb
  have hw : aM 0 (38 + 5 * b) = aC 12 b := by
    obtain ⟨t, gr, g1, g2, g3, g4, g5, g6, g7, g8, g9, g10⟩ := hBb
    exact g10
  unfold X5_weighs_f X0_weighBag_f
  rw [← hl, s1]
  obtain ⟨w1, w2, w3, w4, w5, w6⟩ := weigh_lp (T := (X5_scales_f vM aM (X5_load_f vM aM (nI b))).1) hb hB rfl s3 hw 9 0 aC aM (Nat.zero_le _) (by omega) (fun _ _ => rfl) (fun _ _ => rfl) (fun _ _ => rfl) h
  refine ⟨w2.trans (s2.trans w1.symm), w1, ?_, w4, w5, w6⟩
  intro k k1 k2
  exact (congrFun w3 k).trans (s5 k k1 k2)
/-- weighing a bag -/
theorem op_weigh (h : SimC N vC aC (aM 0)) : kOp N vR (X3_applies_f vC aC vR aR 119 p1 p2 p3) (X0_carryOut_f vC aC 119 p1 p2 p3) vM aM (X5_weighsBag_f vM aM p1) := by
  rw [ap_119, co_119, sim_bag (vM := vM) h]
  unfold X5_weighsBag_f
  by_cases c : X5_isBag_f vM aM p1 = true
  · obtain ⟨b, hb, rfl, hBb⟩ := h.bagE c
    rw [if_pos c, c, om_t]
    obtain ⟨w1, w2, w3, w4, w5, w6⟩ := weigh_ok (vM := vM) h hb hBb
    exact kOp_acc (pk_us.trans w1) (fun k h1 h2 h3 => (pk_un h1).trans (w3 k h2 h3)) w4 (w6.mono (Nat.le_succ N))
  · rw [if_neg c, Bool.eq_false_iff.mpr c, om_f]
    exact kOp_ref
def kSC (vW : Nat → Int32) (aW : Nat → Nat → Int32) (p0 mk net : Int32) : Int32 := X5_coins_f vW aW mk (X5_of_f vW aW p0 2 - 1) net
def kS1 (f : Nat → Int32) (c : Int32) : Nat → Int32 := upd f 2 (f 2 + c)
def kS2 (f : Nat → Int32) (c : Int32) : Nat → Int32 := upd (kS1 f c) 9 (kS1 f c 9 + c)
def kS3 (vW : Nat → Int32) (aW : Nat → Nat → Int32) (p0 c : Int32) : Nat → Int32 := upd (kS2 (aW 0) c) 6 (kS2 (aW 0) c 6 + X5_of_f vW (va_up (va_up aW 0 (kS1 (aW 0) c)) 0 (kS2 (aW 0) c)) p0 3)
def kS4 (vW : Nat → Int32) (aW : Nat → Nat → Int32) (p0 c net : Int32) : Nat → Int32 := upd (kS3 vW aW p0 c) 7 (kS3 vW aW p0 c 7 + net)
def kS5 (vW : Nat → Int32) (aW : Nat → Nat → Int32) (p0 c net : Int32) : Nat → Int32 := upd (kS4 vW aW p0 c net) 8 (kS4 vW aW p0 c net 8 + 1)
def kSA (vW : Nat → Int32) (aW : Nat → Nat → Int32) (p0 c net : Int32) : Nat → Nat → Int32 := X5_clears_f vW (va_up (va_up (va_up (va_up (va_up aW 0 (kS1 (aW 0) c)) 0 (kS2 (aW 0) c)) 0 (kS3 vW aW p0 c)) 0 (kS4 vW aW p0 c net)) 0 (kS5 vW aW p0 c net)) p0
theorem sells_eq {p0 : Int32} : X5_sells_f vM aM p0 = if (X5_isBag_f vM aM p0) = true then (if (X5_of_f vM aM p0 3) = 0 then (false, upd (upd (upd vM 14 6) 15 p0) 17 (vM 16), aM)
    else if ((aM 0) 3) ≤ (X5_most_f vM aM ((aM 0) 1)) then (if 0 < ((X5_scales_f vM aM (X5_load_f vM aM p0)).1 - (X5_of_f ((X5_scales_f vM aM (X5_load_f vM aM p0)).2) aM p0 0)) then (true, upd ((X5_weighs_f ((X5_scales_f vM aM (X5_load_f vM aM p0)).2) aM p0).2.1) 18 (kSC (X5_weighs_f ((X5_scales_f vM aM (X5_load_f vM aM p0)).2) aM p0).2.1 (X5_weighs_f ((X5_scales_f vM aM (X5_load_f vM aM p0)).2) aM p0).2.2 p0 ((aM 0) 1) ((X5_scales_f vM aM (X5_load_f vM aM p0)).1 - (X5_of_f ((X5_scales_f vM aM (X5_load_f vM aM p0)).2) aM p0 0))), kSA (X5_weighs_f ((X5_scales_f vM aM (X5_load_f vM aM p0)).2) aM p0).2.1 (X5_weighs_f ((X5_scales_f vM aM (X5_load_f vM aM p0)).2) aM p0).2.2 p0 (kSC (X5_weighs_f ((X5_scales_f vM aM (X5_load_f vM aM p0)).2) aM p0).2.1 (X5_weighs_f ((X5_scales_f vM aM (X5_load_f vM aM p0)).2) aM p0).2.2 p0 ((aM 0) 1) ((X5_scales_f vM aM (X5_load_f vM aM p0)).1 - (X5_of_f ((X5_scales_f vM aM (X5_load_f vM aM p0)).2) aM p0 0))) ((X5_scales_f vM aM (X5_load_f vM aM p0)).1 - (X5_of_f ((X5_scales_f vM aM (X5_load_f vM aM p0)).2) aM p0 0)))
      else (false, upd (upd (upd ((X5_scales_f vM aM (X5_load_f vM aM p0)).2) 14 11) 15 ((X5_scales_f vM aM (X5_load_f vM aM p0)).1)) 17 (((X5_scales_f vM aM (X5_load_f vM aM p0)).2) 16), aM))
    else (false, upd (upd (upd vM 14 10) 15 (X5_most_f vM aM ((aM 0) 1))) 17 (vM 16), aM))
  else (false, upd (upd (upd vM 14 3) 15 p0) 17 (vM 16), aM) := rfl
theorem SimC.soldE (h : SimC N vC aC (aM 0)) : ∃ sa nt, vC 15 = nI sa ∧ vC 17 = nI nt ∧ aM 0 8 = nI sa ∧ aM 0 7 = nI nt ∧ aM 0 6 = vC 16 ∧ aM 0 9 = vC 18 ∧ sa ≤ N ∧ sa ≤ nt ∧ nt ≤ 400 * sa := by
  obtain ⟨nb, nj, mk, th, sa, nt, ⟨a1, ⟨s1, s2, s3⟩, c, ⟨d0, d1, d2, d3, d4, d5⟩⟩, hA⟩ := h
  exact ⟨sa, nt, d3, d1, d4, d2, d0, d5, s1, s2, s3⟩
theorem kS5_eq {b : Nat} {c net : Int32} (hb : b < 6) : kS5 vM aM (nI b) c net = upd (upd (upd (upd (upd (aM 0) 2 (aM 0 2 + c)) 9 (aM 0 9 + c)) 6 (aM 0 6 + aM 0 (37 + 5 * b))) 7 (aM 0 7 + net)) 8 (aM 0 8 + 1) := by
  have e1 : kS1 (aM 0) c 9 = aM 0 9 := pk_un (by decide)
  have e2 : kS2 (aM 0) c 6 = aM 0 6 := (pk_un (by decide)).trans (pk_un (by decide))
  have e3 : kS3 vM aM (nI b) c 7 = aM 0 7 := (pk_un (by decide)).trans ((pk_un (by decide)).trans (pk_un (by decide)))
  have e4 : kS4 vM aM (nI b) c net 8 = aM 0 8 := (pk_un (by decide)).trans ((pk_un (by decide)).trans ((pk_un (by decide)).trans (pk_un (by decide))))
  have e5 : X5_of_f vM (va_up (va_up aM 0 (kS1 (aM 0) c)) 0 (kS2 (aM 0) c)) (nI b) 3 = aM 0 (37 + 5 * b) := (of_3 hb).trans (show kS2 (aM 0) c (37 + 5 * b) = _ from (pk_un (by omega)).trans (pk_un (by omega)))
  unfold kS5
  rw [e4]
  unfold kS4
  rw [e3]
  unfold kS3
  rw [e2, e5]
  unfold kS2
  rw [e1]
  rfl
theorem sell_acc {b gr net : Nat} {c : Int32} {v : Nat → Int32} (hN : N < 100000) (h : SimC N vC aC (aM 0)) (hb : b < 6) (g9 : aM 0 (37 + 5 * b) = nI gr) (h0 : 0 < net) (h4 : net ≤ 400) : SimC (N + 1) (upd (upd (upd (upd (upd vC 15 (vC 15 + 1)) 16 (vC 16 + nI gr)) 17 (vC 17 + nI net)) 18 (vC 18 + c)) 2 (vC 2 + c)) (X0_clearBag_f v aC (nI b)) (kSA vM aM (nI b) c (nI net) 0) := by
  obtain ⟨sa, nt, e1, e2, e3, e4, e5, e6, s1, s2, s3⟩ := h.soldE
  have hs := ((((h.sold (g16 := vC 16 + nI gr) (c18 := vC 18 + c) h0 h4 hN sa nt e1 e2 s1 s3).coins (x := vC 2 + c)).grains (gr1 := 0) hb (by omega)).spice (x := -1) (y := 0) hb (by decide))
  have em : kSA vM aM (nI b) c (nI net) 0 = upd (upd (upd (upd (upd (upd (upd (aM 0) 8 (nI (sa + 1))) 6 (vC 16 + nI gr)) 7 (nI (nt + net))) 9 (vC 18 + c)) 2 (vC 2 + c)) (37 + 5 * b) 0) (36 + 5 * b) 0 := by
    unfold kSA X5_clears_f
    rw [sets_2 hb, sets_3 hb, va_us, va_us, va_us, kS5_eq hb, e3, e4, e5, e6, g9, h.coinsE, nI_add1, nI_add, k_upd5, k_updc (by omega)]
  rw [em, e1, e2, nI_add1, nI_add]
  unfold X0_clearBag_f
  rw [nI_clamp (n := b) (by omega)]
  exact hs
theorem coins_ok {b k : Nat} {net : Int32} (h : SimC N vC aC (aM 0)) (hb : b < 6) (hk : k < 4) (g7 : aM 0 (36 + 5 * b) = aC 10 b + 1) : X5_coins_f vM aM (nI k) (X5_of_f vM aM (nI b) 2 - 1) net = X0_coinsFor_f vC aC (nI b) (nI k) net := by
  unfold X5_coins_f X0_coinsFor_f
  rw [← sim_sworn (vM := vM) h hk, of_2 hb, g7, Int32.add_sub_cancel, nI_clamp (n := b) (by omega)]
  rfl
/-- selling a bag -/
theorem op_sell (hN : N < 100000) (h : SimC N vC aC (aM 0)) : kOp N vR (X3_applies_f vC aC vR aR 115 p1 p2 p3) (X0_carryOut_f vC aC 115 p1 p2 p3) vM aM (X5_sells_f vM aM p1) := by
  rw [ap_115, co_115, sells_eq]
  unfold X3_ofSelling_f
  rw [sim_bag (vM := vM) h]
  by_cases c : X5_isBag_f vM aM p1 = true
  · obtain ⟨b, hb, rfl, hBb⟩ := h.bagE c
    have hBb' := hBb
    obtain ⟨t, gr, g1, g2, g3, g4, g5, g6, g7, g8, g9, g10⟩ := hBb'
    rw [if_pos c, c]
    simp only [om_t, Bool.false_eq_true, if_false]
    rw [nI_clamp (n := b) (by omega), of_3 hb, g8, g9]
    by_cases e : nI gr = 0
    · rw [if_pos e, if_pos e]
      exact kOp_ref
    · rw [if_neg e, if_neg e]
      obtain ⟨k, hk, e1, e2⟩ := h.marketE
      obtain ⟨th, hth, f1, f2⟩ := h.thumbE
      rw [e1, e2, f1, f2, nI_clamp (n := k) (by omega), k_most k hk]
      by_cases d : nI th ≤ k_tab 1 k
      · rw [if_pos d, if_pos d]
        obtain ⟨B, hB, s1, s2, s3, s4, s5⟩ := scales_ok (vM := vM) h (X5_load_f vM aM (nI b))
        obtain ⟨T, hT, eT⟩ := k_told388 hB
        obtain ⟨w1, w2, w3, w4, w5, w6⟩ := weigh_ok (vM := (X5_scales_f vM aM (X5_load_f vM aM (nI b))).2) h hb hBb
        have hl := sim_load (vM := vM) h hb hBb
        unfold X0_netOf_f
        rw [← hl, s1, eT] at w2 ⊢
        rw [s2, eT, of_0 hb, nI_clamp (n := b) (by omega), g4, g5]
        by_cases f : 0 < nI T - nI t
        · obtain ⟨f3, f4⟩ := k_net g2 f
          rw [if_pos f, if_pos f, f4]
          generalize (X5_scales_f vM aM (X5_load_f vM aM (nI b))).2 = S at *
          have u8 := w5 8 (by decide) (by decide)
          have u10 := w5 10 (by decide) (by decide)
          have u11 := w5 11 (by decide) (by decide)
          unfold X0_sellBag_f
          rw [w2, u8, u11, nI_clamp (n := b) (by omega), g4, g8, f4, e1]
          have hB2 : SimB b (X0_weighBag_f vC aC (nI b)).2 ((X5_weighs_f S aM (nI b)).2.2 0) := by
            obtain ⟨nb, n1, n2, n3⟩ := w6.numE
            obtain ⟨nb', n1', n2', n3'⟩ := h.numE
            obtain rfl : nb = nb' := (nI_eq (by omega) (by omega)).mp (n2.symm.trans n2')
            have c' : X5_isBag_f S (X5_weighs_f S aM (nI b)).2.2 (nI b) = true := by
              unfold X5_isBag_f at c ⊢
              rw [n3, ← n3']
              exact c
            obtain ⟨b', hb', eb, hB'⟩ := w6.bagE c'
            obtain rfl : b = b' := (nI_eq (by omega) (by omega)).mp eb
            exact hB'
          obtain ⟨t', gr', g1', g2', g3', g4', g5', g6', g7', g8', g9', g10'⟩ := hB2
          obtain rfl : gr' = gr := (nI_eq (by omega) (by omega)).mp (g8'.symm.trans ((congrFun u11 b).trans g8))
          have hc := coins_ok (vM := (X5_weighs_f S aM (nI b)).2.1) (net := nI (T - t)) w6 hb hk g7'
          have hs := sell_acc (c := X0_coinsFor_f vC (X0_weighBag_f vC aC (nI b)).2 (nI b) (nI k) (nI (T - t))) (v := upd (upd (upd (upd (upd vC 15 ((vC 15) + 1)) 16 ((vC 16) + nI gr')) 17 ((vC 17) + nI (T - t))) 18 ((vC 18) + (X0_coinsFor_f vC ((X0_weighBag_f vC aC (nI b)).2) (nI b) (nI k) (nI (T - t))))) 2 ((vC 2) + (X0_coinsFor_f vC ((X0_weighBag_f vC aC (nI b)).2) (nI b) (nI k) (nI (T - t))))) (vM := (X5_weighs_f S aM (nI b)).2.1) hN w6 hb g9' (show 0 < T - t by omega) (by omega)
          unfold kSC
          rw [hc]
          refine kOp_acc pk_us (fun k h1 h2 h3 => (pk_un h1).trans ((w3 k h2 h3).trans (s5 k h2 h3))) (fun k h0 => ?_) hs
          unfold kSA X5_clears_f X5_sets_f
          exact (va_un h0).trans ((va_un h0).trans ((va_un h0).trans ((va_un h0).trans ((va_un h0).trans ((va_un h0).trans ((va_un h0).trans (w4 k h0)))))))
        · rw [if_neg f, if_neg f, Int32.sub_add_cancel]
          exact kOp_refS s5
      · rw [if_neg d, if_neg d]
        exact kOp_ref
  · rw [if_neg c, Bool.eq_false_iff.mpr c]
    simp only [om_f, if_true]
    exact kOp_ref
end S6
