/-! ranks, texts, sums -/
theorem k_w16 (w : UInt16) : w.toUInt32.toInt32 = Int32.ofNat w.toNat := by
  apply Int32.toBitVec_inj.mp
  apply BitVec.eq_of_toNat_eq
  have := w.toNat_lt
  simp
  try omega
theorem k_char (x : Int32) : ∃ n : Nat, n < 65536 ∧ vp_nar .char x = nI n := ⟨x.toUInt32.toUInt16.toNat, x.toUInt32.toUInt16.toNat_lt, by rw [vp_nar_char]; exact k_w16 _⟩
theorem k_c256 (n : Nat) (h : n < 256) : ((nI n).toUInt32 % 65536).toInt32 = nI n := (by decide +kernel : ∀ n, n < 256 → ((nI n).toUInt32 % 65536).toInt32 = nI n) n h
theorem k_subI {a b : Nat} (ha : a ≤ 1000) (hb : b ≤ 1000) : (nI a - nI b).toInt = (a : Int) - b := by
  rw [Int32.toInt_sub, nI_toInt (by omega), nI_toInt (by omega)]
  exact Int.bmod_eq_of_le (by omega) (by omega)
theorem k_sub0 {a b : Nat} (ha : a ≤ 1000) (hb : b ≤ 1000) : 0 < nI a - nI b ↔ b < a := by
  rw [Int32.lt_iff_toInt_lt, k_subI ha hb, Int32.toInt_zero]
  omega
theorem k_subE {a b : Nat} (ha : a ≤ 1000) (hb : b ≤ 1000) : nI a - nI b = 0 ↔ a = b := by
  rw [← Int32.toInt_inj, k_subI ha hb, Int32.toInt_zero]
  omega
theorem sim_num40 {n : Nat} {x z : Int32} (hn : n ≤ 40) (hz : z = nI n) : (if x < 0 then false else if z ≤ x then false else true) = X5_in_f x 0 (z - 1) := by
  subst hz
  unfold X5_in_f
  by_cases h : x < 0
  · rw [if_pos h, if_pos h]
  · rw [if_neg h, if_neg h]
    have h0 : 0 ≤ x.toInt := by
      rw [Int32.lt_iff_toInt_lt, Int32.toInt_zero] at h
      omega
    have e : nI n ≤ x ↔ nI n - 1 < x := by
      rw [Int32.le_iff_toInt_le, Int32.lt_iff_toInt_lt]
      have h1 : (nI n).toInt = n := nI_toInt (by omega)
      have h2 : (nI n - 1).toInt = (n : Int) - 1 := k_subI (b := 1) (by omega) (by omega)
      omega
    by_cases h2 : nI n ≤ x
    · rw [if_pos h2, if_pos (e.mp h2)]
    · rw [if_neg h2, if_neg (fun z => h2 (e.mpr z))]
section S11
variable {N N' : Nat} {vF vF' vC vC' : Nat → Int32} {aC aC' : Nat → Nat → Int32} {vS vS' : Nat → Int32} {aS aS' : Nat → Nat → Int32} {vH vH' : Nat → Int32} {aH aH' : Nat → (Nat → Int32) × (Nat → Nat → Int32)} {vR vR' vT : Nat → Int32} {aR aT : Nat → Nat → Int32} {t : Nat → Nat} {k : Nat} {vM vM' : Nat → Int32} {aM aM' : Nat → Nat → Int32} {p p0 p1 p2 p3 x y : Int32} {S : Nat → Int32}
theorem rank_lp {nb a : Nat} (h : SimC N vC aC (aM 0)) (hn : nb ≤ 6) (e1 : vC 7 = nI nb) (e2 : aM 0 5 = nI nb) (ha : a < nb) : ∀ (n b : Nat) (s : Int32), b ≤ nb → nb - b < n → (X5_ranked_lp22 vM aM p n (nI a) s (nI b)).1 = (X0_bagOfRank_lp15 vC aC p n (nI a) s (nI b)).1 := by
  intro n
  induction n with
  | zero => intro b s h3 h4; omega
  | succ n ih =>
    intro b s h3 h4
    show (X5_ranked_lp22b vM aM p (X5_ranked_lp22 vM aM p n) (nI a) s (nI b)).1 = (X0_bagOfRank_lp15b vC aC p (X0_bagOfRank_lp15 vC aC p n) (nI a) s (nI b)).1
    unfold X5_ranked_lp22b X0_bagOfRank_lp15b
    rw [e1, e2]
    by_cases c : nI nb ≤ nI b
    · rw [if_pos c, if_pos c]
    · rw [if_neg c, if_neg c]
      have hb : b < nb := by
        rcases Nat.lt_or_ge b nb with h | h
        · exact h
        · exact absurd ((nI_leI (by omega) (by omega)).mpr h) c
      obtain ⟨t1, gr1, u1, u2, u3, u4, u5, -, -, u8, u9, -⟩ := h.nthE hn e1 ha
      obtain ⟨t2, gr2, g1, g2, g3, g4, g5, -, -, g8, g9, -⟩ := h.nthE hn e1 hb
      unfold X0_isBefore_f
      rw [of_3 (by omega), of_3 (by omega), of_0 (by omega), of_0 (by omega), nI_clamp (n := a) (by omega), nI_clamp (n := b) (by omega), u4, u5, u8, u9, g4, g5, g8, g9, nI_add1]
      have z1 := ih (b + 1) (s + 1) hb (by omega)
      have z2 := ih (b + 1) s hb (by omega)
      have y1 := @k_sub0 gr2 gr1 (by omega) (by omega)
      have y2 := @k_subE gr2 gr1 (by omega) (by omega)
      have y3 := @k_sub0 t1 t2 (by omega) (by omega)
      have y4 := @k_subE t1 t2 (by omega) (by omega)
      have y5 := @nI_leI gr2 gr1 (by omega) (by omega)
      have y6 := @nI_leI t1 t2 (by omega) (by omega)
      have y7 := @nI_eq gr2 gr1 (by omega) (by omega)
      have y8 := @nI_eq t2 t1 (by omega) (by omega)
      by_cases d1 : gr1 < gr2
      · rw [if_pos (y1.mpr d1), if_neg (fun z => absurd (y7.mp z) (by omega)), if_neg (fun z => absurd (y5.mp z) (by omega)), if_pos rfl]
        exact z1
      · rw [if_neg (fun z => d1 (y1.mp z))]
        by_cases d2 : gr2 = gr1
        · rw [if_pos (y2.mpr d2), if_pos (y7.mpr d2)]
          by_cases d3 : t2 < t1
          · rw [if_pos (y3.mpr d3), if_neg (fun z => absurd (y8.mp z) (by omega)), if_neg (fun z => absurd (y6.mp z) (by omega)), if_pos rfl]
            exact z1
          · rw [if_neg (fun z => d3 (y3.mp z))]
            by_cases d4 : t1 = t2
            · rw [if_pos (y4.mpr d4), if_pos (y8.mpr d4.symm)]
              by_cases d5 : nI a ≤ nI b
              · rw [if_pos d5, if_pos d5, if_neg (by decide)]
                exact z2
              · rw [if_neg d5, if_neg d5, if_pos rfl]
                exact z1
            · rw [if_neg (fun z => d4 (y4.mp z)), if_neg (fun z => d4 (y8.mp z).symm), if_pos (y6.mpr (by omega)), if_neg (by decide)]
              exact z2
        · rw [if_neg (fun z => d2 (y2.mp z)), if_neg (fun z => d2 (y7.mp z)), if_pos (y5.mpr (by omega)), if_neg (by decide)]
          exact z2
theorem rank_lp2 {nb : Nat} (h : SimC N vC aC (aM 0)) (hn : nb ≤ 6) (e1 : vC 7 = nI nb) (e2 : aM 0 5 = nI nb) : ∀ (n b : Nat), b ≤ nb → nb - b < n → (X0_bagOfRank_lp2 vC aC p n (nI b) = -1 ∧ X5_ranked_lp7 vM aM p n (nI b) = (0, upd (upd vM 21 0) 21 1)) ∨ ∃ a, a < 7 ∧ X0_bagOfRank_lp2 vC aC p n (nI b) = nI a ∧ X5_ranked_lp7 vM aM p n (nI b) = (nI a, upd vM 21 0) := by
  intro n
  induction n with
  | zero => intro b h3 h4; omega
  | succ n ih =>
    intro b h3 h4
    show (X0_bagOfRank_lp2b vC aC p (X0_bagOfRank_lp2 vC aC p n) (nI b) = -1 ∧ X5_ranked_lp7b vM aM p (X5_ranked_lp7 vM aM p n) (nI b) = (0, upd (upd vM 21 0) 21 1)) ∨ ∃ a, a < 7 ∧ X0_bagOfRank_lp2b vC aC p (X0_bagOfRank_lp2 vC aC p n) (nI b) = nI a ∧ X5_ranked_lp7b vM aM p (X5_ranked_lp7 vM aM p n) (nI b) = (nI a, upd vM 21 0)
    unfold X0_bagOfRank_lp2b X5_ranked_lp7b
    rw [e1, e2]
    by_cases c : nI nb ≤ nI b
    · rw [if_pos c, if_pos c]
      exact .inl ⟨rfl, rfl⟩
    · rw [if_neg c, if_neg c]
      have hb : b < nb := by
        rcases Nat.lt_or_ge b nb with h | h
        · exact h
        · exact absurd ((nI_leI (by omega) (by omega)).mpr h) c
      rw [show (X5_ranked_lp22 vM aM p 7 (nI b) 0 0).1 = (X0_bagOfRank_lp15 vC aC p 7 (nI b) 0 0).1 from rank_lp (vM := vM) h hn e1 e2 hb 7 0 0 (by omega) (by omega), nI_add1]
      by_cases d : (X0_bagOfRank_lp15 vC aC p 7 (nI b) 0 0).1 = p
      · rw [if_pos d, if_pos d]
        exact .inr ⟨b, by omega, rfl, rfl⟩
      · rw [if_neg d, if_neg d]
        exact ih (b + 1) hb (by omega)
theorem s_ranked (hR : kRel N vF vC aC vS aS vH aH vR vT aT t k vM aM) : ((X5_ranked_f vM aM p0).2) 21 = kLk1 ((X4_ranked_f vF vC aC p0).1) ∧ ((X4_ranked_f vF vC aC p0).1 = 0 → (X5_ranked_f vM aM p0).1 = (X4_ranked_f vF vC aC p0).2) ∧ kRel (N + 60) vF vC aC vS aS vH aH vR vT aT t k ((X5_ranked_f vM aM p0).2) aM := by
  obtain ⟨nb, hn, e1, e2⟩ := hR.1.numE
  unfold X4_ranked_f
  rcases rank_lp2 (vM := vM) (p := p0) hR.1 hn e1 e2 7 0 (by omega) (by omega) with ⟨q1, q2⟩ | ⟨a, ha, q1, q2⟩
  · have q1' : X0_bagOfRank_f vC aC p0 = -1 := q1
    have q2' : X5_ranked_f vM aM p0 = (0, upd (upd vM 21 0) 21 1) := q2
    rw [q1', q2', if_neg (by decide)]
    exact ro_b1 (show (4 : Nat) ≠ 0 by decide) hR
  · have q1' : X0_bagOfRank_f vC aC p0 = nI a := q1
    have q2' : X5_ranked_f vM aM p0 = (nI a, upd vM 21 0) := q2
    rw [q1', q2', if_pos ((by decide +kernel : ∀ a, a < 7 → (0 : Int32) ≤ nI a) a ha)]
    exact ro_u1 hR
theorem s_append (hR : kRel N vF vC aC vS aS vH aH vR vT aT t k vM aM) : ((X5_append_f vM aM p0).2.1) 21 = kLk1 ((X4_append_f vF vT aT p0).1) ∧ ((X4_append_f vF vT aT p0).1 = 0 → (X5_append_f vM aM p0).1 = (X4_append_f vF vT aT p0).2.1) ∧ kRel (N + 60) vF vC aC vS aS vH aH vR ((X4_append_f vF vT aT p0).2.2.1) ((X4_append_f vF vT aT p0).2.2.2) t k ((X5_append_f vM aM p0).2.1) ((X5_append_f vM aM p0).2.2) := by
  have hR' := hR
  obtain ⟨r1, r2, r3, ⟨e1, e2, e3⟩, r5, ⟨⟨ln, t1, t2, t3, t4⟩, t5⟩, l1, l2, l3⟩ := hR
  unfold X4_append_f X5_append_f
  rw [t2, t3]
  by_cases c : nI ln = 60
  · have e : ln = 60 := (nI_eq (b := 60) (by omega) (by omega)).mp c
    rw [if_pos c, if_neg (by rw [e]; decide)]
    exact ro_b1 (show (5 : Nat) ≠ 0 by decide) hR'
  · have e : ln < 60 := by
      rcases Nat.lt_or_ge ln 60 with h | h
      · exact h
      · obtain rfl : ln = 60 := by omega
        exact absurd rfl c
    rw [if_neg c, if_pos ((by decide +kernel : ∀ n, n < 60 → nI n < 60) ln e), nI_add1, nI_clamp (n := ln) (by omega)]
    dsimp only
    have hW : ∀ i, i ≠ 9 → i ≠ 21 → upd (upd vM 21 0) 9 (nI (ln + 1)) i = vM i := fun i h1 h2 => (pk_un h1).trans (pk_un h2)
    refine ⟨rfl, fun _ => rfl, ?_, r2.cong (Nat.le_add_right N 60) (hW 5 (by decide) (by decide)) (va_un (by decide)) rfl, r3.cong (Nat.le_add_right N 60) (hW 3 (by decide) (by decide)) (va_un (by decide)), ⟨(hW 14 (by decide) (by decide)).trans e1, (hW 15 (by decide) (by decide)).trans e2, (hW 17 (by decide) (by decide)).trans e3⟩, (hW 13 (by decide) (by decide)).trans r5, ⟨⟨ln + 1, by omega, pk_us, pk_us, fun i hi => ?_⟩, fun i => ?_⟩, l1, (hW 7 (by decide) (by decide)).trans l2, ?_⟩
    · rw [va_un (by decide)]
      exact r1.mono (Nat.le_add_right N 60)
    · show upd (aM 8) ln (vp_nar .char p0) i = upd (aT 0) ln (vp_nar .char p0) i
      by_cases d : i = ln
      · rw [d, pk_us, pk_us]
      · rw [pk_un d, pk_un d]
        exact t4 i (by omega)
    · show ∃ n : Nat, n < 65536 ∧ upd (aM 8) ln (vp_nar .char p0) i = nI n
      by_cases d : i = ln
      · rw [d, pk_us]
        exact k_char p0
      · rw [pk_un d]
        exact t5 i
    · rw [va_un (by decide)]
      exact l3
theorem s_character (hR : kRel N vF vC aC vS aS vH aH vR vT aT t k vM aM) : ((X5_character_f vM aM p0).2) 21 = kLk1 ((X4_character_f (t, k) p0).1) ∧ ((X4_character_f (t, k) p0).1 = 0 → (X5_character_f vM aM p0).1 = (X4_character_f (t, k) p0).2) ∧ kRel (N + 60) vF vC aC vS aS vH aH vR vT aT t k ((X5_character_f vM aM p0).2) aM := by
  obtain ⟨l1, l2, l3⟩ := hR.2.2.2.2.2.2
  unfold X4_character_f X5_character_f
  rw [← sim_num40 l1 l2, l2]
  by_cases c : p0 < 0
  · rw [if_pos c, if_pos c]
    exact ⟨rfl, fun z => absurd (show (2 : Nat) = 0 from z) (by decide), kRel_ro hR (fun i h _ => pk_un (by omega))⟩
  · rw [if_neg c, if_neg c]
    obtain ⟨j, hj, rfl⟩ := nI_of c
    by_cases d : nI k ≤ nI j
    · rw [if_pos d, if_neg (by decide), if_neg (Int32.not_lt.mpr d)]
      exact ⟨rfl, fun z => absurd (show (2 : Nat) = 0 from z) (by decide), kRel_ro hR (fun i h _ => pk_un (by omega))⟩
    · have hjk : j < k := by
        rcases Nat.lt_or_ge j k with h | h
        · exact h
        · exact absurd ((nI_leI (by omega) (by omega)).mpr h) d
      obtain ⟨f1, f2⟩ := l3 j hjk
      rw [if_neg d, if_pos rfl, if_pos (k_nlt.mp d), nI_clamp (n := j) (by omega), f1, k_c256 _ f2]
      exact ro_u1 hR
theorem s_meanDust (hR : kRel N vF vC aC vS aS vH aH vR vT aT t k vM aM) : ((X5_meanDust_f vM aM).2) 21 = kLk1 ((X4_meanDust_f vC aC).1) ∧ ((X4_meanDust_f vC aC).1 = 0 → (X5_meanDust_f vM aM).1 = (X4_meanDust_f vC aC).2) ∧ kRel (N + 60) vF vC aC vS aS vH aH vR vT aT t k ((X5_meanDust_f vM aM).2) aM ∧ ((X4_meanDust_f vC aC).1 = 0 → vf_n64 (FP.f2d ((X5_meanDust_f vM aM).1))) := by
  obtain ⟨nb, hn, e1, e2⟩ := hR.1.numE
  unfold X4_meanDust_f X5_meanDust_f
  rw [dust_ok (vM := upd vM 21 0) hR.1, e1, e2]
  by_cases c : nI nb = 0
  · rw [if_pos c, if_pos c]
    exact ⟨rfl, fun z => absurd (show (6 : Nat) = 0 from z) (by decide), kRel_ro hR (fun i h _ => (pk_un (by omega)).trans (pk_un (by omega))), fun z => absurd (show (6 : Nat) = 0 from z) (by decide)⟩
  · rw [if_neg c, if_neg c]
    exact ⟨rfl, fun _ => rfl, kRel_ro hR (fun i h _ => pk_un (by omega)), fun _ => kf_f2d_ok _ _ c⟩
theorem s_honestShare (hR : kRel N vF vC aC vS aS vH aH vR vT aT t k vM aM) (hN : N < 90000) : ((X5_honestShare_f vM aM).2) 21 = kLk1 ((X4_honestShare_f vC aC).1) ∧ ((X4_honestShare_f vC aC).1 = 0 → (X5_honestShare_f vM aM).1 = (X4_honestShare_f vC aC).2) ∧ kRel (N + 60) vF vC aC vS aS vH aH vR vT aT t k ((X5_honestShare_f vM aM).2) aM ∧ ((X4_honestShare_f vC aC).1 = 0 → vf_n64 ((X5_honestShare_f vM aM).1)) := by
  obtain ⟨sa, nt, e1, e2, e3, e4, e5, e6, s1, s2, s3⟩ := hR.1.soldE
  unfold X4_honestShare_f X5_honestShare_f
  rw [e2, e3, e4, e5]
  have ne1 := @nI_eq sa 0 (by omega) (by omega)
  have ne2 := @nI_eq nt 0 (by omega) (by omega)
  by_cases c : nI nt = 0
  · have d : nI sa = 0 := ne1.mpr (by have := ne2.mp c; omega)
    rw [if_pos c, if_pos d]
    exact ⟨rfl, fun z => absurd (show (6 : Nat) = 0 from z) (by decide), kRel_ro hR (fun i h _ => (pk_un (by omega)).trans (pk_un (by omega))), fun z => absurd (show (6 : Nat) = 0 from z) (by decide)⟩
  · have d : ¬ nI sa = 0 := fun z => c (ne2.mpr (by have := ne1.mp z; omega))
    rw [if_neg c, if_neg d]
    exact ⟨rfl, fun _ => rfl, kRel_ro hR (fun i h _ => pk_un (by omega)), fun _ => kfd_ok _ _ c⟩
/-- sums -/
theorem acc97 {f : Nat → Int32} {nj : Nat} (hn : nj ≤ 6) (hm : aM 0 4 = nI nj) (hf : ∀ j, j < nj → aM 0 (23 + 2 * j) = f j) : ∀ (n b : Nat) (s : Int32), b ≤ nj → nj - b < n → X5_account_lp97 vM aM p n s (nI b) = (X4_sumOf_lp4 6 f (nI nj) n s (nI b), upd vM 21 0) := by
  intro n
  induction n with
  | zero => intro b s h3 h4; omega
  | succ n ih =>
    intro b s h3 h4
    show X5_account_lp97b vM aM p (X5_account_lp97 vM aM p n) s (nI b) = (X4_sumOf_lp4b 6 f (nI nj) (X4_sumOf_lp4 6 f (nI nj) n) s (nI b), upd vM 21 0)
    unfold X5_account_lp97b X4_sumOf_lp4b
    rw [hm]
    by_cases c : nI nj ≤ nI b
    · rw [if_pos c, if_pos c]
    · rw [if_neg c, if_neg c]
      have hb : b < nj := by
        rcases Nat.lt_or_ge b nj with h | h
        · exact h
        · exact absurd ((nI_leI (by omega) (by omega)).mpr h) c
      rw [if_neg (show ¬ Int32.ofNat 6 ≤ nI b from fun z => by have := (nI_leI (a := 6) (b := b) (by omega) (by omega)).mp z; omega), ix_jG b (by omega), hf b hb, nI_clamp (n := b) (by omega), nI_add1]
      exact ih (b + 1) _ hb (by omega)
theorem acc133 {f : Nat → Int32} {nb : Nat} (hn : nb ≤ 6) (hm : aM 0 5 = nI nb) (hf : ∀ j, j < nb → aM 0 (37 + 5 * j) = f j) : ∀ (n b : Nat) (s : Int32), b ≤ nb → nb - b < n → X5_account_lp133 vM aM p n s (nI b) = (X4_sumOf_lp4 6 f (nI nb) n s (nI b), upd vM 21 0) := by
  intro n
  induction n with
  | zero => intro b s h3 h4; omega
  | succ n ih =>
    intro b s h3 h4
    show X5_account_lp133b vM aM p (X5_account_lp133 vM aM p n) s (nI b) = (X4_sumOf_lp4b 6 f (nI nb) (X4_sumOf_lp4 6 f (nI nb) n) s (nI b), upd vM 21 0)
    unfold X5_account_lp133b X4_sumOf_lp4b
    rw [hm]
    by_cases c : nI nb ≤ nI b
    · rw [if_pos c, if_pos c]
    · rw [if_neg c, if_neg c]
      have hb : b < nb := by
        rcases Nat.lt_or_ge b nb with h | h
        · exact h
        · exact absurd ((nI_leI (by omega) (by omega)).mpr h) c
      rw [if_neg (show ¬ Int32.ofNat 6 ≤ nI b from fun z => by have := (nI_leI (a := 6) (b := b) (by omega) (by omega)).mp z; omega), of_3 (by omega), hf b hb, nI_clamp (n := b) (by omega), nI_add1]
      exact ih (b + 1) _ hb (by omega)
theorem acc171 (h : SimC N vC aC (aM 0)) : ∀ (n b : Nat) (s : Int32), b ≤ 4 → 4 - b < n → X5_account_lp171 vM aM p n s (nI b) = (X0_oathsInForce_lp4 vC aC n s (nI b), upd vM 21 0) := by
  intro n
  induction n with
  | zero => intro b s h3 h4; omega
  | succ n ih =>
    intro b s h3 h4
    show X5_account_lp171b vM aM p (X5_account_lp171 vM aM p n) s (nI b) = (X0_oathsInForce_lp4b vC aC (X0_oathsInForce_lp4 vC aC n) s (nI b), upd vM 21 0)
    unfold X5_account_lp171b X0_oathsInForce_lp4b
    by_cases c : (4 : Int32) ≤ nI b
    · rw [if_pos c, if_pos c]
    · rw [if_neg c, if_neg c]
      have hb : b < 4 := by
        rcases Nat.lt_or_ge b 4 with h | h
        · exact h
        · exact absurd ((nI_leI (a := 4) (by omega) (by omega)).mpr h) c
      rw [sim_sworn (vM := upd vM 21 0) h hb, nI_add1]
      by_cases d : X5_isSworn_f (upd vM 21 0) aM (nI b) = true
      · rw [if_pos d, if_pos d]
        exact ih (b + 1) _ hb (by omega)
      · rw [if_neg d, if_neg d]
        exact ih (b + 1) _ hb (by omega)
theorem acc197 (h : SimC N vC aC (aM 0)) : ∀ (n b : Nat) (s : Int32), b ≤ 8 → 8 - b < n → s = kSum (kPt (fun j => X0_shortnessOf_f vC aC (nI j)) 255) b → X5_account_lp197 vM aM p n s (nI b) = (kSum (kPt (fun j => X0_shortnessOf_f vC aC (nI j)) 255) 8, upd vM 21 0) := by
  intro n
  induction n with
  | zero => intro b s h3 h4; omega
  | succ n ih =>
    intro b s h3 h4 hs
    show X5_account_lp197b vM aM p (X5_account_lp197 vM aM p n) s (nI b) = (kSum (kPt (fun j => X0_shortnessOf_f vC aC (nI j)) 255) 8, upd vM 21 0)
    unfold X5_account_lp197b
    by_cases c : (8 : Int32) ≤ nI b
    · rw [if_pos c]
      have : 8 ≤ b := (nI_leI (a := 8) (by omega) (by omega)).mp c
      obtain rfl : b = 8 := by omega
      rw [hs]
    · rw [if_neg c]
      have hb : b < 8 := by
        rcases Nat.lt_or_ge b 8 with h | h
        · exact h
        · exact absurd ((nI_leI (a := 8) (by omega) (by omega)).mpr h) c
      rw [← sim_short (vM := upd vM 21 0) h hb, nI_add1]
      refine ih (b + 1) _ hb (by omega) ?_
      rw [hs]
      refine congrArg (_ + ·) ?_
      have e : (255 : Nat).testBit b = true := (by decide : ∀ b, b < 8 → (255 : Nat).testBit b = true) b hb
      exact (show X0_shortnessOf_f vC aC (nI b) = kPt _ 255 b from (if_pos e).symm)
theorem s_account (hR : kRel N vF vC aC vS aS vH aH vR vT aT t k vM aM) : ((X5_account_f vM aM p0).2) 21 = kLk1 ((X4_account_f vF vC aC vH aH vT aT p0).1) ∧ ((X4_account_f vF vC aC vH aH vT aT p0).1 = 0 → (X5_account_f vM aM p0).1 = (X4_account_f vF vC aC vH aH vT aT p0).2) ∧ kRel (N + 60) vF vC aC vS aS vH aH vR vT aT t k ((X5_account_f vM aM p0).2) aM := by
  have hR' := hR
  obtain ⟨r1, r2, ⟨u, h0, b1, b2, b3, b4, b5, b6⟩, r4, r5, ⟨⟨ln, t1, t2, t3, t4⟩, t5⟩, l1, l2, l3⟩ := hR
  obtain ⟨nb, nj, mk, th, sa, nt, ⟨⟨a1, a2, a3, a4⟩, s, ⟨c0, c1, c2, c3, c4, c5, c6, c7, c8, c9⟩, ⟨d0, d1, d2, d3, d4, d5⟩⟩, h1, h2, h3, h4⟩ := r1
  have q97 := acc97 (vM := vM) (p := p0) (f := aC 6) a2 c7 (fun j hj => by obtain ⟨-, q, -, z1, z2⟩ := h3 j (by omega); rw [z1, z2]) 7 0 0 (by omega) (by omega)
  have q133 := acc133 (vM := vM) (p := p0) (f := aC 11) a1 c9 (fun j hj => by obtain ⟨t, gr, g1, g2, g3, g4, g5, g6, g7, g8, g9, g10⟩ := h4 j hj; rw [g8, g9]) 7 0 0 (by omega) (by omega)
  have q171 := acc171 (vM := vM) (p := p0) hR'.1 5 0 0 (by omega) (by omega)
  have q197 := acc197 (vM := vM) (p := p0) hR'.1 9 0 0 (by omega) (by omega) rfl
  unfold X4_account_f X5_account_f
  by_cases e0 : p0 = 0
  · rw [if_pos e0, if_pos e0, e0, show (0 : Int32).toNatClampNeg = 0 from rfl, c0]
    exact ro_u1 hR'
  rw [if_neg e0, if_neg e0]
  by_cases e1 : p0 = 1
  · rw [if_pos e1, if_pos e1, e1, show (1 : Int32).toNatClampNeg = 1 from rfl, c1, c2]
    exact ro_u1 hR'
  rw [if_neg e1, if_neg e1]
  by_cases e2 : p0 = 2
  · rw [if_pos e2, if_pos e2, e2, show (2 : Int32).toNatClampNeg = 2 from rfl, c3]
    exact ro_u1 hR'
  rw [if_neg e2, if_neg e2]
  by_cases e3 : p0 = 3
  · rw [if_pos e3, if_pos e3, e3, show (3 : Int32).toNatClampNeg = 3 from rfl, c4, c5]
    exact ro_u1 hR'
  rw [if_neg e3, if_neg e3]
  by_cases e4 : p0 = 4
  · rw [if_pos e4, if_pos e4, e4, show (4 : Int32).toNatClampNeg = 4 from rfl, c6, c7]
    exact ro_u1 hR'
  rw [if_neg e4, if_neg e4]
  by_cases e5 : p0 = 5
  · rw [if_pos e5, if_pos e5, e5, show (5 : Int32).toNatClampNeg = 5 from rfl, c8, c9]
    exact ro_u1 hR'
  rw [if_neg e5, if_neg e5]
  by_cases e6 : p0 = 6
  · rw [if_pos e6, if_pos e6, show X5_account_lp97 vM aM p0 7 0 0 = _ from q97, c6]
    exact ro_u1 hR'
  rw [if_neg e6, if_neg e6]
  by_cases e7 : p0 = 7
  · rw [if_pos e7, if_pos e7, show X5_account_lp133 vM aM p0 7 0 0 = _ from q133, c8]
    exact ro_u1 hR'
  rw [if_neg e7, if_neg e7]
  by_cases e8 : p0 = 8
  · rw [if_pos e8, if_pos e8, e8, show ((8 : Int32) - 2).toNatClampNeg = 6 from rfl, d0]
    exact ro_u1 hR'
  rw [if_neg e8, if_neg e8]
  by_cases e9 : p0 = 9
  · rw [if_pos e9, if_pos e9, e9, show ((9 : Int32) - 2).toNatClampNeg = 7 from rfl, d1, d2]
    exact ro_u1 hR'
  rw [if_neg e9, if_neg e9]
  by_cases e10 : p0 = 10
  · rw [if_pos e10, if_pos e10, e10, show ((10 : Int32) - 2).toNatClampNeg = 8 from rfl, d3, d4]
    exact ro_u1 hR'
  rw [if_neg e10, if_neg e10]
  by_cases e11 : p0 = 11
  · rw [if_pos e11, if_pos e11, e11, show ((11 : Int32) - 2).toNatClampNeg = 9 from rfl, d5]
    exact ro_u1 hR'
  rw [if_neg e11, if_neg e11]
  by_cases e12 : p0 = 12
  · rw [if_pos e12, if_pos e12, show X5_account_lp171 vM aM p0 5 0 0 = _ from q171]
    exact ro_u1 hR'
  rw [if_neg e12, if_neg e12]
  by_cases e13 : p0 = 13
  · rw [if_pos e13, if_pos e13, show X5_account_lp197 vM aM p0 9 0 0 = _ from q197, show X0_shortnessTogether_f vC aC 255 = _ from short_ok (B := 255) (by omega)]
    exact ro_u1 hR'
  rw [if_neg e13, if_neg e13]
  by_cases e14 : p0 = 14
  · rw [if_pos e14, if_pos e14, b4, b5]
    exact ro_u1 hR'
  rw [if_neg e14, if_neg e14]
  by_cases e15 : p0 = 15
  · rw [if_pos e15, if_pos e15, t2, t3]
    exact ro_u1 hR'
  rw [if_neg e15, if_neg e15]
  exact ro_b1 (show (3 : Nat) ≠ 0 by decide) hR'
end S11
