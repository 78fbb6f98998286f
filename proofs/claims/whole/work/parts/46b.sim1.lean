/-! small steps of the relation -/
theorem va_us {α : Type} {f : Nat → α} {k : Nat} {x : α} : va_up f k x k = x := if_pos rfl
theorem va_un {α : Type} {f : Nat → α} {k j : Nat} {x : α} (h : j ≠ k) : va_up f k x j = f j := if_neg h
section S1
variable {N nb nj mk th sa nt : Nat} {v m : Nat → Int32} {a : Nat → Nat → Int32} {x y : Int32}
theorem SimA.low {k : Nat} (hk : k < 10) (h : SimA nb a m) : SimA nb a (upd m k x) := by
  obtain ⟨h1, h2, h3, h4⟩ := h
  refine ⟨fun i hi => ?_, fun i hi => ?_, fun j hj => ?_, fun b hb => ?_⟩
  · rw [pk_un (by omega)]; exact h1 i hi
  · rw [pk_un (by omega)]; exact h2 i hi
  · unfold SimJ; rw [pk_un (by omega), pk_un (by omega)]; exact h3 j hj
  · unfold SimB; rw [pk_un (by omega), pk_un (by omega), pk_un (by omega), pk_un (by omega), pk_un (by omega)]; exact h4 b hb
theorem SimF.high {k : Nat} (hk : 10 ≤ k) (h : SimF N nb nj mk th sa nt v m) : SimF N nb nj mk th sa nt v (upd m k x) := by
  unfold SimF
  rw [pk_un (by omega), pk_un (by omega), pk_un (by omega), pk_un (by omega), pk_un (by omega), pk_un (by omega), pk_un (by omega), pk_un (by omega), pk_un (by omega), pk_un (by omega)]
  exact h
/-- the day -/
theorem SimC.day (h : SimC N v a m) : SimC N (upd v 0 x) a (upd m 0 x) := by
  obtain ⟨nb, nj, mk, th, sa, nt, ⟨a1, a2, ⟨c0, c1⟩, a4⟩, hA⟩ := h
  exact ⟨nb, nj, mk, th, sa, nt, ⟨a1, a2, ⟨rfl, c1⟩, a4⟩, hA.low (by decide)⟩
theorem SimC.coins (h : SimC N v a m) : SimC N (upd v 2 x) a (upd m 2 x) := by
  obtain ⟨nb, nj, mk, th, sa, nt, ⟨a1, a2, ⟨c0, c1, c2, c3, c4⟩, a4⟩, hA⟩ := h
  exact ⟨nb, nj, mk, th, sa, nt, ⟨a1, a2, ⟨c0, c1, c2, rfl, c4⟩, a4⟩, hA.low (by decide)⟩
theorem SimC.thumb {t : Nat} (ht : t ≤ 30) (h : SimC N v a m) : SimC N (upd v 3 (nI t)) a (upd m 3 (nI t)) := by
  obtain ⟨nb, nj, mk, th, sa, nt, ⟨⟨a1, a2, a3, a4⟩, s, ⟨c0, c1, c2, c3, c4, c5, c6⟩, d⟩, hA⟩ := h
  exact ⟨nb, nj, mk, t, sa, nt, ⟨⟨a1, a2, a3, ht⟩, s, ⟨c0, c1, c2, c3, rfl, rfl, c6⟩, d⟩, hA.low (by decide)⟩
theorem SimC.market {k : Nat} (hk : k < 4) (h : SimC N v a m) : SimC N (upd v 1 (nI k)) a (upd m 1 (nI k)) := by
  obtain ⟨nb, nj, mk, th, sa, nt, ⟨⟨a1, a2, a3, a4⟩, s, ⟨c0, c1, c2, c3⟩, d⟩, hA⟩ := h
  exact ⟨nb, nj, k, th, sa, nt, ⟨⟨a1, a2, hk, a4⟩, s, ⟨c0, rfl, rfl, c3⟩, d⟩, hA.low (by decide)⟩
theorem SimC.jars {nj : Nat} (hj : nj < 6) (h7 : v 4 = nI nj) (h : SimC N v a m) : SimC N (upd v 4 (nI (nj + 1))) a (upd m 4 (nI (nj + 1))) := by
  obtain ⟨nb, nj', mk, th, sa, nt, ⟨⟨a1, a2, a3, a4⟩, s, ⟨c0, c1, c2, c3, c4, c5, c6, c7, c8⟩, d⟩, hA⟩ := h
  exact ⟨nb, nj + 1, mk, th, sa, nt, ⟨⟨a1, by omega, a3, a4⟩, s, ⟨c0, c1, c2, c3, c4, c5, rfl, rfl, c8⟩, d⟩, hA.low (by decide)⟩
/-- a bag more, laid out before -/
theorem SimC.bags {nb : Nat} (hb : nb < 6) (h7 : v 7 = nI nb) (hB : SimB nb a m) (h : SimC N v a m) : SimC N (upd v 7 (nI (nb + 1))) a (upd m 5 (nI (nb + 1))) := by
  obtain ⟨nb', nj, mk, th, sa, nt, ⟨⟨a1, a2, a3, a4⟩, s, ⟨c0, c1, c2, c3, c4, c5, c6, c7, c8, c9⟩, d⟩, h1, h2, h3, h4⟩ := h
  obtain rfl : nb' = nb := (nI_eq (by omega) (by omega)).mp (c8.symm.trans h7)
  refine ⟨nb' + 1, nj, mk, th, sa, nt, ⟨⟨by omega, a2, a3, a4⟩, s, ⟨c0, c1, c2, c3, c4, c5, c6, c7, rfl, rfl⟩, d⟩, SimA.low (by decide) ⟨h1, h2, h3, fun b hb2 => ?_⟩⟩
  rcases Nat.lt_or_ge b nb' with hlt | hge
  · exact h4 b hlt
  · obtain rfl : b = nb' := by omega
    exact hB
/-- a sale -/
theorem SimC.sold {net : Nat} {g16 c18 : Int32} (hn : 0 < net) (hn4 : net ≤ 400) (hN : N < 100000) (h : SimC N v a m) : ∀ sa nt : Nat, v 15 = nI sa → v 17 = nI nt → sa ≤ N → nt ≤ 400 * sa → SimC (N + 1) (upd (upd (upd (upd v 15 (nI (sa + 1))) 16 g16) 17 (nI (nt + net))) 18 c18) a (upd (upd (upd (upd m 8 (nI (sa + 1))) 6 g16) 7 (nI (nt + net))) 9 c18) := by
  intro sa nt e1 e2 e3 e4
  obtain ⟨nb, nj, mk, th, sa', nt', ⟨a1, ⟨s1, s2, s3⟩, c, ⟨d0, d1, d2, d3, d4, d5⟩⟩, hA⟩ := h
  obtain rfl : sa' = sa := (nI_eq (by omega) (by omega)).mp (d3.symm.trans e1)
  obtain rfl : nt' = nt := (nI_eq (by omega) (by omega)).mp (d1.symm.trans e2)
  exact ⟨nb, nj, mk, th, sa' + 1, nt' + net, ⟨a1, ⟨by omega, by omega, by omega⟩, c, ⟨rfl, rfl, rfl, rfl, rfl, rfl⟩⟩, (((hA.low (by decide)).low (by decide)).low (by decide)).low (by decide)⟩
theorem SimC.of (hF : SimF N nb nj mk th sa nt v m) (hA : SimA nb a m) : SimC N v a m := ⟨nb, nj, mk, th, sa, nt, hF, hA⟩
theorem SimC.oath {i : Nat} (hi : i < 4) (hx : y = x + 1) (h : SimC N v a m) : SimC N v (va_up a 14 (upd (a 14) i x)) (upd m (10 + i) y) := by
  subst hx
  obtain ⟨nb, nj, mk, th, sa, nt, hF, h1, h2, h3, h4⟩ := h
  refine .of (hF.high (by omega)) ⟨fun k hk => ?_, fun k hk => ?_, fun j hj => ?_, fun b hb => ?_⟩
  · rw [va_us]
    by_cases e : k = i
    · subst e; rw [pk_us, pk_us]
    · rw [pk_un (by omega), pk_un e]; exact h1 k hk
  · rw [pk_un (by omega)]; exact h2 k hk
  · unfold SimJ; rw [pk_un (by omega), pk_un (by omega)]; exact h3 j hj
  · have := hF.1.1
    unfold SimB; rw [pk_un (by omega), pk_un (by omega), pk_un (by omega), pk_un (by omega), pk_un (by omega)]; exact h4 b hb
theorem SimC.uses {i : Nat} (hi : i < 8) (h : SimC N v a m) : SimC N v (va_up a 13 (upd (a 13) i x)) (upd m (14 + i) x) := by
  obtain ⟨nb, nj, mk, th, sa, nt, hF, h1, h2, h3, h4⟩ := h
  refine .of (hF.high (by omega)) ⟨fun k hk => ?_, fun k hk => ?_, fun j hj => ?_, fun b hb => ?_⟩
  · rw [pk_un (by omega)]; exact h1 k hk
  · rw [va_us]
    by_cases e : k = i
    · subst e; rw [pk_us, pk_us]
    · rw [pk_un (by omega), pk_un e]; exact h2 k hk
  · unfold SimJ; rw [pk_un (by omega), pk_un (by omega)]; exact h3 j hj
  · unfold SimB; rw [pk_un (by omega), pk_un (by omega), pk_un (by omega), pk_un (by omega), pk_un (by omega)]; exact h4 b hb
theorem SimC.jarG {i q : Nat} (hi : i < 6) (hq : q ≤ 900) (h : SimC N v a m) : SimC N v (va_up a 6 (upd (a 6) i (nI q))) (upd m (23 + 2 * i) (nI q)) := by
  obtain ⟨nb, nj, mk, th, sa, nt, hF, h1, h2, h3, h4⟩ := h
  refine .of (hF.high (by omega)) ⟨fun k hk => ?_, fun k hk => ?_, fun j hj => ?_, fun b hb => ?_⟩
  · rw [pk_un (by omega)]; exact h1 k hk
  · rw [pk_un (by omega)]; exact h2 k hk
  · unfold SimJ
    rw [pk_un (by omega), va_us]
    by_cases e : j = i
    · subst e; exact ⟨(h3 j hj).1, q, hq, pk_us, pk_us⟩
    · rw [pk_un (by omega), pk_un e]; exact h3 j hj
  · unfold SimB; rw [pk_un (by omega), pk_un (by omega), pk_un (by omega), pk_un (by omega), pk_un (by omega)]; exact h4 b hb
theorem SimC.jarS {i : Nat} (hi : i < 6) (h : SimC N v a m) : SimC N v (va_up a 5 (upd (a 5) i x)) (upd m (22 + 2 * i) x) := by
  obtain ⟨nb, nj, mk, th, sa, nt, hF, h1, h2, h3, h4⟩ := h
  refine .of (hF.high (by omega)) ⟨fun k hk => ?_, fun k hk => ?_, fun j hj => ?_, fun b hb => ?_⟩
  · rw [pk_un (by omega)]; exact h1 k hk
  · rw [pk_un (by omega)]; exact h2 k hk
  · unfold SimJ
    rw [va_us]
    by_cases e : j = i
    · subst e; rw [pk_us, pk_us, pk_un (by omega)]; exact ⟨rfl, (h3 j hj).2⟩
    · rw [pk_un (by omega), pk_un e, pk_un (by omega)]; exact h3 j hj
  · unfold SimB; rw [pk_un (by omega), pk_un (by omega), pk_un (by omega), pk_un (by omega), pk_un (by omega)]; exact h4 b hb
theorem SimC.tare {i : Nat} {t1 : Nat} (hi : i < 6) (ht : 5 ≤ t1 ∧ t1 ≤ 50) (h : SimC N v a m) : SimC N v (va_up a 8 (upd (a 8) i (nI t1))) (upd m (34 + 5 * i) (nI t1)) := by
  obtain ⟨nb, nj, mk, th, sa, nt, hF, h1, h2, h3, h4⟩ := h
  refine .of (hF.high (by omega)) ⟨fun k hk => ?_, fun k hk => ?_, fun j hj => ?_, fun b hb => ?_⟩
  · rw [pk_un (by omega)]; exact h1 k hk
  · rw [pk_un (by omega)]; exact h2 k hk
  · unfold SimJ; rw [pk_un (by omega), pk_un (by omega)]; exact h3 j hj
  · have h6 := hF.1.1
    obtain ⟨t, gr, g1, g2, g3, g4, g5, g6, g7, g8, g9, g10⟩ := h4 b hb
    by_cases e : b = i
    · subst e
      refine ⟨t1, gr, ht.1, ht.2, g3, ?_, ?_, ?_, ?_, ?_, ?_, ?_⟩
      · rw [va_us, pk_us]
      · rw [pk_us]
      · rw [pk_un (by omega)]; exact g6
      · rw [pk_un (by omega)]; exact g7
      · exact g8
      · rw [pk_un (by omega)]; exact g9
      · rw [pk_un (by omega)]; exact g10
    · refine ⟨t, gr, g1, g2, g3, ?_, ?_, ?_, ?_, ?_, ?_, ?_⟩
      · rw [va_us, pk_un e]; exact g4
      · rw [pk_un (by omega)]; exact g5
      · rw [pk_un (by omega)]; exact g6
      · rw [pk_un (by omega)]; exact g7
      · exact g8
      · rw [pk_un (by omega)]; exact g9
      · rw [pk_un (by omega)]; exact g10
theorem SimC.dust {i : Nat} (hi : i < 6) (h : SimC N v a m) : SimC N v (va_up a 9 (upd (a 9) i x)) (upd m (35 + 5 * i) x) := by
  obtain ⟨nb, nj, mk, th, sa, nt, hF, h1, h2, h3, h4⟩ := h
  refine .of (hF.high (by omega)) ⟨fun k hk => ?_, fun k hk => ?_, fun j hj => ?_, fun b hb => ?_⟩
  · rw [pk_un (by omega)]; exact h1 k hk
  · rw [pk_un (by omega)]; exact h2 k hk
  · unfold SimJ; rw [pk_un (by omega), pk_un (by omega)]; exact h3 j hj
  · have h6 := hF.1.1
    obtain ⟨t, gr, g1, g2, g3, g4, g5, g6, g7, g8, g9, g10⟩ := h4 b hb
    by_cases e : b = i
    · subst e
      refine ⟨t, gr, g1, g2, g3, ?_, ?_, ?_, ?_, ?_, ?_, ?_⟩
      · exact g4
      · rw [pk_un (by omega)]; exact g5
      · rw [va_us, pk_us, pk_us]
      · rw [pk_un (by omega)]; exact g7
      · exact g8
      · rw [pk_un (by omega)]; exact g9
      · rw [pk_un (by omega)]; exact g10
    · refine ⟨t, gr, g1, g2, g3, ?_, ?_, ?_, ?_, ?_, ?_, ?_⟩
      · exact g4
      · rw [pk_un (by omega)]; exact g5
      · rw [va_us, pk_un (by omega), pk_un e]; exact g6
      · rw [pk_un (by omega)]; exact g7
      · exact g8
      · rw [pk_un (by omega)]; exact g9
      · rw [pk_un (by omega)]; exact g10
theorem SimC.spice {i : Nat} (hi : i < 6) (hy : y = x + 1) (h : SimC N v a m) : SimC N v (va_up a 10 (upd (a 10) i x)) (upd m (36 + 5 * i) y) := by
  obtain ⟨nb, nj, mk, th, sa, nt, hF, h1, h2, h3, h4⟩ := h
  refine .of (hF.high (by omega)) ⟨fun k hk => ?_, fun k hk => ?_, fun j hj => ?_, fun b hb => ?_⟩
  · rw [pk_un (by omega)]; exact h1 k hk
  · rw [pk_un (by omega)]; exact h2 k hk
  · unfold SimJ; rw [pk_un (by omega), pk_un (by omega)]; exact h3 j hj
  · have h6 := hF.1.1
    obtain ⟨t, gr, g1, g2, g3, g4, g5, g6, g7, g8, g9, g10⟩ := h4 b hb
    by_cases e : b = i
    · subst e
      refine ⟨t, gr, g1, g2, g3, ?_, ?_, ?_, ?_, ?_, ?_, ?_⟩
      · exact g4
      · rw [pk_un (by omega)]; exact g5
      · rw [pk_un (by omega)]; exact g6
      · rw [va_us, pk_us, pk_us]; exact hy
      · exact g8
      · rw [pk_un (by omega)]; exact g9
      · rw [pk_un (by omega)]; exact g10
    · refine ⟨t, gr, g1, g2, g3, ?_, ?_, ?_, ?_, ?_, ?_, ?_⟩
      · exact g4
      · rw [pk_un (by omega)]; exact g5
      · rw [pk_un (by omega)]; exact g6
      · rw [va_us, pk_un (by omega), pk_un e]; exact g7
      · exact g8
      · rw [pk_un (by omega)]; exact g9
      · rw [pk_un (by omega)]; exact g10
theorem SimC.grains {i : Nat} {gr1 : Nat} (hi : i < 6) (hg : gr1 ≤ 400) (h : SimC N v a m) : SimC N v (va_up a 11 (upd (a 11) i (nI gr1))) (upd m (37 + 5 * i) (nI gr1)) := by
  obtain ⟨nb, nj, mk, th, sa, nt, hF, h1, h2, h3, h4⟩ := h
  refine .of (hF.high (by omega)) ⟨fun k hk => ?_, fun k hk => ?_, fun j hj => ?_, fun b hb => ?_⟩
  · rw [pk_un (by omega)]; exact h1 k hk
  · rw [pk_un (by omega)]; exact h2 k hk
  · unfold SimJ; rw [pk_un (by omega), pk_un (by omega)]; exact h3 j hj
  · have h6 := hF.1.1
    obtain ⟨t, gr, g1, g2, g3, g4, g5, g6, g7, g8, g9, g10⟩ := h4 b hb
    by_cases e : b = i
    · subst e
      refine ⟨t, gr1, g1, g2, hg, ?_, ?_, ?_, ?_, ?_, ?_, ?_⟩
      · exact g4
      · rw [pk_un (by omega)]; exact g5
      · rw [pk_un (by omega)]; exact g6
      · rw [pk_un (by omega)]; exact g7
      · rw [va_us, pk_us]
      · rw [pk_us]
      · rw [pk_un (by omega)]; exact g10
    · refine ⟨t, gr, g1, g2, g3, ?_, ?_, ?_, ?_, ?_, ?_, ?_⟩
      · exact g4
      · rw [pk_un (by omega)]; exact g5
      · rw [pk_un (by omega)]; exact g6
      · rw [pk_un (by omega)]; exact g7
      · rw [va_us, pk_un e]; exact g8
      · rw [pk_un (by omega)]; exact g9
      · rw [pk_un (by omega)]; exact g10
theorem SimC.weighings {i : Nat} (hi : i < 6) (h : SimC N v a m) : SimC N v (va_up a 12 (upd (a 12) i x)) (upd m (38 + 5 * i) x) := by
  obtain ⟨nb, nj, mk, th, sa, nt, hF, h1, h2, h3, h4⟩ := h
  refine .of (hF.high (by omega)) ⟨fun k hk => ?_, fun k hk => ?_, fun j hj => ?_, fun b hb => ?_⟩
  · rw [pk_un (by omega)]; exact h1 k hk
  · rw [pk_un (by omega)]; exact h2 k hk
  · unfold SimJ; rw [pk_un (by omega), pk_un (by omega)]; exact h3 j hj
  · have h6 := hF.1.1
    obtain ⟨t, gr, g1, g2, g3, g4, g5, g6, g7, g8, g9, g10⟩ := h4 b hb
    by_cases e : b = i
    · subst e
      refine ⟨t, gr, g1, g2, g3, ?_, ?_, ?_, ?_, ?_, ?_, ?_⟩
      · exact g4
      · rw [pk_un (by omega)]; exact g5
      · rw [pk_un (by omega)]; exact g6
      · rw [pk_un (by omega)]; exact g7
      · exact g8
      · rw [pk_un (by omega)]; exact g9
      · rw [va_us, pk_us, pk_us]
    · refine ⟨t, gr, g1, g2, g3, ?_, ?_, ?_, ?_, ?_, ?_, ?_⟩
      · exact g4
      · rw [pk_un (by omega)]; exact g5
      · rw [pk_un (by omega)]; exact g6
      · rw [pk_un (by omega)]; exact g7
      · exact g8
      · rw [pk_un (by omega)]; exact g9
      · rw [va_us, pk_un (by omega), pk_un e]; exact g10

end S1
/-- numbers out of numbers -/
theorem ix_jS (j : Nat) (h : j < 6) : (22 + (2 * nI j)).toNatClampNeg = 22 + 2 * j := (by decide +kernel : ∀ j, j < 6 → (22 + (2 * nI j) : Int32).toNatClampNeg = 22 + 2 * j) j h
theorem ix_jG (j : Nat) (h : j < 6) : ((22 + (2 * nI j)) + 1).toNatClampNeg = 23 + 2 * j := (by decide +kernel : ∀ j, j < 6 → ((22 + (2 * nI j)) + 1 : Int32).toNatClampNeg = 23 + 2 * j) j h
theorem ix_j0 (j : Nat) (h : j < 6) : ((22 + (2 * nI j)) + 0).toNatClampNeg = 22 + 2 * j := (by decide +kernel : ∀ j, j < 6 → ((22 + (2 * nI j)) + 0 : Int32).toNatClampNeg = 22 + 2 * j) j h
theorem ix_b (b k : Nat) (h : b < 6) (hk : k < 5) : ((34 + (5 * nI b)) + nI k).toNatClampNeg = 34 + 5 * b + k := (by decide +kernel : ∀ b, b < 6 → ∀ k, k < 5 → ((34 + (5 * nI b)) + nI k : Int32).toNatClampNeg = 34 + 5 * b + k) b h k hk
theorem ix_w (k : Nat) (h : k < 8) : (14 + nI k).toNatClampNeg = 14 + k := (by decide +kernel : ∀ k, k < 8 → (14 + nI k : Int32).toNatClampNeg = 14 + k) k h
theorem ix_m (k : Nat) (h : k < 4) : (10 + nI k).toNatClampNeg = 10 + k := (by decide +kernel : ∀ k, k < 4 → (10 + nI k : Int32).toNatClampNeg = 10 + k) k h
theorem of_0 {v : Nat → Int32} {a : Nat → Nat → Int32} {b : Nat} (h : b < 6) : X5_of_f v a (nI b) 0 = a 0 (34 + 5 * b) := congrArg (a 0) (ix_b b 0 h (by decide))
theorem of_1 {v : Nat → Int32} {a : Nat → Nat → Int32} {b : Nat} (h : b < 6) : X5_of_f v a (nI b) 1 = a 0 (35 + 5 * b) := congrArg (a 0) ((ix_b b 1 h (by decide)).trans (by omega))
theorem of_2 {v : Nat → Int32} {a : Nat → Nat → Int32} {b : Nat} (h : b < 6) : X5_of_f v a (nI b) 2 = a 0 (36 + 5 * b) := congrArg (a 0) ((ix_b b 2 h (by decide)).trans (by omega))
theorem of_3 {v : Nat → Int32} {a : Nat → Nat → Int32} {b : Nat} (h : b < 6) : X5_of_f v a (nI b) 3 = a 0 (37 + 5 * b) := congrArg (a 0) ((ix_b b 3 h (by decide)).trans (by omega))
theorem of_4 {v : Nat → Int32} {a : Nat → Nat → Int32} {b : Nat} (h : b < 6) : X5_of_f v a (nI b) 4 = a 0 (38 + 5 * b) := congrArg (a 0) ((ix_b b 4 h (by decide)).trans (by omega))
theorem sets_0 {v : Nat → Int32} {a : Nat → Nat → Int32} {b : Nat} {x : Int32} (h : b < 6) : X5_sets_f v a (nI b) 0 x = va_up a 0 (upd (a 0) (34 + 5 * b) x) := congrArg (fun k => va_up a 0 (upd (a 0) k x)) (ix_b b 0 h (by decide))
theorem sets_1 {v : Nat → Int32} {a : Nat → Nat → Int32} {b : Nat} {x : Int32} (h : b < 6) : X5_sets_f v a (nI b) 1 x = va_up a 0 (upd (a 0) (35 + 5 * b) x) := congrArg (fun k => va_up a 0 (upd (a 0) k x)) ((ix_b b 1 h (by decide)).trans (by omega))
theorem sets_2 {v : Nat → Int32} {a : Nat → Nat → Int32} {b : Nat} {x : Int32} (h : b < 6) : X5_sets_f v a (nI b) 2 x = va_up a 0 (upd (a 0) (36 + 5 * b) x) := congrArg (fun k => va_up a 0 (upd (a 0) k x)) ((ix_b b 2 h (by decide)).trans (by omega))
theorem sets_3 {v : Nat → Int32} {a : Nat → Nat → Int32} {b : Nat} {x : Int32} (h : b < 6) : X5_sets_f v a (nI b) 3 x = va_up a 0 (upd (a 0) (37 + 5 * b) x) := congrArg (fun k => va_up a 0 (upd (a 0) k x)) ((ix_b b 3 h (by decide)).trans (by omega))
theorem sets_4 {v : Nat → Int32} {a : Nat → Nat → Int32} {b : Nat} {x : Int32} (h : b < 6) : X5_sets_f v a (nI b) 4 x = va_up a 0 (upd (a 0) (38 + 5 * b) x) := congrArg (fun k => va_up a 0 (upd (a 0) k x)) ((ix_b b 4 h (by decide)).trans (by omega))
/-- checks -/
theorem k_nlt {x y : Int32} : ¬ x ≤ y ↔ y < x := Int32.not_le
theorem k_lit {x c d : Int32} (h : d.toInt = c.toInt + 1) : c < x ↔ d ≤ x := by
  rw [Int32.lt_iff_toInt_lt, Int32.le_iff_toInt_le]
  omega
theorem sim_isMarket (x : Int32) : X4_isMarket_f x = X5_isMarket_f x := by
  unfold X4_isMarket_f X5_isMarket_f X5_in_f
  by_cases h : x < 0
  · rw [if_pos h, if_pos h]
  · rw [if_neg h, if_neg h]
    by_cases h2 : 4 ≤ x
    · rw [if_pos h2, if_pos ((k_lit (by decide)).mpr h2)]
    · rw [if_neg h2, if_neg (fun z => h2 ((k_lit (by decide)).mp z))]
theorem sim_isWeight (x : Int32) : X4_isWeight_f x = X5_isWeight_f x := by
  unfold X4_isWeight_f X5_isWeight_f X5_in_f
  by_cases h : x < 0
  · rw [if_pos h, if_pos h]
  · rw [if_neg h, if_neg h]
    by_cases h2 : 8 ≤ x
    · rw [if_pos h2, if_pos ((k_lit (by decide)).mpr h2)]
    · rw [if_neg h2, if_neg (fun z => h2 ((k_lit (by decide)).mp z))]
theorem sim_isSpice (x : Int32) : X4_isSpice_f x = X5_in_f x 0 4 := by
  unfold X4_isSpice_f X5_in_f
  by_cases h : x < 0
  · rw [if_pos h, if_pos h]
  · rw [if_neg h, if_neg h]
    by_cases h2 : 5 ≤ x
    · rw [if_pos h2, if_pos ((k_lit (by decide)).mpr h2)]
    · rw [if_neg h2, if_neg (fun z => h2 ((k_lit (by decide)).mp z))]
theorem sim_num {n : Nat} {x z : Int32} (hn : n ≤ 6) (hz : z = nI n) : (if x < 0 then false else if z ≤ x then false else true) = X5_in_f x 0 (z - 1) := by
  subst hz
  unfold X5_in_f
  by_cases h : x < 0
  · rw [if_pos h, if_pos h]
  · rw [if_neg h, if_neg h]
    have h0 : 0 ≤ x.toInt := by
      rw [Int32.lt_iff_toInt_lt, Int32.toInt_zero] at h
      omega
    have e : nI n ≤ x ↔ nI n - 1 < x := by
      rw [Int32.le_iff_toInt_le, Int32.lt_iff_toInt_lt]
      have h1 : (nI n).toInt = n := nI_toInt (by omega)
      have h2 : (nI n - 1).toInt = (n : Int) - 1 := (by decide +kernel : ∀ n, n < 7 → (nI n - 1).toInt = (n : Int) - 1) n (by omega)
      omega
    by_cases h2 : nI n ≤ x
    · rw [if_pos h2, if_pos (e.mp h2)]
    · rw [if_neg h2, if_neg (fun z => h2 (e.mpr z))]
theorem sim_in {n : Nat} {x z : Int32} (hn : n ≤ 6) (hz : z = nI n) (h : X5_in_f x 0 (z - 1) = true) : ∃ j, j < n ∧ x = nI j := by
  rw [← sim_num hn hz] at h
  subst hz
  by_cases h1 : x < 0
  · rw [if_pos h1] at h; cases h
  · rw [if_neg h1] at h
    by_cases h2 : nI n ≤ x
    · rw [if_pos h2] at h; cases h
    · obtain ⟨j, hj, rfl⟩ := nI_of h1
      exact ⟨j, by
        have : ¬ n ≤ j := fun z => h2 ((nI_leI (a := n) (b := j) (by omega) hj).mpr z)
        omega, rfl⟩
theorem sim_in3 {x : Int32} (h : X5_isMarket_f x = true) : ∃ j, j < 4 ∧ x = nI j := by
  rw [← sim_isMarket] at h
  exact vp_in_of (k_isMarket h) (by decide)
theorem sim_in7 {x : Int32} (h : X5_isWeight_f x = true) : ∃ j, j < 8 ∧ x = nI j := by
  rw [← sim_isWeight] at h
  exact vp_in_of (k_isWeight h) (by decide)
theorem sim_rng {x lo hi : Int32} : X5_in_f x lo hi = true ↔ lo ≤ x ∧ x ≤ hi := by
  unfold X5_in_f
  by_cases h1 : x < lo
  · rw [if_pos h1]
    exact ⟨fun z => (by cases z), fun z => absurd h1 (Int32.not_lt.mpr z.1)⟩
  · rw [if_neg h1]
    by_cases h2 : hi < x
    · rw [if_pos h2]
      exact ⟨fun z => (by cases z), fun z => absurd h2 (Int32.not_lt.mpr z.2)⟩
    · rw [if_neg h2]
      exact ⟨fun _ => ⟨Int32.not_lt.mp h1, Int32.not_lt.mp h2⟩, fun _ => rfl⟩
