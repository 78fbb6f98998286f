
theorem kfd_set (s : Bool) (C : Nat) (q : Int) (hq : (-1074) ≤ q) : ∃ v : Nat, FP.Core.encode FP.Core.b64 (FP.Core.settle FP.Core.b64 s C q) = s.toNat * 9223372036854775808 + v ∧ v ≤ 9218868437227405312 ∧ (0 < C → q < 60 → 0 < v ∧ v < 9218868437227405312) := by
  have e1 : FP.Core.b64.tails = 4503599627370496 := rfl
  have e2 : FP.Core.b64.exps = 2048 := rfl
  have e3 : FP.Core.b64.qmin = (-1074) := rfl
  have e4 : FP.Core.b64.qmax = 971 := rfl
  have e5 : 2 ^ FP.Core.b64.p = 9007199254740992 := rfl
  have hs : s.toNat ≤ 1 := by cases s <;> decide
  unfold FP.Core.settle
  rw [e5, e1]
  by_cases hC : C < 9007199254740992
  · rw [if_pos hC]
    unfold FP.Core.bound
    rw [e4]
    by_cases hm : q ≤ 971
    · rw [if_pos hm]
      show ∃ v, (if C < FP.Core.b64.tails then FP.Core.assemble FP.Core.b64 s 0 C else FP.Core.assemble FP.Core.b64 s ((q - FP.Core.b64.qmin).toNat + 1) (C - FP.Core.b64.tails)) = _ ∧ _
      unfold FP.Core.assemble
      rw [e1, e2, e3]
      by_cases hT : C < 4503599627370496
      · rw [if_pos hT]
        exact ⟨C, by omega, by omega, fun h _ => ⟨h, by omega⟩⟩
      · rw [if_neg hT]
        exact ⟨((q - (-1074)).toNat + 1) * 4503599627370496 + (C - 4503599627370496), by omega, by omega, fun _ _ => ⟨by omega, by omega⟩⟩
    · rw [if_neg hm]
      show ∃ v, FP.Core.assemble FP.Core.b64 s (FP.Core.b64.exps - 1) 0 = _ ∧ _
      unfold FP.Core.assemble
      rw [e1, e2]
      exact ⟨9218868437227405312, by omega, by omega, fun _ h => absurd h (by omega)⟩
  · rw [if_neg hC]
    unfold FP.Core.bound
    rw [e4]
    by_cases hm : q + 1 ≤ 971
    · rw [if_pos hm]
      show ∃ v, (if 4503599627370496 < FP.Core.b64.tails then FP.Core.assemble FP.Core.b64 s 0 4503599627370496 else FP.Core.assemble FP.Core.b64 s ((q + 1 - FP.Core.b64.qmin).toNat + 1) (4503599627370496 - FP.Core.b64.tails)) = _ ∧ _
      unfold FP.Core.assemble
      rw [e1, e2, e3, if_neg (Nat.lt_irrefl _)]
      exact ⟨((q + 1 - (-1074)).toNat + 1) * 4503599627370496, by omega, by omega, fun _ _ => ⟨by omega, by omega⟩⟩
    · rw [if_neg hm]
      show ∃ v, FP.Core.assemble FP.Core.b64 s (FP.Core.b64.exps - 1) 0 = _ ∧ _
      unfold FP.Core.assemble
      rw [e1, e2]
      exact ⟨9218868437227405312, by omega, by omega, fun _ h => absurd h (by omega)⟩
theorem kfd_rr (s : Bool) (num den : Nat) (e : Int) : ∃ v : Nat, FP.Core.encode FP.Core.b64 (FP.Core.roundRatio FP.Core.b64 s num den e) = s.toNat * 9223372036854775808 + v ∧ v ≤ 9218868437227405312 := by
  unfold FP.Core.roundRatio
  by_cases h : num = 0
  · rw [if_pos h]
    refine ⟨0, ?_, by omega⟩
    show (s.toNat * FP.Core.b64.exps + 0) * FP.Core.b64.tails + 0 = _
    rw [show FP.Core.b64.exps = 2048 from rfl, show FP.Core.b64.tails = 4503599627370496 from rfl]
    omega
  · rw [if_neg h]
    obtain ⟨v, h1, h2, -⟩ := kfd_set s (FP.Core.nearest (FP.Core.unitsNum num e (FP.Core.quantum FP.Core.b64 num den e)) (FP.Core.unitsDen den e (FP.Core.quantum FP.Core.b64 num den e))) (FP.Core.quantum FP.Core.b64 num den e) (Int.le_max_left _ _)
    exact ⟨v, h1, h2⟩
theorem kfd_dec (s : Bool) (v : Nat) (hv : v < 9218868437227405312) : ∃ (t : Bool) (c : Nat) (q : Int), FP.Core.decode FP.Core.b64 (s.toNat * 9223372036854775808 + v) = .fin t c q ∧ (0 < v → c ≠ 0) := by
  have hs : s.toNat ≤ 1 := by cases s <;> decide
  have f1 : FP.Core.fieldE FP.Core.b64 (s.toNat * 9223372036854775808 + v) = v / 4503599627370496 := by
    show (s.toNat * 9223372036854775808 + v) / 4503599627370496 % 2048 = v / 4503599627370496
    omega
  have f2 : FP.Core.fieldT FP.Core.b64 (s.toNat * 9223372036854775808 + v) = v % 4503599627370496 := by
    show (s.toNat * 9223372036854775808 + v) % 4503599627370496 = v % 4503599627370496
    omega
  unfold FP.Core.decode
  rw [f1, f2, show FP.Core.b64.exps = 2048 from rfl, show FP.Core.b64.tails = 4503599627370496 from rfl, if_neg (by omega)]
  by_cases h0 : v / 4503599627370496 = 0
  · rw [if_pos h0]
    exact ⟨_, _, _, rfl, fun h => by omega⟩
  · rw [if_neg h0]
    exact ⟨_, _, _, rfl, fun h => by omega⟩
/-- an int, as b64 -/
theorem kfd_int (i : Int) (hi : i.natAbs < 2 ^ 32) : ∃ (s : Bool) (v : Nat), FP.Core.fromInt FP.Core.b64 i = s.toNat * 9223372036854775808 + v ∧ v < 9218868437227405312 ∧ (i ≠ 0 → 0 < v) := by
  show ∃ (s : Bool) (v : Nat), FP.Core.encode FP.Core.b64 (FP.Core.roundRatio FP.Core.b64 (decide (i < 0)) i.natAbs 1 0) = _ ∧ _
  generalize hn : i.natAbs = num at hi
  unfold FP.Core.roundRatio
  by_cases h : num = 0
  · rw [if_pos h]
    refine ⟨decide (i < 0), 0, ?_, by decide, fun h2 => absurd (Int.natAbs_eq_zero.mp (hn.trans h)) h2⟩
    show ((decide (i < 0)).toNat * FP.Core.b64.exps + 0) * FP.Core.b64.tails + 0 = _
    rw [show FP.Core.b64.exps = 2048 from rfl, show FP.Core.b64.tails = 4503599627370496 from rfl]
    omega
  · rw [if_neg h]
    have hlog : num.log2 < 32 := (Nat.log2_lt h).mpr hi
    have hlead : FP.Core.leading num 1 ≤ (num.log2 : Int) := by
      unfold FP.Core.leading
      have : (1 : Nat).log2 = 0 := by decide
      rw [this]
      simp only []
      split <;> omega
    have hq0 : FP.Core.quantum FP.Core.b64 num 1 0 = max ((-1074)) (FP.Core.leading num 1 + 0 - (52)) := rfl
    have hq1 : FP.Core.quantum FP.Core.b64 num 1 0 ≤ (num.log2 : Int) := by rw [hq0]; omega
    have hq2 : FP.Core.quantum FP.Core.b64 num 1 0 < 60 := by omega
    generalize FP.Core.quantum FP.Core.b64 num 1 0 = q at *
    have hC : 0 < FP.Core.nearest (FP.Core.unitsNum num 0 q) (FP.Core.unitsDen 1 0 q) := by
      have h1 : 1 ≤ FP.Core.unitsNum num 0 q / FP.Core.unitsDen 1 0 q := by
        unfold FP.Core.unitsNum FP.Core.unitsDen
        rw [Nat.one_mul, Nat.le_div_iff_mul_le (Nat.two_pow_pos _), Nat.one_mul]
        have h3 : 2 ^ (q - 0).toNat ≤ num := Nat.le_trans (Nat.pow_le_pow_right (by decide) (by omega)) (Nat.log2_self_le h)
        exact Nat.le_trans h3 (Nat.le_mul_of_pos_right _ (Nat.two_pow_pos _))
      unfold FP.Core.nearest
      split
      · omega
      · split <;> omega
    obtain ⟨v, h1, -, h3⟩ := kfd_set (decide (i < 0)) (FP.Core.nearest (FP.Core.unitsNum num 0 q) (FP.Core.unitsDen 1 0 q)) q (by rw [hq0] at *; exact Int.le_max_left _ _)
    exact ⟨_, v, h1, (h3 hC hq2).2, fun _ => (h3 hC hq2).1⟩
theorem kfd_ofNat (n : Nat) (h : n < 18446744073709551616) : (UInt64.ofNat n).toNat = n := UInt64.toNat_ofNat_of_lt' h
theorem kfd_nan (s : Bool) (v : Nat) (hv : v ≤ 9218868437227405312) : vf_n64 (UInt64.ofNat (s.toNat * 9223372036854775808 + v)) := by
  have hs : s.toNat ≤ 1 := by cases s <;> decide
  unfold vf_n64
  rw [UInt64.le_iff_toNat_le, UInt64.toNat_and, kfd_ofNat _ (by omega)]
  show (s.toNat * 9223372036854775808 + v) &&& (2 ^ 63 - 1) ≤ 9218868437227405312
  rw [Nat.and_two_pow_sub_one_eq_mod]
  omega
/-- the quotient of two ints, the second not 0: not NaN -/
theorem kfd_div (a b : Int32) (hb : b ≠ 0) : ∃ (s : Bool) (v : Nat), FP.ddiv (FP.i2d a) (FP.i2d b) = UInt64.ofNat (s.toNat * 9223372036854775808 + v) ∧ v ≤ 9218868437227405312 := by
  have ha := Int32.toInt_lt a
  have ha2 := Int32.le_toInt a
  have hb1 := Int32.toInt_lt b
  have hb2 := Int32.le_toInt b
  obtain ⟨s1, v1, h1, h2, -⟩ := kfd_int a.toInt (by omega)
  obtain ⟨s2, v2, g1, g2, g3⟩ := kfd_int b.toInt (by omega)
  have g4 := g3 (fun z => hb (Int32.toInt_inj.mp z))
  have hs1 : s1.toNat ≤ 1 := by cases s1 <;> decide
  have hs2 : s2.toNat ≤ 1 := by cases s2 <;> decide
  show ∃ (s : Bool) (v : Nat), UInt64.ofNat (FP.Core.encode FP.Core.b64 (FP.Core.quotient FP.Core.b64 (FP.Core.decode FP.Core.b64 (UInt64.ofNat (FP.Core.fromInt FP.Core.b64 a.toInt)).toNat) (FP.Core.decode FP.Core.b64 (UInt64.ofNat (FP.Core.fromInt FP.Core.b64 b.toInt)).toNat))) = _ ∧ _
  rw [h1, g1, kfd_ofNat _ (by omega), kfd_ofNat _ (by omega)]
  obtain ⟨t1, c1, q1, d1, -⟩ := kfd_dec s1 v1 h2
  obtain ⟨t2, c2, q2, d2, d3⟩ := kfd_dec s2 v2 g2
  rw [d1, d2]
  show ∃ (s : Bool) (v : Nat), UInt64.ofNat (FP.Core.encode FP.Core.b64 (if c2 = 0 then _ else FP.Core.roundRatio FP.Core.b64 (t1 != t2) c1 c2 (q1 - q2))) = _ ∧ _
  rw [if_neg (d3 g4)]
  obtain ⟨v, k1, k2⟩ := kfd_rr (t1 != t2) c1 c2 (q1 - q2)
  exact ⟨_, v, by rw [k1], k2⟩
theorem kfd_ok (a b : Int32) (hb : b ≠ 0) : vf_n64 (FP.ddiv (FP.i2d a) (FP.i2d b)) := by
  obtain ⟨s, v, h1, h2⟩ := kfd_div a b hb
  rw [h1]
  exact kfd_nan s v h2

theorem kff_set (s : Bool) (C : Nat) (q : Int) (hq : (-149) ≤ q) : ∃ v : Nat, FP.Core.encode FP.Core.b32 (FP.Core.settle FP.Core.b32 s C q) = s.toNat * 2147483648 + v ∧ v ≤ 2139095040 ∧ (0 < C → q < 60 → 0 < v ∧ v < 2139095040) := by
  have e1 : FP.Core.b32.tails = 8388608 := rfl
  have e2 : FP.Core.b32.exps = 256 := rfl
  have e3 : FP.Core.b32.qmin = (-149) := rfl
  have e4 : FP.Core.b32.qmax = 104 := rfl
  have e5 : 2 ^ FP.Core.b32.p = 16777216 := rfl
  have hs : s.toNat ≤ 1 := by cases s <;> decide
  unfold FP.Core.settle
  rw [e5, e1]
  by_cases hC : C < 16777216
  · rw [if_pos hC]
    unfold FP.Core.bound
    rw [e4]
    by_cases hm : q ≤ 104
    · rw [if_pos hm]
      show ∃ v, (if C < FP.Core.b32.tails then FP.Core.assemble FP.Core.b32 s 0 C else FP.Core.assemble FP.Core.b32 s ((q - FP.Core.b32.qmin).toNat + 1) (C - FP.Core.b32.tails)) = _ ∧ _
      unfold FP.Core.assemble
      rw [e1, e2, e3]
      by_cases hT : C < 8388608
      · rw [if_pos hT]
        exact ⟨C, by omega, by omega, fun h _ => ⟨h, by omega⟩⟩
      · rw [if_neg hT]
        exact ⟨((q - (-149)).toNat + 1) * 8388608 + (C - 8388608), by omega, by omega, fun _ _ => ⟨by omega, by omega⟩⟩
    · rw [if_neg hm]
      show ∃ v, FP.Core.assemble FP.Core.b32 s (FP.Core.b32.exps - 1) 0 = _ ∧ _
      unfold FP.Core.assemble
      rw [e1, e2]
      exact ⟨2139095040, by omega, by omega, fun _ h => absurd h (by omega)⟩
  · rw [if_neg hC]
    unfold FP.Core.bound
    rw [e4]
    by_cases hm : q + 1 ≤ 104
    · rw [if_pos hm]
      show ∃ v, (if 8388608 < FP.Core.b32.tails then FP.Core.assemble FP.Core.b32 s 0 8388608 else FP.Core.assemble FP.Core.b32 s ((q + 1 - FP.Core.b32.qmin).toNat + 1) (8388608 - FP.Core.b32.tails)) = _ ∧ _
      unfold FP.Core.assemble
      rw [e1, e2, e3, if_neg (Nat.lt_irrefl _)]
      exact ⟨((q + 1 - (-149)).toNat + 1) * 8388608, by omega, by omega, fun _ _ => ⟨by omega, by omega⟩⟩
    · rw [if_neg hm]
      show ∃ v, FP.Core.assemble FP.Core.b32 s (FP.Core.b32.exps - 1) 0 = _ ∧ _
      unfold FP.Core.assemble
      rw [e1, e2]
      exact ⟨2139095040, by omega, by omega, fun _ h => absurd h (by omega)⟩
theorem kff_rr (s : Bool) (num den : Nat) (e : Int) : ∃ v : Nat, FP.Core.encode FP.Core.b32 (FP.Core.roundRatio FP.Core.b32 s num den e) = s.toNat * 2147483648 + v ∧ v ≤ 2139095040 := by
  unfold FP.Core.roundRatio
  by_cases h : num = 0
  · rw [if_pos h]
    refine ⟨0, ?_, by omega⟩
    show (s.toNat * FP.Core.b32.exps + 0) * FP.Core.b32.tails + 0 = _
    rw [show FP.Core.b32.exps = 256 from rfl, show FP.Core.b32.tails = 8388608 from rfl]
    omega
  · rw [if_neg h]
    obtain ⟨v, h1, h2, -⟩ := kff_set s (FP.Core.nearest (FP.Core.unitsNum num e (FP.Core.quantum FP.Core.b32 num den e)) (FP.Core.unitsDen den e (FP.Core.quantum FP.Core.b32 num den e))) (FP.Core.quantum FP.Core.b32 num den e) (Int.le_max_left _ _)
    exact ⟨v, h1, h2⟩
theorem kff_dec (s : Bool) (v : Nat) (hv : v < 2139095040) : ∃ (t : Bool) (c : Nat) (q : Int), FP.Core.decode FP.Core.b32 (s.toNat * 2147483648 + v) = .fin t c q ∧ (0 < v → c ≠ 0) := by
  have hs : s.toNat ≤ 1 := by cases s <;> decide
  have f1 : FP.Core.fieldE FP.Core.b32 (s.toNat * 2147483648 + v) = v / 8388608 := by
    show (s.toNat * 2147483648 + v) / 8388608 % 256 = v / 8388608
    omega
  have f2 : FP.Core.fieldT FP.Core.b32 (s.toNat * 2147483648 + v) = v % 8388608 := by
    show (s.toNat * 2147483648 + v) % 8388608 = v % 8388608
    omega
  unfold FP.Core.decode
  rw [f1, f2, show FP.Core.b32.exps = 256 from rfl, show FP.Core.b32.tails = 8388608 from rfl, if_neg (by omega)]
  by_cases h0 : v / 8388608 = 0
  · rw [if_pos h0]
    exact ⟨_, _, _, rfl, fun h => by omega⟩
  · rw [if_neg h0]
    exact ⟨_, _, _, rfl, fun h => by omega⟩
/-- an int, as b32 -/
theorem kff_int (i : Int) (hi : i.natAbs < 2 ^ 32) : ∃ (s : Bool) (v : Nat), FP.Core.fromInt FP.Core.b32 i = s.toNat * 2147483648 + v ∧ v < 2139095040 ∧ (i ≠ 0 → 0 < v) := by
  show ∃ (s : Bool) (v : Nat), FP.Core.encode FP.Core.b32 (FP.Core.roundRatio FP.Core.b32 (decide (i < 0)) i.natAbs 1 0) = _ ∧ _
  generalize hn : i.natAbs = num at hi
  unfold FP.Core.roundRatio
  by_cases h : num = 0
  · rw [if_pos h]
    refine ⟨decide (i < 0), 0, ?_, by decide, fun h2 => absurd (Int.natAbs_eq_zero.mp (hn.trans h)) h2⟩
    show ((decide (i < 0)).toNat * FP.Core.b32.exps + 0) * FP.Core.b32.tails + 0 = _
    rw [show FP.Core.b32.exps = 256 from rfl, show FP.Core.b32.tails = 8388608 from rfl]
    omega
  · rw [if_neg h]
    have hlog : num.log2 < 32 := (Nat.log2_lt h).mpr hi
    have hlead : FP.Core.leading num 1 ≤ (num.log2 : Int) := by
      unfold FP.Core.leading
      have : (1 : Nat).log2 = 0 := by decide
      rw [this]
      simp only []
      split <;> omega
    have hq0 : FP.Core.quantum FP.Core.b32 num 1 0 = max ((-149)) (FP.Core.leading num 1 + 0 - (23)) := rfl
    have hq1 : FP.Core.quantum FP.Core.b32 num 1 0 ≤ (num.log2 : Int) := by rw [hq0]; omega
    have hq2 : FP.Core.quantum FP.Core.b32 num 1 0 < 60 := by omega
    generalize FP.Core.quantum FP.Core.b32 num 1 0 = q at *
    have hC : 0 < FP.Core.nearest (FP.Core.unitsNum num 0 q) (FP.Core.unitsDen 1 0 q) := by
      have h1 : 1 ≤ FP.Core.unitsNum num 0 q / FP.Core.unitsDen 1 0 q := by
        unfold FP.Core.unitsNum FP.Core.unitsDen
        rw [Nat.one_mul, Nat.le_div_iff_mul_le (Nat.two_pow_pos _), Nat.one_mul]
        have h3 : 2 ^ (q - 0).toNat ≤ num := Nat.le_trans (Nat.pow_le_pow_right (by decide) (by omega)) (Nat.log2_self_le h)
        exact Nat.le_trans h3 (Nat.le_mul_of_pos_right _ (Nat.two_pow_pos _))
      unfold FP.Core.nearest
      split
      · omega
      · split <;> omega
    obtain ⟨v, h1, -, h3⟩ := kff_set (decide (i < 0)) (FP.Core.nearest (FP.Core.unitsNum num 0 q) (FP.Core.unitsDen 1 0 q)) q (by rw [hq0] at *; exact Int.le_max_left _ _)
    exact ⟨_, v, h1, (h3 hC hq2).2, fun _ => (h3 hC hq2).1⟩
theorem kff_ofNat (n : Nat) (h : n < 4294967296) : (UInt32.ofNat n).toNat = n := UInt32.toNat_ofNat_of_lt' h
theorem kff_nan (s : Bool) (v : Nat) (hv : v ≤ 2139095040) : vf_n32 (UInt32.ofNat (s.toNat * 2147483648 + v)) := by
  have hs : s.toNat ≤ 1 := by cases s <;> decide
  unfold vf_n32
  rw [UInt32.le_iff_toNat_le, UInt32.toNat_and, kff_ofNat _ (by omega)]
  show (s.toNat * 2147483648 + v) &&& (2 ^ 31 - 1) ≤ 2139095040
  rw [Nat.and_two_pow_sub_one_eq_mod]
  omega
/-- the quotient of two ints, the second not 0: not NaN -/
theorem kff_div (a b : Int32) (hb : b ≠ 0) : ∃ (s : Bool) (v : Nat), FP.fdiv (FP.i2f a) (FP.i2f b) = UInt32.ofNat (s.toNat * 2147483648 + v) ∧ v ≤ 2139095040 := by
  have ha := Int32.toInt_lt a
  have ha2 := Int32.le_toInt a
  have hb1 := Int32.toInt_lt b
  have hb2 := Int32.le_toInt b
  obtain ⟨s1, v1, h1, h2, -⟩ := kff_int a.toInt (by omega)
  obtain ⟨s2, v2, g1, g2, g3⟩ := kff_int b.toInt (by omega)
  have g4 := g3 (fun z => hb (Int32.toInt_inj.mp z))
  have hs1 : s1.toNat ≤ 1 := by cases s1 <;> decide
  have hs2 : s2.toNat ≤ 1 := by cases s2 <;> decide
  show ∃ (s : Bool) (v : Nat), UInt32.ofNat (FP.Core.encode FP.Core.b32 (FP.Core.quotient FP.Core.b32 (FP.Core.decode FP.Core.b32 (UInt32.ofNat (FP.Core.fromInt FP.Core.b32 a.toInt)).toNat) (FP.Core.decode FP.Core.b32 (UInt32.ofNat (FP.Core.fromInt FP.Core.b32 b.toInt)).toNat))) = _ ∧ _
  rw [h1, g1, kff_ofNat _ (by omega), kff_ofNat _ (by omega)]
  obtain ⟨t1, c1, q1, d1, -⟩ := kff_dec s1 v1 h2
  obtain ⟨t2, c2, q2, d2, d3⟩ := kff_dec s2 v2 g2
  rw [d1, d2]
  show ∃ (s : Bool) (v : Nat), UInt32.ofNat (FP.Core.encode FP.Core.b32 (if c2 = 0 then _ else FP.Core.roundRatio FP.Core.b32 (t1 != t2) c1 c2 (q1 - q2))) = _ ∧ _
  rw [if_neg (d3 g4)]
  obtain ⟨v, k1, k2⟩ := kff_rr (t1 != t2) c1 c2 (q1 - q2)
  exact ⟨_, v, by rw [k1], k2⟩
theorem kff_ok (a b : Int32) (hb : b ≠ 0) : vf_n32 (FP.fdiv (FP.i2f a) (FP.i2f b)) := by
  obtain ⟨s, v, h1, h2⟩ := kff_div a b hb
  rw [h1]
  exact kff_nan s v h2

/-- .. and as a double -/
theorem kf_f2d (s : Bool) (v : Nat) (hv : v ≤ 2139095040) : vf_n64 (FP.f2d (UInt32.ofNat (s.toNat * 2147483648 + v))) := by
  have hs : s.toNat ≤ 1 := by cases s <;> decide
  by_cases hi : v < 2139095040
  · obtain ⟨t, c, q, d, -⟩ := kff_dec s v hi
    have hn : FP.Core.fIsNaN (UInt32.ofNat (s.toNat * 2147483648 + v)) = false := by
      show decide (FP.Core.decode FP.Core.b32 (UInt32.ofNat (s.toNat * 2147483648 + v)).toNat = .nan) = false
      rw [kff_ofNat _ (by omega), d]
      exact decide_eq_false (fun z => by cases z)
    have e : FP.f2d (UInt32.ofNat (s.toNat * 2147483648 + v)) = UInt64.ofNat (FP.Core.encode FP.Core.b64 (FP.Core.roundRatio FP.Core.b64 t c 1 q)) := by
      unfold FP.f2d
      rw [hn]
      show UInt64.ofNat (FP.Core.encode FP.Core.b64 (FP.Core.round FP.Core.b64 (FP.Core.decode FP.Core.b32 (UInt32.ofNat (s.toNat * 2147483648 + v)).toNat))) = _
      rw [kff_ofNat _ (by omega), d]
      rfl
    obtain ⟨w, k1, k2⟩ := kfd_rr t c 1 q
    rw [e, k1]
    exact kfd_nan t w k2
  · obtain rfl : v = 2139095040 := by omega
    cases s
    · unfold vf_n64; decide +kernel
    · unfold vf_n64; decide +kernel
theorem kf_f2d_ok (a b : Int32) (hb : b ≠ 0) : vf_n64 (FP.f2d (FP.fdiv (FP.i2f a) (FP.i2f b))) := by
  obtain ⟨s, v, h1, h2⟩ := kff_div a b hb
  rw [h1]
  exact kf_f2d s v h2
