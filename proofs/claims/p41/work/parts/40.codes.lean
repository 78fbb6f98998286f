theorem X4_checkBag_k {vF vC : Nat → Int32} {aC : Nat → Nat → Int32} {p : Int32} : X4_checkBag_f vF vC aC p = 0 ∨ X4_checkBag_f vF vC aC p = 2 := by
  unfold X4_checkBag_f
  split
  · exact Or.inl rfl
  · exact Or.inr rfl
theorem X4_checkMarket_k {p : Int32} : X4_checkMarket_f p = 0 ∨ X4_checkMarket_f p = 2 := by
  unfold X4_checkMarket_f
  split
  · exact Or.inl rfl
  · exact Or.inr rfl
theorem X4_checkFilled_k {vF vC : Nat → Int32} {aC : Nat → Nat → Int32} {p : Int32} : X4_checkFilled_f vF vC aC p = 0 ∨ X4_checkFilled_f vF vC aC p = 4 := by
  unfold X4_checkFilled_f
  split
  · exact Or.inr rfl
  · exact Or.inl rfl
theorem kK_change {vF vC : Nat → Int32} {aC : Nat → Nat → Int32} {vH : Nat → Int32} {aH : Nat → (Nat → Int32) × (Nat → Nat → Int32)} {vR : Nat → Int32} {aR : Nat → Nat → Int32} {p0 p1 p2 p3 : Int32} : (X4_change_f vF vC aC vH aH vR aR p0 p1 p2 p3).1 = 0 ∨ (X4_change_f vF vC aC vH aH vR aR p0 p1 p2 p3).1 = 1 := by
  unfold X4_change_f
  split
  · exact Or.inr rfl
  · exact Or.inl rfl
theorem kK_or3 {a b c : Prop} (h : a ∨ b) : a ∨ b ∨ c := h.elim Or.inl (fun x => Or.inr (Or.inl x))
theorem kK_or4 {a b c : Prop} (h : a ∨ c) : a ∨ b ∨ c := h.elim Or.inl (fun x => Or.inr (Or.inr x))
section KKC
variable {vF vC : Nat → Int32} {aC : Nat → Nat → Int32} {vH : Nat → Int32} {aH : Nat → (Nat → Int32) × (Nat → Nat → Int32)} {vR : Nat → Int32} {aR : Nat → Nat → Int32} {vT : Nat → Int32} {aT : Nat → Nat → Int32}
theorem kK_j45 {x1 x2 : Int32} {vF4 vC4 : Nat → Int32} {aC4 : Nat → Nat → Int32} {vH4 : Nat → Int32} {aH4 : Nat → (Nat → Int32) × (Nat → Nat → Int32)} {vR4 vT4 : Nat → Int32} {aT4 : Nat → Nat → Int32} : (X4_commands_j45 vF vC aC vH aH vR aR vT aT x1 x2 vF4 vC4 aC4 vH4 aH4 vR4 vT4 aT4).1 = 0 ∨ (X4_commands_j45 vF vC aC vH aH vR aR vT aT x1 x2 vF4 vC4 aC4 vH4 aH4 vR4 vT4 aT4).1 = 3 ∨ (X4_commands_j45 vF vC aC vH aH vR aR vT aT x1 x2 vF4 vC4 aC4 vH4 aH4 vR4 vT4 aT4).1 = 1 := by
  unfold X4_commands_j45
  (repeat' split) <;> first | exact Or.inl rfl | exact Or.inr (Or.inl rfl) | exact Or.inr (Or.inr rfl)
theorem kK_j27 {x1 : Int32} {vF2 vT2 : Nat → Int32} {aT2 : Nat → Nat → Int32} : (X4_commands_j27 vF vC aC vH aH vR aR vT aT x1 vF2 vT2 aT2).1 = 0 ∨ (X4_commands_j27 vF vC aC vH aH vR aR vT aT x1 vF2 vT2 aT2).1 = 3 ∨ (X4_commands_j27 vF vC aC vH aH vR aR vT aT x1 vF2 vT2 aT2).1 = 1 := by
  unfold X4_commands_j27
  (repeat' split) <;> exact kK_j45
end KKC
theorem kK_jar {vF : Nat → Int32} {vC : Nat → Int32} {aC : Nat → Nat → Int32} {vH : Nat → Int32} {aH : Nat → (Nat → Int32) × (Nat → Nat → Int32)} {vR : Nat → Int32} {aR : Nat → Nat → Int32} {p0 : Int32} {p1 : Int32} : (X4_jar_f vF vC aC vH aH vR aR p0 p1).1 = 0 ∨ (X4_jar_f vF vC aC vH aH vR aR p0 p1).1 = 1 := by
  unfold X4_jar_f
  split
  · exact Or.inl rfl
  · exact kK_change
theorem kK_bag {vF : Nat → Int32} {vC : Nat → Int32} {aC : Nat → Nat → Int32} {vH : Nat → Int32} {aH : Nat → (Nat → Int32) × (Nat → Nat → Int32)} {vR : Nat → Int32} {aR : Nat → Nat → Int32} {p0 : Int32} : (X4_bag_f vF vC aC vH aH vR aR p0).1 = 0 ∨ (X4_bag_f vF vC aC vH aH vR aR p0).1 = 1 := by
  unfold X4_bag_f
  split
  · exact Or.inl rfl
  · exact kK_change
theorem kK_fill {vF : Nat → Int32} {vC : Nat → Int32} {aC : Nat → Nat → Int32} {vH : Nat → Int32} {aH : Nat → (Nat → Int32) × (Nat → Nat → Int32)} {vR : Nat → Int32} {aR : Nat → Nat → Int32} {p0 : Int32} {p1 : Int32} {p2 : Int32} : (X4_fill_f vF vC aC vH aH vR aR p0 p1 p2).1 = 0 ∨ (X4_fill_f vF vC aC vH aH vR aR p0 p1 p2).1 = 1 := by
  unfold X4_fill_f
  split
  · exact Or.inl rfl
  · exact kK_change
theorem kK_empty {vF : Nat → Int32} {vC : Nat → Int32} {aC : Nat → Nat → Int32} {vH : Nat → Int32} {aH : Nat → (Nat → Int32) × (Nat → Nat → Int32)} {vR : Nat → Int32} {aR : Nat → Nat → Int32} {p0 : Int32} {p1 : Int32} : (X4_empty_f vF vC aC vH aH vR aR p0 p1).1 = 0 ∨ (X4_empty_f vF vC aC vH aH vR aR p0 p1).1 = 1 := by
  unfold X4_empty_f
  split
  · exact Or.inl rfl
  · exact kK_change
theorem kK_beat {vF : Nat → Int32} {vC : Nat → Int32} {aC : Nat → Nat → Int32} {vH : Nat → Int32} {aH : Nat → (Nat → Int32) × (Nat → Nat → Int32)} {vR : Nat → Int32} {aR : Nat → Nat → Int32} {p0 : Int32} : (X4_beat_f vF vC aC vH aH vR aR p0).1 = 0 ∨ (X4_beat_f vF vC aC vH aH vR aR p0).1 = 1 := by
  unfold X4_beat_f
  split
  · exact Or.inl rfl
  · exact kK_change
theorem kK_thumb {vF : Nat → Int32} {vC : Nat → Int32} {aC : Nat → Nat → Int32} {vH : Nat → Int32} {aH : Nat → (Nat → Int32) × (Nat → Nat → Int32)} {vR : Nat → Int32} {aR : Nat → Nat → Int32} {p0 : Int32} : (X4_thumb_f vF vC aC vH aH vR aR p0).1 = 0 ∨ (X4_thumb_f vF vC aC vH aH vR aR p0).1 = 1 := by
  unfold X4_thumb_f
  split
  · exact Or.inl rfl
  · exact kK_change
theorem kK_weigh {vF : Nat → Int32} {vC : Nat → Int32} {aC : Nat → Nat → Int32} {vH : Nat → Int32} {aH : Nat → (Nat → Int32) × (Nat → Nat → Int32)} {vR : Nat → Int32} {aR : Nat → Nat → Int32} {p0 : Int32} : (X4_weigh_f vF vC aC vH aH vR aR p0).1 = 0 ∨ (X4_weigh_f vF vC aC vH aH vR aR p0).1 = 1 := by
  unfold X4_weigh_f
  split
  · exact Or.inl rfl
  · exact kK_change
theorem kK_sell {vF : Nat → Int32} {vC : Nat → Int32} {aC : Nat → Nat → Int32} {vH : Nat → Int32} {aH : Nat → (Nat → Int32) × (Nat → Nat → Int32)} {vR : Nat → Int32} {aR : Nat → Nat → Int32} {p0 : Int32} : (X4_sell_f vF vC aC vH aH vR aR p0).1 = 0 ∨ (X4_sell_f vF vC aC vH aH vR aR p0).1 = 1 := by
  unfold X4_sell_f
  split
  · exact Or.inl rfl
  · exact kK_change
theorem kK_oath {vF : Nat → Int32} {vC : Nat → Int32} {aC : Nat → Nat → Int32} {vH : Nat → Int32} {aH : Nat → (Nat → Int32) × (Nat → Nat → Int32)} {vR : Nat → Int32} {aR : Nat → Nat → Int32}  : (X4_oath_f vF vC aC vH aH vR aR).1 = 0 ∨ (X4_oath_f vF vC aC vH aH vR aR).1 = 1 := by
  unfold X4_oath_f
  split
  · exact Or.inl rfl
  · exact kK_change
theorem kK_go {vF : Nat → Int32} {vC : Nat → Int32} {aC : Nat → Nat → Int32} {vH : Nat → Int32} {aH : Nat → (Nat → Int32) × (Nat → Nat → Int32)} {vR : Nat → Int32} {aR : Nat → Nat → Int32} {p0 : Int32} : (X4_go_f vF vC aC vH aH vR aR p0).1 = 0 ∨ (X4_go_f vF vC aC vH aH vR aR p0).1 = 1 := by
  unfold X4_go_f
  split
  · exact Or.inl rfl
  · exact kK_change
theorem kK_seal {vF : Nat → Int32} {vC : Nat → Int32} {aC : Nat → Nat → Int32} {vH : Nat → Int32} {aH : Nat → (Nat → Int32) × (Nat → Nat → Int32)} {vR : Nat → Int32} {aR : Nat → Nat → Int32} {p0 : Int32} : (X4_seal_f vF vC aC vH aH vR aR p0).1 = 0 ∨ (X4_seal_f vF vC aC vH aH vR aR p0).1 = 1 := by
  unfold X4_seal_f
  split
  · exact Or.inl rfl
  · exact kK_change
theorem kK_days {vF : Nat → Int32} {vC : Nat → Int32} {aC : Nat → Nat → Int32} {vH : Nat → Int32} {aH : Nat → (Nat → Int32) × (Nat → Nat → Int32)} {vR : Nat → Int32} {aR : Nat → Nat → Int32} {p0 : Int32} : (X4_days_f vF vC aC vH aH vR aR p0).1 = 0 ∨ (X4_days_f vF vC aC vH aH vR aR p0).1 = 1 := by
  unfold X4_days_f
  split
  · exact Or.inl rfl
  · exact kK_change
theorem kK_jarOf {vF : Nat → Int32} {vC : Nat → Int32} {aC : Nat → Nat → Int32} {p0 : Int32} {p1 : Bool} : (X4_jarOf_f vF vC aC p0 p1).1 = 0 ∨ (X4_jarOf_f vF vC aC p0 p1).1 = 2 := by
  unfold X4_jarOf_f
  (repeat' split) <;> first | exact Or.inl rfl | exact Or.inr rfl
theorem kK_bagOf {vF : Nat → Int32} {vC : Nat → Int32} {aC : Nat → Nat → Int32} {p0 : Int32} {p1 : Int32} : (X4_bagOf_f vF vC aC p0 p1).1 = 0 ∨ (X4_bagOf_f vF vC aC p0 p1).1 = 2 ∨ (X4_bagOf_f vF vC aC p0 p1).1 = 3 := by
  unfold X4_bagOf_f
  by_cases cb : X4_checkBag_f vF vC aC p0 = 0
  · rw [if_pos cb]
    (repeat' split) <;> first | exact Or.inl rfl | exact Or.inr (Or.inr rfl)
  · rw [if_neg cb]
    exact kK_or3 (X4_checkBag_k (vF := vF) (vC := vC) (aC := aC) (p := p0))
theorem kK_weightOf {vF : Nat → Int32} {vC : Nat → Int32} {aC : Nat → Nat → Int32} {p0 : Int32} {p1 : Int32} : (X4_weightOf_f vF vC aC p0 p1).1 = 0 ∨ (X4_weightOf_f vF vC aC p0 p1).1 = 2 ∨ (X4_weightOf_f vF vC aC p0 p1).1 = 3 := by
  unfold X4_weightOf_f
  (repeat' split) <;> first | exact Or.inl rfl | exact Or.inr (Or.inl rfl) | exact Or.inr (Or.inr rfl)
theorem kK_told {vF : Nat → Int32} {vC : Nat → Int32} {aC : Nat → Nat → Int32} {p0 : Int32} : (X4_told_f vF vC aC p0).1 = 0 ∨ (X4_told_f vF vC aC p0).1 = 2 := by
  unfold X4_told_f
  split
  · exact Or.inl rfl
  · exact (X4_checkBag_k (vF := vF) (vC := vC) (aC := aC) (p := p0))
theorem kK_toldAgain {vF : Nat → Int32} {vC : Nat → Int32} {aC : Nat → Nat → Int32} {p0 : Int32} : (X4_toldAgain_f vF vC aC p0).1 = 0 ∨ (X4_toldAgain_f vF vC aC p0).1 = 2 := by
  unfold X4_toldAgain_f
  split
  · exact Or.inl rfl
  · exact (X4_checkBag_k (vF := vF) (vC := vC) (aC := aC) (p := p0))
theorem kK_onPan {vF : Nat → Int32} {vC : Nat → Int32} {aC : Nat → Nat → Int32} {p0 : Int32} : (X4_onPan_f vF vC aC p0).1 = 0 ∨ (X4_onPan_f vF vC aC p0).1 = 2 := by
  unfold X4_onPan_f
  split
  · exact Or.inl rfl
  · exact (X4_checkBag_k (vF := vF) (vC := vC) (aC := aC) (p := p0))
theorem kK_rest {vF : Nat → Int32} {vC : Nat → Int32} {aC : Nat → Nat → Int32} {p0 : Int32} : (X4_rest_f vF vC aC p0).1 = 0 ∨ (X4_rest_f vF vC aC p0).1 = 2 := by
  unfold X4_rest_f
  split
  · exact Or.inl rfl
  · exact (X4_checkBag_k (vF := vF) (vC := vC) (aC := aC) (p := p0))
theorem kK_honest {vF : Nat → Int32} {vC : Nat → Int32} {aC : Nat → Nat → Int32} {p0 : Int32} : (X4_honest_f vF vC aC p0).1 = 0 ∨ (X4_honest_f vF vC aC p0).1 = 2 := by
  unfold X4_honest_f
  split
  · exact Or.inl rfl
  · exact (X4_checkBag_k (vF := vF) (vC := vC) (aC := aC) (p := p0))
theorem kK_pays {vF : Nat → Int32} {vC : Nat → Int32} {aC : Nat → Nat → Int32} {p0 : Int32} {p1 : Int32} : (X4_pays_f vF vC aC p0 p1).1 = 0 ∨ (X4_pays_f vF vC aC p0 p1).1 = 2 ∨ (X4_pays_f vF vC aC p0 p1).1 = 3 := by
  unfold X4_pays_f
  by_cases cb : X4_checkMarket_f p0 = 0
  · rw [if_pos cb]
    (repeat' split) <;> first | exact Or.inl rfl | exact Or.inr (Or.inr rfl)
  · rw [if_neg cb]
    exact kK_or3 (X4_checkMarket_k (p := p0))
theorem kK_wouldGet {vF : Nat → Int32} {vC : Nat → Int32} {aC : Nat → Nat → Int32} {p0 : Int32} {p1 : Int32} : (X4_wouldGet_f vF vC aC p0 p1).1 = 0 ∨ (X4_wouldGet_f vF vC aC p0 p1).1 = 2 ∨ (X4_wouldGet_f vF vC aC p0 p1).1 = 4 := by
  unfold X4_wouldGet_f
  by_cases cb : X4_checkBag_f vF vC aC p0 = 0
  · rw [if_pos cb]
    by_cases cm : X4_checkMarket_f p1 = 0
    · rw [if_pos cm]
      split
      · exact Or.inl rfl
      · exact kK_or4 (X4_checkFilled_k (vF := vF) (vC := vC) (aC := aC) (p := p0))
    · rw [if_neg cm]
      exact kK_or3 (X4_checkMarket_k (p := p1))
  · rw [if_neg cb]
    exact kK_or3 (X4_checkBag_k (vF := vF) (vC := vC) (aC := aC) (p := p0))
theorem kK_bestMarket {vF : Nat → Int32} {vC : Nat → Int32} {aC : Nat → Nat → Int32} {p0 : Int32} : (X4_bestMarket_f vF vC aC p0).1 = 0 ∨ (X4_bestMarket_f vF vC aC p0).1 = 2 ∨ (X4_bestMarket_f vF vC aC p0).1 = 4 := by
  unfold X4_bestMarket_f
  by_cases cb : X4_checkBag_f vF vC aC p0 = 0
  · rw [if_pos cb]
    split
    · exact Or.inl rfl
    · exact kK_or4 (X4_checkFilled_k (vF := vF) (vC := vC) (aC := aC) (p := p0))
  · rw [if_neg cb]
    exact kK_or3 (X4_checkBag_k (vF := vF) (vC := vC) (aC := aC) (p := p0))
theorem kK_oathUntil {vF : Nat → Int32} {vC : Nat → Int32} {aC : Nat → Nat → Int32} {p0 : Int32} : (X4_oathUntil_f vF vC aC p0).1 = 0 ∨ (X4_oathUntil_f vF vC aC p0).1 = 2 ∨ (X4_oathUntil_f vF vC aC p0).1 = 4 := by
  unfold X4_oathUntil_f
  by_cases cb : X4_checkMarket_f p0 = 0
  · rw [if_pos cb]
    (repeat' split) <;> first | exact Or.inl rfl | exact Or.inr (Or.inr rfl)
  · rw [if_neg cb]
    exact kK_or3 (X4_checkMarket_k (p := p0))
theorem kK_isNoticed {vF : Nat → Int32} {vC : Nat → Int32} {aC : Nat → Nat → Int32} {p0 : Int32} : (X4_isNoticed_f vF vC aC p0).1 = 0 ∨ (X4_isNoticed_f vF vC aC p0).1 = 2 := by
  unfold X4_isNoticed_f
  by_cases cb : X4_checkMarket_f p0 = 0
  · rw [if_pos cb]
    (repeat' split) <;> exact Or.inl rfl
  · rw [if_neg cb]
    exact (X4_checkMarket_k (p := p0))
theorem kK_ranked {vF : Nat → Int32} {vC : Nat → Int32} {aC : Nat → Nat → Int32} {p0 : Int32} : (X4_ranked_f vF vC aC p0).1 = 0 ∨ (X4_ranked_f vF vC aC p0).1 = 4 := by
  unfold X4_ranked_f
  (repeat' split) <;> first | exact Or.inl rfl | exact Or.inr rfl
theorem kK_append {vF : Nat → Int32} {vT : Nat → Int32} {aT : Nat → Nat → Int32} {p0 : Int32} : (X4_append_f vF vT aT p0).1 = 0 ∨ (X4_append_f vF vT aT p0).1 = 5 := by
  unfold X4_append_f
  (repeat' split) <;> first | exact Or.inl rfl | exact Or.inr rfl
theorem kK_commands {vF : Nat → Int32} {vC : Nat → Int32} {aC : Nat → Nat → Int32} {vH : Nat → Int32} {aH : Nat → (Nat → Int32) × (Nat → Nat → Int32)} {vR : Nat → Int32} {vT : Nat → Int32} {aT : Nat → Nat → Int32} {aR : Nat → Nat → Int32}  : (X4_commands_f vF vC aC vH aH vR aR vT aT).1 = 0 ∨ (X4_commands_f vF vC aC vH aH vR aR vT aT).1 = 3 ∨ (X4_commands_f vF vC aC vH aH vR aR vT aT).1 = 1 := by
  unfold X4_commands_f
  split <;> exact kK_j27
theorem kK_reason {vF : Nat → Int32} {vR : Nat → Int32} {aR : Nat → Nat → Int32} {p0 : Int32} : (X4_reason_f vF vR aR p0).1 = 0 ∨ (X4_reason_f vF vR aR p0).1 = 3 ∨ (X4_reason_f vF vR aR p0).1 = 4 := by
  unfold X4_reason_f
  (repeat' split) <;> first | exact Or.inl rfl | exact Or.inr (Or.inl rfl) | exact Or.inr (Or.inr rfl)
theorem kK_line {vF : Nat → Int32} {vC : Nat → Int32} {aC : Nat → Nat → Int32} {p0 : Int32} : X4_checkBag_f vF vC aC p0 = 0 ∨ X4_checkBag_f vF vC aC p0 = 2 := by
  exact X4_checkBag_k
theorem kK_character  {t : Nat → Nat} {k : Nat} {p0 : Int32} : (X4_character_f (t, k) p0).1 = 0 ∨ (X4_character_f (t, k) p0).1 = 2 := by
  unfold X4_character_f
  (repeat' split) <;> first | exact Or.inl rfl | exact Or.inr rfl
theorem kK_meanDust {vC : Nat → Int32} {aC : Nat → Nat → Int32}  : (X4_meanDust_f vC aC).1 = 0 ∨ (X4_meanDust_f vC aC).1 = 6 := by
  unfold X4_meanDust_f
  (repeat' split) <;> first | exact Or.inl rfl | exact Or.inr rfl
theorem kK_honestShare {vC : Nat → Int32} {aC : Nat → Nat → Int32}  : (X4_honestShare_f vC aC).1 = 0 ∨ (X4_honestShare_f vC aC).1 = 6 := by
  unfold X4_honestShare_f
  (repeat' split) <;> first | exact Or.inl rfl | exact Or.inr rfl
theorem kK_account {vF : Nat → Int32} {vC : Nat → Int32} {aC : Nat → Nat → Int32} {vH : Nat → Int32} {aH : Nat → (Nat → Int32) × (Nat → Nat → Int32)} {vT : Nat → Int32} {aT : Nat → Nat → Int32} {p0 : Int32} : (X4_account_f vF vC aC vH aH vT aT p0).1 = 0 ∨ (X4_account_f vF vC aC vH aH vT aT p0).1 = 3 := by
  unfold X4_account_f
  exact k_if (P := fun r : Nat × Int32 => r.1 = 0 ∨ r.1 = 3) (fun _ => Or.inl rfl) (fun _ => k_if (P := fun r : Nat × Int32 => r.1 = 0 ∨ r.1 = 3) (fun _ => Or.inl rfl) (fun _ => k_if (P := fun r : Nat × Int32 => r.1 = 0 ∨ r.1 = 3) (fun _ => Or.inl rfl) (fun _ => k_if (P := fun r : Nat × Int32 => r.1 = 0 ∨ r.1 = 3) (fun _ => Or.inl rfl) (fun _ => k_if (P := fun r : Nat × Int32 => r.1 = 0 ∨ r.1 = 3) (fun _ => Or.inl rfl) (fun _ => k_if (P := fun r : Nat × Int32 => r.1 = 0 ∨ r.1 = 3) (fun _ => Or.inl rfl) (fun _ => k_if (P := fun r : Nat × Int32 => r.1 = 0 ∨ r.1 = 3) (fun _ => Or.inl rfl) (fun _ => k_if (P := fun r : Nat × Int32 => r.1 = 0 ∨ r.1 = 3) (fun _ => Or.inl rfl) (fun _ => k_if (P := fun r : Nat × Int32 => r.1 = 0 ∨ r.1 = 3) (fun _ => Or.inl rfl) (fun _ => k_if (P := fun r : Nat × Int32 => r.1 = 0 ∨ r.1 = 3) (fun _ => Or.inl rfl) (fun _ => k_if (P := fun r : Nat × Int32 => r.1 = 0 ∨ r.1 = 3) (fun _ => Or.inl rfl) (fun _ => k_if (P := fun r : Nat × Int32 => r.1 = 0 ∨ r.1 = 3) (fun _ => Or.inl rfl) (fun _ => k_if (P := fun r : Nat × Int32 => r.1 = 0 ∨ r.1 = 3) (fun _ => Or.inl rfl) (fun _ => k_if (P := fun r : Nat × Int32 => r.1 = 0 ∨ r.1 = 3) (fun _ => Or.inl rfl) (fun _ => k_if (P := fun r : Nat × Int32 => r.1 = 0 ∨ r.1 = 3) (fun _ => Or.inl rfl) (fun _ => k_if (P := fun r : Nat × Int32 => r.1 = 0 ∨ r.1 = 3) (fun _ => Or.inl rfl) (fun _ => Or.inr rfl))))))))))))))))
theorem kK_undo {vF : Nat → Int32} {vC : Nat → Int32} {aC : Nat → Nat → Int32} {vH : Nat → Int32} {aH : Nat → (Nat → Int32) × (Nat → Nat → Int32)}  : (X4_undo_f vF vC aC vH aH).1 = 0 ∨ (X4_undo_f vF vC aC vH aH).1 = 5 := by
  unfold X4_undo_f
  (repeat' split) <;> first | exact Or.inl rfl | exact Or.inr rfl
theorem kK_restore {vF : Nat → Int32} {vC : Nat → Int32} {aC : Nat → Nat → Int32} {vS : Nat → Int32} {aS : Nat → Nat → Int32} {vH : Nat → Int32} {aH : Nat → (Nat → Int32) × (Nat → Nat → Int32)}  : (X4_restore_f vF vC aC vS aS vH aH).1 = 0 ∨ (X4_restore_f vF vC aC vS aS vH aH).1 = 5 := by
  unfold X4_restore_f
  (repeat' split) <;> first | exact Or.inl rfl | exact Or.inr rfl
