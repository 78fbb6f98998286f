/-! reading commands -/
def kPq (ln : Nat) (o o' : Int32) (a0 g : Nat) (vT : Nat → Int32) (aT : Nat → Nat → Int32) (vM : Nat → Int32) (aM : Nat → Nat → Int32) : Prop := ∃ at' : Nat, a0 ≤ at' ∧ at' ≤ ln ∧ vT 1 = nI ln ∧ vM 9 = nI ln ∧ vT 2 = nI at' ∧ vM 10 = nI at' ∧ (∀ i, i < ln → aM 8 i = aT 0 i) ∧ vT 3 = o ∧ vM 11 = o' ∧ ∀ i, i < g → aT 4 i = aM 12 i
def kFx (v : Nat → Int32) (a : Nat → Nat → Int32) (v' : Nat → Int32) (a' : Nat → Nat → Int32) (w : Nat → Int32) (b : Nat → Nat → Int32) (w' : Nat → Int32) (b' : Nat → Nat → Int32) : Prop := (∀ k, k ≠ 2 → k ≠ 3 → v' k = v k) ∧ (∀ k, k ≠ 4 → a' k = a k) ∧ (∀ k, k ≠ 10 → k ≠ 11 → w' k = w k) ∧ ∀ k, k ≠ 12 → b' k = b k
theorem k6_ne {a b : Nat} (hb : b ≤ 60) (h : a < b) : ¬ nI a = nI b := fun z => by have := (nI_eq (a := a) (b := b) (by omega) (by omega)).mp z; omega
theorem k6_nle {a b : Nat} (hb : b ≤ 60) (h : a < b) : ¬ nI b ≤ nI a := fun z => by have := (nI_leI (a := b) (b := a) (by omega) (by omega)).mp z; omega
theorem k6_lt {a b : Nat} (hb : b ≤ 60) (h : a < b) : nI a < nI b := k_nlt.mp (k6_nle hb h)
section S12
variable {ln a0 g : Nat} {o o' ch : Int32} {vT vT' vT'' : Nat → Int32} {aT aT' aT'' : Nat → Nat → Int32} {vM vM' vM'' : Nat → Int32} {aM aM' aM'' : Nat → Nat → Int32}
theorem kFx.rf : kFx vT aT vT aT vM aM vM aM := ⟨fun _ _ _ => rfl, fun _ _ => rfl, fun _ _ _ => rfl, fun _ _ => rfl⟩
theorem kFx.tr (h : kFx vT aT vT' aT' vM aM vM' aM') (h' : kFx vT' aT' vT'' aT'' vM' aM' vM'' aM'') : kFx vT aT vT'' aT'' vM aM vM'' aM'' := ⟨fun k h1 h2 => (h'.1 k h1 h2).trans (h.1 k h1 h2), fun k h1 => (h'.2.1 k h1).trans (h.2.1 k h1), fun k h1 h2 => (h'.2.2.1 k h1 h2).trans (h.2.2.1 k h1 h2), fun k h1 => (h'.2.2.2 k h1).trans (h.2.2.2 k h1)⟩
theorem kPq.g0 (h : kPq ln o o' a0 g vT aT vM aM) : kPq ln o o' a0 0 vT aT vM aM := by
  obtain ⟨a, h1, h2, h3, h4, h5, h6, h7, h8, h9, -⟩ := h
  exact ⟨a, h1, h2, h3, h4, h5, h6, h7, h8, h9, fun i hi => by omega⟩
/-- numbers -/
theorem num_lp (hl : ln ≤ 60) {i m : Nat} (hi : i < 3) (hm : m ≤ 3) (hT : ∀ j, j < i → aT 4 j = aM 12 j) : ∀ (n c at' : Nat) (s : Int32) (vT5 vM9 : Nat → Int32) (aM9 : Nat → Nat → Int32), c ≤ m → m - c < n → a0 ≤ at' → at' ≤ ln → vT5 1 = nI ln → vM9 9 = nI ln → vT5 2 = nI at' → vM9 10 = nI at' → (∀ i, i < ln → aM 8 i = aT 0 i) → vT5 3 = o → vM9 11 = o' → aM9 12 i = s → (∀ j, j < i → aM9 12 j = aM 12 j) → kFx vT aT vT5 aT vM aM vM9 aM9 →
    (X1_readNumber_lp5 vT aT (nI i) (nI m) n s (nI c) vT5).1 = (X5_digits_lp9 vM aM (nI i) (nI m) n (nI c) vM9 aM9).1 ∧ kPq ln o o' a0 (i + 1) (X1_readNumber_lp5 vT aT (nI i) (nI m) n s (nI c) vT5).2.1 (X1_readNumber_lp5 vT aT (nI i) (nI m) n s (nI c) vT5).2.2 (X5_digits_lp9 vM aM (nI i) (nI m) n (nI c) vM9 aM9).2.1 (X5_digits_lp9 vM aM (nI i) (nI m) n (nI c) vM9 aM9).2.2 ∧ kFx vT aT (X1_readNumber_lp5 vT aT (nI i) (nI m) n s (nI c) vT5).2.1 (X1_readNumber_lp5 vT aT (nI i) (nI m) n s (nI c) vT5).2.2 vM aM (X5_digits_lp9 vM aM (nI i) (nI m) n (nI c) vM9 aM9).2.1 (X5_digits_lp9 vM aM (nI i) (nI m) n (nI c) vM9 aM9).2.2 := by
  intro n
  induction n with
  | zero => intro c at' s vT5 vM9 aM9 h3 h4; omega
  | succ n ih =>
    intro c at' s vT5 vM9 aM9 h3 h4 p1 p2 e1 e2 e3 e4 e5 e6 e7 e8 e9 hF
    show (X1_readNumber_lp5b vT aT (nI i) (nI m) (X1_readNumber_lp5 vT aT (nI i) (nI m) n) s (nI c) vT5).1 = (X5_digits_lp9b vM aM (nI i) (nI m) (X5_digits_lp9 vM aM (nI i) (nI m) n) (nI c) vM9 aM9).1 ∧ kPq ln o o' a0 (i + 1) (X1_readNumber_lp5b vT aT (nI i) (nI m) (X1_readNumber_lp5 vT aT (nI i) (nI m) n) s (nI c) vT5).2.1 (X1_readNumber_lp5b vT aT (nI i) (nI m) (X1_readNumber_lp5 vT aT (nI i) (nI m) n) s (nI c) vT5).2.2 (X5_digits_lp9b vM aM (nI i) (nI m) (X5_digits_lp9 vM aM (nI i) (nI m) n) (nI c) vM9 aM9).2.1 (X5_digits_lp9b vM aM (nI i) (nI m) (X5_digits_lp9 vM aM (nI i) (nI m) n) (nI c) vM9 aM9).2.2 ∧ kFx vT aT (X1_readNumber_lp5b vT aT (nI i) (nI m) (X1_readNumber_lp5 vT aT (nI i) (nI m) n) s (nI c) vT5).2.1 (X1_readNumber_lp5b vT aT (nI i) (nI m) (X1_readNumber_lp5 vT aT (nI i) (nI m) n) s (nI c) vT5).2.2 vM aM (X5_digits_lp9b vM aM (nI i) (nI m) (X5_digits_lp9 vM aM (nI i) (nI m) n) (nI c) vM9 aM9).2.1 (X5_digits_lp9b vM aM (nI i) (nI m) (X5_digits_lp9 vM aM (nI i) (nI m) n) (nI c) vM9 aM9).2.2
    unfold X1_readNumber_lp5b X5_digits_lp9b
    rw [nI_clamp (n := i) (by omega)]
    have k1 : kPq ln o o' a0 (i + 1) vT5 (va_up aT 4 (upd (aT 4) i s)) vM9 aM9 := ⟨at', p1, p2, e1, e2, e3, e4, fun j hj => by rw [hF.2.2.2 8 (by decide), va_un (by decide)]; exact e5 j hj, e6, e7, fun j hj => by
      rw [va_us]
      by_cases e : j = i
      · rw [e, pk_us, e8]
      · rw [pk_un e, e9 j (by omega)]
        exact hT j (by omega)⟩
    have k2 : kFx vT aT vT5 (va_up aT 4 (upd (aT 4) i s)) vM aM vM9 aM9 := ⟨hF.1, fun k hk => va_un hk, hF.2.2.1, hF.2.2.2⟩
    have fin : (if nI c ≤ 0 then (false, vT5, va_up aT 4 (upd (aT 4) i s)) else (true, vT5, va_up aT 4 (upd (aT 4) i s))).1 = (if nI c ≤ 0 then (false, vM9, aM9) else (true, vM9, aM9)).1 ∧ kPq ln o o' a0 (i + 1) (if nI c ≤ 0 then (false, vT5, va_up aT 4 (upd (aT 4) i s)) else (true, vT5, va_up aT 4 (upd (aT 4) i s))).2.1 (if nI c ≤ 0 then (false, vT5, va_up aT 4 (upd (aT 4) i s)) else (true, vT5, va_up aT 4 (upd (aT 4) i s))).2.2 (if nI c ≤ 0 then (false, vM9, aM9) else (true, vM9, aM9)).2.1 (if nI c ≤ 0 then (false, vM9, aM9) else (true, vM9, aM9)).2.2 ∧ kFx vT aT (if nI c ≤ 0 then (false, vT5, va_up aT 4 (upd (aT 4) i s)) else (true, vT5, va_up aT 4 (upd (aT 4) i s))).2.1 (if nI c ≤ 0 then (false, vT5, va_up aT 4 (upd (aT 4) i s)) else (true, vT5, va_up aT 4 (upd (aT 4) i s))).2.2 vM aM (if nI c ≤ 0 then (false, vM9, aM9) else (true, vM9, aM9)).2.1 (if nI c ≤ 0 then (false, vM9, aM9) else (true, vM9, aM9)).2.2 := by
      by_cases d : nI c ≤ 0
      · rw [if_pos d, if_pos d]
        exact ⟨rfl, k1, k2⟩
      · rw [if_neg d, if_neg d]
        exact ⟨rfl, k1, k2⟩
    by_cases c1 : nI m ≤ nI c
    · rw [if_pos c1, if_pos c1]
      exact fin
    · rw [if_neg c1, if_neg c1, e1, e2, e3, e4]
      by_cases c2 : nI ln ≤ nI at'
      · rw [if_pos c2, if_pos c2]
        exact fin
      · rw [if_neg c2, if_neg c2]
        have hat : at' < ln := by
          rcases Nat.lt_or_ge at' ln with h | h
          · exact h
          · exact absurd ((nI_leI (by omega) (by omega)).mpr h) c2
        have hcm : c < m := by
          rcases Nat.lt_or_ge c m with h | h
          · exact h
          · exact absurd ((nI_leI (by omega) (by omega)).mpr h) c1
        rw [nI_clamp (n := at') (by omega), show aM9 8 at' = aT 0 at' by rw [hF.2.2.2 8 (by decide)]; exact e5 at' hat, show X1_isDigit_f (aT 0 at') = X5_in_f (aT 0 at') 48 57 from rfl]
        by_cases c3 : X5_in_f (aT 0 at') 48 57 = true
        · rw [if_pos c3, if_pos c3, nI_add1, nI_add1, e8]
          refine ih (c + 1) (at' + 1) _ _ _ _ hcm (by omega) (by omega) hat ((pk_un (by decide)).trans e1) ((pk_un (by decide)).trans e2) pk_us pk_us e5 ((pk_un (by decide)).trans e6) ((pk_un (by decide)).trans e7) ?_ (fun j hj => ?_) ⟨fun k h1 h2 => (pk_un h1).trans (hF.1 k h1 h2), fun _ _ => rfl, fun k h1 h2 => (pk_un h1).trans (hF.2.2.1 k h1 h2), fun k h1 => (va_un h1).trans (hF.2.2.2 k h1)⟩
          · rw [va_us, pk_us, Int32.sub_eq_add_neg, Int32.sub_eq_add_neg, Int32.add_assoc]
          · rw [va_us, pk_un (by omega)]
            exact e9 j hj
        · rw [if_neg c3, if_neg c3]
          exact fin
theorem ps_num (hl : ln ≤ 60) {i m : Nat} (hi : i < 3) (hm : m ≤ 3) (h : kPq ln o o' a0 i vT aT vM aM) : (X1_readNumber_f vT aT (nI i) (nI m)).1 = (X5_digits_f vM aM (nI i) (nI m)).1 ∧ kPq ln o o' a0 (i + 1) (X1_readNumber_f vT aT (nI i) (nI m)).2.1 (X1_readNumber_f vT aT (nI i) (nI m)).2.2 (X5_digits_f vM aM (nI i) (nI m)).2.1 (X5_digits_f vM aM (nI i) (nI m)).2.2 ∧ kFx vT aT (X1_readNumber_f vT aT (nI i) (nI m)).2.1 (X1_readNumber_f vT aT (nI i) (nI m)).2.2 vM aM (X5_digits_f vM aM (nI i) (nI m)).2.1 (X5_digits_f vM aM (nI i) (nI m)).2.2 := by
  obtain ⟨at', p1, p2, e1, e2, e3, e4, e5, e6, e7, e8⟩ := h
  unfold X1_readNumber_f X5_digits_f
  rw [nI_clamp (n := i) (by omega)]
  exact num_lp hl hi hm e8 61 0 at' 0 vT vM (va_up aM 12 (upd (aM 12) i 0)) (by omega) (by omega) p1 p2 e1 e2 e3 e4 e5 e6 e7 (by rw [va_us, pk_us]) (fun j hj => by rw [va_us, pk_un (by omega)]) ⟨fun _ _ _ => rfl, fun _ _ => rfl, fun _ _ _ => rfl, fun k h1 => va_un h1⟩
/-- a character -/
theorem ps_chr (hl : ln ≤ 60) (h : kPq ln o o' a0 g vT aT vM aM) : (X1_readCharacter_f vT aT ch).1 = (X5_isNext_f vM aM ch).1 ∧ kPq ln o o' a0 g (X1_readCharacter_f vT aT ch).2 aT (X5_isNext_f vM aM ch).2 aM ∧ kFx vT aT (X1_readCharacter_f vT aT ch).2 aT vM aM (X5_isNext_f vM aM ch).2 aM := by
  have h0 := h
  obtain ⟨at', p1, p2, e1, e2, e3, e4, e5, e6, e7, e8⟩ := h
  unfold X1_readCharacter_f X5_isNext_f
  rw [e1, e2, e3, e4]
  by_cases c : nI ln ≤ nI at'
  · have : at' = ln := by
      have := (nI_leI (by omega) (by omega)).mp c
      omega
    rw [if_pos c, if_pos (by rw [this])]
    exact ⟨rfl, h0, kFx.rf⟩
  · have hat : at' < ln := by
      rcases Nat.lt_or_ge at' ln with h | h
      · exact h
      · exact absurd ((nI_leI (by omega) (by omega)).mpr h) c
    rw [if_neg c, if_neg (k6_ne hl hat), nI_clamp (n := at') (by omega), e5 at' hat]
    by_cases d : aT 0 at' = ch
    · rw [if_pos d, if_pos d, nI_add1]
      dsimp only
      refine ⟨rfl, ⟨at' + 1, by omega, hat, (pk_un (by decide)).trans e1, (pk_un (by decide)).trans e2, pk_us, pk_us, e5, (pk_un (by decide)).trans e6, (pk_un (by decide)).trans e7, e8⟩, ⟨fun k h1 h2 => pk_un h1, fun _ _ => rfl, fun k h1 h2 => pk_un h1, fun _ _ => rfl⟩⟩
    · rw [if_neg d, if_neg d]
      exact ⟨rfl, h0, kFx.rf⟩
/-- forms -/
theorem rf_end {v : Nat → Int32} {a : Nat → Nat → Int32} {f n : Nat} {x y : Int32} (h : nI (k_fl.getD f 0) ≤ y) : X1_readForm_lp4 v a f (n + 1) x y vT aT = (true, vT, aT) := if_pos h
theorem rf_num {v : Nat → Int32} {a : Nat → Nat → Int32} {f n : Nat} {x y m : Int32} (h1 : ¬ nI (k_fl.getD f 0) ≤ y) (h2 : X1_isDigit_f (k_ch f y) = true) (h3 : ¬ 3 ≤ x) (h4 : k_ch f y - 48 = m) : X1_readForm_lp4 v a f (n + 1) x y vT aT = if (X1_readNumber_f vT aT x m).1 = true then X1_readForm_lp4 v a f n (x + 1) (y + 1) (X1_readNumber_f vT aT x m).2.1 (X1_readNumber_f vT aT x m).2.2 else (false, (X1_readNumber_f vT aT x m).2.1, (X1_readNumber_f vT aT x m).2.2) := by
  subst h4
  exact (if_neg h1).trans ((if_pos h2).trans (if_neg h3))
theorem rf_chr {v : Nat → Int32} {a : Nat → Nat → Int32} {f n : Nat} {x y m : Int32} (h1 : ¬ nI (k_fl.getD f 0) ≤ y) (h2 : ¬ X1_isDigit_f (k_ch f y) = true) (h4 : k_ch f y = m) : X1_readForm_lp4 v a f (n + 1) x y vT aT = if (X1_readCharacter_f vT aT m).1 = true then X1_readForm_lp4 v a f n x (y + 1) (X1_readCharacter_f vT aT m).2 aT else (false, (X1_readCharacter_f vT aT m).2, aT) := by
  subst h4
  exact (if_neg h1).trans (if_neg h2)
def kMf (f : Nat) (vM : Nat → Int32) (aM : Nat → Nat → Int32) : Bool × (Nat → Int32) × (Nat → Nat → Int32) :=
  if f = 0 then (if (X5_digits_f vM aM 0 1).1 = true then X5_isCommand_j155 vM aM (X5_digits_f vM aM 0 1).2.1 (X5_digits_f vM aM 0 1).2.2 else (false, (X5_digits_f vM aM 0 1).2.1, (X5_digits_f vM aM 0 1).2.2))
  else if f = 1 then (if (X5_digits_f vM aM 0 1).1 = true then X5_isCommand_j216 vM aM (X5_digits_f vM aM 0 1).2.1 (X5_digits_f vM aM 0 1).2.2 else (false, (X5_digits_f vM aM 0 1).2.1, (X5_digits_f vM aM 0 1).2.2))
  else if f = 2 then (true, vM, aM)
  else if f = 3 then X5_digits_f vM aM 0 2
  else X5_digits_f vM aM 0 1
def kCnt (f : Nat) : Nat := if f = 0 then 3 else if f = 1 then 2 else if f = 2 then 0 else 1
/-- what reading one command gives -/
def kRd (ln : Nat) (o o' : Int32) (a0 g : Nat) (vT : Nat → Int32) (aT : Nat → Nat → Int32) (vM : Nat → Int32) (aM : Nat → Nat → Int32) (C M : Bool × (Nat → Int32) × (Nat → Nat → Int32)) : Prop := C.1 = M.1 ∧ kPq ln o o' a0 0 C.2.1 C.2.2 M.2.1 M.2.2 ∧ kFx vT aT C.2.1 C.2.2 vM aM M.2.1 M.2.2 ∧ (C.1 = true → ∀ i, i < g → C.2.2 4 i = M.2.2 12 i)
theorem kRd.tr {C M : Bool × (Nat → Int32) × (Nat → Nat → Int32)} (hF : kFx vT aT vT' aT' vM aM vM' aM') (h : kRd ln o o' a0 g vT' aT' vM' aM' C M) : kRd ln o o' a0 g vT aT vM aM C M := ⟨h.1, h.2.1, hF.tr h.2.2.1, h.2.2.2⟩
theorem kPq.giv (h : kPq ln o o' a0 g vT aT vM aM) : ∀ i, i < g → aT 4 i = aM 12 i := by
  obtain ⟨a, h1, h2, h3, h4, h5, h6, h7, h8, h9, h10⟩ := h
  exact h10
theorem rd_num {g' : Nat} {C M : Bool × (Nat → Int32) × (Nat → Nat → Int32)} (hl : ln ≤ 60) {x1 y1 x2 y2 : Int32} {i m : Nat} (hi : i < 3) (hm : m ≤ 3) (hx1 : x1 = nI i) (hy1 : y1 = nI m) (hx2 : x2 = nI i) (hy2 : y2 = nI m) (h : kPq ln o o' a0 i vT aT vM aM) (hk : kPq ln o o' a0 (i + 1) (X1_readNumber_f vT aT x1 y1).2.1 (X1_readNumber_f vT aT x1 y1).2.2 (X5_digits_f vM aM x2 y2).2.1 (X5_digits_f vM aM x2 y2).2.2 → kRd ln o o' a0 g' (X1_readNumber_f vT aT x1 y1).2.1 (X1_readNumber_f vT aT x1 y1).2.2 (X5_digits_f vM aM x2 y2).2.1 (X5_digits_f vM aM x2 y2).2.2 C M) : kRd ln o o' a0 g' vT aT vM aM (if (X1_readNumber_f vT aT x1 y1).1 = true then C else (false, (X1_readNumber_f vT aT x1 y1).2.1, (X1_readNumber_f vT aT x1 y1).2.2)) (if (X5_digits_f vM aM x2 y2).1 = true then M else (false, (X5_digits_f vM aM x2 y2).2.1, (X5_digits_f vM aM x2 y2).2.2)) := by
  obtain ⟨q1, q2, q3⟩ := ps_num hl hi hm h
  rw [← hx1, ← hy1] at q1 q2 q3
  generalize X1_readNumber_f vT aT x1 y1 = R at *
  rw [hx1, ← hx2, hy1, ← hy2] at q1 q2 q3
  generalize X5_digits_f vM aM x2 y2 = D at *
  rw [q1]
  by_cases c : D.1 = true
  · rw [if_pos c, if_pos c]
    exact (hk q2).tr q3
  · rw [if_neg c, if_neg c]
    exact ⟨rfl, q2.g0, q3, fun z => absurd z Bool.false_ne_true⟩
theorem rd_chr {g' : Nat} {C M : Bool × (Nat → Int32) × (Nat → Nat → Int32)} (hl : ln ≤ 60) (h : kPq ln o o' a0 g vT aT vM aM) (hk : kPq ln o o' a0 g (X1_readCharacter_f vT aT ch).2 aT (X5_isNext_f vM aM ch).2 aM → kRd ln o o' a0 g' (X1_readCharacter_f vT aT ch).2 aT (X5_isNext_f vM aM ch).2 aM C M) : kRd ln o o' a0 g' vT aT vM aM (if (X1_readCharacter_f vT aT ch).1 = true then C else (false, (X1_readCharacter_f vT aT ch).2, aT)) (if (X5_isNext_f vM aM ch).1 = true then M else (false, (X5_isNext_f vM aM ch).2, aM)) := by
  obtain ⟨q1, q2, q3⟩ := ps_chr (ch := ch) hl h
  rw [q1]
  by_cases c : (X5_isNext_f vM aM ch).1 = true
  · rw [if_pos c, if_pos c]
    exact (hk q2).tr q3
  · rw [if_neg c, if_neg c]
    exact ⟨rfl, q2.g0, q3, fun z => absurd z Bool.false_ne_true⟩
theorem rd_end {g' : Nat} (hg : g' ≤ g) (h : kPq ln o o' a0 g vT aT vM aM) : kRd ln o o' a0 g' vT aT vM aM (true, vT, aT) (true, vM, aM) := ⟨rfl, h.g0, kFx.rf, fun _ i hi => h.giv i (by omega)⟩
theorem k_etaB {M : Bool × (Nat → Int32) × (Nat → Nat → Int32)} : (if M.1 = true then (true, M.2.1, M.2.2) else (false, M.2.1, M.2.2)) = M := by
  obtain ⟨b, u, w⟩ := M
  cases b
  · rfl
  · rfl
theorem rd_form (hl : ln ≤ 60) {f : Nat} (hf : f < 5) (h : kPq ln o o' a0 0 vT aT vM aM) : kRd ln o o' a0 (kCnt f) vT aT vM aM (X1_readForm_f vT aT f) (kMf f vM aM) := by
  have hf' : f = 0 ∨ f = 1 ∨ f = 2 ∨ f = 3 ∨ f = 4 := by omega
  unfold X1_readForm_f
  rcases hf' with rfl | rfl | rfl | rfl | rfl
  · rw [show kMf 0 vM aM = _ from if_pos rfl, rf_num (m := 1) (by decide) (by decide) (by decide) (by decide)]
    refine rd_num hl (i := 0) (m := 1) (by omega) (by omega) (by decide) (by decide) (by decide) (by decide) h fun h => ?_
    rw [rf_chr (m := 60) (by decide) (by decide) (by decide)]
    unfold X5_isCommand_j155
    refine rd_chr hl h fun h => ?_
    rw [rf_num (m := 1) (by decide) (by decide) (by decide) (by decide)]
    unfold X5_isCommand_j164
    refine rd_num hl (i := 1) (m := 1) (by omega) (by omega) (by decide) (by decide) (by decide) (by decide) h fun h => ?_
    rw [rf_chr (m := 43) (by decide) (by decide) (by decide)]
    unfold X5_isCommand_j173
    refine rd_chr hl h fun h => ?_
    rw [rf_num (m := 3) (by decide) (by decide) (by decide) (by decide)]
    unfold X5_isCommand_j182
    refine rd_num hl (i := 2) (m := 3) (by omega) (by omega) (by decide) (by decide) (by decide) (by decide) h fun h => ?_
    rw [rf_end (by decide)]
    exact rd_end (by decide) h
  · rw [show kMf 1 vM aM = _ from (if_neg (by decide)).trans (if_pos rfl), rf_num (m := 1) (by decide) (by decide) (by decide) (by decide)]
    refine rd_num hl (i := 0) (m := 1) (by omega) (by omega) (by decide) (by decide) (by decide) (by decide) h fun h => ?_
    rw [rf_chr (m := 62) (by decide) (by decide) (by decide)]
    unfold X5_isCommand_j216
    refine rd_chr hl h fun h => ?_
    rw [rf_num (m := 1) (by decide) (by decide) (by decide) (by decide)]
    unfold X5_isCommand_j225
    refine rd_num hl (i := 1) (m := 1) (by omega) (by omega) (by decide) (by decide) (by decide) (by decide) h fun h => ?_
    rw [rf_end (by decide)]
    exact rd_end (by decide) h
  · rw [show kMf 2 vM aM = _ from (if_neg (by decide)).trans ((if_neg (by decide)).trans (if_pos rfl)), rf_end (by decide)]
    exact rd_end (by decide) h
  · rw [show kMf 3 vM aM = _ from (if_neg (by decide)).trans ((if_neg (by decide)).trans ((if_neg (by decide)).trans (if_pos rfl))), rf_num (m := 2) (by decide) (by decide) (by decide) (by decide), ← k_etaB (M := X5_digits_f vM aM 0 2)]
    refine rd_num hl (i := 0) (m := 2) (by omega) (by omega) (by decide) (by decide) (by decide) (by decide) h fun h => ?_
    rw [rf_end (by decide)]
    exact rd_end (by decide) h
  · rw [show kMf 4 vM aM = _ from (if_neg (by decide)).trans ((if_neg (by decide)).trans ((if_neg (by decide)).trans (if_neg (by decide)))), rf_num (m := 1) (by decide) (by decide) (by decide) (by decide), ← k_etaB (M := X5_digits_f vM aM 0 1)]
    refine rd_num hl (i := 0) (m := 1) (by omega) (by omega) (by decide) (by decide) (by decide) (by decide) h fun h => ?_
    rw [rf_end (by decide)]
    exact rd_end (by decide) h
/-- the model's command, by the order's character -/
theorem isC_eq {x : Int32} (h10 : ¬ vM 10 = vM 9) (hx : aM 8 (vM 10).toNatClampNeg = x) : X5_isCommand_f vM aM = if X1_form x < 5 then kMf (X1_form x) (upd (upd vM 11 x) 10 (vM 10 + 1)) aM else (false, upd vM 11 x, aM) := by
  unfold X5_isCommand_f
  rw [if_neg h10, hx]
  unfold X1_form
  by_cases c98 : x = 98
  · rw [if_pos c98, if_pos c98]; rfl
  rw [if_neg c98, if_neg c98]
  by_cases c101 : x = 101
  · rw [if_pos c101, if_pos c101]; rfl
  rw [if_neg c101, if_neg c101]
  by_cases c102 : x = 102
  · rw [if_pos c102, if_pos c102]; rfl
  rw [if_neg c102, if_neg c102]
  by_cases c103 : x = 103
  · rw [if_pos c103, if_pos c103]; rfl
  rw [if_neg c103, if_neg c103]
  by_cases c110 : x = 110
  · rw [if_pos c110, if_pos c110]; rfl
  rw [if_neg c110, if_neg c110]
  by_cases c111 : x = 111
  · rw [if_pos c111, if_pos c111]; rfl
  rw [if_neg c111, if_neg c111]
  by_cases c115 : x = 115
  · rw [if_pos c115, if_pos c115]; rfl
  rw [if_neg c115, if_neg c115]
  by_cases c116 : x = 116
  · rw [if_pos c116, if_pos c116]; rfl
  rw [if_neg c116, if_neg c116]
  by_cases c119 : x = 119
  · rw [if_pos c119, if_pos c119]; rfl
  rw [if_neg c119, if_neg c119]
  by_cases c120 : x = 120
  · rw [if_pos c120, if_pos c120]; rfl
  rw [if_neg c120, if_neg c120]
  rfl
/-- what a command is read to -/
def kCm (ln a0 : Nat) (vT : Nat → Int32) (aT : Nat → Nat → Int32) (vM : Nat → Int32) (aM : Nat → Nat → Int32) (C M : Bool × (Nat → Int32) × (Nat → Nat → Int32)) : Prop := ∃ o o', kRd ln o o' a0 0 vT aT vM aM C M ∧ (C.1 = true → X1_form o < 5 ∧ kPq ln o o (a0 + 1) (kCnt (X1_form o)) C.2.1 C.2.2 M.2.1 M.2.2)
theorem rd_cmd (hl : ln ≤ 60) {at' : Nat} (h1 : vT 1 = nI ln) (h2 : vM 9 = nI ln) (h3 : vT 2 = nI at') (h4 : vM 10 = nI at') (h5 : ∀ i, i < ln → aM 8 i = aT 0 i) (hat : at' ≤ ln) : kCm ln at' vT aT vM aM (if vT 2 < vT 1 then (if X1_form ((aT 0) (vT 2).toNatClampNeg) < 5 then X1_readForm_f (upd (upd vT 3 ((aT 0) (vT 2).toNatClampNeg)) 2 ((vT 2) + 1)) aT (X1_form ((aT 0) (vT 2).toNatClampNeg)) else (false, upd vT 3 ((aT 0) (vT 2).toNatClampNeg), aT)) else (false, vT, aT)) (X5_isCommand_f vM aM) := by
  by_cases c : at' < ln
  · rw [isC_eq (x := aT 0 at') (by rw [h2, h4]; exact k6_ne hl c) (by rw [h4, nI_clamp (by omega)]; exact h5 at' c), if_pos (show vT 2 < vT 1 by rw [h1, h3]; exact k6_lt hl c), h3, h4, nI_clamp (n := at') (by omega), nI_add1]
    generalize aT 0 at' = x
    by_cases d : X1_form x < 5
    · rw [if_pos d, if_pos d]
      have hp : kPq ln x x (at' + 1) 0 (upd (upd vT 3 x) 2 (nI (at' + 1))) aT (upd (upd vM 11 x) 10 (nI (at' + 1))) aM := ⟨at' + 1, Nat.le_refl _, c, (pk_un (by decide)).trans ((pk_un (by decide)).trans h1), (pk_un (by decide)).trans ((pk_un (by decide)).trans h2), pk_us, pk_us, h5, (pk_un (by decide)).trans pk_us, (pk_un (by decide)).trans pk_us, fun i hi => by omega⟩
      have hr := rd_form hl d hp
      have hF : kFx vT aT (upd (upd vT 3 x) 2 (nI (at' + 1))) aT vM aM (upd (upd vM 11 x) 10 (nI (at' + 1))) aM := ⟨fun k k1 k2 => (pk_un k1).trans (pk_un k2), fun _ _ => rfl, fun k k1 k2 => (pk_un k1).trans (pk_un k2), fun _ _ => rfl⟩
      obtain ⟨q1, ⟨a, z1, z2, z3, z4, z5, z6, z7, z8, z9, z10⟩, q3, q4⟩ := hr
      exact ⟨x, x, ⟨q1, ⟨a, by omega, z2, z3, z4, z5, z6, z7, z8, z9, z10⟩, hF.tr q3, fun _ i hi => by omega⟩, fun z => ⟨d, a, z1, z2, z3, z4, z5, z6, z7, z8, z9, q4 z⟩⟩
    · rw [if_neg d, if_neg d]
      have hp : kPq ln x x at' 0 (upd vT 3 x) aT (upd vM 11 x) aM := ⟨at', Nat.le_refl _, hat, (pk_un (by decide)).trans h1, (pk_un (by decide)).trans h2, (pk_un (by decide)).trans h3, (pk_un (by decide)).trans h4, h5, pk_us, pk_us, fun i hi => by omega⟩
      exact ⟨x, x, ⟨rfl, hp, ⟨fun k k1 k2 => pk_un k2, fun _ _ => rfl, fun k k1 k2 => pk_un k2, fun _ _ => rfl⟩, fun _ i hi => by omega⟩, fun z => absurd z Bool.false_ne_true⟩
  · have e : at' = ln := by omega
    rw [show X5_isCommand_f vM aM = (false, vM, aM) from if_pos (by rw [h2, h4, e]), if_neg (show ¬ vT 2 < vT 1 by rw [h1, h3, e]; exact Int32.lt_irrefl)]
    exact ⟨vT 3, vM 11, ⟨rfl, ⟨at', Nat.le_refl _, hat, h1, h2, h3, h4, h5, rfl, rfl, fun i hi => by omega⟩, kFx.rf, fun _ i hi => by omega⟩, fun z => absurd z Bool.false_ne_true⟩
/-- the model's next command -/
def kNx (vM : Nat → Int32) (aM : Nat → Nat → Int32) : Bool × (Nat → Int32) × (Nat → Nat → Int32) := if (X5_isNext_f vM aM 59).1 = true then X5_isCommand_f (X5_isNext_f vM aM 59).2 aM else (false, (X5_isNext_f vM aM 59).2, aM)
theorem rc_eq : X1_readCommand_f vT aT = if vT 2 ≤ 0 then (if vT 2 < vT 1 then (if X1_form ((aT 0) (vT 2).toNatClampNeg) < 5 then X1_readForm_f (upd (upd vT 3 ((aT 0) (vT 2).toNatClampNeg)) 2 ((vT 2) + 1)) aT (X1_form ((aT 0) (vT 2).toNatClampNeg)) else (false, upd vT 3 ((aT 0) (vT 2).toNatClampNeg), aT)) else (false, vT, aT)) else if (X1_readCharacter_f vT aT 59).1 = true then (if (X1_readCharacter_f vT aT 59).2 2 < (X1_readCharacter_f vT aT 59).2 1 then (if X1_form ((aT 0) ((X1_readCharacter_f vT aT 59).2 2).toNatClampNeg) < 5 then X1_readForm_f (upd (upd (X1_readCharacter_f vT aT 59).2 3 ((aT 0) ((X1_readCharacter_f vT aT 59).2 2).toNatClampNeg)) 2 (((X1_readCharacter_f vT aT 59).2 2) + 1)) aT (X1_form ((aT 0) ((X1_readCharacter_f vT aT 59).2 2).toNatClampNeg)) else (false, upd (X1_readCharacter_f vT aT 59).2 3 ((aT 0) ((X1_readCharacter_f vT aT 59).2 2).toNatClampNeg), aT)) else (false, (X1_readCharacter_f vT aT 59).2, aT)) else (false, (X1_readCharacter_f vT aT 59).2, aT) := rfl
theorem rd_first (hl : ln ≤ 60) (h1 : vT 1 = nI ln) (h2 : vM 9 = nI ln) (h3 : vT 2 = 0) (h4 : vM 10 = 0) (h5 : ∀ i, i < ln → aM 8 i = aT 0 i) : kCm ln 0 vT aT vM aM (X1_readCommand_f vT aT) (X5_isCommand_f vM aM) := by
  rw [rc_eq, if_pos (by rw [h3]; decide)]
  exact rd_cmd (at' := 0) hl h1 h2 h3 h4 h5 (Nat.zero_le _)
theorem rd_next (hl : ln ≤ 60) {at' : Nat} (h1 : vT 1 = nI ln) (h2 : vM 9 = nI ln) (h3 : vT 2 = nI at') (h4 : vM 10 = nI at') (h5 : ∀ i, i < ln → aM 8 i = aT 0 i) (h0 : 0 < at') (hat : at' ≤ ln) : kCm ln at' vT aT vM aM (X1_readCommand_f vT aT) (kNx vM aM) := by
  rw [rc_eq, if_neg (by rw [h3]; exact k6_nle (a := 0) (b := at') (by omega) h0)]
  have hp : kPq ln (vT 3) (vM 11) at' 0 vT aT vM aM := ⟨at', Nat.le_refl _, hat, h1, h2, h3, h4, h5, rfl, rfl, fun i hi => by omega⟩
  obtain ⟨q1, ⟨a, z1, z2, z3, z4, z5, z6, z7, z8, z9, z10⟩, q3⟩ := ps_chr (ch := 59) hl hp
  unfold kNx
  rw [q1]
  by_cases c : (X5_isNext_f vM aM 59).1 = true
  · rw [if_pos c, if_pos c]
    obtain ⟨o, o', ⟨w1, ⟨a', y1, y2, y3, y4, y5, y6, y7, y8, y9, y10⟩, w3, w4⟩, w5⟩ := rd_cmd hl z3 z4 z5 z6 z7 z2
    refine ⟨o, o', ⟨w1, ⟨a', by omega, y2, y3, y4, y5, y6, y7, y8, y9, y10⟩, q3.tr w3, fun _ i hi => by omega⟩, fun z => ?_⟩
    obtain ⟨d, a'', x1, x2, x3, x4, x5, x6, x7, x8, x9, x10⟩ := w5 z
    exact ⟨d, a'', by omega, x2, x3, x4, x5, x6, x7, x8, x9, x10⟩
  · rw [if_neg c, if_neg c]
    exact ⟨vT 3, vM 11, ⟨rfl, ⟨a, z1, z2, z3, z4, z5, z6, z7, z8, z9, fun i hi => by omega⟩, q3, fun _ i hi => by omega⟩, fun z => absurd z Bool.false_ne_true⟩
end S12
