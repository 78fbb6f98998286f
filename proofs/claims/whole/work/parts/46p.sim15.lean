/-! the line -/
def kTr (s : kTx) (vM : Nat → Int32) (aM : Nat → Nat → Int32) : Prop := vM 7 = nI s.2 ∧ ∀ j, j < s.2 → aM 6 j = nI (s.1 j) ∧ s.1 j < 256
def kAp (n m : Nat) (d : Nat → Nat) (vM : Nat → Int32) (aM : Nat → Nat → Int32) (W : (Nat → Int32) × (Nat → Nat → Int32)) : Prop := W.1 7 = nI (n + m) ∧ (∀ j, j < n → W.2 6 j = aM 6 j) ∧ (∀ i, i < m → W.2 6 (n + i) = nI (d i)) ∧ (∀ k, k ≠ 7 → W.1 k = vM k) ∧ ∀ k, k ≠ 6 → W.2 k = aM k
theorem k_v10 (v : Nat) (h : v < 1000) : 48 + (nI v - nI v / 10 * 10) = nI (48 + v % 10) ∧ nI v / 10 = nI (v / 10) ∧ (nI v ≤ 9 ↔ v ≤ 9) := (by decide +kernel : ∀ v, v < 1000 → 48 + (nI v - nI v / 10 * 10) = nI (48 + v % 10) ∧ nI v / 10 = nI (v / 10) ∧ (nI v ≤ 9 ↔ v ≤ 9)) v h
theorem k_dec10 (v : Nat) (h : v < 1000) (h1 : 10 ≤ v) : sb_dg v = sb_dg (v / 10) + 1 ∧ (∀ i, i < sb_dg (v / 10) → sb_dec v i = sb_dec (v / 10) i) ∧ sb_dec v (sb_dg (v / 10)) = 48 + v % 10 := (by decide +kernel : ∀ v, v < 1000 → 10 ≤ v → sb_dg v = sb_dg (v / 10) + 1 ∧ (∀ i, i < sb_dg (v / 10) → sb_dec v i = sb_dec (v / 10) i) ∧ sb_dec v (sb_dg (v / 10)) = 48 + v % 10) v h h1
theorem k_decB (v : Nat) (h : v < 1000) : sb_dg v ≤ 3 ∧ ∀ i, i < sb_dg v → sb_dec v i < 256 := (by decide +kernel : ∀ v, v < 1000 → sb_dg v ≤ 3 ∧ ∀ i, i < sb_dg v → sb_dec v i < 256) v h
section S15
variable {n m c v : Nat} {d d' : Nat → Nat} {vM : Nat → Int32} {aM : Nat → Nat → Int32} {W W' : (Nat → Int32) × (Nat → Nat → Int32)} {s : kTx}
theorem ap_put {x : Int32} (e : vM 7 = nI n) (hn : n < 1000) (hx : x = nI c) : kAp n 1 (fun _ => c) vM aM (upd vM 7 (vM 7 + 1), va_up aM 6 (upd (aM 6) (vM 7).toNatClampNeg x)) := by
  rw [e, nI_clamp (n := n) (by omega), nI_add1, hx]
  refine ⟨(show upd vM 7 (nI (n + 1)) 7 = _ from pk_us), fun j hj => ?_, fun i hi => ?_, fun k hk => (show upd vM 7 (nI (n + 1)) k = vM k from pk_un hk), fun k hk => (show va_up aM 6 (upd (aM 6) n (nI c)) k = aM k from va_un hk)⟩
  · show upd (aM 6) n (nI c) j = _
    exact pk_un (by omega)
  · obtain rfl : i = 0 := by omega
    show upd (aM 6) n (nI c) n = _
    exact pk_us
theorem kAp.tr (h : kAp n m d vM aM W) (h' : kAp (n + m) 1 (fun _ => c) W.1 W.2 W') (hd : ∀ i, i < m → d' i = d i) (hc : d' m = c) : kAp n (m + 1) d' vM aM W' := by
  obtain ⟨a1, a2, a3, a4, a5⟩ := h
  obtain ⟨b1, b2, b3, b4, b5⟩ := h'
  refine ⟨b1, fun j hj => (b2 j (by omega)).trans (a2 j hj), fun i hi => ?_, fun k hk => (b4 k hk).trans (a4 k hk), fun k hk => (b5 k hk).trans (a5 k hk)⟩
  by_cases e : i = m
  · rw [e, hc]
    exact b3 0 (by omega)
  · rw [b2 (n + i) (by omega), a3 i (by omega), hd i (by omega)]
theorem kAp.one (h : kAp n 1 (fun _ => c) vM aM W) (hv : v < 10) (hc : c = 48 + v % 10) : kAp n (sb_dg v) (sb_dec v) vM aM W := by
  obtain ⟨q1, q2⟩ := k_dig1 hv
  obtain ⟨a1, a2, a3, a4, a5⟩ := h
  rw [q1]
  refine ⟨a1, a2, fun i hi => ?_, a4, a5⟩
  obtain rfl : i = 0 := by omega
  rw [q2, ← hc]
  exact a3 0 (by omega)
theorem wn0_ok (e : vM 7 = nI n) (hn : n < 900) (hv : v < 10) : kAp n (sb_dg v) (sb_dec v) vM aM (X5_wn0_f vM aM (nI v)) := by
  unfold X5_wn0_f
  exact (ap_put e (by omega) (k_v10 v (by omega)).1).one hv rfl
theorem wn1_ok (e : vM 7 = nI n) (hn : n < 900) (hv : v < 100) : kAp n (sb_dg v) (sb_dec v) vM aM (X5_wn1_f vM aM (nI v)) := by
  obtain ⟨q1, q2, q3⟩ := k_v10 v (by omega)
  unfold X5_wn1_f
  by_cases h : v ≤ 9
  · rw [if_pos (q3.mpr h)]
    exact (ap_put e (by omega) q1).one (by omega) rfl
  · rw [if_neg (fun z => h (q3.mp z)), q1, q2]
    have w := wn0_ok (aM := aM) (v := v / 10) e hn (by omega)
    obtain ⟨d1, d2, d3⟩ := k_dec10 v (by omega) (by omega)
    have hb := (k_decB (v / 10) (by omega)).1
    rw [d1]
    exact w.tr (ap_put w.1 (by omega) rfl) d2 d3
theorem wn2_ok (e : vM 7 = nI n) (hn : n < 900) (hv : v < 1000) : kAp n (sb_dg v) (sb_dec v) vM aM (X5_wn2_f vM aM (nI v)) := by
  obtain ⟨q1, q2, q3⟩ := k_v10 v (by omega)
  unfold X5_wn2_f
  by_cases h : v ≤ 9
  · rw [if_pos (q3.mpr h)]
    exact (ap_put e (by omega) q1).one (by omega) rfl
  · rw [if_neg (fun z => h (q3.mp z)), q1, q2]
    have w := wn1_ok (aM := aM) (v := v / 10) e hn (by omega)
    obtain ⟨d1, d2, d3⟩ := k_dec10 v (by omega) (by omega)
    have hb := (k_decB (v / 10) (by omega)).1
    rw [d1]
    exact w.tr (ap_put w.1 (by omega) rfl) d2 d3
theorem kTr.app (h : kTr s vM aM) (ha : kAp s.2 m d vM aM W) (hd : ∀ i, i < m → d i < 256) : kTr (sb_cat s.1 s.2 d, s.2 + m) W.1 W.2 := by
  obtain ⟨a1, a2, a3, a4, a5⟩ := ha
  refine ⟨a1, fun j hj => ?_⟩
  have hj : j < s.2 + m := hj
  rcases Nat.lt_or_ge j s.2 with g | g
  · show W.2 6 j = nI (sb_cat s.1 s.2 d j) ∧ sb_cat s.1 s.2 d j < 256
    rw [sb_cat_lo g, a2 j g]
    exact h.2 j g
  · obtain ⟨i, rfl⟩ : ∃ i, j = s.2 + i := ⟨j - s.2, by omega⟩
    show W.2 6 (s.2 + i) = nI (sb_cat s.1 s.2 d (s.2 + i)) ∧ sb_cat s.1 s.2 d (s.2 + i) < 256
    rw [sb_cat_hi, a3 i (by omega)]
    exact ⟨rfl, hd i (by omega)⟩
theorem kTr.num (h : kTr s vM aM) (hs : s.2 < 900) (hv : v < 1000) : kTr (kNum s v) (X5_wn2_f vM aM (nI v)).1 (X5_wn2_f vM aM (nI v)).2 ∧ (∀ k, k ≠ 7 → (X5_wn2_f vM aM (nI v)).1 k = vM k) ∧ ∀ k, k ≠ 6 → (X5_wn2_f vM aM (nI v)).2 k = aM k := by
  have w := wn2_ok (aM := aM) h.1 hs hv
  exact ⟨h.app w (k_decB v hv).2, w.2.2.2.1, w.2.2.2.2⟩
theorem kTr.put {x : Int32} (h : kTr s vM aM) (hs : s.2 < 900) (hx : x = nI c) (hc : c < 256) : kTr (sb_cat s.1 s.2 (fun _ => c), s.2 + 1) (upd vM 7 (vM 7 + 1)) (va_up aM 6 (upd (aM 6) (vM 7).toNatClampNeg x)) := h.app (ap_put h.1 (by omega) hx) (fun _ _ => hc)
/-- the line's text -/
theorem line_lp {v0 : Nat → Int32} {b0 : Nat → Nat → Int32} {p0 : Int32} {B : Nat} (hB : B < 256) : ∀ (n r : Nat) (s : kTx) (vM : Nat → Int32) (aM : Nat → Nat → Int32), r ≤ 8 → r < n → vM 19 = nI B → kTr s vM aM → s.2 ≤ kBd r → (X5_line_lp37 v0 b0 p0 n (nI (kTold (nI B))) (nI r - 1) vM aM).1 = nI (kNum (sb_cat (kLr (nI B) r s).1 (kLr (nI B) r s).2 (fun _ => 61), (kLr (nI B) r s).2 + 1) (kTold (nI B))).2 ∧ kTr (kNum (sb_cat (kLr (nI B) r s).1 (kLr (nI B) r s).2 (fun _ => 61), (kLr (nI B) r s).2 + 1) (kTold (nI B))) (X5_line_lp37 v0 b0 p0 n (nI (kTold (nI B))) (nI r - 1) vM aM).2.1 (X5_line_lp37 v0 b0 p0 n (nI (kTold (nI B))) (nI r - 1) vM aM).2.2 ∧ (∀ k, k ≠ 7 → (X5_line_lp37 v0 b0 p0 n (nI (kTold (nI B))) (nI r - 1) vM aM).2.1 k = vM k) ∧ ∀ k, k ≠ 6 → (X5_line_lp37 v0 b0 p0 n (nI (kTold (nI B))) (nI r - 1) vM aM).2.2 k = aM k := by
  intro n
  induction n with
  | zero => intro r s vM aM h1 h2; omega
  | succ n ih =>
    intro r s vM aM h1 h2 h19 hs hb
    have e37 : ∀ x y, X5_line_lp37 v0 b0 p0 (n + 1) x y vM aM = X5_line_lp37b v0 b0 p0 (X5_line_lp37 v0 b0 p0 n) x y vM aM := fun _ _ => rfl
    rw [e37]
    unfold X5_line_lp37b
    cases r with
    | zero =>
      have hb0 : s.2 ≤ 23 := hb
      rw [if_pos (by decide : (nI 0 - 1 : Int32) < 0)]
      have h1 := hs.put (c := 61) (x := 61) (by omega) rfl (by omega)
      obtain ⟨w1, w2, w3⟩ := h1.num (v := kTold (nI B)) (show s.2 + 1 < 900 by omega) (by have := kTold_le (nI B); omega)
      exact ⟨w1.1, w1, fun k hk => (w2 k hk).trans (pk_un hk), fun k hk => (w3 k hk).trans (va_un hk)⟩
    | succ i =>
      have hi : i < 8 := by omega
      have hb23 := kBd23 (i + 1) (by omega)
      have hbd := kLs_bd (nI B) i hi s hb
      rw [nI_pred, if_neg (nI_pos (by omega)), h19, k_shand hB hi, k_weight i hi, ← Int32.sub_eq_add_neg]
      have hw : k_tab 2 i = nI (kWt i) := by
        have := k_wt i hi
        rw [nI_clamp (by omega)] at this
        exact this
      have hw2 := (k_wt2 i hi).1
      rw [hw]
      show _ = nI (kNum (sb_cat (kLr (nI B) i (kLs (nI B) i s)).1 (kLr (nI B) i (kLs (nI B) i s)).2 (fun _ => 61), (kLr (nI B) i (kLs (nI B) i s)).2 + 1) (kTold (nI B))).2 ∧ kTr (kNum (sb_cat (kLr (nI B) i (kLs (nI B) i s)).1 (kLr (nI B) i (kLs (nI B) i s)).2 (fun _ => 61), (kLr (nI B) i (kLs (nI B) i s)).2 + 1) (kTold (nI B))) _ _ ∧ _
      by_cases e : B.testBit i = true
      · have es : kLs (nI B) i s = kNum (kPlus s) (kWt i) := if_pos ((k_among hB hi).trans e)
        rw [es] at hbd ⊢
        rw [if_pos e, if_neg (show ¬ (1 : Int32) = 0 by decide)]
        by_cases f : s.2 = 0
        · have ep : kPlus s = s := if_pos f
          rw [ep] at hbd ⊢
          rw [if_pos (show vM 7 ≤ 0 by rw [hs.1, f]; decide)]
          obtain ⟨w1, w2, w3⟩ := hs.num (by omega) hw2
          obtain ⟨y1, y2, y3, y4⟩ := ih i (kNum s (kWt i)) _ _ (by omega) (by omega) ((w2 19 (by decide)).trans h19) w1 hbd
          exact ⟨y1, y2, fun k hk => (y3 k hk).trans (w2 k hk), fun k hk => (y4 k hk).trans (w3 k hk)⟩
        · have ep : kPlus s = (sb_cat s.1 s.2 (fun _ => 43), s.2 + 1) := if_neg f
          rw [ep] at hbd ⊢
          rw [if_neg (show ¬ vM 7 ≤ 0 by rw [hs.1]; exact k6_nle (a := 0) (b := s.2) (by omega) (by omega))]
          have h1 := hs.put (c := 43) (x := 43) (by omega) rfl (by omega)
          obtain ⟨w1, w2, w3⟩ := h1.num (show s.2 + 1 < 900 by omega) hw2
          obtain ⟨y1, y2, y3, y4⟩ := ih i _ _ _ (by omega) (by omega) ((w2 19 (by decide)).trans ((pk_un (by decide)).trans h19)) w1 hbd
          exact ⟨y1, y2, fun k hk => (y3 k hk).trans ((w2 k hk).trans (pk_un hk)), fun k hk => (y4 k hk).trans ((w3 k hk).trans (va_un hk))⟩
      · have es : kLs (nI B) i s = s := if_neg (fun z => e ((k_among hB hi).symm.trans z))
        rw [es] at hbd ⊢
        rw [if_neg e, if_pos rfl]
        exact ih i s vM aM (by omega) (by omega) h19 hs hbd
end S15
section S16
variable {N N' : Nat} {vF vF' vC vC' : Nat → Int32} {aC aC' : Nat → Nat → Int32} {vS vS' : Nat → Int32} {aS aS' : Nat → Nat → Int32} {vH vH' : Nat → Int32} {aH aH' : Nat → (Nat → Int32) × (Nat → Nat → Int32)} {vR vR' vT vT' : Nat → Int32} {aR aT aT' : Nat → Nat → Int32} {t : Nat → Nat} {k : Nat} {vM vM' : Nat → Int32} {aM aM' : Nat → Nat → Int32} {p p0 p1 p2 p3 x y : Int32} {S : Nat → Int32}
theorem s_line (hR : kRel N vF vC aC vS aS vH aH vR vT aT t k vM aM) : ((X5_line_f vM aM p0).2.1) 21 = kLk1 (X4_checkBag_f vF vC aC p0) ∧ (X4_checkBag_f vF vC aC p0 = 0 → (X5_line_f vM aM p0).1 = nI (kLine (X4_line_w vC aC p0)).2) ∧ (X4_checkBag_f vF vC aC p0 = 0 → kRel (N + 60) vF vC aC vS aS vH aH vR vT aT ((kLine (X4_line_w vC aC p0)).1) ((kLine (X4_line_w vC aC p0)).2) ((X5_line_f vM aM p0).2.1) ((X5_line_f vM aM p0).2.2)) ∧ (X4_checkBag_f vF vC aC p0 ≠ 0 → kRel (N + 60) vF vC aC vS aS vH aH vR vT aT t k ((X5_line_f vM aM p0).2.1) ((X5_line_f vM aM p0).2.2)) := by
  by_cases c : X5_isBag_f (upd vM 21 0) aM p0 = true
  · obtain ⟨b, hb, rfl, hBb⟩ := hR.1.bagE c
    obtain ⟨B, hB, s1, s2, s3, s4, s5⟩ := scales_ok (vM := upd vM 21 0) hR.1 (X5_load_f (upd vM 21 0) aM (nI b))
    have hl := sim_load (vM := upd vM 21 0) hR.1 hb hBb
    have hw : X4_line_w vC aC (nI b) = nI B := by
      unfold X4_line_w
      rw [← hl, s1]
    rw [cb_t hR.1 c, hw, show X5_line_f vM aM (nI b) = _ from if_pos c, s2, kTold_eq]
    obtain ⟨y1, y2, y3, y4⟩ := line_lp (v0 := vM) (b0 := aM) (p0 := nI b) hB 9 8 (fun _ => 0, 0) (upd ((X5_scales_f (upd vM 21 0) aM (X5_load_f (upd vM 21 0) aM (nI b))).2) 7 0) aM (by omega) (by omega) ((pk_un (by decide)).trans s3) ⟨pk_us, fun j hj => absurd hj (Nat.not_lt_zero j)⟩ (Nat.zero_le _)
    rw [show (nI 8 - 1 : Int32) = 7 from rfl] at y1 y2 y3 y4
    generalize X5_line_lp37 vM aM (nI b) 9 (nI (kTold (nI B))) 7 (upd ((X5_scales_f (upd vM 21 0) aM (X5_load_f (upd vM 21 0) aM (nI b))).2) 7 0) aM = R at *
    have hV : ∀ i, i ≠ 7 → i ≠ 19 → i ≠ 20 → i ≠ 21 → R.2.1 i = vM i := fun i h1 h2 h3 h4 => (y3 i h1).trans ((pk_un h1).trans ((s5 i h2 h3).trans (pk_un h4)))
    refine ⟨(y3 21 (by decide)).trans ((pk_un (by decide)).trans ((s5 21 (by decide) (by decide)).trans pk_us)), fun _ => y1, fun _ => ?_, fun z => absurd rfl z⟩
    obtain ⟨r1, r2, r3, ⟨e1, e2, e3⟩, r5, ⟨⟨ln, t1, t2, t3, t4⟩, t5⟩, l1, l2, l3⟩ := hR
    refine ⟨?_, r2.cong (Nat.le_add_right N 60) (hV 5 (by decide) (by decide) (by decide) (by decide)) (y4 4 (by decide)) rfl, r3.cong (Nat.le_add_right N 60) (hV 3 (by decide) (by decide) (by decide) (by decide)) (y4 2 (by decide)), ⟨(hV 14 (by decide) (by decide) (by decide) (by decide)).trans e1, (hV 15 (by decide) (by decide) (by decide) (by decide)).trans e2, (hV 17 (by decide) (by decide) (by decide) (by decide)).trans e3⟩, (hV 13 (by decide) (by decide) (by decide) (by decide)).trans r5, ⟨⟨ln, t1, t2, (hV 9 (by decide) (by decide) (by decide) (by decide)).trans t3, ?_⟩, ?_⟩, ?_, y2.1, y2.2⟩
    · rw [y4 0 (by decide)]
      exact r1.mono (Nat.le_add_right N 60)
    · rw [y4 8 (by decide)]; exact t4
    · unfold kCh5; rw [y4 8 (by decide)]; exact t5
    · have := kLine_len (nI B)
      omega
  · rw [cb_f hR.1 c, show X5_line_f vM aM p0 = _ from if_neg c]
    exact ⟨rfl, fun z => absurd z (by decide), fun z => absurd z (by decide), fun _ => kRel_ro hR (fun i h _ => (pk_un (by omega)).trans (pk_un (by omega)))⟩
end S16
