/-! the tables' words in chunks; kW: all the good ones of them, the one list of words that every contract of mine asks for -/
def kt_blk : Nat → List Cond := fun k => match k with
  | 0 => kt_sb
  | 1 => k2_sels lw_privs
  | 2 => tables_1_1
  | 3 => tables_1_2
  | 4 => tables_1_3
  | 5 => tables_1_4
  | 6 => tables_1_5
  | _ => tables_1_6
theorem kt_mem : ∀ (k : Nat) (w : Cond), w ∈ kt_blk k → w ∈ lw_tbl
  | 0, w, h => List.mem_append_left _ h
  | 1, w, h => List.mem_append_right _ (List.mem_append_left _ h)
  | 2, w, h => List.mem_append_right _ (List.mem_append_right _ (show w ∈ tables_1 from List.mem_append_left _ h))
  | 3, w, h => List.mem_append_right _ (List.mem_append_right _ (show w ∈ tables_1 from List.mem_append_right _ (List.mem_append_left _ h)))
  | 4, w, h => List.mem_append_right _ (List.mem_append_right _ (show w ∈ tables_1 from List.mem_append_right _ (List.mem_append_right _ (List.mem_append_left _ h))))
  | 5, w, h => List.mem_append_right _ (List.mem_append_right _ (show w ∈ tables_1 from List.mem_append_right _ (List.mem_append_right _ (List.mem_append_right _ (List.mem_append_left _ h)))))
  | 6, w, h => List.mem_append_right _ (List.mem_append_right _ (show w ∈ tables_1 from List.mem_append_right _ (List.mem_append_right _ (List.mem_append_right _ (List.mem_append_right _ (List.mem_append_left _ h))))))
  | n + 7, w, h => List.mem_append_right _ (List.mem_append_right _ (show w ∈ tables_1 from List.mem_append_right _ (List.mem_append_right _ (List.mem_append_right _ (List.mem_append_right _ (List.mem_append_right _ (h)))))))
def kW : List Cond := lw_tbl.filter goodWord
theorem k_w {w : Cond} (k j : Nat) (h : (kt_blk k)[j]? = some w) (hg : goodWord w = true) : w ∈ kW := List.mem_filter.mpr ⟨kt_mem k w (List.mem_of_getElem? h), hg⟩
theorem k_w_tbl {w : Cond} (h : w ∈ kW) : w ∈ lw_tbl := (List.mem_filter.mp h).1
theorem k_w_good {w : Cond} (h : w ∈ kW) : goodWord w = true := (List.mem_filter.mp h).2
theorem k_gI {c : Cond} (h : c ∈ kW) : GoodIn kW (c :: kW) := fun w hw => by
  have hm : w ∈ kW := (List.mem_cons.mp hw).elim (fun e => by rw [e]; exact h) id
  exact ⟨hm, good_of_word (k_w_good hm)⟩
theorem k_gl {l : List Cond} (h : ∀ w ∈ l, w ∈ kW) : GoodIn kW l := fun w hw => ⟨h w hw, good_of_word (k_w_good (h w hw))⟩
/-- what a callee's words are: its being an instance method that is selected, its class, its code -/
def kCal (y : MethodName) (code : Cond) : Prop := Cond.instanceMethod y ∈ kW ∧ Cond.selects y.cls y y ∈ kW ∧ Cond.initialized y.cls ∈ kW ∧ code ∈ kW
def kCst (y : MethodName) (code : Cond) : Prop := Cond.static y ∈ kW ∧ Cond.initialized y.cls ∈ kW ∧ code ∈ kW
theorem k_gV {own : String} {idx : Nat} {y : MethodName} {code : Cond} (hl : Cond.methodLink own idx y ∈ kW) (h : kCal y code) : GoodIn kW (wsV own idx y.cls y (code :: kW)) := k_gl fun w hw => by
  unfold wsV at hw
  simp only [List.cons_append, List.nil_append, List.mem_cons] at hw
  rcases hw with rfl | rfl | rfl | rfl | rfl | hw
  · exact hl
  · exact h.1
  · exact h.2.1
  · exact h.2.2.1
  · exact h.2.2.2
  · exact hw
theorem k_gS {own : String} {idx : Nat} {y : MethodName} {code : Cond} (hl : Cond.methodLink own idx y ∈ kW) (h : kCst y code) : GoodIn kW (va_wsS own idx y (code :: kW)) := k_gl fun w hw => by
  unfold va_wsS at hw
  simp only [List.cons_append, List.nil_append, List.mem_cons] at hw
  rcases hw with rfl | rfl | rfl | rfl | hw
  · exact hl
  · exact h.1
  · exact h.2.1
  · exact h.2.2
  · exact hw
theorem ku_X0 : ∀ w ∈ u_ws RX0 TX0 19, w ∈ kW := fun w hw => by
  obtain ⟨k, hk, rfl⟩ := List.mem_map.mp hw
  have hk := List.mem_range.mp hk
  match k, hk with
  | 0, _ => exact k_w 2 93 rfl rfl
  | 1, _ => exact k_w 2 95 rfl rfl
  | 2, _ => exact k_w 2 97 rfl rfl
  | 3, _ => exact k_w 2 99 rfl rfl
  | 4, _ => exact k_w 2 101 rfl rfl
  | 5, _ => exact k_w 2 103 rfl rfl
  | 6, _ => exact k_w 2 105 rfl rfl
  | 7, _ => exact k_w 2 107 rfl rfl
  | 8, _ => exact k_w 2 109 rfl rfl
  | 9, _ => exact k_w 2 111 rfl rfl
  | 10, _ => exact k_w 2 113 rfl rfl
  | 11, _ => exact k_w 2 115 rfl rfl
  | 12, _ => exact k_w 2 117 rfl rfl
  | 13, _ => exact k_w 2 119 rfl rfl
  | 14, _ => exact k_w 2 121 rfl rfl
  | 15, _ => exact k_w 2 123 rfl rfl
  | 16, _ => exact k_w 2 125 rfl rfl
  | 17, _ => exact k_w 2 127 rfl rfl
  | 18, _ => exact k_w 2 129 rfl rfl
  | n + 19, h => exact absurd h (by omega)
theorem ku_X1 : ∀ w ∈ u_ws RX1 TX1 5, w ∈ kW := fun w hw => by
  obtain ⟨k, hk, rfl⟩ := List.mem_map.mp hw
  have hk := List.mem_range.mp hk
  match k, hk with
  | 0, _ => exact k_w 2 188 rfl rfl
  | 1, _ => exact k_w 2 190 rfl rfl
  | 2, _ => exact k_w 2 192 rfl rfl
  | 3, _ => exact k_w 2 194 rfl rfl
  | 4, _ => exact k_w 2 196 rfl rfl
  | n + 5, h => exact absurd h (by omega)
theorem ku_X2 : ∀ w ∈ u_ws RX2 TX2 3, w ∈ kW := fun w hw => by
  obtain ⟨k, hk, rfl⟩ := List.mem_map.mp hw
  have hk := List.mem_range.mp hk
  match k, hk with
  | 0, _ => exact k_w 2 146 rfl rfl
  | 1, _ => exact k_w 2 148 rfl rfl
  | 2, _ => exact k_w 2 150 rfl rfl
  | n + 3, h => exact absurd h (by omega)
theorem ku_X3 : ∀ w ∈ u_ws RX3 TX3 3, w ∈ kW := fun w hw => by
  obtain ⟨k, hk, rfl⟩ := List.mem_map.mp hw
  have hk := List.mem_range.mp hk
  match k, hk with
  | 0, _ => exact k_w 2 165 rfl rfl
  | 1, _ => exact k_w 2 167 rfl rfl
  | 2, _ => exact k_w 2 169 rfl rfl
  | n + 3, h => exact absurd h (by omega)
theorem ku_X4 : ∀ w ∈ u_ws RX4 TX4 8, w ∈ kW := fun w hw => by
  obtain ⟨k, hk, rfl⟩ := List.mem_map.mp hw
  have hk := List.mem_range.mp hk
  match k, hk with
  | 0, _ => exact k_w 3 1 rfl rfl
  | 1, _ => exact k_w 3 3 rfl rfl
  | 2, _ => exact k_w 3 5 rfl rfl
  | 3, _ => exact k_w 3 7 rfl rfl
  | 4, _ => exact k_w 3 9 rfl rfl
  | 5, _ => exact k_w 3 11 rfl rfl
  | 6, _ => exact k_w 3 13 rfl rfl
  | 7, _ => exact k_w 3 15 rfl rfl
  | n + 8, h => exact absurd h (by omega)
theorem ku_J4 : ∀ w ∈ u_ws RJ4 TJ4 4, w ∈ kW := fun w hw => by
  obtain ⟨k, hk, rfl⟩ := List.mem_map.mp hw
  have hk := List.mem_range.mp hk
  match k, hk with
  | 0, _ => exact k_w 2 223 rfl rfl
  | 1, _ => exact k_w 2 225 rfl rfl
  | 2, _ => exact k_w 2 227 rfl rfl
  | 3, _ => exact k_w 2 229 rfl rfl
  | n + 4, h => exact absurd h (by omega)
theorem ku_J0 : ∀ w ∈ u_ws RJ0 TJ0 4, w ∈ kW := fun w hw => by
  obtain ⟨k, hk, rfl⟩ := List.mem_map.mp hw
  have hk := List.mem_range.mp hk
  match k, hk with
  | 0, _ => exact k_w 4 180 rfl rfl
  | 1, _ => exact k_w 4 182 rfl rfl
  | 2, _ => exact k_w 6 200 rfl rfl
  | 3, _ => exact k_w 6 202 rfl rfl
  | n + 4, h => exact absurd h (by omega)
