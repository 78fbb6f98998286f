/-- from the entry the law comes to its end with true -/
theorem whole_start {p : Program} {e : Env} {s : State} {m : MethodId} {below : List Frame} {meth : Method} {c : Code} (l : Launch) (hflags : l.flags = flags0) {b L : Nat} {xs : Nat → Int32} (hL : L ≤ 260) (C0 : lw_At p s m meth c b L xs) : W p l e room_1 s m #[Value.ref b] below meth c s.heap [] 0 0 (lw_Z below #[Value.ref b] s) (entryFrame m ([Value.ref b] : List Value).toArray 11) := by
  obtain ⟨hx, hb, hr, hml, hown, hts0, hX, hbl, hlocks, hgv⟩ := id C0
  obtain ⟨g, hE, hNc, hO⟩ := ke_all hts0 hgv
  have hfl : l.stackTraces = false := by
    show (!l.flags.contains Jvm.noTraceFlag) = false
    rw [hflags]
    decide +kernel
  have C : kC p c code s m #[Value.ref b] meth RL g 11 ret := ⟨⟨hx, hb, hml, hown, fun w h => hts0 w (k_w_tbl h)⟩, ⟨hE.1, hE.2.1⟩, hr, hlocks⟩
  have hl := lv_entry ([.ref b]) (n := 11) (Nat.le_of_ble_eq_true rfl)
  rw [lg_entry_eq]
  exact law_0 l hfl rfl C hE hNc (fun q h => h) ⟨hX, hbl, ke_A b hbl⟩ hL hO hl
