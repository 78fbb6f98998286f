theorem kw69 : Cond.initialized "SpiceScale" ∈ kW := k_w 2 1 rfl rfl
theorem kw99 : Cond.classLink RL 8 "SpiceScale" ∈ kW := k_w 2 31 rfl rfl
theorem kw100 : Cond.instantiable "SpiceScale" 8 ∈ kW := k_w 2 32 rfl rfl
theorem kw101 : Cond.methodLink RL 293 yX4_init ∈ kW := k_w 2 33 rfl rfl
theorem kw102 : Cond.instanceMethod yX4_init ∈ kW := k_w 2 34 rfl rfl
theorem kw103 : Cond.code yX4_init cX4_init 1 none ∈ kW := k_w 2 35 rfl rfl
theorem kw1022 : Cond.methodLink RL 303 yL_isLine ∈ kW := k_w 5 234 rfl rfl
set_option maxHeartbeats 1000000 in
set_option maxRecDepth 100000 in
theorem law_d (l : Launch) (hfl : l.stackTraces = false) {p : Program} {e : Env} {s : State} {m : MethodId} {below : List Frame} {meth : Method} {c : Code} {b L : Nat} {xs : Nat → Int32} {g : kG} {A : Nat → Prop} (hAe : A = kAh s) (K : kC p c code s m #[Value.ref b] meth RL g 11 ret) (hE : kE g A s s.heap) (hN : kNc s) (hA : ∀ q, s.heap.size ≤ q → A q) (hX : kScr b L xs A s s.heap) (hL : L ≤ 260) (hAO : va_AO "SpiceScale$Caravan" s) {oF : Nat} {F : Nat → Int32} {h : List kK} {R : Nat → Int32} {T : kK} {ln : kTx} {u : List va_W} {H : Heap} {locs : List Loc} {ls : Array Slot} {cells slots : Nat} (hO : kOb g oF F kE182 kE0 h R T ln u) (hF : F 2 ≠ 0) (hh : h.length = 8) (hP : kp g u H) (hD : kd A u) (hS : va_S A s.heap H locs) (hl : lv_has ls 11 [(0, .ref b), (1, .ref oF)]) (hc : cells + 23710 ≤ 1029076) (hs : slots + 278103 ≤ 6003061) : W p l e room_1 s m #[Value.ref b] below meth c H locs cells slots (lw_Z below #[Value.ref b] s) (F0 m 571 ls []) := by
  have hx := K.1.1
  have hb := K.1.2.1
  have hts := K.1.2.2.2.2
  refine lv_aload_n hx hb dL_law_571 rfl (lv_at hl 1 rfl) ?_
  refine lv_bipush (v := 30) hx hb dL_law_572 (by decide) ?_
  refine kL_SW (As := [.ref oF, .int 30]) (rest := []) (wr := []) K kX0_s (L_thumb_c l hfl g oF F kE182 kE0 h R T ln _ hO 30) hN kX0_fr (vx_cwSW 2 hts (k_gS kw656 cs_L_thumb) rfl rfl rfl pnL_thumb ⟨Nat.le_of_ble_eq_true rfl, Nat.le_of_ble_eq_true rfl⟩) hE hS hA hP hD rfl hl.1 rfl rfl dL_law_574 ⟨(show cells + 1 ≤ 1029076 from by omega), (show slots + 6 ≤ 6003061 from by omega)⟩ (fun r u H locs hp hP hD hS => ?_)
  have hP : kp g u H := hP
  have hD : kd A u := hD
  obtain ⟨hr, h, R, u, hh1, hO, hP, hD⟩ := e_ch ea_183 es_183 rfl hp hP hD
  subst hr
  have hh : h.length = 8 := by omega
  refine lv_if_ne (tgt := 681) hx hb dL_law_577 (by decide) (fun z => absurd z (fun y => y rfl)) (fun z => ?_)
  refine lv_aload_n hx hb dL_law_580 rfl (lv_at hl 1 rfl) ?_
  refine lv_iconst (v := 3) hx hb dL_law_581 (by decide) ?_
  refine kL_SW (As := [.ref oF, .int 3]) (rest := []) (wr := []) K kX0_s (L_go_c l hfl g oF F kE183 kE0 h R T ln _ hO 3) hN kX0_fr (vx_cwSW 2 hts (k_gS kw684 cs_L_go) rfl rfl rfl pnL_go ⟨Nat.le_of_ble_eq_true rfl, Nat.le_of_ble_eq_true rfl⟩) hE hS hA hP hD rfl hl.1 rfl rfl dL_law_582 ⟨(show cells + 1 + 1 ≤ 1029076 from by omega), (show slots + 6 + 6 ≤ 6003061 from by omega)⟩ (fun r u H locs hp hP hD hS => ?_)
  have hP : kp g u H := hP
  have hD : kd A u := hD
  obtain ⟨hr, h, R, u, hh1, hO, hP, hD⟩ := e_ch ea_184 es_184 rfl hp hP hD
  subst hr
  have hh : h.length = 8 := by omega
  refine lv_bipush (v := 72) hx hb dL_law_585 (by decide) ?_
  refine lv_icmp_ne (tgt := 681) hx hb dL_law_587 (by decide) (fun z => absurd z (fun y => y rfl)) (fun z => ?_)
  refine lv_aload_n hx hb dL_law_590 rfl (lv_at hl 1 rfl) ?_
  refine lv_iconst (v := 3) hx hb dL_law_591 (by decide) ?_
  refine kL_SW (As := [.ref oF, .int 3]) (rest := []) (wr := []) K kX0_s (L_isNoticed_c l hfl g oF F kE184 kE0 h R T ln _ hO 3) hN kX0_fr (vx_cwSW 2 hts (k_gS kw833 cs_L_isNoticed) rfl rfl rfl pnL_isNoticed ⟨Nat.le_of_ble_eq_true rfl, Nat.le_of_ble_eq_true rfl⟩) hE hS hA hP hD rfl hl.1 rfl rfl dL_law_592 ⟨(show cells + 1 + 1 + 1 ≤ 1029076 from by omega), (show slots + 6 + 6 + 6 ≤ 6003061 from by omega)⟩ (fun r u H locs hp hP hD hS => ?_)
  have hP : kp g u H := hP
  have hD : kd A u := hD
  obtain ⟨hr, hO⟩ := hp
  have hr : r = 1 := hr.trans eq_not1
  subst hr
  refine lv_iconst (v := 1) hx hb dL_law_595 (by decide) ?_
  refine lv_icmp_ne (tgt := 681) hx hb dL_law_596 (by decide) (fun z => absurd z (fun y => y rfl)) (fun z => ?_)
  refine lv_aload_n hx hb dL_law_599 rfl (lv_at hl 1 rfl) ?_
  refine kL_SW (As := [.ref oF]) (rest := []) (wr := []) K kX0_s (L_oath_c l hfl g oF F kE184 kE0 h R T ln _ hO ) hN kX0_fr (vx_cwSW 1 hts (k_gS kw677 cs_L_oath) rfl rfl rfl pnL_oath ⟨Nat.le_of_ble_eq_true rfl, Nat.le_of_ble_eq_true rfl⟩) hE hS hA hP hD rfl hl.1 rfl rfl dL_law_600 ⟨(show cells + 1 + 1 + 1 + 1 ≤ 1029076 from by omega), (show slots + 6 + 6 + 6 + 6 ≤ 6003061 from by omega)⟩ (fun r u H locs hp hP hD hS => ?_)
  have hP : kp g u H := hP
  have hD : kd A u := hD
  obtain ⟨hr, R, hR, hO⟩ := mk_not2 (er_oath1 _) hp
  subst hr
  refine lv_sipush (v := (-1001)) hx hb dL_law_603 (by decide) ?_
  refine lv_icmp_ne (tgt := 681) hx hb dL_law_606 (by decide) (fun z => absurd z (fun y => y rfl)) (fun z => ?_)
  refine lv_aload_n hx hb dL_law_609 rfl (lv_at hl 1 rfl) ?_
  refine lv_bipush (v := 9) hx hb dL_law_610 (by decide) ?_
  refine lv_bipush (v := 30) hx hb dL_law_612 (by decide) ?_
  refine lv_iconst (v := 0) hx hb dL_law_614 (by decide) ?_
  refine kL_SC (As := [.ref oF, .int 9, .int 30, .int 0]) (rest := []) (wr := []) K kX0_s (L_is_c l hfl g oF F kE184 kE0 h R T ln _ hO 9 30 0 (by rw [hR.1]; decide) hR.1 hR.2.1 hR.2.2) hN kX0_fr (va_cwS 4 hts (k_gS kw994 cs_L_is) rfl rfl rfl pnL_is ⟨Nat.le_of_ble_eq_true rfl, Nat.le_of_ble_eq_true rfl⟩) hE hS hA hP hD rfl hl.1 rfl rfl dL_law_615 ⟨(show cells + 1 + 1 + 1 + 1 + 3 ≤ 1029076 from by omega), (show slots + 6 + 6 + 6 + 6 + 18 ≤ 6003061 from by omega)⟩ (fun r u H locs hp hP hD hS => ?_)
  have hP : kp g u H := hP
  have hD : kd A u := hD
  obtain ⟨hr, hO⟩ := hp
  subst hr
  refine lv_if_eq (tgt := 681) hx hb dL_law_618 (by decide) (fun z => absurd z (by decide)) (fun z => ?_)
  refine lv_aload_n hx hb dL_law_621 rfl (lv_at hl 1 rfl) ?_
  refine lv_bipush (v := 20) hx hb dL_law_622 (by decide) ?_
  refine kL_SW (As := [.ref oF, .int 20]) (rest := []) (wr := []) K kX0_s (L_thumb_c l hfl g oF F kE184 kE0 h R T ln _ hO 20) hN kX0_fr (vx_cwSW 2 hts (k_gS kw656 cs_L_thumb) rfl rfl rfl pnL_thumb ⟨Nat.le_of_ble_eq_true rfl, Nat.le_of_ble_eq_true rfl⟩) hE hS hA hP hD rfl hl.1 rfl rfl dL_law_624 ⟨(show cells + 1 + 1 + 1 + 1 + 3 + 1 ≤ 1029076 from by omega), (show slots + 6 + 6 + 6 + 6 + 18 + 6 ≤ 6003061 from by omega)⟩ (fun r u H locs hp hP hD hS => ?_)
  have hP : kp g u H := hP
  have hD : kd A u := hD
  obtain ⟨hr, h, R, u, hh1, hO, hP, hD⟩ := e_ch ea_185 es_185 rfl hp hP hD
  subst hr
  have hh : h.length = 8 := by omega
  refine lv_bipush (v := 30) hx hb dL_law_627 (by decide) ?_
  refine lv_icmp_ne (tgt := 681) hx hb dL_law_629 (by decide) (fun z => absurd z (fun y => y rfl)) (fun z => ?_)
  refine lv_aload_n hx hb dL_law_632 rfl (lv_at hl 1 rfl) ?_
  refine lv_iconst (v := 3) hx hb dL_law_633 (by decide) ?_
  refine kL_SW (As := [.ref oF, .int 3]) (rest := []) (wr := []) K kX0_s (L_isNoticed_c l hfl g oF F kE185 kE0 h R T ln _ hO 3) hN kX0_fr (vx_cwSW 2 hts (k_gS kw833 cs_L_isNoticed) rfl rfl rfl pnL_isNoticed ⟨Nat.le_of_ble_eq_true rfl, Nat.le_of_ble_eq_true rfl⟩) hE hS hA hP hD rfl hl.1 rfl rfl dL_law_634 ⟨(show cells + 1 + 1 + 1 + 1 + 3 + 1 + 1 ≤ 1029076 from by omega), (show slots + 6 + 6 + 6 + 6 + 18 + 6 + 6 ≤ 6003061 from by omega)⟩ (fun r u H locs hp hP hD hS => ?_)
  have hP : kp g u H := hP
  have hD : kd A u := hD
  obtain ⟨hr, hO⟩ := hp
  have hr : r = 0 := hr.trans eq_not0
  subst hr
  refine lv_if_ne (tgt := 681) hx hb dL_law_637 (by decide) (fun z => absurd z (fun y => y rfl)) (fun z => ?_)
  refine lv_aload_n hx hb dL_law_640 rfl (lv_at hl 1 rfl) ?_
  refine lv_iconst (v := 0) hx hb dL_law_641 (by decide) ?_
  refine kL_SW (As := [.ref oF, .int 0]) (rest := []) (wr := []) K kX0_s (L_thumb_c l hfl g oF F kE185 kE0 h R T ln _ hO 0) hN kX0_fr (vx_cwSW 2 hts (k_gS kw656 cs_L_thumb) rfl rfl rfl pnL_thumb ⟨Nat.le_of_ble_eq_true rfl, Nat.le_of_ble_eq_true rfl⟩) hE hS hA hP hD rfl hl.1 rfl rfl dL_law_642 ⟨(show cells + 1 + 1 + 1 + 1 + 3 + 1 + 1 + 1 ≤ 1029076 from by omega), (show slots + 6 + 6 + 6 + 6 + 18 + 6 + 6 + 6 ≤ 6003061 from by omega)⟩ (fun r u H locs hp hP hD hS => ?_)
  have hP : kp g u H := hP
  have hD : kd A u := hD
  obtain ⟨hr, h, R, u, hh1, hO, hP, hD⟩ := e_ch ea_186 es_186 rfl hp hP hD
  subst hr
  have hh : h.length = 8 := by omega
  refine lv_bipush (v := 20) hx hb dL_law_645 (by decide) ?_
  refine lv_icmp_ne (tgt := 681) hx hb dL_law_647 (by decide) (fun z => absurd z (fun y => y rfl)) (fun z => ?_)
  refine lv_aload_n hx hb dL_law_650 rfl (lv_at hl 1 rfl) ?_
  refine kL_SW (As := [.ref oF]) (rest := []) (wr := []) K kX0_s (L_oath_c l hfl g oF F kE186 kE0 h R T ln _ hO ) hN kX0_fr (vx_cwSW 1 hts (k_gS kw677 cs_L_oath) rfl rfl rfl pnL_oath ⟨Nat.le_of_ble_eq_true rfl, Nat.le_of_ble_eq_true rfl⟩) hE hS hA hP hD rfl hl.1 rfl rfl dL_law_651 ⟨(show cells + 1 + 1 + 1 + 1 + 3 + 1 + 1 + 1 + 1 ≤ 1029076 from by omega), (show slots + 6 + 6 + 6 + 6 + 18 + 6 + 6 + 6 + 6 ≤ 6003061 from by omega)⟩ (fun r u H locs hp hP hD hS => ?_)
  have hP : kp g u H := hP
  have hD : kd A u := hD
  obtain ⟨hr, h, R, u, hh1, hO, hP, hD⟩ := e_ch ea_187 es_187 rfl hp hP hD
  subst hr
  have hh : h.length = 8 := by omega
  refine lv_bipush (v := 91) hx hb dL_law_654 (by decide) ?_
  refine lv_icmp_ne (tgt := 681) hx hb dL_law_656 (by decide) (fun z => absurd z (fun y => y rfl)) (fun z => ?_)
  refine lv_aload_n hx hb dL_law_659 rfl (lv_at hl 1 rfl) ?_
  refine kL_SW (As := [.ref oF]) (rest := []) (wr := []) K kX0_s (L_oath_c l hfl g oF F kE187 kE0 h R T ln _ hO ) hN kX0_fr (vx_cwSW 1 hts (k_gS kw677 cs_L_oath) rfl rfl rfl pnL_oath ⟨Nat.le_of_ble_eq_true rfl, Nat.le_of_ble_eq_true rfl⟩) hE hS hA hP hD rfl hl.1 rfl rfl dL_law_660 ⟨(show cells + 1 + 1 + 1 + 1 + 3 + 1 + 1 + 1 + 1 + 1 ≤ 1029076 from by omega), (show slots + 6 + 6 + 6 + 6 + 18 + 6 + 6 + 6 + 6 + 6 ≤ 6003061 from by omega)⟩ (fun r u H locs hp hP hD hS => ?_)
  have hP : kp g u H := hP
  have hD : kd A u := hD
  obtain ⟨hr, R, hR, hO⟩ := mk_not2 (er_oath2 _) hp
  subst hr
  refine lv_sipush (v := (-1001)) hx hb dL_law_663 (by decide) ?_
  refine lv_icmp_ne (tgt := 681) hx hb dL_law_666 (by decide) (fun z => absurd z (fun y => y rfl)) (fun z => ?_)
  refine lv_aload_n hx hb dL_law_669 rfl (lv_at hl 1 rfl) ?_
  refine lv_bipush (v := 8) hx hb dL_law_670 (by decide) ?_
  refine lv_bipush (v := 20) hx hb dL_law_672 (by decide) ?_
  refine lv_iconst (v := 0) hx hb dL_law_674 (by decide) ?_
  refine kL_SC (As := [.ref oF, .int 8, .int 20, .int 0]) (rest := []) (wr := []) K kX0_s (L_is_c l hfl g oF F kE187 kE0 h R T ln _ hO 8 20 0 (by rw [hR.1]; decide) hR.1 hR.2.1 hR.2.2) hN kX0_fr (va_cwS 4 hts (k_gS kw994 cs_L_is) rfl rfl rfl pnL_is ⟨Nat.le_of_ble_eq_true rfl, Nat.le_of_ble_eq_true rfl⟩) hE hS hA hP hD rfl hl.1 rfl rfl dL_law_675 ⟨(show cells + 1 + 1 + 1 + 1 + 3 + 1 + 1 + 1 + 1 + 1 + 3 ≤ 1029076 from by omega), (show slots + 6 + 6 + 6 + 6 + 18 + 6 + 6 + 6 + 6 + 6 + 18 ≤ 6003061 from by omega)⟩ (fun r u H locs hp hP hD hS => ?_)
  have hP : kp g u H := hP
  have hD : kd A u := hD
  obtain ⟨hr, hO⟩ := hp
  subst hr
  refine lv_if_ne (tgt := 683) hx hb dL_law_678 (by decide) (fun z => ?_) (fun z => absurd z (by decide))
  refine lv_aload_n hx hb dL_law_683 rfl (lv_at hl 1 rfl) ?_
  refine kL_SW (As := [.ref oF]) (rest := []) (wr := []) K kX0_s (L_restore_c l hfl g oF F kE187 kE0 h R T ln _ hO ) hN kX0_fr (vx_cwSW 1 hts (k_gS kw986 cs_L_restore) rfl rfl rfl pnL_restore ⟨Nat.le_of_ble_eq_true rfl, Nat.le_of_ble_eq_true rfl⟩) hE hS hA hP hD rfl hl.1 rfl rfl dL_law_684 ⟨(show cells + 1 + 1 + 1 + 1 + 3 + 1 + 1 + 1 + 1 + 1 + 3 + 1 ≤ 1029076 from by omega), (show slots + 6 + 6 + 6 + 6 + 18 + 6 + 6 + 6 + 6 + 6 + 18 + 6 ≤ 6003061 from by omega)⟩ (fun r u H locs hp hP hD hS => ?_)
  have hP : kp g u H := hP
  have hD : kd A u := hD
  obtain ⟨hF0, -⟩ | ⟨-, hr, hO⟩ := hp
  case inl => exact absurd hF0 hF
  have hr : r = 0 := hr
  subst hr
  have hO : kOb g oF F kE0 kE0 [] R T ln u := hO
  refine lv_if_ne (tgt := 718) hx hb dL_law_687 (by decide) (fun z => absurd z (fun y => y rfl)) (fun z => ?_)
  refine lv_aload_n hx hb dL_law_690 rfl (lv_at hl 1 rfl) ?_
  refine lv_iconst (v := 4) hx hb dL_law_691 (by decide) ?_
  refine kL_SW (As := [.ref oF, .int 4]) (rest := []) (wr := []) K kX0_s (L_account_c l hfl g oF F kE0 kE0 [] R T ln _ hO 4) hN kX0_fr (vx_cwSW 2 hts (k_gS kw961 cs_L_account) rfl rfl rfl pnL_account ⟨Nat.le_of_ble_eq_true rfl, Nat.le_of_ble_eq_true rfl⟩) hE hS hA hP hD rfl hl.1 rfl rfl dL_law_692 ⟨(show cells + 1 + 1 + 1 + 1 + 3 + 1 + 1 + 1 + 1 + 1 + 3 + 1 + 1 ≤ 1029076 from by omega), (show slots + 6 + 6 + 6 + 6 + 18 + 6 + 6 + 6 + 6 + 6 + 18 + 6 + 6 ≤ 6003061 from by omega)⟩ (fun r u H locs hp hP hD hS => ?_)
  have hP : kp g u H := hP
  have hD : kd A u := hD
  obtain ⟨hr, hO⟩ := hp
  have hr : r = 0 := hr.trans (ec_4 _ _)
  subst hr
  refine lv_if_ne (tgt := 718) hx hb dL_law_695 (by decide) (fun z => absurd z (fun y => y rfl)) (fun z => ?_)
  refine lv_aload_n hx hb dL_law_698 rfl (lv_at hl 1 rfl) ?_
  refine lv_iconst (v := 2) hx hb dL_law_699 (by decide) ?_
  refine kL_SW (As := [.ref oF, .int 2]) (rest := []) (wr := []) K kX0_s (L_account_c l hfl g oF F kE0 kE0 [] R T ln _ hO 2) hN kX0_fr (vx_cwSW 2 hts (k_gS kw961 cs_L_account) rfl rfl rfl pnL_account ⟨Nat.le_of_ble_eq_true rfl, Nat.le_of_ble_eq_true rfl⟩) hE hS hA hP hD rfl hl.1 rfl rfl dL_law_700 ⟨(show cells + 1 + 1 + 1 + 1 + 3 + 1 + 1 + 1 + 1 + 1 + 3 + 1 + 1 + 1 ≤ 1029076 from by omega), (show slots + 6 + 6 + 6 + 6 + 18 + 6 + 6 + 6 + 6 + 6 + 18 + 6 + 6 + 6 ≤ 6003061 from by omega)⟩ (fun r u H locs hp hP hD hS => ?_)
  have hP : kp g u H := hP
  have hD : kd A u := hD
  obtain ⟨hr, hO⟩ := hp
  have hr : r = 20 := hr.trans (ec_2c _ _)
  subst hr
  refine lv_bipush (v := 20) hx hb dL_law_703 (by decide) ?_
  refine lv_icmp_ne (tgt := 718) hx hb dL_law_705 (by decide) (fun z => absurd z (fun y => y rfl)) (fun z => ?_)
  refine lv_aload_n hx hb dL_law_708 rfl (lv_at hl 1 rfl) ?_
  refine kL_SW (As := [.ref oF]) (rest := []) (wr := []) K kX0_s (L_undo_c l hfl g oF F kE0 kE0 [] R T ln _ hO ) hN kX0_fr (vx_cwSW 1 hts (k_gS kw974 cs_L_undo) rfl rfl rfl pnL_undo ⟨Nat.le_of_ble_eq_true rfl, Nat.le_of_ble_eq_true rfl⟩) hE hS hA hP hD rfl hl.1 rfl rfl dL_law_709 ⟨(show cells + 1 + 1 + 1 + 1 + 3 + 1 + 1 + 1 + 1 + 1 + 3 + 1 + 1 + 1 + 1 ≤ 1029076 from by omega), (show slots + 6 + 6 + 6 + 6 + 18 + 6 + 6 + 6 + 6 + 6 + 18 + 6 + 6 + 6 + 6 ≤ 6003061 from by omega)⟩ (fun r u H locs hp hP hD hS => ?_)
  have hP : kp g u H := hP
  have hD : kd A u := hD
  obtain ⟨-, hr, hO⟩ | ⟨c0, t0, hx0, -⟩ := hp
  case inr => exact absurd hx0 (by intro z; cases z)
  subst hr
  refine lv_sipush (v := (-1001)) hx hb dL_law_712 (by decide) ?_
  refine lv_icmp_eq (tgt := 720) hx hb dL_law_715 (by decide) (fun z => ?_) (fun z => absurd rfl z)
  have hP0 : kp g [] H := (kp_app.mp (show kp g ([] ++ u) H from hP)).1
  have hD0 : kd A [] := (kd_app.mp (show kd A ([] ++ u) from hD)).1
  refine kg_new K kFX4 (fs := [.null, .null, .int 0, .null, .null, .null, .int 0, .null]) kw99 kw100 kw69 hP0 hD0 hS hA (fun j hj => by match j, hj with | 0, _ => rfl | 1, _ => rfl | 2, _ => rfl | 3, _ => rfl | 4, _ => rfl | 5, _ => rfl | 6, _ => rfl | 7, _ => rfl | n + 8, h => exact absurd h (by omega)) (show cells + 1 + 1 + 1 + 1 + 3 + 1 + 1 + 1 + 1 + 1 + 3 + 1 + 1 + 1 + 1 + 1 ≤ 1029076 from by omega) (show slots + 6 + 6 + 6 + 6 + 18 + 6 + 6 + 6 + 6 + 6 + 18 + 6 + 6 + 6 + 6 + 8 ≤ 6003061 from by omega) dL_law_720 (fun oN H hP hD hS => ?_)
  have hP : kp g [[(oN, .inr (8, [.null, .null, .int 0, .null, .null, .null, .int 0, .null]))]] H := hP
  have hD : kd A [[(oN, .inr (8, [.null, .null, .int 0, .null, .null, .null, .int 0, .null]))]] := hD
  refine lv_dup hx hb dL_law_723 rfl ?_
  refine kVO_I (As := []) (rest := [.ref oN]) (wr := []) K (X4_init_c l g oN) hAO ⟨callB_of 0 hts (k_gI kw103) rfl rfl rfl (hts _ kw69) (hts _ kw101) pnX4_init ⟨Nat.le_of_ble_eq_true rfl, Nat.le_of_ble_eq_true rfl⟩, rfl, hts _ kw102⟩ hE hS hA hP hD [0] [] rfl rfl ⟨rfl, rfl, by decide⟩ rfl hl.1 rfl rfl dL_law_724 ⟨(show cells + 1 + 1 + 1 + 1 + 3 + 1 + 1 + 1 + 1 + 1 + 3 + 1 + 1 + 1 + 1 + 1 + 118 ≤ 1029076 from by omega), (show slots + 6 + 6 + 6 + 6 + 18 + 6 + 6 + 6 + 6 + 6 + 18 + 6 + 6 + 6 + 6 + 8 + 906 ≤ 6003061 from by omega)⟩ (fun u H locs hp hP hD hS => ?_)
  have hP : kp g u H := hP
  have hD : kd A u := hD
  have hO := kOb_init hp
  refine lv_astore_n (lv' := [(2, .ref oN), (0, .ref b), (1, .ref oF)]) hx hb dL_law_727 rfl hl (by decide) rfl (fun ls hl => ?_)
  exact law_1 l hfl hAe K hE hN hA hX hL hO rfl kMk_0 hP hD hS (lv_sub hl [1, 0] rfl) (by omega) (by omega)
set_option maxHeartbeats 1000000 in
set_option maxRecDepth 100000 in
theorem law_c (l : Launch) (hfl : l.stackTraces = false) {p : Program} {e : Env} {s : State} {m : MethodId} {below : List Frame} {meth : Method} {c : Code} {b L : Nat} {xs : Nat → Int32} {g : kG} {A : Nat → Prop} (hAe : A = kAh s) (K : kC p c code s m #[Value.ref b] meth RL g 11 ret) (hE : kE g A s s.heap) (hN : kNc s) (hA : ∀ q, s.heap.size ≤ q → A q) (hX : kScr b L xs A s s.heap) (hL : L ≤ 260) (hAO : va_AO "SpiceScale$Caravan" s) {oF : Nat} {F : Nat → Int32} {h : List kK} {R : Nat → Int32} {T : kK} {ln : kTx} {u : List va_W} {H : Heap} {locs : List Loc} {ls : Array Slot} {cells slots : Nat} (hO : kOb g oF F (kEw 159) kE0 h R T ln u) (hF : F 2 ≠ 0) (hh : h.length = 8) (hP : kp g u H) (hD : kd A u) (hS : va_S A s.heap H locs) (hl : lv_has ls 11 [(0, .ref b), (1, .ref oF)]) (hc : cells + 23719 ≤ 1029076) (hs : slots + 278157 ≤ 6003061) : W p l e room_1 s m #[Value.ref b] below meth c H locs cells slots (lw_Z below #[Value.ref b] s) (F0 m 468 ls []) := by
  have hx := K.1.1
  have hb := K.1.2.1
  have hts := K.1.2.2.2.2
  refine lv_aload_n hx hb dL_law_468 rfl (lv_at hl 1 rfl) ?_
  refine lv_bipush (v := 13) hx hb dL_law_469 (by decide) ?_
  refine kL_SW (As := [.ref oF, .int 13]) (rest := []) (wr := []) K kX0_s (L_account_c l hfl g oF F (kEw 159) kE0 h R T ln _ hO 13) hN kX0_fr (vx_cwSW 2 hts (k_gS kw961 cs_L_account) rfl rfl rfl pnL_account ⟨Nat.le_of_ble_eq_true rfl, Nat.le_of_ble_eq_true rfl⟩) hE hS hA hP hD rfl hl.1 rfl rfl dL_law_471 ⟨(show cells + 1 ≤ 1029076 from by omega), (show slots + 6 ≤ 6003061 from by omega)⟩ (fun r u H locs hp hP hD hS => ?_)
  have hP : kp g u H := hP
  have hD : kd A u := hD
  obtain ⟨hr, hO⟩ := hp
  have hr : r = 38 := hr.trans (ec_13 _ _)
  subst hr
  refine lv_bipush (v := 38) hx hb dL_law_474 (by decide) ?_
  refine lv_icmp_ne (tgt := 569) hx hb dL_law_476 (by decide) (fun z => absurd z (fun y => y rfl)) (fun z => ?_)
  refine lv_aload_n hx hb dL_law_479 rfl (lv_at hl 1 rfl) ?_
  refine lv_bipush (v := 7) hx hb dL_law_480 (by decide) ?_
  refine lv_iconst (v := 1) hx hb dL_law_482 (by decide) ?_
  refine kL_SW (As := [.ref oF, .int 7, .int 1]) (rest := []) (wr := []) K kX0_s (L_weightOf_c l hfl g oF F (kEw 159) kE0 h R T ln _ hO 7 1) hN kX0_fr (vx_cwSW 3 hts (k_gS kw705 cs_L_weightOf) rfl rfl rfl pnL_weightOf ⟨Nat.le_of_ble_eq_true rfl, Nat.le_of_ble_eq_true rfl⟩) hE hS hA hP hD rfl hl.1 rfl rfl dL_law_483 ⟨(show cells + 1 + 1 ≤ 1029076 from by omega), (show slots + 6 + 6 ≤ 6003061 from by omega)⟩ (fun r u H locs hp hP hD hS => ?_)
  have hP : kp g u H := hP
  have hD : kd A u := hD
  obtain ⟨hr, hO⟩ := hp
  have hr : r = 20 := hr.trans eq_w1
  subst hr
  refine lv_bipush (v := 20) hx hb dL_law_486 (by decide) ?_
  refine lv_icmp_ne (tgt := 569) hx hb dL_law_488 (by decide) (fun z => absurd z (fun y => y rfl)) (fun z => ?_)
  refine lv_aload_n hx hb dL_law_491 rfl (lv_at hl 1 rfl) ?_
  refine lv_bipush (v := 7) hx hb dL_law_492 (by decide) ?_
  refine lv_iconst (v := 3) hx hb dL_law_494 (by decide) ?_
  refine kL_SW (As := [.ref oF, .int 7, .int 3]) (rest := []) (wr := []) K kX0_s (L_weightOf_c l hfl g oF F (kEw 159) kE0 h R T ln _ hO 7 3) hN kX0_fr (vx_cwSW 3 hts (k_gS kw705 cs_L_weightOf) rfl rfl rfl pnL_weightOf ⟨Nat.le_of_ble_eq_true rfl, Nat.le_of_ble_eq_true rfl⟩) hE hS hA hP hD rfl hl.1 rfl rfl dL_law_495 ⟨(show cells + 1 + 1 + 1 ≤ 1029076 from by omega), (show slots + 6 + 6 + 6 ≤ 6003061 from by omega)⟩ (fun r u H locs hp hP hD hS => ?_)
  have hP : kp g u H := hP
  have hD : kd A u := hD
  obtain ⟨hr, hO⟩ := hp
  have hr : r = (-1) := hr.trans eq_w3
  subst hr
  refine lv_iconst (v := (-1)) hx hb dL_law_498 (by decide) ?_
  refine lv_icmp_ne (tgt := 569) hx hb dL_law_499 (by decide) (fun z => absurd z (fun y => y rfl)) (fun z => ?_)
  refine lv_aload_n hx hb dL_law_502 rfl (lv_at hl 1 rfl) ?_
  refine lv_bipush (v := 7) hx hb dL_law_503 (by decide) ?_
  refine lv_iconst (v := 2) hx hb dL_law_505 (by decide) ?_
  refine kL_SW (As := [.ref oF, .int 7, .int 2]) (rest := []) (wr := []) K kX0_s (L_weightOf_c l hfl g oF F (kEw 159) kE0 h R T ln _ hO 7 2) hN kX0_fr (vx_cwSW 3 hts (k_gS kw705 cs_L_weightOf) rfl rfl rfl pnL_weightOf ⟨Nat.le_of_ble_eq_true rfl, Nat.le_of_ble_eq_true rfl⟩) hE hS hA hP hD rfl hl.1 rfl rfl dL_law_506 ⟨(show cells + 1 + 1 + 1 + 1 ≤ 1029076 from by omega), (show slots + 6 + 6 + 6 + 6 ≤ 6003061 from by omega)⟩ (fun r u H locs hp hP hD hS => ?_)
  have hP : kp g u H := hP
  have hD : kd A u := hD
  obtain ⟨hr, hO⟩ := hp
  have hr : r = 160 := hr.trans eq_w2
  subst hr
  refine lv_sipush (v := 160) hx hb dL_law_509 (by decide) ?_
  refine lv_icmp_ne (tgt := 569) hx hb dL_law_512 (by decide) (fun z => absurd z (fun y => y rfl)) (fun z => ?_)
  refine lv_aload_n hx hb dL_law_515 rfl (lv_at hl 1 rfl) ?_
  refine lv_iconst (v := 1) hx hb dL_law_516 (by decide) ?_
  refine kL_SW (As := [.ref oF, .int 1]) (rest := []) (wr := []) K kX0_s (L_rest_c l hfl g oF F (kEw 159) kE0 h R T ln _ hO 1) hN kX0_fr (vx_cwSW 2 hts (k_gS kw811 cs_L_rest) rfl rfl rfl pnL_rest ⟨Nat.le_of_ble_eq_true rfl, Nat.le_of_ble_eq_true rfl⟩) hE hS hA hP hD rfl hl.1 rfl rfl dL_law_517 ⟨(show cells + 1 + 1 + 1 + 1 + 1 ≤ 1029076 from by omega), (show slots + 6 + 6 + 6 + 6 + 6 ≤ 6003061 from by omega)⟩ (fun r u H locs hp hP hD hS => ?_)
  have hP : kp g u H := hP
  have hD : kd A u := hD
  obtain ⟨hr, hO⟩ := hp
  have hr : r = 100 := hr.trans eq_rest1
  subst hr
  refine lv_bipush (v := 100) hx hb dL_law_520 (by decide) ?_
  refine lv_icmp_ne (tgt := 569) hx hb dL_law_522 (by decide) (fun z => absurd z (fun y => y rfl)) (fun z => ?_)
  refine lv_aload_n hx hb dL_law_525 rfl (lv_at hl 1 rfl) ?_
  refine lv_iconst (v := 1) hx hb dL_law_526 (by decide) ?_
  refine kL_SW (As := [.ref oF, .int 1]) (rest := []) (wr := []) K kX0_s (L_toldAgain_c l hfl g oF F (kEw 159) kE0 h R T ln _ hO 1) hN kX0_fr (vx_cwSW 2 hts (k_gS kw788 cs_L_toldAgain) rfl rfl rfl pnL_toldAgain ⟨Nat.le_of_ble_eq_true rfl, Nat.le_of_ble_eq_true rfl⟩) hE hS hA hP hD rfl hl.1 rfl rfl dL_law_527 ⟨(show cells + 1 + 1 + 1 + 1 + 1 + 1 ≤ 1029076 from by omega), (show slots + 6 + 6 + 6 + 6 + 6 + 6 ≤ 6003061 from by omega)⟩ (fun r u H locs hp hP hD hS => ?_)
  have hP : kp g u H := hP
  have hD : kd A u := hD
  obtain ⟨hr, hO⟩ := hp
  have hr : r = 388 := hr.trans eq_again
  subst hr
  refine lv_sipush (v := 388) hx hb dL_law_530 (by decide) ?_
  refine lv_icmp_ne (tgt := 569) hx hb dL_law_533 (by decide) (fun z => absurd z (fun y => y rfl)) (fun z => ?_)
  refine lv_aload_n hx hb dL_law_536 rfl (lv_at hl 1 rfl) ?_
  refine lv_bipush (v := 7) hx hb dL_law_537 (by decide) ?_
  refine kL_SW (As := [.ref oF, .int 7]) (rest := []) (wr := []) K kX0_s (L_seal_c l hfl g oF F (kEw 159) kE0 h R T ln _ hO 7) hN kX0_fr (vx_cwSW 2 hts (k_gS kw691 cs_L_seal) rfl rfl rfl pnL_seal ⟨Nat.le_of_ble_eq_true rfl, Nat.le_of_ble_eq_true rfl⟩) hE hS hA hP hD rfl hl.1 rfl rfl dL_law_539 ⟨(show cells + 1 + 1 + 1 + 1 + 1 + 1 + 1 ≤ 1029076 from by omega), (show slots + 6 + 6 + 6 + 6 + 6 + 6 + 6 ≤ 6003061 from by omega)⟩ (fun r u H locs hp hP hD hS => ?_)
  have hP : kp g u H := hP
  have hD : kd A u := hD
  obtain ⟨hr, h, R, u, hh1, hO, hP, hD⟩ := e_ch ea_182 es_182 rfl hp hP hD
  subst hr
  have hh : h.length = 8 := by omega
  refine lv_bipush (v := 20) hx hb dL_law_542 (by decide) ?_
  refine lv_icmp_ne (tgt := 569) hx hb dL_law_544 (by decide) (fun z => absurd z (fun y => y rfl)) (fun z => ?_)
  refine lv_aload_n hx hb dL_law_547 rfl (lv_at hl 1 rfl) ?_
  refine lv_bipush (v := 13) hx hb dL_law_548 (by decide) ?_
  refine kL_SW (As := [.ref oF, .int 13]) (rest := []) (wr := []) K kX0_s (L_account_c l hfl g oF F kE182 kE0 h R T ln _ hO 13) hN kX0_fr (vx_cwSW 2 hts (k_gS kw961 cs_L_account) rfl rfl rfl pnL_account ⟨Nat.le_of_ble_eq_true rfl, Nat.le_of_ble_eq_true rfl⟩) hE hS hA hP hD rfl hl.1 rfl rfl dL_law_550 ⟨(show cells + 1 + 1 + 1 + 1 + 1 + 1 + 1 + 1 ≤ 1029076 from by omega), (show slots + 6 + 6 + 6 + 6 + 6 + 6 + 6 + 6 ≤ 6003061 from by omega)⟩ (fun r u H locs hp hP hD hS => ?_)
  have hP : kp g u H := hP
  have hD : kd A u := hD
  obtain ⟨hr, hO⟩ := hp
  have hr : r = 18 := hr.trans (ec_13b _ _)
  subst hr
  refine lv_bipush (v := 18) hx hb dL_law_553 (by decide) ?_
  refine lv_icmp_ne (tgt := 569) hx hb dL_law_555 (by decide) (fun z => absurd z (fun y => y rfl)) (fun z => ?_)
  refine lv_aload_n hx hb dL_law_558 rfl (lv_at hl 1 rfl) ?_
  refine lv_iconst (v := 2) hx hb dL_law_559 (by decide) ?_
  refine kL_SW (As := [.ref oF, .int 2]) (rest := []) (wr := []) K kX0_s (L_account_c l hfl g oF F kE182 kE0 h R T ln _ hO 2) hN kX0_fr (vx_cwSW 2 hts (k_gS kw961 cs_L_account) rfl rfl rfl pnL_account ⟨Nat.le_of_ble_eq_true rfl, Nat.le_of_ble_eq_true rfl⟩) hE hS hA hP hD rfl hl.1 rfl rfl dL_law_560 ⟨(show cells + 1 + 1 + 1 + 1 + 1 + 1 + 1 + 1 + 1 ≤ 1029076 from by omega), (show slots + 6 + 6 + 6 + 6 + 6 + 6 + 6 + 6 + 6 ≤ 6003061 from by omega)⟩ (fun r u H locs hp hP hD hS => ?_)
  have hP : kp g u H := hP
  have hD : kd A u := hD
  obtain ⟨hr, hO⟩ := hp
  have hr : r = 187 := hr.trans (ec_2b _ _)
  subst hr
  refine lv_sipush (v := 187) hx hb dL_law_563 (by decide) ?_
  refine lv_icmp_eq (tgt := 571) hx hb dL_law_566 (by decide) (fun z => ?_) (fun z => absurd rfl z)
  exact law_d l hfl hAe K hE hN hA hX hL hAO hO hF hh hP hD hS (lv_sub hl [0, 1] rfl) (by omega) (by omega)
set_option maxHeartbeats 1000000 in
set_option maxRecDepth 100000 in
theorem law_w (l : Launch) (hfl : l.stackTraces = false) {p : Program} {e : Env} {s : State} {m : MethodId} {below : List Frame} {meth : Method} {c : Code} {b L : Nat} {xs : Nat → Int32} {g : kG} {A : Nat → Prop} (hAe : A = kAh s) (K : kC p c code s m #[Value.ref b] meth RL g 11 ret) (hE : kE g A s s.heap) (hN : kNc s) (hA : ∀ q, s.heap.size ≤ q → A q) (hX : kScr b L xs A s s.heap) (hL : L ≤ 260) (hAO : va_AO "SpiceScale$Caravan" s) {oF : Nat} {F : Nat → Int32} {T : kK} {ln : kTx} (hF : F 2 ≠ 0) : ∀ (q k cells slots : Nat) (h : List kK) (R : Nat → Int32) (u : List va_W) (H : Heap) (locs : List Loc) (ls : Array Slot), k + q = 159 → cells + 1 * q + 23719 ≤ 1029076 → slots + 6 * q + 278157 ≤ 6003061 → h.length = 8 → kOb g oF F (kEw k) kE0 h R T ln u → kp g u H → kd A u → va_S A s.heap H locs → lv_has ls 11 [(2, .int (nI k)), (0, .ref b), (1, .ref oF)] → W p l e room_1 s m #[Value.ref b] below meth c H locs cells slots (lw_Z below #[Value.ref b] s) (F0 m 442 ls []) := by
  have hx := K.1.1
  have hb := K.1.2.1
  have hts := K.1.2.2.2.2
  intro q
  induction q with
  | zero =>
    intro k cells slots h R u H locs ls hk hc hs hh hO hP hD hS hl
    obtain rfl : k = 159 := by omega
    refine lv_iload_n hx hb dL_law_442 rfl (lv_at hl 0 rfl) ?_
    refine lv_sipush (v := 159) hx hb dL_law_443 (by decide) ?_
    refine lv_icmp_ge (tgt := 468) hx hb dL_law_446 (by decide) (fun z => ?_) (fun z => absurd (Int32.le_refl 159) z)
    exact law_c l hfl hAe K hE hN hA hX hL hAO hO hF hh hP hD hS (lv_sub hl [1, 2] rfl) (by omega) (by omega)
  | succ q IH =>
    intro k cells slots h R u H locs ls hk hc hs hh hO hP hD hS hl
    refine lv_iload_n hx hb dL_law_442 rfl (lv_at hl 0 rfl) ?_
    refine lv_sipush (v := 159) hx hb dL_law_443 (by decide) ?_
    refine lv_icmp_ge (tgt := 468) hx hb dL_law_446 (by decide) (fun z => absurd z (nI_ge (a := k) (b := 159) (by omega) (by omega))) (fun z => ?_)
    refine lv_aload_n hx hb dL_law_449 rfl (lv_at hl 2 rfl) ?_
    refine lv_iconst (v := 1) hx hb dL_law_450 (by decide) ?_
    refine kL_SW (As := [.ref oF, .int 1]) (rest := []) (wr := []) K kX0_s (L_weigh_c l hfl g oF F (kEw k) kE0 h R T ln _ hO 1) hN kX0_fr (vx_cwSW 2 hts (k_gS kw663 cs_L_weigh) rfl rfl rfl pnL_weigh ⟨Nat.le_of_ble_eq_true rfl, Nat.le_of_ble_eq_true rfl⟩) hE hS hA hP hD rfl hl.1 rfl rfl dL_law_451 ⟨(show cells + 1 ≤ 1029076 from by omega), (show slots + 6 ≤ 6003061 from by omega)⟩ (fun r u H locs hp hP hD hS => ?_)
    have hP : kp g u H := hP
    have hD : kd A u := hD
    obtain ⟨hr, h, R, u, hh1, hO, hP, hD⟩ := e_ch (ea_w k) (es_w k (by omega)) rfl hp hP hD
    subst hr
    have hh : h.length = 8 := by omega
    refine lv_sipush (v := 388) hx hb dL_law_454 (by decide) ?_
    refine lv_icmp_eq (tgt := 462) hx hb dL_law_457 (by decide) (fun z => ?_) (fun z => absurd rfl z)
    refine lv_iinc (v := nI (k + 1)) (lv' := [(2, .int (nI (k + 1))), (0, .ref b), (1, .ref oF)]) hx hb dL_law_462 hl (k := 0) rfl (nI_1 k) (by decide) rfl (fun ls hl => ?_)
    refine lv_goto (tgt := 442) hx hb dL_law_465 (by decide) ?_
    exact IH (k + 1) (cells + 1) (slots + 6) _ _ _ _ _ _ (by omega) (by omega) (by omega) hh hO hP hD hS (lv_sub hl [0, 1, 2] rfl)
set_option maxHeartbeats 1000000 in
set_option maxRecDepth 100000 in
theorem law_b (l : Launch) (hfl : l.stackTraces = false) {p : Program} {e : Env} {s : State} {m : MethodId} {below : List Frame} {meth : Method} {c : Code} {b L : Nat} {xs : Nat → Int32} {g : kG} {A : Nat → Prop} (hAe : A = kAh s) (K : kC p c code s m #[Value.ref b] meth RL g 11 ret) (hE : kE g A s s.heap) (hN : kNc s) (hA : ∀ q, s.heap.size ≤ q → A q) (hX : kScr b L xs A s s.heap) (hL : L ≤ 260) (hAO : va_AO "SpiceScale$Caravan" s) {oF : Nat} {F : Nat → Int32} {h : List kK} {R : Nat → Int32} {T : kK} {ln : kTx} {u : List va_W} {H : Heap} {locs : List Loc} {ls : Array Slot} {cells slots : Nat} (hO : kOb g oF F kE1 kE0 h R T ln u) (hF : F 2 ≠ 0) (hh : h.length = 1) (hP : kp g u H) (hD : kd A u) (hS : va_S A s.heap H locs) (hl : lv_has ls 11 [(0, .ref b), (1, .ref oF)]) (hc : cells + 24006 ≤ 1029076) (hs : slots + 280443 ≤ 6003061) : W p l e room_1 s m #[Value.ref b] below meth c H locs cells slots (lw_Z below #[Value.ref b] s) (F0 m 138 ls []) := by
  have hx := K.1.1
  have hb := K.1.2.1
  have hts := K.1.2.2.2.2
  refine lv_iconst (v := 0) hx hb dL_law_138 (by decide) ?_
  refine lv_istore_n (lv' := [(2, .int 0), (0, .ref b), (1, .ref oF)]) hx hb dL_law_139 rfl hl (by decide) rfl (fun ls hl => ?_)
  refine lv_iload_n hx hb dL_law_140 rfl (lv_at hl 0 rfl) ?_
  refine lv_bipush (v := 6) hx hb dL_law_141 (by decide) ?_
  refine lv_icmp_ge (tgt := 166) hx hb dL_law_143 (by decide) (fun z => absurd z (by decide)) (fun z => ?_)
  refine lv_aload_n hx hb dL_law_146 rfl (lv_at hl 2 rfl) ?_
  refine lv_iconst (v := 1) hx hb dL_law_147 (by decide) ?_
  refine lv_sipush (v := 900) hx hb dL_law_148 (by decide) ?_
  refine kL_SW (As := [.ref oF, .int 1, .int 900]) (rest := []) (wr := []) K kX0_s (L_jar_c l hfl g oF F kE1 kE0 h R T ln _ hO 1 900) hN kX0_fr (vx_cwSW 3 hts (k_gS kw347 cs_L_jar) rfl rfl rfl pnL_jar ⟨Nat.le_of_ble_eq_true rfl, Nat.le_of_ble_eq_true rfl⟩) hE hS hA hP hD rfl hl.1 rfl rfl dL_law_151 ⟨(show cells + 1 ≤ 1029076 from by omega), (show slots + 6 ≤ 6003061 from by omega)⟩ (fun r u H locs hp hP hD hS => ?_)
  have hP : kp g u H := hP
  have hD : kd A u := hD
  obtain ⟨hr, h, R, u, hh1, hO, hP, hD⟩ := e_ch ea_2 es_2 rfl hp hP hD
  subst hr
  have hh : h.length = 2 := by omega
  refine lv_iload_n hx hb dL_law_154 rfl (lv_at hl 0 rfl) ?_
  refine lv_icmp_eq (tgt := 160) hx hb dL_law_155 (by decide) (fun z => ?_) (fun z => absurd rfl z)
  refine lv_iinc (v := (nI 1)) (lv' := [(2, .int (nI 1)), (0, .ref b), (1, .ref oF)]) hx hb dL_law_160 hl (k := 0) rfl (by decide) (by decide) rfl (fun ls hl => ?_)
  refine lv_goto (tgt := 140) hx hb dL_law_163 (by decide) ?_
  refine lv_iload_n hx hb dL_law_140 rfl (lv_at hl 0 rfl) ?_
  refine lv_bipush (v := 6) hx hb dL_law_141 (by decide) ?_
  refine lv_icmp_ge (tgt := 166) hx hb dL_law_143 (by decide) (fun z => absurd z (by decide)) (fun z => ?_)
  refine lv_aload_n hx hb dL_law_146 rfl (lv_at hl 2 rfl) ?_
  refine lv_iconst (v := 1) hx hb dL_law_147 (by decide) ?_
  refine lv_sipush (v := 900) hx hb dL_law_148 (by decide) ?_
  refine kL_SW (As := [.ref oF, .int 1, .int 900]) (rest := []) (wr := []) K kX0_s (L_jar_c l hfl g oF F kE2 kE0 h R T ln _ hO 1 900) hN kX0_fr (vx_cwSW 3 hts (k_gS kw347 cs_L_jar) rfl rfl rfl pnL_jar ⟨Nat.le_of_ble_eq_true rfl, Nat.le_of_ble_eq_true rfl⟩) hE hS hA hP hD rfl hl.1 rfl rfl dL_law_151 ⟨(show cells + 1 + 1 ≤ 1029076 from by omega), (show slots + 6 + 6 ≤ 6003061 from by omega)⟩ (fun r u H locs hp hP hD hS => ?_)
  have hP : kp g u H := hP
  have hD : kd A u := hD
  obtain ⟨hr, h, R, u, hh1, hO, hP, hD⟩ := e_ch ea_3 es_3 rfl hp hP hD
  subst hr
  have hh : h.length = 3 := by omega
  refine lv_iload_n hx hb dL_law_154 rfl (lv_at hl 0 rfl) ?_
  refine lv_icmp_eq (tgt := 160) hx hb dL_law_155 (by decide) (fun z => ?_) (fun z => absurd rfl z)
  refine lv_iinc (v := (nI 2)) (lv' := [(2, .int (nI 2)), (0, .ref b), (1, .ref oF)]) hx hb dL_law_160 hl (k := 0) rfl (by decide) (by decide) rfl (fun ls hl => ?_)
  refine lv_goto (tgt := 140) hx hb dL_law_163 (by decide) ?_
  refine lv_iload_n hx hb dL_law_140 rfl (lv_at hl 0 rfl) ?_
  refine lv_bipush (v := 6) hx hb dL_law_141 (by decide) ?_
  refine lv_icmp_ge (tgt := 166) hx hb dL_law_143 (by decide) (fun z => absurd z (by decide)) (fun z => ?_)
  refine lv_aload_n hx hb dL_law_146 rfl (lv_at hl 2 rfl) ?_
  refine lv_iconst (v := 1) hx hb dL_law_147 (by decide) ?_
  refine lv_sipush (v := 900) hx hb dL_law_148 (by decide) ?_
  refine kL_SW (As := [.ref oF, .int 1, .int 900]) (rest := []) (wr := []) K kX0_s (L_jar_c l hfl g oF F kE3 kE0 h R T ln _ hO 1 900) hN kX0_fr (vx_cwSW 3 hts (k_gS kw347 cs_L_jar) rfl rfl rfl pnL_jar ⟨Nat.le_of_ble_eq_true rfl, Nat.le_of_ble_eq_true rfl⟩) hE hS hA hP hD rfl hl.1 rfl rfl dL_law_151 ⟨(show cells + 1 + 1 + 1 ≤ 1029076 from by omega), (show slots + 6 + 6 + 6 ≤ 6003061 from by omega)⟩ (fun r u H locs hp hP hD hS => ?_)
  have hP : kp g u H := hP
  have hD : kd A u := hD
  obtain ⟨hr, h, R, u, hh1, hO, hP, hD⟩ := e_ch ea_4 es_4 rfl hp hP hD
  subst hr
  have hh : h.length = 4 := by omega
  refine lv_iload_n hx hb dL_law_154 rfl (lv_at hl 0 rfl) ?_
  refine lv_icmp_eq (tgt := 160) hx hb dL_law_155 (by decide) (fun z => ?_) (fun z => absurd rfl z)
  refine lv_iinc (v := (nI 3)) (lv' := [(2, .int (nI 3)), (0, .ref b), (1, .ref oF)]) hx hb dL_law_160 hl (k := 0) rfl (by decide) (by decide) rfl (fun ls hl => ?_)
  refine lv_goto (tgt := 140) hx hb dL_law_163 (by decide) ?_
  refine lv_iload_n hx hb dL_law_140 rfl (lv_at hl 0 rfl) ?_
  refine lv_bipush (v := 6) hx hb dL_law_141 (by decide) ?_
  refine lv_icmp_ge (tgt := 166) hx hb dL_law_143 (by decide) (fun z => absurd z (by decide)) (fun z => ?_)
  refine lv_aload_n hx hb dL_law_146 rfl (lv_at hl 2 rfl) ?_
  refine lv_iconst (v := 1) hx hb dL_law_147 (by decide) ?_
  refine lv_sipush (v := 900) hx hb dL_law_148 (by decide) ?_
  refine kL_SW (As := [.ref oF, .int 1, .int 900]) (rest := []) (wr := []) K kX0_s (L_jar_c l hfl g oF F kE4 kE0 h R T ln _ hO 1 900) hN kX0_fr (vx_cwSW 3 hts (k_gS kw347 cs_L_jar) rfl rfl rfl pnL_jar ⟨Nat.le_of_ble_eq_true rfl, Nat.le_of_ble_eq_true rfl⟩) hE hS hA hP hD rfl hl.1 rfl rfl dL_law_151 ⟨(show cells + 1 + 1 + 1 + 1 ≤ 1029076 from by omega), (show slots + 6 + 6 + 6 + 6 ≤ 6003061 from by omega)⟩ (fun r u H locs hp hP hD hS => ?_)
  have hP : kp g u H := hP
  have hD : kd A u := hD
  obtain ⟨hr, h, R, u, hh1, hO, hP, hD⟩ := e_ch ea_5 es_5 rfl hp hP hD
  subst hr
  have hh : h.length = 5 := by omega
  refine lv_iload_n hx hb dL_law_154 rfl (lv_at hl 0 rfl) ?_
  refine lv_icmp_eq (tgt := 160) hx hb dL_law_155 (by decide) (fun z => ?_) (fun z => absurd rfl z)
  refine lv_iinc (v := (nI 4)) (lv' := [(2, .int (nI 4)), (0, .ref b), (1, .ref oF)]) hx hb dL_law_160 hl (k := 0) rfl (by decide) (by decide) rfl (fun ls hl => ?_)
  refine lv_goto (tgt := 140) hx hb dL_law_163 (by decide) ?_
  refine lv_iload_n hx hb dL_law_140 rfl (lv_at hl 0 rfl) ?_
  refine lv_bipush (v := 6) hx hb dL_law_141 (by decide) ?_
  refine lv_icmp_ge (tgt := 166) hx hb dL_law_143 (by decide) (fun z => absurd z (by decide)) (fun z => ?_)
  refine lv_aload_n hx hb dL_law_146 rfl (lv_at hl 2 rfl) ?_
  refine lv_iconst (v := 1) hx hb dL_law_147 (by decide) ?_
  refine lv_sipush (v := 900) hx hb dL_law_148 (by decide) ?_
  refine kL_SW (As := [.ref oF, .int 1, .int 900]) (rest := []) (wr := []) K kX0_s (L_jar_c l hfl g oF F kE5 kE0 h R T ln _ hO 1 900) hN kX0_fr (vx_cwSW 3 hts (k_gS kw347 cs_L_jar) rfl rfl rfl pnL_jar ⟨Nat.le_of_ble_eq_true rfl, Nat.le_of_ble_eq_true rfl⟩) hE hS hA hP hD rfl hl.1 rfl rfl dL_law_151 ⟨(show cells + 1 + 1 + 1 + 1 + 1 ≤ 1029076 from by omega), (show slots + 6 + 6 + 6 + 6 + 6 ≤ 6003061 from by omega)⟩ (fun r u H locs hp hP hD hS => ?_)
  have hP : kp g u H := hP
  have hD : kd A u := hD
  obtain ⟨hr, h, R, u, hh1, hO, hP, hD⟩ := e_ch ea_6 es_6 rfl hp hP hD
  subst hr
  have hh : h.length = 6 := by omega
  refine lv_iload_n hx hb dL_law_154 rfl (lv_at hl 0 rfl) ?_
  refine lv_icmp_eq (tgt := 160) hx hb dL_law_155 (by decide) (fun z => ?_) (fun z => absurd rfl z)
  refine lv_iinc (v := (nI 5)) (lv' := [(2, .int (nI 5)), (0, .ref b), (1, .ref oF)]) hx hb dL_law_160 hl (k := 0) rfl (by decide) (by decide) rfl (fun ls hl => ?_)
  refine lv_goto (tgt := 140) hx hb dL_law_163 (by decide) ?_
  refine lv_iload_n hx hb dL_law_140 rfl (lv_at hl 0 rfl) ?_
  refine lv_bipush (v := 6) hx hb dL_law_141 (by decide) ?_
  refine lv_icmp_ge (tgt := 166) hx hb dL_law_143 (by decide) (fun z => absurd z (by decide)) (fun z => ?_)
  refine lv_aload_n hx hb dL_law_146 rfl (lv_at hl 2 rfl) ?_
  refine lv_iconst (v := 1) hx hb dL_law_147 (by decide) ?_
  refine lv_sipush (v := 900) hx hb dL_law_148 (by decide) ?_
  refine kL_SW (As := [.ref oF, .int 1, .int 900]) (rest := []) (wr := []) K kX0_s (L_jar_c l hfl g oF F kE6 kE0 h R T ln _ hO 1 900) hN kX0_fr (vx_cwSW 3 hts (k_gS kw347 cs_L_jar) rfl rfl rfl pnL_jar ⟨Nat.le_of_ble_eq_true rfl, Nat.le_of_ble_eq_true rfl⟩) hE hS hA hP hD rfl hl.1 rfl rfl dL_law_151 ⟨(show cells + 1 + 1 + 1 + 1 + 1 + 1 ≤ 1029076 from by omega), (show slots + 6 + 6 + 6 + 6 + 6 + 6 ≤ 6003061 from by omega)⟩ (fun r u H locs hp hP hD hS => ?_)
  have hP : kp g u H := hP
  have hD : kd A u := hD
  obtain ⟨hr, h, R, u, hh1, hO, hP, hD⟩ := e_ch ea_7 es_7 rfl hp hP hD
  subst hr
  have hh : h.length = 7 := by omega
  refine lv_iload_n hx hb dL_law_154 rfl (lv_at hl 0 rfl) ?_
  refine lv_icmp_eq (tgt := 160) hx hb dL_law_155 (by decide) (fun z => ?_) (fun z => absurd rfl z)
  refine lv_iinc (v := (nI 6)) (lv' := [(2, .int (nI 6)), (0, .ref b), (1, .ref oF)]) hx hb dL_law_160 hl (k := 0) rfl (by decide) (by decide) rfl (fun ls hl => ?_)
  refine lv_goto (tgt := 140) hx hb dL_law_163 (by decide) ?_
  refine lv_iload_n hx hb dL_law_140 rfl (lv_at hl 0 rfl) ?_
  refine lv_bipush (v := 6) hx hb dL_law_141 (by decide) ?_
  refine lv_icmp_ge (tgt := 166) hx hb dL_law_143 (by decide) (fun z => ?_) (fun z => absurd (by decide) z)
  refine lv_iconst (v := 0) hx hb dL_law_166 (by decide) ?_
  refine lv_istore_n (lv' := [(2, .int 0), (0, .ref b), (1, .ref oF)]) hx hb dL_law_167 rfl hl (by decide) rfl (fun ls hl => ?_)
  refine lv_iload_n hx hb dL_law_168 rfl (lv_at hl 0 rfl) ?_
  refine lv_bipush (v := 6) hx hb dL_law_169 (by decide) ?_
  refine lv_icmp_ge (tgt := 207) hx hb dL_law_171 (by decide) (fun z => absurd z (by decide)) (fun z => ?_)
  refine lv_aload_n hx hb dL_law_174 rfl (lv_at hl 2 rfl) ?_
  refine lv_bipush (v := 50) hx hb dL_law_175 (by decide) ?_
  refine kL_SW (As := [.ref oF, .int 50]) (rest := []) (wr := []) K kX0_s (L_bag_c l hfl g oF F kE7 kE0 h R T ln _ hO 50) hN kX0_fr (vx_cwSW 2 hts (k_gS kw635 cs_L_bag) rfl rfl rfl pnL_bag ⟨Nat.le_of_ble_eq_true rfl, Nat.le_of_ble_eq_true rfl⟩) hE hS hA hP hD rfl hl.1 rfl rfl dL_law_177 ⟨(show cells + 1 + 1 + 1 + 1 + 1 + 1 + 1 ≤ 1029076 from by omega), (show slots + 6 + 6 + 6 + 6 + 6 + 6 + 6 ≤ 6003061 from by omega)⟩ (fun r u H locs hp hP hD hS => ?_)
  have hP : kp g u H := hP
  have hD : kd A u := hD
  obtain ⟨hr, h, R, u, hh1, hO, hP, hD⟩ := e_ch ea_8 es_8 rfl hp hP hD
  subst hr
  have hh : h.length = 8 := by omega
  refine lv_iload_n hx hb dL_law_180 rfl (lv_at hl 0 rfl) ?_
  refine lv_icmp_ne (tgt := 199) hx hb dL_law_181 (by decide) (fun z => absurd z (fun y => y rfl)) (fun z => ?_)
  refine lv_aload_n hx hb dL_law_184 rfl (lv_at hl 2 rfl) ?_
  refine lv_iload_n hx hb dL_law_185 rfl (lv_at hl 0 rfl) ?_
  refine lv_iload_n hx hb dL_law_186 rfl (lv_at hl 0 rfl) ?_
  refine lv_sipush (v := 400) hx hb dL_law_187 (by decide) ?_
  refine kL_SW (As := [.ref oF, .int 0, .int 0, .int 400]) (rest := []) (wr := []) K kX0_s (L_fill_c l hfl g oF F kE8 kE0 h R T ln _ hO 0 0 400) hN kX0_fr (vx_cwSW 4 hts (k_gS kw642 cs_L_fill) rfl rfl rfl pnL_fill ⟨Nat.le_of_ble_eq_true rfl, Nat.le_of_ble_eq_true rfl⟩) hE hS hA hP hD rfl hl.1 rfl rfl dL_law_190 ⟨(show cells + 1 + 1 + 1 + 1 + 1 + 1 + 1 + 1 ≤ 1029076 from by omega), (show slots + 6 + 6 + 6 + 6 + 6 + 6 + 6 + 6 ≤ 6003061 from by omega)⟩ (fun r u H locs hp hP hD hS => ?_)
  have hP : kp g u H := hP
  have hD : kd A u := hD
  obtain ⟨hr, h, R, u, hh1, hO, hP, hD⟩ := e_ch ea_9 es_9 rfl hp hP hD
  subst hr
  have hh : h.length = 8 := by omega
  refine lv_sipush (v := 400) hx hb dL_law_193 (by decide) ?_
  refine lv_icmp_eq (tgt := 201) hx hb dL_law_196 (by decide) (fun z => ?_) (fun z => absurd rfl z)
  refine lv_iinc (v := (nI 1)) (lv' := [(2, .int (nI 1)), (0, .ref b), (1, .ref oF)]) hx hb dL_law_201 hl (k := 0) rfl (by decide) (by decide) rfl (fun ls hl => ?_)
  refine lv_goto (tgt := 168) hx hb dL_law_204 (by decide) ?_
  refine lv_iload_n hx hb dL_law_168 rfl (lv_at hl 0 rfl) ?_
  refine lv_bipush (v := 6) hx hb dL_law_169 (by decide) ?_
  refine lv_icmp_ge (tgt := 207) hx hb dL_law_171 (by decide) (fun z => absurd z (by decide)) (fun z => ?_)
  refine lv_aload_n hx hb dL_law_174 rfl (lv_at hl 2 rfl) ?_
  refine lv_bipush (v := 50) hx hb dL_law_175 (by decide) ?_
  refine kL_SW (As := [.ref oF, .int 50]) (rest := []) (wr := []) K kX0_s (L_bag_c l hfl g oF F kE9 kE0 h R T ln _ hO 50) hN kX0_fr (vx_cwSW 2 hts (k_gS kw635 cs_L_bag) rfl rfl rfl pnL_bag ⟨Nat.le_of_ble_eq_true rfl, Nat.le_of_ble_eq_true rfl⟩) hE hS hA hP hD rfl hl.1 rfl rfl dL_law_177 ⟨(show cells + 1 + 1 + 1 + 1 + 1 + 1 + 1 + 1 + 1 ≤ 1029076 from by omega), (show slots + 6 + 6 + 6 + 6 + 6 + 6 + 6 + 6 + 6 ≤ 6003061 from by omega)⟩ (fun r u H locs hp hP hD hS => ?_)
  have hP : kp g u H := hP
  have hD : kd A u := hD
  obtain ⟨hr, h, R, u, hh1, hO, hP, hD⟩ := e_ch ea_10 es_10 rfl hp hP hD
  subst hr
  have hh : h.length = 8 := by omega
  refine lv_iload_n hx hb dL_law_180 rfl (lv_at hl 0 rfl) ?_
  refine lv_icmp_ne (tgt := 199) hx hb dL_law_181 (by decide) (fun z => absurd z (fun y => y rfl)) (fun z => ?_)
  refine lv_aload_n hx hb dL_law_184 rfl (lv_at hl 2 rfl) ?_
  refine lv_iload_n hx hb dL_law_185 rfl (lv_at hl 0 rfl) ?_
  refine lv_iload_n hx hb dL_law_186 rfl (lv_at hl 0 rfl) ?_
  refine lv_sipush (v := 400) hx hb dL_law_187 (by decide) ?_
  refine kL_SW (As := [.ref oF, .int (nI 1), .int (nI 1), .int 400]) (rest := []) (wr := []) K kX0_s (L_fill_c l hfl g oF F kE10 kE0 h R T ln _ hO (nI 1) (nI 1) 400) hN kX0_fr (vx_cwSW 4 hts (k_gS kw642 cs_L_fill) rfl rfl rfl pnL_fill ⟨Nat.le_of_ble_eq_true rfl, Nat.le_of_ble_eq_true rfl⟩) hE hS hA hP hD rfl hl.1 rfl rfl dL_law_190 ⟨(show cells + 1 + 1 + 1 + 1 + 1 + 1 + 1 + 1 + 1 + 1 ≤ 1029076 from by omega), (show slots + 6 + 6 + 6 + 6 + 6 + 6 + 6 + 6 + 6 + 6 ≤ 6003061 from by omega)⟩ (fun r u H locs hp hP hD hS => ?_)
  have hP : kp g u H := hP
  have hD : kd A u := hD
  obtain ⟨hr, h, R, u, hh1, hO, hP, hD⟩ := e_ch ea_11 es_11 rfl hp hP hD
  subst hr
  have hh : h.length = 8 := by omega
  refine lv_sipush (v := 400) hx hb dL_law_193 (by decide) ?_
  refine lv_icmp_eq (tgt := 201) hx hb dL_law_196 (by decide) (fun z => ?_) (fun z => absurd rfl z)
  refine lv_iinc (v := (nI 2)) (lv' := [(2, .int (nI 2)), (0, .ref b), (1, .ref oF)]) hx hb dL_law_201 hl (k := 0) rfl (by decide) (by decide) rfl (fun ls hl => ?_)
  refine lv_goto (tgt := 168) hx hb dL_law_204 (by decide) ?_
  refine lv_iload_n hx hb dL_law_168 rfl (lv_at hl 0 rfl) ?_
  refine lv_bipush (v := 6) hx hb dL_law_169 (by decide) ?_
  refine lv_icmp_ge (tgt := 207) hx hb dL_law_171 (by decide) (fun z => absurd z (by decide)) (fun z => ?_)
  refine lv_aload_n hx hb dL_law_174 rfl (lv_at hl 2 rfl) ?_
  refine lv_bipush (v := 50) hx hb dL_law_175 (by decide) ?_
  refine kL_SW (As := [.ref oF, .int 50]) (rest := []) (wr := []) K kX0_s (L_bag_c l hfl g oF F kE11 kE0 h R T ln _ hO 50) hN kX0_fr (vx_cwSW 2 hts (k_gS kw635 cs_L_bag) rfl rfl rfl pnL_bag ⟨Nat.le_of_ble_eq_true rfl, Nat.le_of_ble_eq_true rfl⟩) hE hS hA hP hD rfl hl.1 rfl rfl dL_law_177 ⟨(show cells + 1 + 1 + 1 + 1 + 1 + 1 + 1 + 1 + 1 + 1 + 1 ≤ 1029076 from by omega), (show slots + 6 + 6 + 6 + 6 + 6 + 6 + 6 + 6 + 6 + 6 + 6 ≤ 6003061 from by omega)⟩ (fun r u H locs hp hP hD hS => ?_)
  have hP : kp g u H := hP
  have hD : kd A u := hD
  obtain ⟨hr, h, R, u, hh1, hO, hP, hD⟩ := e_ch ea_12 es_12 rfl hp hP hD
  subst hr
  have hh : h.length = 8 := by omega
  refine lv_iload_n hx hb dL_law_180 rfl (lv_at hl 0 rfl) ?_
  refine lv_icmp_ne (tgt := 199) hx hb dL_law_181 (by decide) (fun z => absurd z (fun y => y rfl)) (fun z => ?_)
  refine lv_aload_n hx hb dL_law_184 rfl (lv_at hl 2 rfl) ?_
  refine lv_iload_n hx hb dL_law_185 rfl (lv_at hl 0 rfl) ?_
  refine lv_iload_n hx hb dL_law_186 rfl (lv_at hl 0 rfl) ?_
  refine lv_sipush (v := 400) hx hb dL_law_187 (by decide) ?_
  refine kL_SW (As := [.ref oF, .int (nI 2), .int (nI 2), .int 400]) (rest := []) (wr := []) K kX0_s (L_fill_c l hfl g oF F kE12 kE0 h R T ln _ hO (nI 2) (nI 2) 400) hN kX0_fr (vx_cwSW 4 hts (k_gS kw642 cs_L_fill) rfl rfl rfl pnL_fill ⟨Nat.le_of_ble_eq_true rfl, Nat.le_of_ble_eq_true rfl⟩) hE hS hA hP hD rfl hl.1 rfl rfl dL_law_190 ⟨(show cells + 1 + 1 + 1 + 1 + 1 + 1 + 1 + 1 + 1 + 1 + 1 + 1 ≤ 1029076 from by omega), (show slots + 6 + 6 + 6 + 6 + 6 + 6 + 6 + 6 + 6 + 6 + 6 + 6 ≤ 6003061 from by omega)⟩ (fun r u H locs hp hP hD hS => ?_)
  have hP : kp g u H := hP
  have hD : kd A u := hD
  obtain ⟨hr, h, R, u, hh1, hO, hP, hD⟩ := e_ch ea_13 es_13 rfl hp hP hD
  subst hr
  have hh : h.length = 8 := by omega
  refine lv_sipush (v := 400) hx hb dL_law_193 (by decide) ?_
  refine lv_icmp_eq (tgt := 201) hx hb dL_law_196 (by decide) (fun z => ?_) (fun z => absurd rfl z)
  refine lv_iinc (v := (nI 3)) (lv' := [(2, .int (nI 3)), (0, .ref b), (1, .ref oF)]) hx hb dL_law_201 hl (k := 0) rfl (by decide) (by decide) rfl (fun ls hl => ?_)
  refine lv_goto (tgt := 168) hx hb dL_law_204 (by decide) ?_
  refine lv_iload_n hx hb dL_law_168 rfl (lv_at hl 0 rfl) ?_
  refine lv_bipush (v := 6) hx hb dL_law_169 (by decide) ?_
  refine lv_icmp_ge (tgt := 207) hx hb dL_law_171 (by decide) (fun z => absurd z (by decide)) (fun z => ?_)
  refine lv_aload_n hx hb dL_law_174 rfl (lv_at hl 2 rfl) ?_
  refine lv_bipush (v := 50) hx hb dL_law_175 (by decide) ?_
  refine kL_SW (As := [.ref oF, .int 50]) (rest := []) (wr := []) K kX0_s (L_bag_c l hfl g oF F kE13 kE0 h R T ln _ hO 50) hN kX0_fr (vx_cwSW 2 hts (k_gS kw635 cs_L_bag) rfl rfl rfl pnL_bag ⟨Nat.le_of_ble_eq_true rfl, Nat.le_of_ble_eq_true rfl⟩) hE hS hA hP hD rfl hl.1 rfl rfl dL_law_177 ⟨(show cells + 1 + 1 + 1 + 1 + 1 + 1 + 1 + 1 + 1 + 1 + 1 + 1 + 1 ≤ 1029076 from by omega), (show slots + 6 + 6 + 6 + 6 + 6 + 6 + 6 + 6 + 6 + 6 + 6 + 6 + 6 ≤ 6003061 from by omega)⟩ (fun r u H locs hp hP hD hS => ?_)
  have hP : kp g u H := hP
  have hD : kd A u := hD
  obtain ⟨hr, h, R, u, hh1, hO, hP, hD⟩ := e_ch ea_14 es_14 rfl hp hP hD
  subst hr
  have hh : h.length = 8 := by omega
  refine lv_iload_n hx hb dL_law_180 rfl (lv_at hl 0 rfl) ?_
  refine lv_icmp_ne (tgt := 199) hx hb dL_law_181 (by decide) (fun z => absurd z (fun y => y rfl)) (fun z => ?_)
  refine lv_aload_n hx hb dL_law_184 rfl (lv_at hl 2 rfl) ?_
  refine lv_iload_n hx hb dL_law_185 rfl (lv_at hl 0 rfl) ?_
  refine lv_iload_n hx hb dL_law_186 rfl (lv_at hl 0 rfl) ?_
  refine lv_sipush (v := 400) hx hb dL_law_187 (by decide) ?_
  refine kL_SW (As := [.ref oF, .int (nI 3), .int (nI 3), .int 400]) (rest := []) (wr := []) K kX0_s (L_fill_c l hfl g oF F kE14 kE0 h R T ln _ hO (nI 3) (nI 3) 400) hN kX0_fr (vx_cwSW 4 hts (k_gS kw642 cs_L_fill) rfl rfl rfl pnL_fill ⟨Nat.le_of_ble_eq_true rfl, Nat.le_of_ble_eq_true rfl⟩) hE hS hA hP hD rfl hl.1 rfl rfl dL_law_190 ⟨(show cells + 1 + 1 + 1 + 1 + 1 + 1 + 1 + 1 + 1 + 1 + 1 + 1 + 1 + 1 ≤ 1029076 from by omega), (show slots + 6 + 6 + 6 + 6 + 6 + 6 + 6 + 6 + 6 + 6 + 6 + 6 + 6 + 6 ≤ 6003061 from by omega)⟩ (fun r u H locs hp hP hD hS => ?_)
  have hP : kp g u H := hP
  have hD : kd A u := hD
  obtain ⟨hr, h, R, u, hh1, hO, hP, hD⟩ := e_ch ea_15 es_15 rfl hp hP hD
  subst hr
  have hh : h.length = 8 := by omega
  refine lv_sipush (v := 400) hx hb dL_law_193 (by decide) ?_
  refine lv_icmp_eq (tgt := 201) hx hb dL_law_196 (by decide) (fun z => ?_) (fun z => absurd rfl z)
  refine lv_iinc (v := (nI 4)) (lv' := [(2, .int (nI 4)), (0, .ref b), (1, .ref oF)]) hx hb dL_law_201 hl (k := 0) rfl (by decide) (by decide) rfl (fun ls hl => ?_)
  refine lv_goto (tgt := 168) hx hb dL_law_204 (by decide) ?_
  refine lv_iload_n hx hb dL_law_168 rfl (lv_at hl 0 rfl) ?_
  refine lv_bipush (v := 6) hx hb dL_law_169 (by decide) ?_
  refine lv_icmp_ge (tgt := 207) hx hb dL_law_171 (by decide) (fun z => absurd z (by decide)) (fun z => ?_)
  refine lv_aload_n hx hb dL_law_174 rfl (lv_at hl 2 rfl) ?_
  refine lv_bipush (v := 50) hx hb dL_law_175 (by decide) ?_
  refine kL_SW (As := [.ref oF, .int 50]) (rest := []) (wr := []) K kX0_s (L_bag_c l hfl g oF F kE15 kE0 h R T ln _ hO 50) hN kX0_fr (vx_cwSW 2 hts (k_gS kw635 cs_L_bag) rfl rfl rfl pnL_bag ⟨Nat.le_of_ble_eq_true rfl, Nat.le_of_ble_eq_true rfl⟩) hE hS hA hP hD rfl hl.1 rfl rfl dL_law_177 ⟨(show cells + 1 + 1 + 1 + 1 + 1 + 1 + 1 + 1 + 1 + 1 + 1 + 1 + 1 + 1 + 1 ≤ 1029076 from by omega), (show slots + 6 + 6 + 6 + 6 + 6 + 6 + 6 + 6 + 6 + 6 + 6 + 6 + 6 + 6 + 6 ≤ 6003061 from by omega)⟩ (fun r u H locs hp hP hD hS => ?_)
  have hP : kp g u H := hP
  have hD : kd A u := hD
  obtain ⟨hr, h, R, u, hh1, hO, hP, hD⟩ := e_ch ea_16 es_16 rfl hp hP hD
  subst hr
  have hh : h.length = 8 := by omega
  refine lv_iload_n hx hb dL_law_180 rfl (lv_at hl 0 rfl) ?_
  refine lv_icmp_ne (tgt := 199) hx hb dL_law_181 (by decide) (fun z => absurd z (fun y => y rfl)) (fun z => ?_)
  refine lv_aload_n hx hb dL_law_184 rfl (lv_at hl 2 rfl) ?_
  refine lv_iload_n hx hb dL_law_185 rfl (lv_at hl 0 rfl) ?_
  refine lv_iload_n hx hb dL_law_186 rfl (lv_at hl 0 rfl) ?_
  refine lv_sipush (v := 400) hx hb dL_law_187 (by decide) ?_
  refine kL_SW (As := [.ref oF, .int (nI 4), .int (nI 4), .int 400]) (rest := []) (wr := []) K kX0_s (L_fill_c l hfl g oF F kE16 kE0 h R T ln _ hO (nI 4) (nI 4) 400) hN kX0_fr (vx_cwSW 4 hts (k_gS kw642 cs_L_fill) rfl rfl rfl pnL_fill ⟨Nat.le_of_ble_eq_true rfl, Nat.le_of_ble_eq_true rfl⟩) hE hS hA hP hD rfl hl.1 rfl rfl dL_law_190 ⟨(show cells + 1 + 1 + 1 + 1 + 1 + 1 + 1 + 1 + 1 + 1 + 1 + 1 + 1 + 1 + 1 + 1 ≤ 1029076 from by omega), (show slots + 6 + 6 + 6 + 6 + 6 + 6 + 6 + 6 + 6 + 6 + 6 + 6 + 6 + 6 + 6 + 6 ≤ 6003061 from by omega)⟩ (fun r u H locs hp hP hD hS => ?_)
  have hP : kp g u H := hP
  have hD : kd A u := hD
  obtain ⟨hr, h, R, u, hh1, hO, hP, hD⟩ := e_ch ea_17 es_17 rfl hp hP hD
  subst hr
  have hh : h.length = 8 := by omega
  refine lv_sipush (v := 400) hx hb dL_law_193 (by decide) ?_
  refine lv_icmp_eq (tgt := 201) hx hb dL_law_196 (by decide) (fun z => ?_) (fun z => absurd rfl z)
  refine lv_iinc (v := (nI 5)) (lv' := [(2, .int (nI 5)), (0, .ref b), (1, .ref oF)]) hx hb dL_law_201 hl (k := 0) rfl (by decide) (by decide) rfl (fun ls hl => ?_)
  refine lv_goto (tgt := 168) hx hb dL_law_204 (by decide) ?_
  refine lv_iload_n hx hb dL_law_168 rfl (lv_at hl 0 rfl) ?_
  refine lv_bipush (v := 6) hx hb dL_law_169 (by decide) ?_
  refine lv_icmp_ge (tgt := 207) hx hb dL_law_171 (by decide) (fun z => absurd z (by decide)) (fun z => ?_)
  refine lv_aload_n hx hb dL_law_174 rfl (lv_at hl 2 rfl) ?_
  refine lv_bipush (v := 50) hx hb dL_law_175 (by decide) ?_
  refine kL_SW (As := [.ref oF, .int 50]) (rest := []) (wr := []) K kX0_s (L_bag_c l hfl g oF F kE17 kE0 h R T ln _ hO 50) hN kX0_fr (vx_cwSW 2 hts (k_gS kw635 cs_L_bag) rfl rfl rfl pnL_bag ⟨Nat.le_of_ble_eq_true rfl, Nat.le_of_ble_eq_true rfl⟩) hE hS hA hP hD rfl hl.1 rfl rfl dL_law_177 ⟨(show cells + 1 + 1 + 1 + 1 + 1 + 1 + 1 + 1 + 1 + 1 + 1 + 1 + 1 + 1 + 1 + 1 + 1 ≤ 1029076 from by omega), (show slots + 6 + 6 + 6 + 6 + 6 + 6 + 6 + 6 + 6 + 6 + 6 + 6 + 6 + 6 + 6 + 6 + 6 ≤ 6003061 from by omega)⟩ (fun r u H locs hp hP hD hS => ?_)
  have hP : kp g u H := hP
  have hD : kd A u := hD
  obtain ⟨hr, h, R, u, hh1, hO, hP, hD⟩ := e_ch ea_18 es_18 rfl hp hP hD
  subst hr
  have hh : h.length = 8 := by omega
  refine lv_iload_n hx hb dL_law_180 rfl (lv_at hl 0 rfl) ?_
  refine lv_icmp_ne (tgt := 199) hx hb dL_law_181 (by decide) (fun z => absurd z (fun y => y rfl)) (fun z => ?_)
  refine lv_aload_n hx hb dL_law_184 rfl (lv_at hl 2 rfl) ?_
  refine lv_iload_n hx hb dL_law_185 rfl (lv_at hl 0 rfl) ?_
  refine lv_iload_n hx hb dL_law_186 rfl (lv_at hl 0 rfl) ?_
  refine lv_sipush (v := 400) hx hb dL_law_187 (by decide) ?_
  refine kL_SW (As := [.ref oF, .int (nI 5), .int (nI 5), .int 400]) (rest := []) (wr := []) K kX0_s (L_fill_c l hfl g oF F kE18 kE0 h R T ln _ hO (nI 5) (nI 5) 400) hN kX0_fr (vx_cwSW 4 hts (k_gS kw642 cs_L_fill) rfl rfl rfl pnL_fill ⟨Nat.le_of_ble_eq_true rfl, Nat.le_of_ble_eq_true rfl⟩) hE hS hA hP hD rfl hl.1 rfl rfl dL_law_190 ⟨(show cells + 1 + 1 + 1 + 1 + 1 + 1 + 1 + 1 + 1 + 1 + 1 + 1 + 1 + 1 + 1 + 1 + 1 + 1 ≤ 1029076 from by omega), (show slots + 6 + 6 + 6 + 6 + 6 + 6 + 6 + 6 + 6 + 6 + 6 + 6 + 6 + 6 + 6 + 6 + 6 + 6 ≤ 6003061 from by omega)⟩ (fun r u H locs hp hP hD hS => ?_)
  have hP : kp g u H := hP
  have hD : kd A u := hD
  obtain ⟨hr, h, R, u, hh1, hO, hP, hD⟩ := e_ch ea_19 es_19 rfl hp hP hD
  subst hr
  have hh : h.length = 8 := by omega
  refine lv_sipush (v := 400) hx hb dL_law_193 (by decide) ?_
  refine lv_icmp_eq (tgt := 201) hx hb dL_law_196 (by decide) (fun z => ?_) (fun z => absurd rfl z)
  refine lv_iinc (v := (nI 6)) (lv' := [(2, .int (nI 6)), (0, .ref b), (1, .ref oF)]) hx hb dL_law_201 hl (k := 0) rfl (by decide) (by decide) rfl (fun ls hl => ?_)
  refine lv_goto (tgt := 168) hx hb dL_law_204 (by decide) ?_
  refine lv_iload_n hx hb dL_law_168 rfl (lv_at hl 0 rfl) ?_
  refine lv_bipush (v := 6) hx hb dL_law_169 (by decide) ?_
  refine lv_icmp_ge (tgt := 207) hx hb dL_law_171 (by decide) (fun z => ?_) (fun z => absurd (by decide) z)
  refine lv_aload_n hx hb dL_law_207 rfl (lv_at hl 2 rfl) ?_
  refine lv_iconst (v := 0) hx hb dL_law_208 (by decide) ?_
  refine lv_iconst (v := 0) hx hb dL_law_209 (by decide) ?_
  refine kL_SW (As := [.ref oF, .int 0, .int 0]) (rest := []) (wr := []) K kX0_s (L_jar_c l hfl g oF F kE19 kE0 h R T ln _ hO 0 0) hN kX0_fr (vx_cwSW 3 hts (k_gS kw347 cs_L_jar) rfl rfl rfl pnL_jar ⟨Nat.le_of_ble_eq_true rfl, Nat.le_of_ble_eq_true rfl⟩) hE hS hA hP hD rfl hl.1 rfl rfl dL_law_210 ⟨(show cells + 1 + 1 + 1 + 1 + 1 + 1 + 1 + 1 + 1 + 1 + 1 + 1 + 1 + 1 + 1 + 1 + 1 + 1 + 1 ≤ 1029076 from by omega), (show slots + 6 + 6 + 6 + 6 + 6 + 6 + 6 + 6 + 6 + 6 + 6 + 6 + 6 + 6 + 6 + 6 + 6 + 6 + 6 ≤ 6003061 from by omega)⟩ (fun r u H locs hp hP hD hS => ?_)
  have hP : kp g u H := hP
  have hD : kd A u := hD
  obtain ⟨hr, R, hR, hO⟩ := mk_not2 (er_jar _) hp
  subst hr
  refine lv_sipush (v := (-1001)) hx hb dL_law_213 (by decide) ?_
  refine lv_icmp_ne (tgt := 361) hx hb dL_law_216 (by decide) (fun z => absurd z (fun y => y rfl)) (fun z => ?_)
  refine lv_aload_n hx hb dL_law_219 rfl (lv_at hl 2 rfl) ?_
  refine lv_iconst (v := 2) hx hb dL_law_220 (by decide) ?_
  refine lv_bipush (v := 6) hx hb dL_law_221 (by decide) ?_
  refine lv_iconst (v := 0) hx hb dL_law_223 (by decide) ?_
  refine kL_SC (As := [.ref oF, .int 2, .int 6, .int 0]) (rest := []) (wr := []) K kX0_s (L_is_c l hfl g oF F kE19 kE0 h R T ln _ hO 2 6 0 (by rw [hR.1]; decide) hR.1 hR.2.1 hR.2.2) hN kX0_fr (va_cwS 4 hts (k_gS kw994 cs_L_is) rfl rfl rfl pnL_is ⟨Nat.le_of_ble_eq_true rfl, Nat.le_of_ble_eq_true rfl⟩) hE hS hA hP hD rfl hl.1 rfl rfl dL_law_224 ⟨(show cells + 1 + 1 + 1 + 1 + 1 + 1 + 1 + 1 + 1 + 1 + 1 + 1 + 1 + 1 + 1 + 1 + 1 + 1 + 1 + 3 ≤ 1029076 from by omega), (show slots + 6 + 6 + 6 + 6 + 6 + 6 + 6 + 6 + 6 + 6 + 6 + 6 + 6 + 6 + 6 + 6 + 6 + 6 + 6 + 18 ≤ 6003061 from by omega)⟩ (fun r u H locs hp hP hD hS => ?_)
  have hP : kp g u H := hP
  have hD : kd A u := hD
  obtain ⟨hr, hO⟩ := hp
  subst hr
  refine lv_if_eq (tgt := 361) hx hb dL_law_227 (by decide) (fun z => absurd z (by decide)) (fun z => ?_)
  refine lv_aload_n hx hb dL_law_230 rfl (lv_at hl 2 rfl) ?_
  refine lv_iconst (v := 5) hx hb dL_law_231 (by decide) ?_
  refine kL_SW (As := [.ref oF, .int 5]) (rest := []) (wr := []) K kX0_s (L_bag_c l hfl g oF F kE19 kE0 h R T ln _ hO 5) hN kX0_fr (vx_cwSW 2 hts (k_gS kw635 cs_L_bag) rfl rfl rfl pnL_bag ⟨Nat.le_of_ble_eq_true rfl, Nat.le_of_ble_eq_true rfl⟩) hE hS hA hP hD rfl hl.1 rfl rfl dL_law_232 ⟨(show cells + 1 + 1 + 1 + 1 + 1 + 1 + 1 + 1 + 1 + 1 + 1 + 1 + 1 + 1 + 1 + 1 + 1 + 1 + 1 + 3 + 1 ≤ 1029076 from by omega), (show slots + 6 + 6 + 6 + 6 + 6 + 6 + 6 + 6 + 6 + 6 + 6 + 6 + 6 + 6 + 6 + 6 + 6 + 6 + 6 + 18 + 6 ≤ 6003061 from by omega)⟩ (fun r u H locs hp hP hD hS => ?_)
  have hP : kp g u H := hP
  have hD : kd A u := hD
  obtain ⟨hr, R, hR, hO⟩ := mk_not2 (er_bag _) hp
  subst hr
  refine lv_sipush (v := (-1001)) hx hb dL_law_235 (by decide) ?_
  refine lv_icmp_ne (tgt := 361) hx hb dL_law_238 (by decide) (fun z => absurd z (fun y => y rfl)) (fun z => ?_)
  refine lv_aload_n hx hb dL_law_241 rfl (lv_at hl 2 rfl) ?_
  refine lv_iconst (v := 2) hx hb dL_law_242 (by decide) ?_
  refine lv_bipush (v := 6) hx hb dL_law_243 (by decide) ?_
  refine lv_iconst (v := 0) hx hb dL_law_245 (by decide) ?_
  refine kL_SC (As := [.ref oF, .int 2, .int 6, .int 0]) (rest := []) (wr := []) K kX0_s (L_is_c l hfl g oF F kE19 kE0 h R T ln _ hO 2 6 0 (by rw [hR.1]; decide) hR.1 hR.2.1 hR.2.2) hN kX0_fr (va_cwS 4 hts (k_gS kw994 cs_L_is) rfl rfl rfl pnL_is ⟨Nat.le_of_ble_eq_true rfl, Nat.le_of_ble_eq_true rfl⟩) hE hS hA hP hD rfl hl.1 rfl rfl dL_law_246 ⟨(show cells + 1 + 1 + 1 + 1 + 1 + 1 + 1 + 1 + 1 + 1 + 1 + 1 + 1 + 1 + 1 + 1 + 1 + 1 + 1 + 3 + 1 + 3 ≤ 1029076 from by omega), (show slots + 6 + 6 + 6 + 6 + 6 + 6 + 6 + 6 + 6 + 6 + 6 + 6 + 6 + 6 + 6 + 6 + 6 + 6 + 6 + 18 + 6 + 18 ≤ 6003061 from by omega)⟩ (fun r u H locs hp hP hD hS => ?_)
  have hP : kp g u H := hP
  have hD : kd A u := hD
  obtain ⟨hr, hO⟩ := hp
  subst hr
  refine lv_if_eq (tgt := 361) hx hb dL_law_249 (by decide) (fun z => absurd z (by decide)) (fun z => ?_)
  refine lv_aload_n hx hb dL_law_252 rfl (lv_at hl 2 rfl) ?_
  refine lv_bipush (v := 14) hx hb dL_law_253 (by decide) ?_
  refine kL_SW (As := [.ref oF, .int 14]) (rest := []) (wr := []) K kX0_s (L_account_c l hfl g oF F kE19 kE0 h R T ln _ hO 14) hN kX0_fr (vx_cwSW 2 hts (k_gS kw961 cs_L_account) rfl rfl rfl pnL_account ⟨Nat.le_of_ble_eq_true rfl, Nat.le_of_ble_eq_true rfl⟩) hE hS hA hP hD rfl hl.1 rfl rfl dL_law_255 ⟨(show cells + 1 + 1 + 1 + 1 + 1 + 1 + 1 + 1 + 1 + 1 + 1 + 1 + 1 + 1 + 1 + 1 + 1 + 1 + 1 + 3 + 1 + 3 + 1 ≤ 1029076 from by omega), (show slots + 6 + 6 + 6 + 6 + 6 + 6 + 6 + 6 + 6 + 6 + 6 + 6 + 6 + 6 + 6 + 6 + 6 + 6 + 6 + 18 + 6 + 18 + 6 ≤ 6003061 from by omega)⟩ (fun r u H locs hp hP hD hS => ?_)
  have hP : kp g u H := hP
  have hD : kd A u := hD
  obtain ⟨hr, hO⟩ := hp
  have hr : r = 8 := hr.trans (ec_14 _ hh)
  subst hr
  refine lv_bipush (v := 8) hx hb dL_law_258 (by decide) ?_
  refine lv_icmp_ne (tgt := 361) hx hb dL_law_260 (by decide) (fun z => absurd z (fun y => y rfl)) (fun z => ?_)
  refine lv_aload_n hx hb dL_law_263 rfl (lv_at hl 2 rfl) ?_
  refine lv_iconst (v := 0) hx hb dL_law_264 (by decide) ?_
  refine lv_iconst (v := 0) hx hb dL_law_265 (by decide) ?_
  refine lv_iconst (v := 1) hx hb dL_law_266 (by decide) ?_
  refine kL_SW (As := [.ref oF, .int 0, .int 0, .int 1]) (rest := []) (wr := []) K kX0_s (L_fill_c l hfl g oF F kE19 kE0 h R T ln _ hO 0 0 1) hN kX0_fr (vx_cwSW 4 hts (k_gS kw642 cs_L_fill) rfl rfl rfl pnL_fill ⟨Nat.le_of_ble_eq_true rfl, Nat.le_of_ble_eq_true rfl⟩) hE hS hA hP hD rfl hl.1 rfl rfl dL_law_267 ⟨(show cells + 1 + 1 + 1 + 1 + 1 + 1 + 1 + 1 + 1 + 1 + 1 + 1 + 1 + 1 + 1 + 1 + 1 + 1 + 1 + 3 + 1 + 3 + 1 + 1 ≤ 1029076 from by omega), (show slots + 6 + 6 + 6 + 6 + 6 + 6 + 6 + 6 + 6 + 6 + 6 + 6 + 6 + 6 + 6 + 6 + 6 + 6 + 6 + 18 + 6 + 18 + 6 + 6 ≤ 6003061 from by omega)⟩ (fun r u H locs hp hP hD hS => ?_)
  have hP : kp g u H := hP
  have hD : kd A u := hD
  obtain ⟨hr, R, hR, hO⟩ := mk_not2 (er_fill _) hp
  subst hr
  refine lv_sipush (v := (-1001)) hx hb dL_law_270 (by decide) ?_
  refine lv_icmp_ne (tgt := 361) hx hb dL_law_273 (by decide) (fun z => absurd z (fun y => y rfl)) (fun z => ?_)
  refine lv_aload_n hx hb dL_law_276 rfl (lv_at hl 2 rfl) ?_
  refine lv_bipush (v := 7) hx hb dL_law_277 (by decide) ?_
  refine lv_iconst (v := 0) hx hb dL_law_279 (by decide) ?_
  refine lv_iconst (v := 0) hx hb dL_law_280 (by decide) ?_
  refine kL_SC (As := [.ref oF, .int 7, .int 0, .int 0]) (rest := []) (wr := []) K kX0_s (L_is_c l hfl g oF F kE19 kE0 h R T ln _ hO 7 0 0 (by rw [hR.1]; decide) hR.1 hR.2.1 hR.2.2) hN kX0_fr (va_cwS 4 hts (k_gS kw994 cs_L_is) rfl rfl rfl pnL_is ⟨Nat.le_of_ble_eq_true rfl, Nat.le_of_ble_eq_true rfl⟩) hE hS hA hP hD rfl hl.1 rfl rfl dL_law_281 ⟨(show cells + 1 + 1 + 1 + 1 + 1 + 1 + 1 + 1 + 1 + 1 + 1 + 1 + 1 + 1 + 1 + 1 + 1 + 1 + 1 + 3 + 1 + 3 + 1 + 1 + 3 ≤ 1029076 from by omega), (show slots + 6 + 6 + 6 + 6 + 6 + 6 + 6 + 6 + 6 + 6 + 6 + 6 + 6 + 6 + 6 + 6 + 6 + 6 + 6 + 18 + 6 + 18 + 6 + 6 + 18 ≤ 6003061 from by omega)⟩ (fun r u H locs hp hP hD hS => ?_)
  have hP : kp g u H := hP
  have hD : kd A u := hD
  obtain ⟨hr, hO⟩ := hp
  subst hr
  refine lv_if_eq (tgt := 361) hx hb dL_law_284 (by decide) (fun z => absurd z (by decide)) (fun z => ?_)
  refine lv_aload_n hx hb dL_law_287 rfl (lv_at hl 2 rfl) ?_
  refine lv_iconst (v := 0) hx hb dL_law_288 (by decide) ?_
  refine lv_iconst (v := 1) hx hb dL_law_289 (by decide) ?_
  refine kL_SW (As := [.ref oF, .int 0, .int 1]) (rest := []) (wr := []) K kX0_s (L_empty_c l hfl g oF F kE19 kE0 h R T ln _ hO 0 1) hN kX0_fr (vx_cwSW 3 hts (k_gS kw649 cs_L_empty) rfl rfl rfl pnL_empty ⟨Nat.le_of_ble_eq_true rfl, Nat.le_of_ble_eq_true rfl⟩) hE hS hA hP hD rfl hl.1 rfl rfl dL_law_290 ⟨(show cells + 1 + 1 + 1 + 1 + 1 + 1 + 1 + 1 + 1 + 1 + 1 + 1 + 1 + 1 + 1 + 1 + 1 + 1 + 1 + 3 + 1 + 3 + 1 + 1 + 3 + 1 ≤ 1029076 from by omega), (show slots + 6 + 6 + 6 + 6 + 6 + 6 + 6 + 6 + 6 + 6 + 6 + 6 + 6 + 6 + 6 + 6 + 6 + 6 + 6 + 18 + 6 + 18 + 6 + 6 + 18 + 6 ≤ 6003061 from by omega)⟩ (fun r u H locs hp hP hD hS => ?_)
  have hP : kp g u H := hP
  have hD : kd A u := hD
  obtain ⟨hr, h, R, u, hh1, hO, hP, hD⟩ := e_ch ea_20 es_20 rfl hp hP hD
  subst hr
  have hh : h.length = 8 := by omega
  refine lv_sipush (v := 900) hx hb dL_law_293 (by decide) ?_
  refine lv_icmp_ne (tgt := 361) hx hb dL_law_296 (by decide) (fun z => absurd z (fun y => y rfl)) (fun z => ?_)
  refine lv_aload_n hx hb dL_law_299 rfl (lv_at hl 2 rfl) ?_
  refine lv_iconst (v := 1) hx hb dL_law_300 (by decide) ?_
  refine lv_iconst (v := 1) hx hb dL_law_301 (by decide) ?_
  refine kL_SW (As := [.ref oF, .int 1, .int 1]) (rest := []) (wr := []) K kX0_s (L_empty_c l hfl g oF F kE20 kE0 h R T ln _ hO 1 1) hN kX0_fr (vx_cwSW 3 hts (k_gS kw649 cs_L_empty) rfl rfl rfl pnL_empty ⟨Nat.le_of_ble_eq_true rfl, Nat.le_of_ble_eq_true rfl⟩) hE hS hA hP hD rfl hl.1 rfl rfl dL_law_302 ⟨(show cells + 1 + 1 + 1 + 1 + 1 + 1 + 1 + 1 + 1 + 1 + 1 + 1 + 1 + 1 + 1 + 1 + 1 + 1 + 1 + 3 + 1 + 3 + 1 + 1 + 3 + 1 + 1 ≤ 1029076 from by omega), (show slots + 6 + 6 + 6 + 6 + 6 + 6 + 6 + 6 + 6 + 6 + 6 + 6 + 6 + 6 + 6 + 6 + 6 + 6 + 6 + 18 + 6 + 18 + 6 + 6 + 18 + 6 + 6 ≤ 6003061 from by omega)⟩ (fun r u H locs hp hP hD hS => ?_)
  have hP : kp g u H := hP
  have hD : kd A u := hD
  obtain ⟨hr, R, hR, hO⟩ := mk_not2 (er_empty _) hp
  subst hr
  refine lv_sipush (v := (-1001)) hx hb dL_law_305 (by decide) ?_
  refine lv_icmp_ne (tgt := 361) hx hb dL_law_308 (by decide) (fun z => absurd z (fun y => y rfl)) (fun z => ?_)
  refine lv_aload_n hx hb dL_law_311 rfl (lv_at hl 2 rfl) ?_
  refine lv_bipush (v := 7) hx hb dL_law_312 (by decide) ?_
  refine lv_iconst (v := 0) hx hb dL_law_314 (by decide) ?_
  refine lv_iconst (v := 0) hx hb dL_law_315 (by decide) ?_
  refine kL_SC (As := [.ref oF, .int 7, .int 0, .int 0]) (rest := []) (wr := []) K kX0_s (L_is_c l hfl g oF F kE20 kE0 h R T ln _ hO 7 0 0 (by rw [hR.1]; decide) hR.1 hR.2.1 hR.2.2) hN kX0_fr (va_cwS 4 hts (k_gS kw994 cs_L_is) rfl rfl rfl pnL_is ⟨Nat.le_of_ble_eq_true rfl, Nat.le_of_ble_eq_true rfl⟩) hE hS hA hP hD rfl hl.1 rfl rfl dL_law_316 ⟨(show cells + 1 + 1 + 1 + 1 + 1 + 1 + 1 + 1 + 1 + 1 + 1 + 1 + 1 + 1 + 1 + 1 + 1 + 1 + 1 + 3 + 1 + 3 + 1 + 1 + 3 + 1 + 1 + 3 ≤ 1029076 from by omega), (show slots + 6 + 6 + 6 + 6 + 6 + 6 + 6 + 6 + 6 + 6 + 6 + 6 + 6 + 6 + 6 + 6 + 6 + 6 + 6 + 18 + 6 + 18 + 6 + 6 + 18 + 6 + 6 + 18 ≤ 6003061 from by omega)⟩ (fun r u H locs hp hP hD hS => ?_)
  have hP : kp g u H := hP
  have hD : kd A u := hD
  obtain ⟨hr, hO⟩ := hp
  subst hr
  refine lv_if_eq (tgt := 361) hx hb dL_law_319 (by decide) (fun z => absurd z (by decide)) (fun z => ?_)
  refine lv_aload_n hx hb dL_law_322 rfl (lv_at hl 2 rfl) ?_
  refine lv_iconst (v := 0) hx hb dL_law_323 (by decide) ?_
  refine lv_iconst (v := 1) hx hb dL_law_324 (by decide) ?_
  refine lv_sipush (v := 400) hx hb dL_law_325 (by decide) ?_
  refine kL_SW (As := [.ref oF, .int 0, .int 1, .int 400]) (rest := []) (wr := []) K kX0_s (L_fill_c l hfl g oF F kE20 kE0 h R T ln _ hO 0 1 400) hN kX0_fr (vx_cwSW 4 hts (k_gS kw642 cs_L_fill) rfl rfl rfl pnL_fill ⟨Nat.le_of_ble_eq_true rfl, Nat.le_of_ble_eq_true rfl⟩) hE hS hA hP hD rfl hl.1 rfl rfl dL_law_328 ⟨(show cells + 1 + 1 + 1 + 1 + 1 + 1 + 1 + 1 + 1 + 1 + 1 + 1 + 1 + 1 + 1 + 1 + 1 + 1 + 1 + 3 + 1 + 3 + 1 + 1 + 3 + 1 + 1 + 3 + 1 ≤ 1029076 from by omega), (show slots + 6 + 6 + 6 + 6 + 6 + 6 + 6 + 6 + 6 + 6 + 6 + 6 + 6 + 6 + 6 + 6 + 6 + 6 + 6 + 18 + 6 + 18 + 6 + 6 + 18 + 6 + 6 + 18 + 6 ≤ 6003061 from by omega)⟩ (fun r u H locs hp hP hD hS => ?_)
  have hP : kp g u H := hP
  have hD : kd A u := hD
  obtain ⟨hr, h, R, u, hh1, hO, hP, hD⟩ := e_ch ea_21 es_21 rfl hp hP hD
  subst hr
  have hh : h.length = 8 := by omega
  refine lv_sipush (v := 400) hx hb dL_law_331 (by decide) ?_
  refine lv_icmp_ne (tgt := 361) hx hb dL_law_334 (by decide) (fun z => absurd z (fun y => y rfl)) (fun z => ?_)
  refine lv_aload_n hx hb dL_law_337 rfl (lv_at hl 2 rfl) ?_
  refine lv_bipush (v := 6) hx hb dL_law_338 (by decide) ?_
  refine kL_SW (As := [.ref oF, .int 6]) (rest := []) (wr := []) K kX0_s (L_account_c l hfl g oF F kE21 kE0 h R T ln _ hO 6) hN kX0_fr (vx_cwSW 2 hts (k_gS kw961 cs_L_account) rfl rfl rfl pnL_account ⟨Nat.le_of_ble_eq_true rfl, Nat.le_of_ble_eq_true rfl⟩) hE hS hA hP hD rfl hl.1 rfl rfl dL_law_340 ⟨(show cells + 1 + 1 + 1 + 1 + 1 + 1 + 1 + 1 + 1 + 1 + 1 + 1 + 1 + 1 + 1 + 1 + 1 + 1 + 1 + 3 + 1 + 3 + 1 + 1 + 3 + 1 + 1 + 3 + 1 + 1 ≤ 1029076 from by omega), (show slots + 6 + 6 + 6 + 6 + 6 + 6 + 6 + 6 + 6 + 6 + 6 + 6 + 6 + 6 + 6 + 6 + 6 + 6 + 6 + 18 + 6 + 18 + 6 + 6 + 18 + 6 + 6 + 18 + 6 + 6 ≤ 6003061 from by omega)⟩ (fun r u H locs hp hP hD hS => ?_)
  have hP : kp g u H := hP
  have hD : kd A u := hD
  obtain ⟨hr, hO⟩ := hp
  have hr : r = 3000 := hr.trans (ec_6 _ _)
  subst hr
  refine lv_sipush (v := 3000) hx hb dL_law_343 (by decide) ?_
  refine lv_icmp_ne (tgt := 361) hx hb dL_law_346 (by decide) (fun z => absurd z (fun y => y rfl)) (fun z => ?_)
  refine lv_aload_n hx hb dL_law_349 rfl (lv_at hl 2 rfl) ?_
  refine lv_bipush (v := 7) hx hb dL_law_350 (by decide) ?_
  refine kL_SW (As := [.ref oF, .int 7]) (rest := []) (wr := []) K kX0_s (L_account_c l hfl g oF F kE21 kE0 h R T ln _ hO 7) hN kX0_fr (vx_cwSW 2 hts (k_gS kw961 cs_L_account) rfl rfl rfl pnL_account ⟨Nat.le_of_ble_eq_true rfl, Nat.le_of_ble_eq_true rfl⟩) hE hS hA hP hD rfl hl.1 rfl rfl dL_law_352 ⟨(show cells + 1 + 1 + 1 + 1 + 1 + 1 + 1 + 1 + 1 + 1 + 1 + 1 + 1 + 1 + 1 + 1 + 1 + 1 + 1 + 3 + 1 + 3 + 1 + 1 + 3 + 1 + 1 + 3 + 1 + 1 + 1 ≤ 1029076 from by omega), (show slots + 6 + 6 + 6 + 6 + 6 + 6 + 6 + 6 + 6 + 6 + 6 + 6 + 6 + 6 + 6 + 6 + 6 + 6 + 6 + 18 + 6 + 18 + 6 + 6 + 18 + 6 + 6 + 18 + 6 + 6 + 6 ≤ 6003061 from by omega)⟩ (fun r u H locs hp hP hD hS => ?_)
  have hP : kp g u H := hP
  have hD : kd A u := hD
  obtain ⟨hr, hO⟩ := hp
  have hr : r = 2400 := hr.trans (ec_7 _ _)
  subst hr
  refine lv_sipush (v := 2400) hx hb dL_law_355 (by decide) ?_
  refine lv_icmp_eq (tgt := 363) hx hb dL_law_358 (by decide) (fun z => ?_) (fun z => absurd rfl z)
  refine lv_aload_n hx hb dL_law_363 rfl (lv_at hl 2 rfl) ?_
  refine lv_iconst (v := 0) hx hb dL_law_364 (by decide) ?_
  refine kL_SW (As := [.ref oF, .int 0]) (rest := []) (wr := []) K kX0_s (L_told_c l hfl g oF F kE21 kE0 h R T ln _ hO 0) hN kX0_fr (vx_cwSW 2 hts (k_gS kw772 cs_L_told) rfl rfl rfl pnL_told ⟨Nat.le_of_ble_eq_true rfl, Nat.le_of_ble_eq_true rfl⟩) hE hS hA hP hD rfl hl.1 rfl rfl dL_law_365 ⟨(show cells + 1 + 1 + 1 + 1 + 1 + 1 + 1 + 1 + 1 + 1 + 1 + 1 + 1 + 1 + 1 + 1 + 1 + 1 + 1 + 3 + 1 + 3 + 1 + 1 + 3 + 1 + 1 + 3 + 1 + 1 + 1 + 1 ≤ 1029076 from by omega), (show slots + 6 + 6 + 6 + 6 + 6 + 6 + 6 + 6 + 6 + 6 + 6 + 6 + 6 + 6 + 6 + 6 + 6 + 6 + 6 + 18 + 6 + 18 + 6 + 6 + 18 + 6 + 6 + 18 + 6 + 6 + 6 + 6 ≤ 6003061 from by omega)⟩ (fun r u H locs hp hP hD hS => ?_)
  have hP : kp g u H := hP
  have hD : kd A u := hD
  obtain ⟨hr, hO⟩ := hp
  have hr : r = 388 := hr.trans eq_told
  subst hr
  refine lv_sipush (v := 388) hx hb dL_law_368 (by decide) ?_
  refine lv_icmp_ne (tgt := 438) hx hb dL_law_371 (by decide) (fun z => absurd z (fun y => y rfl)) (fun z => ?_)
  refine lv_aload_n hx hb dL_law_374 rfl (lv_at hl 2 rfl) ?_
  refine lv_iconst (v := 0) hx hb dL_law_375 (by decide) ?_
  refine kL_SW (As := [.ref oF, .int 0]) (rest := []) (wr := []) K kX0_s (L_rest_c l hfl g oF F kE21 kE0 h R T ln _ hO 0) hN kX0_fr (vx_cwSW 2 hts (k_gS kw811 cs_L_rest) rfl rfl rfl pnL_rest ⟨Nat.le_of_ble_eq_true rfl, Nat.le_of_ble_eq_true rfl⟩) hE hS hA hP hD rfl hl.1 rfl rfl dL_law_376 ⟨(show cells + 1 + 1 + 1 + 1 + 1 + 1 + 1 + 1 + 1 + 1 + 1 + 1 + 1 + 1 + 1 + 1 + 1 + 1 + 1 + 3 + 1 + 3 + 1 + 1 + 3 + 1 + 1 + 3 + 1 + 1 + 1 + 1 + 1 ≤ 1029076 from by omega), (show slots + 6 + 6 + 6 + 6 + 6 + 6 + 6 + 6 + 6 + 6 + 6 + 6 + 6 + 6 + 6 + 6 + 6 + 6 + 6 + 18 + 6 + 18 + 6 + 6 + 18 + 6 + 6 + 18 + 6 + 6 + 6 + 6 + 6 ≤ 6003061 from by omega)⟩ (fun r u H locs hp hP hD hS => ?_)
  have hP : kp g u H := hP
  have hD : kd A u := hD
  obtain ⟨hr, hO⟩ := hp
  have hr : r = 62 := hr.trans eq_rest
  subst hr
  refine lv_bipush (v := 62) hx hb dL_law_379 (by decide) ?_
  refine lv_icmp_ne (tgt := 438) hx hb dL_law_381 (by decide) (fun z => absurd z (fun y => y rfl)) (fun z => ?_)
  refine lv_aload_n hx hb dL_law_384 rfl (lv_at hl 2 rfl) ?_
  refine lv_iconst (v := 0) hx hb dL_law_385 (by decide) ?_
  refine kL_SW (As := [.ref oF, .int 0]) (rest := []) (wr := []) K kX0_s (L_onPan_c l hfl g oF F kE21 kE0 h R T ln _ hO 0) hN kX0_fr (vx_cwSW 2 hts (k_gS kw804 cs_L_onPan) rfl rfl rfl pnL_onPan ⟨Nat.le_of_ble_eq_true rfl, Nat.le_of_ble_eq_true rfl⟩) hE hS hA hP hD rfl hl.1 rfl rfl dL_law_386 ⟨(show cells + 1 + 1 + 1 + 1 + 1 + 1 + 1 + 1 + 1 + 1 + 1 + 1 + 1 + 1 + 1 + 1 + 1 + 1 + 1 + 3 + 1 + 3 + 1 + 1 + 3 + 1 + 1 + 3 + 1 + 1 + 1 + 1 + 1 + 1 ≤ 1029076 from by omega), (show slots + 6 + 6 + 6 + 6 + 6 + 6 + 6 + 6 + 6 + 6 + 6 + 6 + 6 + 6 + 6 + 6 + 6 + 6 + 6 + 18 + 6 + 18 + 6 + 6 + 18 + 6 + 6 + 18 + 6 + 6 + 6 + 6 + 6 + 6 ≤ 6003061 from by omega)⟩ (fun r u H locs hp hP hD hS => ?_)
  have hP : kp g u H := hP
  have hD : kd A u := hD
  obtain ⟨hr, hO⟩ := hp
  have hr : r = 255 := hr.trans eq_onPan
  subst hr
  refine lv_sipush (v := 255) hx hb dL_law_389 (by decide) ?_
  refine lv_icmp_ne (tgt := 438) hx hb dL_law_392 (by decide) (fun z => absurd z (fun y => y rfl)) (fun z => ?_)
  refine lv_aload_n hx hb dL_law_395 rfl (lv_at hl 2 rfl) ?_
  refine lv_iconst (v := 0) hx hb dL_law_396 (by decide) ?_
  refine kg_ldcws K hE (List.mem_of_getElem? (i := 35) rfl) dL_law_397 ?_
  refine kL_SC (As := [.ref oF, .int 0, .ref (g.2.2 1008)]) (rest := []) (wr := []) K kStr_s (L_isLine_c l hfl g oF F kE21 kE0 h R T ln u hO 0 (g.2.2 1008) (g.2.2 1058) 26 [50, 48, 48, 43, 49, 48, 48, 43, 53, 48, 43, 50, 48, 43, 49, 48, 43, 53, 43, 50, 43, 49, 61, 51, 56, 56] (by decide) el_1 el_2 el_3) hN (kX_fr (wr := []) (X := kStr (g.2.2 1008) (g.2.2 1058) 26 [50, 48, 48, 43, 49, 48, 48, 43, 53, 48, 43, 50, 48, 43, 49, 48, 43, 53, 43, 50, 43, 49, 61, 51, 56, 56]) kStr_s (kStr_of hE 8 (by decide)) hS hA hD) (va_cwS 3 hts (k_gS kw1022 cs_L_isLine) rfl rfl rfl pnL_isLine ⟨Nat.le_of_ble_eq_true rfl, Nat.le_of_ble_eq_true rfl⟩) hE hS hA hP hD rfl hl.1 rfl rfl dL_law_400 ⟨(show cells + 1 + 1 + 1 + 1 + 1 + 1 + 1 + 1 + 1 + 1 + 1 + 1 + 1 + 1 + 1 + 1 + 1 + 1 + 1 + 3 + 1 + 3 + 1 + 1 + 3 + 1 + 1 + 3 + 1 + 1 + 1 + 1 + 1 + 1 + 82 ≤ 1029076 from by omega), (show slots + 6 + 6 + 6 + 6 + 6 + 6 + 6 + 6 + 6 + 6 + 6 + 6 + 6 + 6 + 6 + 6 + 6 + 6 + 6 + 18 + 6 + 18 + 6 + 6 + 18 + 6 + 6 + 18 + 6 + 6 + 6 + 6 + 6 + 6 + 1056 ≤ 6003061 from by omega)⟩ (fun r u H locs hp hP hD hS => ?_)
  have hP : kp g u H := hP
  have hD : kd A u := hD
  obtain ⟨hr, hO⟩ := hp
  subst hr
  generalize kLine (X4_line_w kE21.1 kE21.2 0) = ln at hO
  refine lv_if_eq (tgt := 438) hx hb dL_law_403 (by decide) (fun z => absurd z (by decide)) (fun z => ?_)
  refine lv_aload_n hx hb dL_law_406 rfl (lv_at hl 2 rfl) ?_
  refine lv_iconst (v := 0) hx hb dL_law_407 (by decide) ?_
  refine lv_iconst (v := 1) hx hb dL_law_408 (by decide) ?_
  refine kL_SW (As := [.ref oF, .int 0, .int 1]) (rest := []) (wr := []) K kX0_s (L_pays_c l hfl g oF F kE21 kE0 h R T ln _ hO 0 1) hN kX0_fr (vx_cwSW 3 hts (k_gS kw818 cs_L_pays) rfl rfl rfl pnL_pays ⟨Nat.le_of_ble_eq_true rfl, Nat.le_of_ble_eq_true rfl⟩) hE hS hA hP hD rfl hl.1 rfl rfl dL_law_409 ⟨(show cells + 1 + 1 + 1 + 1 + 1 + 1 + 1 + 1 + 1 + 1 + 1 + 1 + 1 + 1 + 1 + 1 + 1 + 1 + 1 + 3 + 1 + 3 + 1 + 1 + 3 + 1 + 1 + 3 + 1 + 1 + 1 + 1 + 1 + 1 + 82 + 2 ≤ 1029076 from by omega), (show slots + 6 + 6 + 6 + 6 + 6 + 6 + 6 + 6 + 6 + 6 + 6 + 6 + 6 + 6 + 6 + 6 + 6 + 6 + 6 + 18 + 6 + 18 + 6 + 6 + 18 + 6 + 6 + 18 + 6 + 6 + 6 + 6 + 6 + 6 + 1056 + 12 ≤ 6003061 from by omega)⟩ (fun r u H locs hp hP hD hS => ?_)
  have hP : kp g u H := hP
  have hD : kd A u := hD
  obtain ⟨hr, hO⟩ := hp
  have hr : r = 5 := hr.trans eq_pays
  subst hr
  refine lv_iconst (v := 5) hx hb dL_law_412 (by decide) ?_
  refine lv_icmp_ne (tgt := 438) hx hb dL_law_413 (by decide) (fun z => absurd z (fun y => y rfl)) (fun z => ?_)
  refine lv_aload_n hx hb dL_law_416 rfl (lv_at hl 2 rfl) ?_
  refine lv_iconst (v := 0) hx hb dL_law_417 (by decide) ?_
  refine kL_SW (As := [.ref oF, .int 0]) (rest := []) (wr := []) K kX0_s (L_sell_c l hfl g oF F kE21 kE0 h R T ln _ hO 0) hN kX0_fr (vx_cwSW 2 hts (k_gS kw670 cs_L_sell) rfl rfl rfl pnL_sell ⟨Nat.le_of_ble_eq_true rfl, Nat.le_of_ble_eq_true rfl⟩) hE hS hA hP hD rfl hl.1 rfl rfl dL_law_418 ⟨(show cells + 1 + 1 + 1 + 1 + 1 + 1 + 1 + 1 + 1 + 1 + 1 + 1 + 1 + 1 + 1 + 1 + 1 + 1 + 1 + 3 + 1 + 3 + 1 + 1 + 3 + 1 + 1 + 3 + 1 + 1 + 1 + 1 + 1 + 1 + 82 + 2 + 1 ≤ 1029076 from by omega), (show slots + 6 + 6 + 6 + 6 + 6 + 6 + 6 + 6 + 6 + 6 + 6 + 6 + 6 + 6 + 6 + 6 + 6 + 6 + 6 + 18 + 6 + 18 + 6 + 6 + 18 + 6 + 6 + 18 + 6 + 6 + 6 + 6 + 6 + 6 + 1056 + 12 + 6 ≤ 6003061 from by omega)⟩ (fun r u H locs hp hP hD hS => ?_)
  have hP : kp g u H := hP
  have hD : kd A u := hD
  obtain ⟨hr, h, R, u, hh1, hO, hP, hD⟩ := e_ch ea_22 es_22 rfl hp hP hD
  subst hr
  have hh : h.length = 8 := by omega
  refine lv_sipush (v := 169) hx hb dL_law_421 (by decide) ?_
  refine lv_icmp_ne (tgt := 438) hx hb dL_law_424 (by decide) (fun z => absurd z (fun y => y rfl)) (fun z => ?_)
  refine lv_aload_n hx hb dL_law_427 rfl (lv_at hl 2 rfl) ?_
  refine lv_iconst (v := 2) hx hb dL_law_428 (by decide) ?_
  refine kL_SW (As := [.ref oF, .int 2]) (rest := []) (wr := []) K kX0_s (L_account_c l hfl g oF F kE22 kE0 h R T ln _ hO 2) hN kX0_fr (vx_cwSW 2 hts (k_gS kw961 cs_L_account) rfl rfl rfl pnL_account ⟨Nat.le_of_ble_eq_true rfl, Nat.le_of_ble_eq_true rfl⟩) hE hS hA hP hD rfl hl.1 rfl rfl dL_law_429 ⟨(show cells + 1 + 1 + 1 + 1 + 1 + 1 + 1 + 1 + 1 + 1 + 1 + 1 + 1 + 1 + 1 + 1 + 1 + 1 + 1 + 3 + 1 + 3 + 1 + 1 + 3 + 1 + 1 + 3 + 1 + 1 + 1 + 1 + 1 + 1 + 82 + 2 + 1 + 1 ≤ 1029076 from by omega), (show slots + 6 + 6 + 6 + 6 + 6 + 6 + 6 + 6 + 6 + 6 + 6 + 6 + 6 + 6 + 6 + 6 + 6 + 6 + 6 + 18 + 6 + 18 + 6 + 6 + 18 + 6 + 6 + 18 + 6 + 6 + 6 + 6 + 6 + 6 + 1056 + 12 + 6 + 6 ≤ 6003061 from by omega)⟩ (fun r u H locs hp hP hD hS => ?_)
  have hP : kp g u H := hP
  have hD : kd A u := hD
  obtain ⟨hr, hO⟩ := hp
  have hr : r = 189 := hr.trans (ec_2 _ _)
  subst hr
  refine lv_sipush (v := 189) hx hb dL_law_432 (by decide) ?_
  refine lv_icmp_eq (tgt := 440) hx hb dL_law_435 (by decide) (fun z => ?_) (fun z => absurd rfl z)
  refine lv_iconst (v := 0) hx hb dL_law_440 (by decide) ?_
  refine lv_istore_n (lv' := [(2, .int 0), (0, .ref b), (1, .ref oF)]) hx hb dL_law_441 rfl hl (by decide) rfl (fun ls hl => ?_)
  obtain ⟨u, hO, hP, hD⟩ := kOb_cg hO hP hD kEw_0 rfl
  exact law_w l hfl hAe K hE hN hA hX hL hAO hF 159 0 (cells + 1 + 1 + 1 + 1 + 1 + 1 + 1 + 1 + 1 + 1 + 1 + 1 + 1 + 1 + 1 + 1 + 1 + 1 + 1 + 3 + 1 + 3 + 1 + 1 + 3 + 1 + 1 + 3 + 1 + 1 + 1 + 1 + 1 + 1 + 82 + 2 + 1 + 1) (slots + 6 + 6 + 6 + 6 + 6 + 6 + 6 + 6 + 6 + 6 + 6 + 6 + 6 + 6 + 6 + 6 + 6 + 6 + 6 + 18 + 6 + 18 + 6 + 6 + 18 + 6 + 6 + 18 + 6 + 6 + 6 + 6 + 6 + 6 + 1056 + 12 + 6 + 6) _ _ _ _ _ _ rfl (by omega) (by omega) hh hO hP hD hS (lv_sub hl [0, 1, 2] rfl)
set_option maxHeartbeats 1000000 in
set_option maxRecDepth 100000 in
theorem law_a (l : Launch) (hfl : l.stackTraces = false) {p : Program} {e : Env} {s : State} {m : MethodId} {below : List Frame} {meth : Method} {c : Code} {b L : Nat} {xs : Nat → Int32} {g : kG} {A : Nat → Prop} (hAe : A = kAh s) (K : kC p c code s m #[Value.ref b] meth RL g 11 ret) (hE : kE g A s s.heap) (hN : kNc s) (hA : ∀ q, s.heap.size ≤ q → A q) (hX : kScr b L xs A s s.heap) (hL : L ≤ 260) (hAO : va_AO "SpiceScale$Caravan" s) {oF : Nat} {F : Nat → Int32} {h : List kK} {R : Nat → Int32} {T : kK} {ln : kTx} {u : List va_W} {H : Heap} {locs : List Loc} {ls : Array Slot} {cells slots : Nat} (hO : kOb g oF F kE1 kE0 h R T ln u) (hF : F 2 ≠ 0) (hh : h.length = 1) (hT : T.1 1 = 60) (hT0 : T.2 0 0 = 65) (hP : kp g u H) (hD : kd A u) (hS : va_S A s.heap H locs) (hl : lv_has ls 11 [(0, .ref b), (1, .ref oF)]) (hc : cells + 24010 ≤ 1029076) (hs : slots + 280467 ≤ 6003061) : W p l e room_1 s m #[Value.ref b] below meth c H locs cells slots (lw_Z below #[Value.ref b] s) (F0 m 87 ls []) := by
  have hx := K.1.1
  have hb := K.1.2.1
  have hts := K.1.2.2.2.2
  refine lv_aload_n hx hb dL_law_87 rfl (lv_at hl 1 rfl) ?_
  refine lv_bipush (v := 110) hx hb dL_law_88 (by decide) ?_
  refine kL_SW (As := [.ref oF, .int 110]) (rest := []) (wr := []) K kX0_s (L_append_c l hfl g oF F kE1 kE0 h R T ln _ hO 110) hN kX0_fr (vx_cwSW 2 hts (k_gS kw841 cs_L_append) rfl rfl rfl pnL_append ⟨Nat.le_of_ble_eq_true rfl, Nat.le_of_ble_eq_true rfl⟩) hE hS hA hP hD rfl hl.1 rfl rfl dL_law_90 ⟨(show cells + 1 ≤ 1029076 from by omega), (show slots + 6 ≤ 6003061 from by omega)⟩ (fun r u H locs hp hP hD hS => ?_)
  have hP : kp g u H := hP
  have hD : kd A u := hD
  obtain ⟨hr, hO⟩ := hp
  have hr : r = -1001 := hr.trans (et_full hT 110).1
  rw [(et_full hT 110).2] at hO
  subst hr
  refine lv_sipush (v := (-1001)) hx hb dL_law_93 (by decide) ?_
  refine lv_icmp_ne (tgt := 136) hx hb dL_law_96 (by decide) (fun z => absurd z (fun y => y rfl)) (fun z => ?_)
  refine lv_aload_n hx hb dL_law_99 rfl (lv_at hl 1 rfl) ?_
  refine lv_bipush (v := 15) hx hb dL_law_100 (by decide) ?_
  refine kL_SW (As := [.ref oF, .int 15]) (rest := []) (wr := []) K kX0_s (L_account_c l hfl g oF F kE1 kE0 h R T ln _ hO 15) hN kX0_fr (vx_cwSW 2 hts (k_gS kw961 cs_L_account) rfl rfl rfl pnL_account ⟨Nat.le_of_ble_eq_true rfl, Nat.le_of_ble_eq_true rfl⟩) hE hS hA hP hD rfl hl.1 rfl rfl dL_law_102 ⟨(show cells + 1 + 1 ≤ 1029076 from by omega), (show slots + 6 + 6 ≤ 6003061 from by omega)⟩ (fun r u H locs hp hP hD hS => ?_)
  have hP : kp g u H := hP
  have hD : kd A u := hD
  obtain ⟨hr, hO⟩ := hp
  have hr : r = 60 := hr.trans ((ec_15 _ _).trans hT)
  subst hr
  refine lv_bipush (v := 60) hx hb dL_law_105 (by decide) ?_
  refine lv_icmp_ne (tgt := 136) hx hb dL_law_107 (by decide) (fun z => absurd z (fun y => y rfl)) (fun z => ?_)
  refine lv_aload_n hx hb dL_law_110 rfl (lv_at hl 1 rfl) ?_
  refine kL_SW (As := [.ref oF]) (rest := []) (wr := []) K kX0_s (L_commands_c l hfl g oF F kE1 kE0 h R T ln _ hO ) hN kX0_fr (vx_cwSW 1 hts (k_gS kw865 cs_L_commands) rfl rfl rfl pnL_commands ⟨Nat.le_of_ble_eq_true rfl, Nat.le_of_ble_eq_true rfl⟩) hE hS hA hP hD rfl hl.1 rfl rfl dL_law_111 ⟨(show cells + 1 + 1 + 1 ≤ 1029076 from by omega), (show slots + 6 + 6 + 6 ≤ 6003061 from by omega)⟩ (fun r u H locs hp hP hD hS => ?_)
  have hP : kp g u H := hP
  have hD : kd A u := hD
  obtain ⟨hr, F1, T, hF1, hF6, hT, hO⟩ := et_cmd hT hT0 hp
  subst hr
  have hF : F1 2 ≠ 0 := by rw [hF1]; exact hF
  refine lv_sipush (v := (-1001)) hx hb dL_law_114 (by decide) ?_
  refine lv_icmp_ne (tgt := 136) hx hb dL_law_117 (by decide) (fun z => absurd z (fun y => y rfl)) (fun z => ?_)
  refine lv_aload_n hx hb dL_law_120 rfl (lv_at hl 1 rfl) ?_
  obtain ⟨oC, oS, oH, oR, oT, oB, rC, rS, rH, rR, rT, oQ, rQ, vH, aH, q9, n9, ml9, f9, rfl, hb1, hb2, hb3⟩ := hO
  have hO : kOb g oF F1 kE1 kE0 h R T ln _ := ⟨oC, oS, oH, oR, oT, oB, rC, rS, rH, rR, rT, oQ, rQ, vH, aH, q9, n9, ml9, f9, rfl, hb1, hb2, hb3⟩
  refine kR_V (As := []) (rest := []) K (X4_faultPosition_c l g oF F1 oC oS oH oR oT oB) (cwV 0 hts (k_gV kw326 ca_X4_faultPosition) rfl rfl rfl ⟨rfl, pnX4_faultPosition⟩ ⟨Nat.le_of_ble_eq_true rfl, Nat.le_of_ble_eq_true rfl⟩) hE hS (hP.pick [0] rfl) (k_recv K kFX4 hP (i := 0) (q := 0) rfl rfl) rfl hl.1 rfl rfl dL_law_121 ⟨(show cells + 1 + 1 + 1 + 0 ≤ 1029076 from by omega), (show slots + 6 + 6 + 6 + 0 ≤ 6003061 from by omega)⟩ ?_
  refine k_top (0) (hF6) ?_
  refine lv_if_ne (tgt := 136) hx hb dL_law_124 (by decide) (fun z => absurd z (fun y => y rfl)) (fun z => ?_)
  refine lv_aload_n hx hb dL_law_127 rfl (lv_at hl 1 rfl) ?_
  refine lv_bipush (v := 15) hx hb dL_law_128 (by decide) ?_
  refine kL_SW (As := [.ref oF, .int 15]) (rest := []) (wr := []) K kX0_s (L_account_c l hfl g oF F1 kE1 kE0 h R T ln _ hO 15) hN kX0_fr (vx_cwSW 2 hts (k_gS kw961 cs_L_account) rfl rfl rfl pnL_account ⟨Nat.le_of_ble_eq_true rfl, Nat.le_of_ble_eq_true rfl⟩) hE hS hA hP hD rfl hl.1 rfl rfl dL_law_130 ⟨(show cells + 1 + 1 + 1 + 1 ≤ 1029076 from by omega), (show slots + 6 + 6 + 6 + 6 ≤ 6003061 from by omega)⟩ (fun r u H locs hp hP hD hS => ?_)
  have hP : kp g u H := hP
  have hD : kd A u := hD
  obtain ⟨hr, hO⟩ := hp
  have hr : r = 0 := hr.trans ((ec_15 _ _).trans hT)
  subst hr
  refine lv_if_eq (tgt := 138) hx hb dL_law_133 (by decide) (fun z => ?_) (fun z => absurd rfl z)
  exact law_b l hfl hAe K hE hN hA hX hL hAO hO hF hh hP hD hS (lv_sub hl [0, 1] rfl) (by omega) (by omega)
theorem et_nar (k : Nat) (h : k < 60) : ((nI (65 + k)).toUInt32 % 65536).toInt32 = nI (65 + k) := (by decide +kernel : ∀ k, k < 60 → ((nI (65 + k)).toUInt32 % 65536).toInt32 = nI (65 + k)) k h
set_option maxHeartbeats 1000000 in
set_option maxRecDepth 100000 in
theorem law_t (l : Launch) (hfl : l.stackTraces = false) {p : Program} {e : Env} {s : State} {m : MethodId} {below : List Frame} {meth : Method} {c : Code} {b L : Nat} {xs : Nat → Int32} {g : kG} {A : Nat → Prop} (hAe : A = kAh s) (K : kC p c code s m #[Value.ref b] meth RL g 11 ret) (hE : kE g A s s.heap) (hN : kNc s) (hA : ∀ q, s.heap.size ≤ q → A q) (hX : kScr b L xs A s s.heap) (hL : L ≤ 260) (hAO : va_AO "SpiceScale$Caravan" s) {oF : Nat} {F : Nat → Int32} {h : List kK} {R : Nat → Int32} {T0 : kK} {ln : kTx} (hF : F 2 ≠ 0) (hh : h.length = 1) (hT0 : T0.1 1 = 0) : ∀ (q k cells slots : Nat) (u : List va_W) (H : Heap) (locs : List Loc) (ls : Array Slot), k + q = 60 → cells + 1 * q + 24010 ≤ 1029076 → slots + 6 * q + 280467 ≤ 6003061 → kOb g oF F kE1 kE0 h R (kEt T0 k) ln u → kp g u H → kd A u → va_S A s.heap H locs → lv_has ls 11 [(2, .int (nI k)), (0, .ref b), (1, .ref oF)] → W p l e room_1 s m #[Value.ref b] below meth c H locs cells slots (lw_Z below #[Value.ref b] s) (F0 m 58 ls []) := by
  have hx := K.1.1
  have hb := K.1.2.1
  have hts := K.1.2.2.2.2
  intro q
  induction q with
  | zero =>
    intro k cells slots u H locs ls hk hc hs hO hP hD hS hl
    obtain rfl : k = 60 := by omega
    refine lv_iload_n hx hb dL_law_58 rfl (lv_at hl 0 rfl) ?_
    refine lv_bipush (v := 60) hx hb dL_law_59 (by decide) ?_
    refine lv_icmp_ge (tgt := 87) hx hb dL_law_61 (by decide) (fun z => ?_) (fun z => absurd (Int32.le_refl 60) z)
    have f1 : (kEt T0 60).1 1 = nI 60 := kEt_len hT0 60 (by omega)
    have f2 := kEt_c0 hT0 59 (by omega)
    rw [show 59 + 1 = 60 from rfl] at f2
    generalize kEt T0 60 = T6 at hO f1 f2
    exact law_a l hfl hAe K hE hN hA hX hL hAO hO hF hh f1 f2 hP hD hS (lv_sub hl [1, 2] rfl) (by omega) (by omega)
  | succ q IH =>
    intro k cells slots u H locs ls hk hc hs hO hP hD hS hl
    refine lv_iload_n hx hb dL_law_58 rfl (lv_at hl 0 rfl) ?_
    refine lv_bipush (v := 60) hx hb dL_law_59 (by decide) ?_
    refine lv_icmp_ge (tgt := 87) hx hb dL_law_61 (by decide) (fun z => absurd z (nI_ge (a := k) (b := 60) (by omega) (by omega))) (fun z => ?_)
    refine lv_aload_n hx hb dL_law_64 rfl (lv_at hl 2 rfl) ?_
    refine lv_bipush (v := 65) hx hb dL_law_65 (by decide) ?_
    refine lv_iload_n hx hb dL_law_67 rfl (lv_at hl 0 rfl) ?_
    refine lv_iadd hx hb dL_law_68 ?_
    refine k_top (nI (65 + k)) (nI_add 65 k) ?_
    refine lv_i2c (v := nI (65 + k)) hx hb dL_law_69 (et_nar k (by omega)) ?_
    refine kL_SW (As := [.ref oF, .int (nI (65 + k))]) (rest := []) (wr := []) K kX0_s (L_append_c l hfl g oF F kE1 kE0 h R (kEt T0 k) ln _ hO (nI (65 + k))) hN kX0_fr (vx_cwSW 2 hts (k_gS kw841 cs_L_append) rfl rfl rfl pnL_append ⟨Nat.le_of_ble_eq_true rfl, Nat.le_of_ble_eq_true rfl⟩) hE hS hA hP hD rfl hl.1 rfl rfl dL_law_70 ⟨(show cells + 1 ≤ 1029076 from by omega), (show slots + 6 ≤ 6003061 from by omega)⟩ (fun r u H locs hp hP hD hS => ?_)
    have hP : kp g u H := hP
    have hD : kd A u := hD
    obtain ⟨hr, hO⟩ := hp
    have hat := kApp_at (T := kEt T0 k) (i := k) (by omega) (kEt_len hT0 k (by omega)) (nI (65 + k))
    have hr : r = nI (k + 1) := hr.trans (kA1_of hat.1 hat.2.1)
    subst hr
    refine lv_iload_n hx hb dL_law_73 rfl (lv_at hl 0 rfl) ?_
    refine lv_iconst (v := 1) hx hb dL_law_74 (by decide) ?_
    refine lv_iadd hx hb dL_law_75 ?_
    refine k_top (nI (k + 1)) (nI_1 k) ?_
    refine lv_icmp_eq (tgt := 81) hx hb dL_law_76 (by decide) (fun z => ?_) (fun z => absurd rfl z)
    refine lv_iinc (v := nI (k + 1)) (lv' := [(2, .int (nI (k + 1))), (0, .ref b), (1, .ref oF)]) hx hb dL_law_81 hl (k := 0) rfl (nI_1 k) (by decide) rfl (fun ls hl => ?_)
    refine lv_goto (tgt := 58) hx hb dL_law_84 (by decide) ?_
    exact IH (k + 1) (cells + 1) (slots + 6) _ _ _ _ (by omega) (by omega) (by omega) hO hP hD hS (lv_sub hl [0, 1, 2] rfl)
set_option maxHeartbeats 1000000 in
set_option maxRecDepth 100000 in
theorem law_s (l : Launch) (hfl : l.stackTraces = false) {p : Program} {e : Env} {s : State} {m : MethodId} {below : List Frame} {meth : Method} {c : Code} {b L : Nat} {xs : Nat → Int32} {g : kG} {A : Nat → Prop} (hAe : A = kAh s) (K : kC p c code s m #[Value.ref b] meth RL g 11 ret) (hE : kE g A s s.heap) (hN : kNc s) (hA : ∀ q, s.heap.size ≤ q → A q) (hX : kScr b L xs A s s.heap) (hL : L ≤ 260) (hAO : va_AO "SpiceScale$Caravan" s) {oF : Nat} {F : Nat → Int32} {h : List kK} {R : Nat → Int32} {T : kK} {ln : kTx} {u : List va_W} {H : Heap} {locs : List Loc} {ls : Array Slot} {cells slots : Nat} (hO : kOb g oF F kE0 kE0 h R T ln u) (hF : F 2 = 0) (hh : h = []) (hT : T.1 1 = 0) (hP : kp g u H) (hD : kd A u) (hS : va_S A s.heap H locs) (hl : lv_has ls 11 [(0, .ref b), (1, .ref oF)]) (hc : cells + 24074 ≤ 1029076) (hs : slots + 280851 ≤ 6003061) : W p l e room_1 s m #[Value.ref b] below meth c H locs cells slots (lw_Z below #[Value.ref b] s) (F0 m 8 ls []) := by
  have hx := K.1.1
  have hb := K.1.2.1
  have hts := K.1.2.2.2.2
  refine lv_aload_n hx hb dL_law_8 rfl (lv_at hl 1 rfl) ?_
  refine kL_SW (As := [.ref oF]) (rest := []) (wr := []) K kX0_s (L_undo_c l hfl g oF F kE0 kE0 h R T ln _ hO ) hN kX0_fr (vx_cwSW 1 hts (k_gS kw974 cs_L_undo) rfl rfl rfl pnL_undo ⟨Nat.le_of_ble_eq_true rfl, Nat.le_of_ble_eq_true rfl⟩) hE hS hA hP hD rfl hl.1 rfl rfl dL_law_9 ⟨(show cells + 1 ≤ 1029076 from by omega), (show slots + 6 ≤ 6003061 from by omega)⟩ (fun r u H locs hp hP hD hS => ?_)
  have hP : kp g u H := hP
  have hD : kd A u := hD
  obtain ⟨-, hr, hO⟩ | ⟨c0, t0, hx0, -⟩ := hp
  case inr => rw [hh] at hx0; cases hx0
  subst hr
  refine lv_sipush (v := (-1001)) hx hb dL_law_12 (by decide) ?_
  refine lv_icmp_ne (tgt := 54) hx hb dL_law_15 (by decide) (fun z => absurd z (fun y => y rfl)) (fun z => ?_)
  refine lv_aload_n hx hb dL_law_18 rfl (lv_at hl 1 rfl) ?_
  refine kL_SW (As := [.ref oF]) (rest := []) (wr := []) K kX0_s (L_restore_c l hfl g oF F kE0 kE0 h R T ln _ hO ) hN kX0_fr (vx_cwSW 1 hts (k_gS kw986 cs_L_restore) rfl rfl rfl pnL_restore ⟨Nat.le_of_ble_eq_true rfl, Nat.le_of_ble_eq_true rfl⟩) hE hS hA hP hD rfl hl.1 rfl rfl dL_law_19 ⟨(show cells + 1 + 1 ≤ 1029076 from by omega), (show slots + 6 + 6 ≤ 6003061 from by omega)⟩ (fun r u H locs hp hP hD hS => ?_)
  have hP : kp g u H := hP
  have hD : kd A u := hD
  obtain ⟨-, hr, hO⟩ | ⟨hF0, -⟩ := hp
  case inr => exact absurd hF hF0
  subst hr
  refine lv_sipush (v := (-1001)) hx hb dL_law_22 (by decide) ?_
  refine lv_icmp_ne (tgt := 54) hx hb dL_law_25 (by decide) (fun z => absurd z (fun y => y rfl)) (fun z => ?_)
  refine lv_aload_n hx hb dL_law_28 rfl (lv_at hl 1 rfl) ?_
  obtain ⟨oC, oS, oH, oR, oT, oB, rC, rS, rH, rR, rT, oQ, rQ, vH, aH, q9, n9, ml9, f9, rfl, hb1, hb2, hb3⟩ := hO
  refine kM_V (As := []) (rest := []) (wr := [X2W g oH rH vH oQ rQ aH, X3W g oR rR R kA0, X1W g oT rT T.1 T.2, JOW oB q9 ml9 (nI ln.2), JAW g q9 n9 f9]) K (X4_save_c l g oF F oH oR oT oB oC rC kE0.1 kE0.2 oS rS kE0.1 kE0.2) (cwV 0 hts (k_gV kw330 ca_X4_save) rfl rfl rfl ⟨rfl, pnX4_save⟩ ⟨Nat.le_of_ble_eq_true rfl, Nat.le_of_ble_eq_true rfl⟩) hE hS hA hP hD [0, 1, 2] [3, 4, 5, 6, 7] rfl rfl ⟨rfl, rfl, by decide⟩ (k_recv K kFX4 hP (i := 0) (q := 0) rfl rfl) rfl hl.1 rfl rfl dL_law_29 ⟨(show cells + 1 + 1 + 0 ≤ 1029076 from by omega), (show slots + 6 + 6 + 0 ≤ 6003061 from by omega)⟩ (fun r u H locs hp hP hD hS => ?_)
  obtain ⟨hr, rfl⟩ := hp
  have hO := kOb_save (g := g) (oF := oF) (F := F) (C := kE0) (S := kE0) (h := h) (R := R) (T := T) (ln := ln) (oC := oC) (oS := oS) (oH := oH) (oR := oR) (oT := oT) (oB := oB) (rC := rC) (rS := rS) (rH := rH) (rR := rR) (rT := rT) (oQ := oQ) (rQ := rQ) (vH := vH) (aH := aH) (q := q9) (ml := ml9) hb1 hb2 hb3
  have hP : kp g [X4W g oF (kFr oC oS oH oR oT oB) (X4_save_f F kE0.1 kE0.2 kE0.1 kE0.2).2.1, X0W g oC rC kE0.1 kE0.2, X0W g oS rS (X4_save_f F kE0.1 kE0.2 kE0.1 kE0.2).2.2.1 (X4_save_f F kE0.1 kE0.2 kE0.1 kE0.2).2.2.2, X2W g oH rH vH oQ rQ aH, X3W g oR rR R kA0, X1W g oT rT T.1 T.2, JOW oB q9 ml9 (nI ln.2), JAW g q9 n9 f9] H := hP.pick [5, 6, 7, 0, 1, 2, 3, 4] rfl
  have hD : kd A [X4W g oF (kFr oC oS oH oR oT oB) (X4_save_f F kE0.1 kE0.2 kE0.1 kE0.2).2.1, X0W g oC rC kE0.1 kE0.2, X0W g oS rS (X4_save_f F kE0.1 kE0.2 kE0.1 kE0.2).2.2.1 (X4_save_f F kE0.1 kE0.2 kE0.1 kE0.2).2.2.2, X2W g oH rH vH oQ rQ aH, X3W g oR rR R kA0, X1W g oT rT T.1 T.2, JOW oB q9 ml9 (nI ln.2), JAW g q9 n9 f9] := hD.pick [5, 6, 7, 0, 1, 2, 3, 4] rfl rfl
  generalize hu : [X4W g oF (kFr oC oS oH oR oT oB) (X4_save_f F kE0.1 kE0.2 kE0.1 kE0.2).2.1, X0W g oC rC kE0.1 kE0.2, X0W g oS rS (X4_save_f F kE0.1 kE0.2 kE0.1 kE0.2).2.2.1 (X4_save_f F kE0.1 kE0.2 kE0.1 kE0.2).2.2.2, X2W g oH rH vH oQ rQ aH, X3W g oR rR R kA0, X1W g oT rT T.1 T.2, JOW oB q9 ml9 (nI ln.2), JAW g q9 n9 f9] = u at hO hP hD
  clear hu
  have hr : r = kE0.1 0 := hr
  subst hr
  refine k_top (0) (rfl) ?_
  refine lv_if_ne (tgt := 54) hx hb dL_law_32 (by decide) (fun z => absurd z (fun y => y rfl)) (fun z => ?_)
  have hh : h.length = 0 := by rw [hh]; rfl
  refine lv_aload_n hx hb dL_law_35 rfl (lv_at hl 1 rfl) ?_
  refine lv_bipush (v := 60) hx hb dL_law_36 (by decide) ?_
  refine kL_SW (As := [.ref oF, .int 60]) (rest := []) (wr := []) K kX0_s (L_days_c l hfl g oF (upd F 2 1) kE0 kE0 h R T ln _ hO 60) hN kX0_fr (vx_cwSW 2 hts (k_gS kw698 cs_L_days) rfl rfl rfl pnL_days ⟨Nat.le_of_ble_eq_true rfl, Nat.le_of_ble_eq_true rfl⟩) hE hS hA hP hD rfl hl.1 rfl rfl dL_law_38 ⟨(show cells + 1 + 1 + 1 ≤ 1029076 from by omega), (show slots + 6 + 6 + 6 ≤ 6003061 from by omega)⟩ (fun r u H locs hp hP hD hS => ?_)
  have hP : kp g u H := hP
  have hD : kd A u := hD
  obtain ⟨hr, h, R, u, hh1, hO, hP, hD⟩ := e_ch ea_1 es_1 rfl hp hP hD
  subst hr
  have hh : h.length = 1 := by omega
  refine lv_if_ne (tgt := 54) hx hb dL_law_41 (by decide) (fun z => absurd z (fun y => y rfl)) (fun z => ?_)
  refine lv_aload_n hx hb dL_law_44 rfl (lv_at hl 1 rfl) ?_
  refine lv_iconst (v := 0) hx hb dL_law_45 (by decide) ?_
  refine kL_SW (As := [.ref oF, .int 0]) (rest := []) (wr := []) K kX0_s (L_account_c l hfl g oF (upd F 2 1) kE1 kE0 h R T ln _ hO 0) hN kX0_fr (vx_cwSW 2 hts (k_gS kw961 cs_L_account) rfl rfl rfl pnL_account ⟨Nat.le_of_ble_eq_true rfl, Nat.le_of_ble_eq_true rfl⟩) hE hS hA hP hD rfl hl.1 rfl rfl dL_law_46 ⟨(show cells + 1 + 1 + 1 + 1 ≤ 1029076 from by omega), (show slots + 6 + 6 + 6 + 6 ≤ 6003061 from by omega)⟩ (fun r u H locs hp hP hD hS => ?_)
  have hP : kp g u H := hP
  have hD : kd A u := hD
  obtain ⟨hr, hO⟩ := hp
  have hr : r = 60 := hr.trans (ec_0 _ _)
  subst hr
  refine lv_bipush (v := 60) hx hb dL_law_49 (by decide) ?_
  refine lv_icmp_eq (tgt := 56) hx hb dL_law_51 (by decide) (fun z => ?_) (fun z => absurd rfl z)
  refine lv_iconst (v := 0) hx hb dL_law_56 (by decide) ?_
  refine lv_istore_n (lv' := [(2, .int 0), (0, .ref b), (1, .ref oF)]) hx hb dL_law_57 rfl hl (by decide) rfl (fun ls hl => ?_)
  exact law_t l hfl hAe K hE hN hA hX hL hAO (F := upd F 2 1) (T0 := T) (by show (1 : Int32) ≠ 0; decide) hh hT 60 0 (cells + 1 + 1 + 1 + 1) (slots + 6 + 6 + 6 + 6) _ _ _ _ rfl (by omega) (by omega) hO hP hD hS (lv_sub hl [0, 1, 2] rfl)
set_option maxHeartbeats 1000000 in
set_option maxRecDepth 100000 in
theorem law_0 (l : Launch) (hfl : l.stackTraces = false) {p : Program} {e : Env} {s : State} {m : MethodId} {below : List Frame} {meth : Method} {c : Code} {b L : Nat} {xs : Nat → Int32} {g : kG} {A : Nat → Prop} (hAe : A = kAh s) (K : kC p c code s m #[Value.ref b] meth RL g 11 ret) (hE : kE g A s s.heap) (hN : kNc s) (hA : ∀ q, s.heap.size ≤ q → A q) (hX : kScr b L xs A s s.heap) (hL : L ≤ 260) (hAO : va_AO "SpiceScale$Caravan" s) {ls : Array Slot} (hl : lv_has ls 11 [(0, .ref b)]) : W p l e room_1 s m #[Value.ref b] below meth c s.heap [] 0 0 (lw_Z below #[Value.ref b] s) (F0 m 0 ls []) := by
  have hx := K.1.1
  have hb := K.1.2.1
  have hts := K.1.2.2.2.2
  have hP0 : kp g [] s.heap := kp_iff.mpr (fun ch hch => absurd hch List.not_mem_nil)
  have hD0 : kd A [] := kd_w.mpr ⟨List.Pairwise.nil, fun q hq => absurd hq List.not_mem_nil⟩
  have hS : va_S A s.heap s.heap [] := va_S.rf
  refine kg_new K kFX4 (fs := [.null, .null, .int 0, .null, .null, .null, .int 0, .null]) kw99 kw100 kw69 hP0 hD0 hS hA (fun j hj => by match j, hj with | 0, _ => rfl | 1, _ => rfl | 2, _ => rfl | 3, _ => rfl | 4, _ => rfl | 5, _ => rfl | 6, _ => rfl | 7, _ => rfl | n + 8, h => exact absurd h (by omega)) (show 0 + 1 ≤ 1029076 from by omega) (show 0 + 8 ≤ 6003061 from by omega) dL_law_0 (fun oN H hP hD hS => ?_)
  have hP : kp g [[(oN, .inr (8, [.null, .null, .int 0, .null, .null, .null, .int 0, .null]))]] H := hP
  have hD : kd A [[(oN, .inr (8, [.null, .null, .int 0, .null, .null, .null, .int 0, .null]))]] := hD
  refine lv_dup hx hb dL_law_3 rfl ?_
  refine kVO_I (As := []) (rest := [.ref oN]) (wr := []) K (X4_init_c l g oN) hAO ⟨callB_of 0 hts (k_gI kw103) rfl rfl rfl (hts _ kw69) (hts _ kw101) pnX4_init ⟨Nat.le_of_ble_eq_true rfl, Nat.le_of_ble_eq_true rfl⟩, rfl, hts _ kw102⟩ hE hS hA hP hD [0] [] rfl rfl ⟨rfl, rfl, by decide⟩ rfl hl.1 rfl rfl dL_law_4 ⟨Nat.le_of_ble_eq_true rfl, Nat.le_of_ble_eq_true rfl⟩ (fun u H locs hp hP hD hS => ?_)
  have hP : kp g u H := hP
  have hD : kd A u := hD
  have hO := kOb_init hp
  refine lv_astore_n (lv' := [(1, .ref oN), (0, .ref b)]) hx hb dL_law_7 rfl hl (by decide) rfl (fun ls hl => ?_)
  exact law_s l hfl hAe K hE hN hA hX hL hAO (oF := oN) (F := X4i_v) (h := []) (R := fun _ => 0) (T := (fun _ => 0, fun _ _ => 0)) (ln := (fun _ => 0, 0)) hO rfl rfl rfl hP hD hS (lv_sub hl [1, 0] rfl) (by omega) (by omega)
