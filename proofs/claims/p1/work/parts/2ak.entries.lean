theorem wi_X5_isOrder_RX5 : ∀ w ∈ u_ws RX5 TX5 10, w ∈ wsX5_isOrder := by decide +kernel

theorem wd205_X5_isOrder : (.fieldLink RX5 10 "Canticle" "ledger" "LCanticle$Ledger;" : Cond) ∈ wsX5_isOrder := by decide +kernel

theorem wi_X5_isOrder_RX0 : ∀ w ∈ u_ws RX0 TX0 4, w ∈ wsX5_isOrder := by decide +kernel

theorem wd206_X5_isOrder : (.fieldLink RX5 83 "Canticle$Ledger" "order" "I" : Cond) ∈ wsX5_isOrder := by decide +kernel

set_option maxHeartbeats 4000000 in
set_option maxRecDepth 100000 in
theorem k_X5_isOrder_0 (l : Launch) (D : va_G) (κ ε : Nat → Nat) (h0 h1 h2 h3 h4 h5 h6 h7 h8 : Nat) (p0 : Int32) (p1 : Int32) (p2 : Int32) (p3 : Int32) : Met l yX5_isOrder wsX5_isOrder ({ frames := 0, cells := 0, slots := 0, locals := 0 }) (va_Pc [.ref h0, .int 1] (Pre0 D κ [(h0, .inr (7, [.ref h1, .ref h2, .ref h3, .ref h4, .ref h5, .ref h6, .int p0, .int p1, .int p2, .int 0])), (h1, .inr (2, [.int p3, .int 2, .ref h7, .ref h8]))])) (vp_Si (fun r => (r = 1))) 0 0 (fun _ => False) := by
  refine Met.ofW (cc := cX5_isOrder) (maxL := 2) (ret := (some .boolean)) (by decide) rfl ?_
  intro p e s m args below meth c s₁ B hml hv
  obtain ⟨rfl, hP, hK⟩ := hv
  have hx := B.exec
  have hb := B.bytes
  have hr := B.returns
  have hts := atoms_spec (ws := wsX5_isOrder) B.pre
  have hown : s.vm.findClass RX5 = some m.cls := findClass_of_methodNamed B.named
  have hlocks := B.notSynchronized
  have hP : va_P D vwCl [(h0, .inr (7, [.ref h1, .ref h2, .ref h3, .ref h4, .ref h5, .ref h6, .int p0, .int p1, .int p2, .int 0])), (h1, .inr (2, [.int p3, .int 2, .ref h7, .ref h8]))] s.heap := hP
  have hl := lv_entry [.ref h0, .int 1] (n := 2) (Nat.le_of_ble_eq_true rfl)
  rw [lg_entry_eq]
  generalize (lg_sl [.ref h0, .int 1] ++ List.replicate (2 - (lg_sl [.ref h0, .int 1]).length) Slot.unset).toArray = ls at hl ⊢
  have hl : lv_has ls 2 [(0, .ref h0), (1, .int 1)] := hl
  refine lv_iload_n hx hb dX5_isOrder_0 rfl (lv_at hl 1 rfl) ?_
  refine lv_iconst (v := 1) hx hb dX5_isOrder_1 (by decide) ?_
  refine lv_icmp_lt (tgt := 20) hx hb dX5_isOrder_2 (by decide) (fun h => absurd h (by decide)) (fun _ => ?_)
  refine lv_iload_n hx hb dX5_isOrder_5 rfl (lv_at hl 1 rfl) ?_
  refine lv_aload_n hx hb dX5_isOrder_6 rfl (lv_at hl 0 rfl) ?_
  refine va_get (D := D) (ci := 7) (v := .ref h1) (C := RX5) (T := TX5) (N := 10) hx hb hts wi_X5_isOrder_RX5 hown hK hP 0 rfl rfl 0 (by decide) (hts _ wd205_X5_isOrder) (fun _ h9 => h9) rfl dX5_isOrder_7 ?_
  refine va_get (D := D) (ci := 2) (v := .int 2) (C := RX0) (T := TX0) (N := 4) hx hb hts wi_X5_isOrder_RX0 hown hK hP 1 rfl rfl 1 (by decide) (hts _ wd206_X5_isOrder) (fun _ h9 => h9) rfl dX5_isOrder_10 ?_
  refine lv_icmp_gt (tgt := 20) hx hb dX5_isOrder_13 (by decide) (fun h => absurd h (by decide)) (fun _ => ?_)
  refine lv_iconst (v := 1) hx hb dX5_isOrder_16 (by decide) ?_
  refine lv_goto (tgt := 21) hx hb dX5_isOrder_17 (by decide) ?_
  exact W.zret (v := 1) hx hb hr rfl (fun t ht hW => ⟨1, rfl, rfl, ht⟩) (fun q hq => absurd hq List.not_mem_nil) dX5_isOrder_21

theorem wi_X5_entries_RX5 : ∀ w ∈ u_ws RX5 TX5 10, w ∈ wsX5_entries := by decide +kernel

theorem wd207_X5_entries : (.fieldLink RX5 10 "Canticle" "ledger" "LCanticle$Ledger;" : Cond) ∈ wsX5_entries := by decide +kernel

theorem wi_X5_entries_RX4 : ∀ w ∈ u_ws RX4 TX4 3, w ∈ wsX5_entries := by decide +kernel

theorem wd208_X5_entries : (.fieldLink RX5 135 "Canticle$Tally" "size" "I" : Cond) ∈ wsX5_entries := by decide +kernel

set_option maxHeartbeats 4000000 in
set_option maxRecDepth 100000 in
theorem k_X5_entries_0 (l : Launch) (D : va_G) (κ ε : Nat → Nat) (h0 h1 h2 h3 h4 h5 h6 h7 h8 h9 h10 h11 h12 h13 h14 : Nat) (sz : Nat) : Met l yX5_entries wsX5_entries ({ frames := 2, cells := 0, slots := 0, locals := 39 }) (va_Pc [.ref h0, .int 1] (Pre2 D κ ε [(h0, .inr (7, [.ref h1, .ref h2, .ref h3, .ref h4, .ref h5, .ref h6, .int 0, .int 0, .int 0, .int 0])), (h1, .inr (2, [.int 0, .int 2, .ref h7, .ref h8])), (h7, .inl (κ 3, 4, .inr (.inr (.inr (.inr (sel [h9, h10, h11, h12])))))), (h9, .inr (6, [.ref h13, .ref h14, .int 0]))] sz)) (va_Qi (fun r (u : Unit) => (r = 0)) (fun _ _ => True) (va_A [(h0, .inr (7, [.ref h1, .ref h2, .ref h3, .ref h4, .ref h5, .ref h6, .int 0, .int 0, .int 0, .int 0])), (h1, .inr (2, [.int 0, .int 2, .ref h7, .ref h8])), (h7, .inl (κ 3, 4, .inr (.inr (.inr (.inr (sel [h9, h10, h11, h12])))))), (h9, .inr (6, [.ref h13, .ref h14, .int 0]))] sz)) 0 0 (va_A [(h0, .inr (7, [.ref h1, .ref h2, .ref h3, .ref h4, .ref h5, .ref h6, .int 0, .int 0, .int 0, .int 0])), (h1, .inr (2, [.int 0, .int 2, .ref h7, .ref h8])), (h7, .inl (κ 3, 4, .inr (.inr (.inr (.inr (sel [h9, h10, h11, h12])))))), (h9, .inr (6, [.ref h13, .ref h14, .int 0]))] sz) := by
  refine Met.ofW (cc := cX5_entries) (maxL := 2) (ret := (some .int)) (by decide) rfl ?_
  intro p e s m args below meth c s₁ B hml hv
  obtain ⟨rfl, hsz, hP, hK, hD0, hE9⟩ := hv
  have hx := B.exec
  have hb := B.bytes
  have hr := B.returns
  have hts := atoms_spec (ws := wsX5_entries) B.pre
  have hown : s.vm.findClass RX5 = some m.cls := findClass_of_methodNamed B.named
  have hlocks := B.notSynchronized
  subst hsz
  have hD := hD0.self (sz := s.heap.size)
  generalize hAe : va_A [(h0, .inr (7, [.ref h1, .ref h2, .ref h3, .ref h4, .ref h5, .ref h6, .int 0, .int 0, .int 0, .int 0])), (h1, .inr (2, [.int 0, .int 2, .ref h7, .ref h8])), (h7, .inl (κ 3, 4, .inr (.inr (.inr (.inr (sel [h9, h10, h11, h12])))))), (h9, .inr (6, [.ref h13, .ref h14, .int 0]))] s.heap.size = A at hD hE9 ⊢
  have hE := hE9.1
  have hDc := hE9.2
  have hA : ∀ q : Nat, s.heap.size ≤ q → A q := fun q h => by rw [← hAe]; exact Or.inr h
  have hS : va_S A s.heap s.heap [] := va_S.rf
  have hP : va_P D vwCl [(h0, .inr (7, [.ref h1, .ref h2, .ref h3, .ref h4, .ref h5, .ref h6, .int 0, .int 0, .int 0, .int 0])), (h1, .inr (2, [.int 0, .int 2, .ref h7, .ref h8])), (h7, .inl (κ 3, 4, .inr (.inr (.inr (.inr (sel [h9, h10, h11, h12])))))), (h9, .inr (6, [.ref h13, .ref h14, .int 0]))] s.heap := hP
  have hl := lv_entry [.ref h0, .int 1] (n := 2) (Nat.le_of_ble_eq_true rfl)
  rw [lg_entry_eq]
  generalize (lg_sl [.ref h0, .int 1] ++ List.replicate (2 - (lg_sl [.ref h0, .int 1]).length) Slot.unset).toArray = ls at hl ⊢
  have hl : lv_has ls 2 [(0, .ref h0), (1, .int 1)] := hl
  refine lv_aload_n hx hb dX5_entries_0 rfl (lv_at hl 0 rfl) ?_
  refine lv_iload_n hx hb dX5_entries_1 rfl (lv_at hl 1 rfl) ?_
  refine vp_callSi (W.runV (As := [.int 1]) (rest := []) ⟨hx, hb, hml, hown, hts⟩ (k_X5_isOrder_0 l D κ ε h0 h1 h2 h3 h4 h5 h6 h7 h8 (0) (0) (0) (0)) (cwV 1 hts gX5_entries_X5_isOrder rfl rfl rfl (by decide +kernel) ⟨(Nat.le_of_ble_eq_true rfl), (Nat.le_of_ble_eq_true rfl)⟩) (pre0_V (q0 := 0) (ci := 7) (wc := [(h0, .inr (7, [.ref h1, .ref h2, .ref h3, .ref h4, .ref h5, .ref h6, .int 0, .int 0, .int 0, .int 0])), (h1, .inr (2, [.int 0, .int 2, .ref h7, .ref h8]))]) hP hK [0, 1] rfl rfl rfl) rfl rfl hl.1 rfl (lv_room (Nat.le_of_ble_eq_true rfl)) dX5_entries_2 ⟨(Nat.le_of_ble_eq_true rfl), (Nat.le_of_ble_eq_true rfl)⟩) (fun r hw => ?_)
  rw [hw]
  refine lv_if_ne (tgt := 18) hx hb dX5_entries_5 (by decide) (fun _ => ?_) (fun h => absurd h (by decide))
  refine lv_aload_n hx hb dX5_entries_18 rfl (lv_at hl 0 rfl) ?_
  refine va_get (D := D) (ci := 7) (v := .ref h1) (C := RX5) (T := TX5) (N := 10) hx hb hts wi_X5_entries_RX5 hown hK hP 0 rfl rfl 0 (by decide) (hts _ wd207_X5_entries) (fun _ h9 => h9) rfl dX5_entries_19 ?_
  refine lv_iload_n hx hb dX5_entries_22 rfl (lv_at hl 1 rfl) ?_
  refine va_csr (W.runV (As := [.int 1]) (rest := []) ⟨hx, hb, hml, hown, hts⟩ (k_X0_countsOf_0 l D κ ε h1 h7 h8 h9 h10 h11 h12 (0) (2)) (cwV 1 hts gX5_entries_X0_countsOf rfl rfl rfl (by decide +kernel) ⟨(Nat.le_of_ble_eq_true rfl), (Nat.le_of_ble_eq_true rfl)⟩) (pre0_V (q0 := 1) (ci := 2) (wc := [(h1, .inr (2, [.int 0, .int 2, .ref h7, .ref h8])), (h7, .inl (κ 3, 4, .inr (.inr (.inr (.inr (sel [h9, h10, h11, h12]))))))]) hP hK [1, 2] rfl rfl rfl) rfl rfl hl.1 rfl (lv_room (Nat.le_of_ble_eq_true rfl)) dX5_entries_23 ⟨(Nat.le_of_ble_eq_true rfl), (Nat.le_of_ble_eq_true rfl)⟩) (fun r hw => ?_)
  rw [hw]
  refine va_get (D := D) (ci := 6) (v := .int 0) (C := RX4) (T := TX4) (N := 3) hx hb hts wi_X5_entries_RX4 hown hK hP 3 rfl rfl 2 (by decide) (hts _ wd208_X5_entries) (fun _ h9 => h9) rfl dX5_entries_26 ?_
  exact W.iret (v := 0) hx hb hr (fun t ht hW => ⟨⟨0, (), rfl, rfl, trivial⟩, hS.F ht⟩) hS.2.2 dX5_entries_29

set_option maxHeartbeats 4000000 in
set_option maxRecDepth 100000 in
theorem k_L_entries_0 (l : Launch) (hst : l.stackTraces = false) (D : va_G) (κ ε : Nat → Nat) (h0 h1 h2 h3 h4 h5 h6 h7 h8 h9 h10 h11 h12 h13 h14 h15 : Nat) (sz : Nat) : Met l yL_entries wsL_entries ({ frames := 3, cells := 0, slots := 0, locals := 60 }) (va_Pc [.ref h0, .int 1, .ref h1] (Pre2 D κ ε [(h0, .inr (7, [.ref h2, .ref h3, .ref h4, .ref h5, .ref h6, .ref h7, .int 0, .int 0, .int 0, .int 0])), (h1, .inl (κ 2, 1, .inr (.inl (fun _ => 0)))), (h2, .inr (2, [.int 0, .int 2, .ref h8, .ref h9])), (h8, .inl (κ 3, 4, .inr (.inr (.inr (.inr (sel [h10, h11, h12, h13])))))), (h10, .inr (6, [.ref h14, .ref h15, .int 0]))] sz)) (va_Qi (fun r (u : Nat → Int64) => (u 0 = 0) ∧ (r = 0)) (fun u t => va_P D vwCl [(h1, .inl (κ 2, 1, .inr (.inl u)))] t.heap ∧ va_D (va_A [(h0, .inr (7, [.ref h2, .ref h3, .ref h4, .ref h5, .ref h6, .ref h7, .int 0, .int 0, .int 0, .int 0])), (h1, .inl (κ 2, 1, .inr (.inl (fun _ => 0)))), (h2, .inr (2, [.int 0, .int 2, .ref h8, .ref h9])), (h8, .inl (κ 3, 4, .inr (.inr (.inr (.inr (sel [h10, h11, h12, h13])))))), (h10, .inr (6, [.ref h14, .ref h15, .int 0]))] sz) [(h1, .inl (κ 2, 1, .inr (.inl u)))]) (va_A [(h0, .inr (7, [.ref h2, .ref h3, .ref h4, .ref h5, .ref h6, .ref h7, .int 0, .int 0, .int 0, .int 0])), (h1, .inl (κ 2, 1, .inr (.inl (fun _ => 0)))), (h2, .inr (2, [.int 0, .int 2, .ref h8, .ref h9])), (h8, .inl (κ 3, 4, .inr (.inr (.inr (.inr (sel [h10, h11, h12, h13])))))), (h10, .inr (6, [.ref h14, .ref h15, .int 0]))] sz)) 0 0 (va_A [(h0, .inr (7, [.ref h2, .ref h3, .ref h4, .ref h5, .ref h6, .ref h7, .int 0, .int 0, .int 0, .int 0])), (h1, .inl (κ 2, 1, .inr (.inl (fun _ => 0)))), (h2, .inr (2, [.int 0, .int 2, .ref h8, .ref h9])), (h8, .inl (κ 3, 4, .inr (.inr (.inr (.inr (sel [h10, h11, h12, h13])))))), (h10, .inr (6, [.ref h14, .ref h15, .int 0]))] sz) := by
  refine va_MetW (cc := cL_entries) (maxL := 4) (ret := (some .int)) (hh := [(0, 9, 12, 19)]) (by decide) rfl ?_
  intro p e s m args below meth c s₁ B hml hv
  obtain ⟨rfl, hsz, hP, hK, hD0, hE9⟩ := hv
  have hx := B.exec
  have hb := B.bytes
  have hr := B.returns
  have hts := atoms_spec (ws := wsL_entries) B.pre
  have hown : s.vm.findClass RL = some m.cls := findClass_of_methodNamed B.named
  have hlocks := B.notSynchronized
  have htab : c.exceptionTable.toList = tableOf [(0, 9, 12, 19)] := vx_table (x := yL_entries) B (hts (.codeWith yL_entries cL_entries 4 (some .int) [(0, 9, 12, 19)]) List.mem_cons_self)
  subst hsz
  have hD := hD0.self (sz := s.heap.size)
  generalize hAe : va_A [(h0, .inr (7, [.ref h2, .ref h3, .ref h4, .ref h5, .ref h6, .ref h7, .int 0, .int 0, .int 0, .int 0])), (h1, .inl (κ 2, 1, .inr (.inl (fun _ => 0)))), (h2, .inr (2, [.int 0, .int 2, .ref h8, .ref h9])), (h8, .inl (κ 3, 4, .inr (.inr (.inr (.inr (sel [h10, h11, h12, h13])))))), (h10, .inr (6, [.ref h14, .ref h15, .int 0]))] s.heap.size = A at hD hE9 ⊢
  have hE := hE9.1
  have hDc := hE9.2
  have hA : ∀ q : Nat, s.heap.size ≤ q → A q := fun q h => by rw [← hAe]; exact Or.inr h
  have hS : va_S A s.heap s.heap [] := va_S.rf
  have hP : va_P D vwCl [(h0, .inr (7, [.ref h2, .ref h3, .ref h4, .ref h5, .ref h6, .ref h7, .int 0, .int 0, .int 0, .int 0])), (h1, .inl (κ 2, 1, .inr (.inl (fun _ => 0)))), (h2, .inr (2, [.int 0, .int 2, .ref h8, .ref h9])), (h8, .inl (κ 3, 4, .inr (.inr (.inr (.inr (sel [h10, h11, h12, h13])))))), (h10, .inr (6, [.ref h14, .ref h15, .int 0]))] s.heap := hP
  have hl := lv_entry [.ref h0, .int 1, .ref h1] (n := 4) (Nat.le_of_ble_eq_true rfl)
  rw [lg_entry_eq]
  generalize (lg_sl [.ref h0, .int 1, .ref h1] ++ List.replicate (4 - (lg_sl [.ref h0, .int 1, .ref h1]).length) Slot.unset).toArray = ls at hl ⊢
  have hl : lv_has ls 4 [(0, .ref h0), (1, .int 1), (2, .ref h1)] := hl
  refine lv_aload_n hx hb dL_entries_0 rfl (lv_at hl 2 rfl) ?_
  refine lv_iconst (v := 0) hx hb dL_entries_1 (by decide) ?_
  refine lv_aload_n hx hb dL_entries_2 rfl (lv_at hl 0 rfl) ?_
  refine lv_iload_n hx hb dL_entries_3 rfl (lv_at hl 1 rfl) ?_
  have hF := va_free (wc := [(h0, .inr (7, [.ref h2, .ref h3, .ref h4, .ref h5, .ref h6, .ref h7, .int 0, .int 0, .int 0, .int 0])), (h2, .inr (2, [.int 0, .int 2, .ref h8, .ref h9])), (h8, .inl (κ 3, 4, .inr (.inr (.inr (.inr (sel [h10, h11, h12, h13])))))), (h10, .inr (6, [.ref h14, .ref h15, .int 0]))]) hD hS hA [0, 2, 3, 4] rfl
  refine va_calli (va_runV (As := [.int 1]) (rest := [.int 0, .ref h1]) ⟨hx, hb, hml, hown, hts⟩ (k_X5_entries_0 l D κ ε h0 h2 h3 h4 h5 h6 h7 h8 h9 h10 h11 h12 h13 h14 h15 s.heap.size) (cwV 1 hts gL_entries_X5_entries rfl rfl rfl (by decide +kernel) ⟨(Nat.le_of_ble_eq_true rfl), (Nat.le_of_ble_eq_true rfl)⟩) (pre2_V (q0 := 0) (ci := 7) (wc := [(h0, .inr (7, [.ref h2, .ref h3, .ref h4, .ref h5, .ref h6, .ref h7, .int 0, .int 0, .int 0, .int 0])), (h2, .inr (2, [.int 0, .int 2, .ref h8, .ref h9])), (h8, .inl (κ 3, 4, .inr (.inr (.inr (.inr (sel [h10, h11, h12, h13])))))), (h10, .inr (6, [.ref h14, .ref h15, .int 0]))]) hP hD hK hE9 hS hA [0, 2, 3, 4] (by decide) rfl rfl rfl) rfl rfl hl.1 rfl (lv_room (Nat.le_of_ble_eq_true rfl)) dL_entries_4 ⟨(Nat.le_of_ble_eq_true rfl), (Nat.le_of_ble_eq_true rfl)⟩) hS (fun q _ h => hF q h) hF (fun r u1 t H locs ht hvm hw hB hz1 hk1 hS => ?_)
  try dsimp only at hw hB
  have hP1 : va_P D vwCl [] H := P_nil
  obtain ⟨hP, hD⟩ := post_j (ws' := [(h1, .inl (κ 2, 1, .inr (.inl (fun _ => 0))))]) (wr := [(h1, .inl (κ 2, 1, .inr (.inl (fun _ => 0))))]) (w1 := []) hP hD hF [0, 2, 3, 4] rfl [1] rfl (by decide) (by decide) hk1 hP1 D_nil [0] (by decide) rfl
  have hP : va_P D vwCl [(h1, .inl (κ 2, 1, .inr (.inl (fun _ => 0))))] H := hP
  have hD : va_D A [(h1, .inl (κ 2, 1, .inr (.inl (fun _ => 0))))] := hD
  rw [hw]
  refine lv_i2l (v := 0) hx hb dL_entries_7 (by decide) ?_
  refine va_last (cA := κ 2) (n := 1) (f := (fun _ => 0)) hx hb hK hP hD hS 0 2 rfl rfl (vpl (by decide)) dL_entries_8 (fun H locs hP hD hS => ?_)
  have hP : va_P D vwCl [(h1, .inl (κ 2, 1, .inr (.inl (vp_updL (fun _ => 0) 0 0))))] H := hP
  have hD : va_D A [(h1, .inl (κ 2, 1, .inr (.inl (vp_updL (fun _ => 0) 0 0))))] := hD
  refine lv_goto (tgt := 15) hx hb dL_entries_9 (by decide) ?_
  refine lv_iconst (v := 0) hx hb dL_entries_15 (by decide) ?_
  have hP9 := hP.sub (ws' := [(h1, .inl (κ 2, 1, .inr (.inl (vp_updL (fun _ => 0) 0 0))))]) [0] rfl
  have hD9 := hD.sub (ws' := [(h1, .inl (κ 2, 1, .inr (.inl (vp_updL (fun _ => 0) 0 0))))]) [0] (by decide) rfl
  exact W.iret (v := 0) hx hb hr (fun t ht hW => ⟨⟨0, (vp_updL (fun _ => 0) 0 0), rfl, ⟨rfl, rfl⟩, by rw [ht]; exact hP9, hD9⟩, hS.F ht⟩) hS.2.2 dL_entries_16

set_option maxHeartbeats 4000000 in
set_option maxRecDepth 100000 in
theorem k_X6_isIn_8 (l : Launch) (D : va_G) (κ ε : Nat → Nat) : Met l yX6_isIn wsX6_isIn ({ frames := 0, cells := 0, slots := 0, locals := 0 }) (va_Pc [.int 1, .int 1, .int 2] (Pre0 D κ [])) (vp_Si (fun r => (r = 1))) 0 0 (fun _ => False) := by
  refine Met.ofW (cc := cX6_isIn) (maxL := 3) (ret := (some .boolean)) (by decide) rfl ?_
  intro p e s m args below meth c s₁ B hml hv
  obtain ⟨rfl, hP, hK⟩ := hv
  have hx := B.exec
  have hb := B.bytes
  have hr := B.returns
  have hts := atoms_spec (ws := wsX6_isIn) B.pre
  have hown : s.vm.findClass RX6 = some m.cls := findClass_of_methodNamed B.named
  have hlocks := B.notSynchronized
  have hP : va_P D vwCl [] s.heap := hP
  have hl := lv_entry [.int 1, .int 1, .int 2] (n := 3) (Nat.le_of_ble_eq_true rfl)
  rw [lg_entry_eq]
  generalize (lg_sl [.int 1, .int 1, .int 2] ++ List.replicate (3 - (lg_sl [.int 1, .int 1, .int 2]).length) Slot.unset).toArray = ls at hl ⊢
  have hl : lv_has ls 3 [(0, .int 1), (1, .int 1), (2, .int 2)] := hl
  refine lv_iload_n hx hb dX6_isIn_0 rfl (lv_at hl 0 rfl) ?_
  refine lv_iload_n hx hb dX6_isIn_1 rfl (lv_at hl 1 rfl) ?_
  refine lv_icmp_lt (tgt := 14) hx hb dX6_isIn_2 (by decide) (fun h => absurd h (by decide)) (fun _ => ?_)
  refine lv_iload_n hx hb dX6_isIn_5 rfl (lv_at hl 0 rfl) ?_
  refine lv_iload_n hx hb dX6_isIn_6 rfl (lv_at hl 2 rfl) ?_
  refine lv_icmp_gt (tgt := 14) hx hb dX6_isIn_7 (by decide) (fun h => absurd h (by decide)) (fun _ => ?_)
  refine lv_iconst (v := 1) hx hb dX6_isIn_10 (by decide) ?_
  refine lv_goto (tgt := 15) hx hb dX6_isIn_11 (by decide) ?_
  exact W.zret (v := 1) hx hb hr rfl (fun t ht hW => ⟨1, rfl, rfl, ht⟩) (fun q hq => absurd hq List.not_mem_nil) dX6_isIn_15

theorem wi_X6_isNoOrder_RX6 : ∀ w ∈ u_ws RX6 TX6 11, w ∈ wsX6_isNoOrder := by decide +kernel

theorem wd209_X6_isNoOrder : (.fieldLink RX6 7 "CanticleModel" "order" "I" : Cond) ∈ wsX6_isNoOrder := by decide +kernel

set_option maxHeartbeats 4000000 in
set_option maxRecDepth 100000 in
theorem k_X6_isNoOrder_0 (l : Launch) (D : va_G) (κ ε : Nat → Nat) (h0 h1 h2 h3 : Nat) (sz : Nat) (p0 : Int32) (p1 : Int32) (p2 : Int32) (p3 : Int32) (p4 : Int32) : Met l yX6_isNoOrder wsX6_isNoOrder ({ frames := 2, cells := 0, slots := 0, locals := 44 }) (va_Pc [.ref h0, .int 1, .int 1] (Pre2 D κ ε [(h0, .inr (8, [.int 0, .int p0, .int 2, .ref h1, .ref h2, .int p1, .int p2, .int p3, .int p4, .int 0, .ref h3]))] sz)) (va_Qi (fun r (u : Unit) => (r = 0)) (fun u t => va_P D vwCl [(h0, .inr (8, [.int 0, .int p0, .int 2, .ref h1, .ref h2, .int p1, .int p2, .int p3, .int p4, .int 0, .ref h3]))] t.heap ∧ va_D (va_A [(h0, .inr (8, [.int 0, .int p0, .int 2, .ref h1, .ref h2, .int p1, .int p2, .int p3, .int p4, .int 0, .ref h3]))] sz) [(h0, .inr (8, [.int 0, .int p0, .int 2, .ref h1, .ref h2, .int p1, .int p2, .int p3, .int p4, .int 0, .ref h3]))]) (va_A [(h0, .inr (8, [.int 0, .int p0, .int 2, .ref h1, .ref h2, .int p1, .int p2, .int p3, .int p4, .int 0, .ref h3]))] sz)) 0 0 (va_A [(h0, .inr (8, [.int 0, .int p0, .int 2, .ref h1, .ref h2, .int p1, .int p2, .int p3, .int p4, .int 0, .ref h3]))] sz) := by
  refine Met.ofW (cc := cX6_isNoOrder) (maxL := 3) (ret := (some .boolean)) (by decide) rfl ?_
  intro p e s m args below meth c s₁ B hml hv
  obtain ⟨rfl, hsz, hP, hK, hD0, hE9⟩ := hv
  have hx := B.exec
  have hb := B.bytes
  have hr := B.returns
  have hts := atoms_spec (ws := wsX6_isNoOrder) B.pre
  have hown : s.vm.findClass RX6 = some m.cls := findClass_of_methodNamed B.named
  have hlocks := B.notSynchronized
  subst hsz
  have hD := hD0.self (sz := s.heap.size)
  generalize hAe : va_A [(h0, .inr (8, [.int 0, .int p0, .int 2, .ref h1, .ref h2, .int p1, .int p2, .int p3, .int p4, .int 0, .ref h3]))] s.heap.size = A at hD hE9 ⊢
  have hE := hE9.1
  have hDc := hE9.2
  have hA : ∀ q : Nat, s.heap.size ≤ q → A q := fun q h => by rw [← hAe]; exact Or.inr h
  have hS : va_S A s.heap s.heap [] := va_S.rf
  have hP : va_P D vwCl [(h0, .inr (8, [.int 0, .int p0, .int 2, .ref h1, .ref h2, .int p1, .int p2, .int p3, .int p4, .int 0, .ref h3]))] s.heap := hP
  have hl := lv_entry [.ref h0, .int 1, .int 1] (n := 3) (Nat.le_of_ble_eq_true rfl)
  rw [lg_entry_eq]
  generalize (lg_sl [.ref h0, .int 1, .int 1] ++ List.replicate (3 - (lg_sl [.ref h0, .int 1, .int 1]).length) Slot.unset).toArray = ls at hl ⊢
  have hl : lv_has ls 3 [(0, .ref h0), (1, .int 1), (2, .int 1)] := hl
  refine lv_aload_n hx hb dX6_isNoOrder_0 rfl (lv_at hl 0 rfl) ?_
  refine lv_iload_n hx hb dX6_isNoOrder_1 rfl (lv_at hl 1 rfl) ?_
  refine lv_iload_n hx hb dX6_isNoOrder_2 rfl (lv_at hl 2 rfl) ?_
  refine lv_aload_n hx hb dX6_isNoOrder_3 rfl (lv_at hl 0 rfl) ?_
  refine va_get (D := D) (ci := 8) (v := .int 2) (C := RX6) (T := TX6) (N := 11) hx hb hts wi_X6_isNoOrder_RX6 hown hK hP 0 rfl rfl 2 (by decide) (hts _ wd209_X6_isNoOrder) (fun _ h9 => h9) rfl dX6_isNoOrder_4 ?_
  refine vp_callSi (W.runS (As := [.int 1, .int 1, .int 2]) (rest := [.ref h0]) ⟨hx, hb, hml, hown, hts⟩ (k_X6_isIn_8 l D κ ε) (va_cwS 3 hts gX6_isNoOrder_X6_isIn rfl rfl rfl (by decide +kernel) ⟨(Nat.le_of_ble_eq_true rfl), (Nat.le_of_ble_eq_true rfl)⟩) (pre0_S (wc := []) hP hK [] rfl) rfl rfl hl.1 rfl (lv_room (Nat.le_of_ble_eq_true rfl)) dX6_isNoOrder_7 ⟨(Nat.le_of_ble_eq_true rfl), (Nat.le_of_ble_eq_true rfl)⟩) (fun r hw => ?_)
  rw [hw]
  refine lv_if_ne (tgt := 17) hx hb dX6_isNoOrder_10 (by decide) (fun _ => ?_) (fun h => absurd h (by decide))
  refine lv_iconst (v := 0) hx hb dX6_isNoOrder_17 (by decide) ?_
  refine lv_iconst (v := 1) hx hb dX6_isNoOrder_18 (by decide) ?_
  have hF := va_free (wc := [(h0, .inr (8, [.int 0, .int p0, .int 2, .ref h1, .ref h2, .int p1, .int p2, .int p3, .int p4, .int 0, .ref h3]))]) hD hS hA [0] rfl
  refine va_calli (va_runV (As := [.int 0, .int 1]) (rest := []) ⟨hx, hb, hml, hown, hts⟩ (k_X6_start_0 l D κ ε h0 h1 h2 h3 s.heap.size (p0) (2) (p1) (p2) (p3) (p4)) (cwV 2 hts gX6_isNoOrder_X6_start rfl rfl rfl (by decide +kernel) ⟨(Nat.le_of_ble_eq_true rfl), (Nat.le_of_ble_eq_true rfl)⟩) (pre2_V (q0 := 0) (ci := 8) (wc := [(h0, .inr (8, [.int 0, .int p0, .int 2, .ref h1, .ref h2, .int p1, .int p2, .int p3, .int p4, .int 0, .ref h3]))]) hP hD hK hE9 hS hA [0] (by decide) rfl rfl rfl) rfl rfl hl.1 rfl (lv_room (Nat.le_of_ble_eq_true rfl)) dX6_isNoOrder_19 ⟨(Nat.le_of_ble_eq_true rfl), (Nat.le_of_ble_eq_true rfl)⟩) hS (fun q _ h => hF q h) hF (fun r u1 t H locs ht hvm hw hB hz1 hk1 hS => ?_)
  try dsimp only at hw hB
  obtain ⟨hP1, hD1⟩ := hB
  rw [ht] at hP1
  obtain ⟨hP, hD⟩ := post_j (ws' := [(h0, .inr (8, [.int 0, .int p0, .int 2, .ref h1, .ref h2, .int p1, .int p2, .int p3, .int p4, .int 0, .ref h3]))]) (wr := []) (w1 := [(h0, .inr (8, [.int 0, .int p0, .int 2, .ref h1, .ref h2, .int p1, .int p2, .int p3, .int p4, .int 0, .ref h3]))]) hP hD hF [0] rfl [] rfl (by decide) (by decide) hk1 hP1 hD1 [0] (by decide) rfl
  have hP : va_P D vwCl [(h0, .inr (8, [.int 0, .int p0, .int 2, .ref h1, .ref h2, .int p1, .int p2, .int p3, .int p4, .int 0, .ref h3]))] H := hP
  have hD : va_D A [(h0, .inr (8, [.int 0, .int p0, .int 2, .ref h1, .ref h2, .int p1, .int p2, .int p3, .int p4, .int 0, .ref h3]))] := hD
  rw [hw]
  have hP9 := hP
  have hD9 := hD
  exact W.zret (v := 0) hx hb hr rfl (fun t ht hW => ⟨⟨0, (), rfl, rfl, by rw [ht]; exact hP9, hD9⟩, hS.F ht⟩) hS.2.2 dX6_isNoOrder_22

set_option maxHeartbeats 4000000 in
set_option maxRecDepth 100000 in
theorem k_X6_many_0 (l : Launch) (D : va_G) (κ ε : Nat → Nat) (h0 : Nat) : Met l yX6_many wsX6_many ({ frames := 0, cells := 0, slots := 0, locals := 0 }) (va_Pc [.ref h0] (Pre0 D κ [(h0, .inl (κ 0, 14, .inl (fun _ => 0)))])) (vp_Si (fun r => (r = 0))) 0 0 (fun _ => False) := by
  refine Met.ofW (cc := cX6_many) (maxL := 3) (ret := (some .int)) (by decide) rfl ?_
  intro p e s m args below meth c s₁ B hml hv
  obtain ⟨rfl, hP, hK⟩ := hv
  have hx := B.exec
  have hb := B.bytes
  have hr := B.returns
  have hts := atoms_spec (ws := wsX6_many) B.pre
  have hown : s.vm.findClass RX6 = some m.cls := findClass_of_methodNamed B.named
  have hlocks := B.notSynchronized
  have hP : va_P D vwCl [(h0, .inl (κ 0, 14, .inl (fun _ => 0)))] s.heap := hP
  have hl := lv_entry [.ref h0] (n := 3) (Nat.le_of_ble_eq_true rfl)
  rw [lg_entry_eq]
  generalize (lg_sl [.ref h0] ++ List.replicate (3 - (lg_sl [.ref h0]).length) Slot.unset).toArray = ls at hl ⊢
  have hl : lv_has ls 3 [(0, .ref h0)] := hl
  refine lv_iconst (v := 0) hx hb dX6_many_0 (by decide) ?_
  refine lv_istore_n (lv' := [(1, .int 0), (0, .ref h0)]) hx hb dX6_many_1 rfl hl (by decide) rfl (fun ls hl => ?_)
  refine lv_iconst (v := 0) hx hb dX6_many_2 (by decide) ?_
  refine lv_istore_n (lv' := [(2, .int 0), (1, .int 0), (0, .ref h0)]) hx hb dX6_many_3 rfl hl (by decide) rfl (fun ls hl => ?_)
  refine loop_up (Wp := fun ls => W p l e _ s m _ below meth c s.heap _ _ _ _ (F0 m 4 ls [])) (N := 14) (lv := fun i => [(0, .ref h0), (1, .int 0), (2, .int (nI i))]) 0 (by decide) ?_ ?_ ls (lv_sub hl [2, 1, 0] rfl)
  · intro ls hl
    have hl : lv_has ls 3 [(0, .ref h0), (1, .int 0), (2, .int 14)] := hl
    refine lv_iload_n hx hb dX6_many_4 rfl (lv_at hl 2 rfl) ?_
    refine lv_aload_n hx hb dX6_many_5 rfl (lv_at hl 0 rfl) ?_
    refine va_alen hx hb hK hP 0 0 rfl rfl (v := 14) (by decide) dX6_many_6 ?_
    refine lv_icmp_ge (tgt := 30) hx hb dX6_many_7 (by decide) (fun _ => ?_) (fun h => absurd (by decide) h)
    refine lv_iload_n hx hb dX6_many_30 rfl (lv_at hl 1 rfl) ?_
    exact W.iret (v := 0) hx hb hr (fun t ht hW => ⟨0, rfl, rfl, ht⟩) (fun q hq => absurd hq List.not_mem_nil) dX6_many_31
  · intro i1 hji1 hii1 ihi1 ls hl
    have hl : lv_has ls 3 [(0, .ref h0), (1, .int 0), (2, .int (nI i1))] := hl
    refine lv_iload_n hx hb dX6_many_4 rfl (lv_at hl 2 rfl) ?_
    refine lv_aload_n hx hb dX6_many_5 rfl (lv_at hl 0 rfl) ?_
    refine va_alen hx hb hK hP 0 0 rfl rfl (v := 14) (by decide) dX6_many_6 ?_
    refine lv_icmp_ge (tgt := 30) hx hb dX6_many_7 (by decide) (fun h => absurd h (lp_nge (N := 14) rfl hii1 (by decide))) (fun _ => ?_)
    refine lv_iload_n hx hb dX6_many_10 rfl (lv_at hl 1 rfl) ?_
    refine lv_aload_n hx hb dX6_many_11 rfl (lv_at hl 0 rfl) ?_
    refine lv_iload_n hx hb dX6_many_12 rfl (lv_at hl 2 rfl) ?_
    refine va_iald (cA := κ 0) (n := 14) (f := (fun _ => 0)) hx hb hK hP 0 0 rfl rfl (vp_in_nI (Nat.lt_of_lt_of_le hii1 (by decide)) (by decide)) dX6_many_13 ?_
    refine tpi (v := 0) rfl ?_
    refine lv_if_le (tgt := 21) hx hb dX6_many_14 (by decide) (fun _ => ?_) (fun h => absurd (by decide) h)
    refine lv_iconst (v := 0) hx hb dX6_many_21 (by decide) ?_
    refine lv_iadd hx hb dX6_many_22 ?_
    refine tpi (v := 0) (by decide) ?_
    refine lv_istore_n (lv' := [(1, .int 0), (0, .ref h0), (2, .int (nI i1))]) hx hb dX6_many_23 rfl hl (by decide) rfl (fun ls hl => ?_)
    refine lv_iinc (v := (nI (i1 + 1))) (lv' := [(2, .int (nI (i1 + 1))), (1, .int 0), (0, .ref h0)]) hx hb dX6_many_24 hl (k := 2) rfl (nI_inc _) (by decide) rfl (fun ls hl => ?_)
    refine lv_goto (tgt := 4) hx hb dX6_many_27 (by decide) ?_
    exact ihi1 _ (lv_sub hl [2, 1, 0] rfl)

theorem wi_X6_entries_RX6 : ∀ w ∈ u_ws RX6 TX6 11, w ∈ wsX6_entries := by decide +kernel

theorem wd210_X6_entries : (.fieldLink RX6 24 "CanticleModel" "counts" "[[I" : Cond) ∈ wsX6_entries := by decide +kernel

set_option maxHeartbeats 4000000 in
set_option maxRecDepth 100000 in
theorem k_X6_entries_0 (l : Launch) (D : va_G) (κ ε : Nat → Nat) (h0 h1 h2 h3 h4 h5 h6 h7 : Nat) (sz : Nat) : Met l yX6_entries wsX6_entries ({ frames := 3, cells := 0, slots := 0, locals := 66 }) (va_Pc [.ref h0, .int 1] (Pre2 D κ ε [(h0, .inr (8, [.int 0, .int 0, .int 2, .ref h1, .ref h2, .int 0, .int 500, .int 0, .int 0, .int 0, .ref h3])), (h2, .inl (κ 4, 4, .inr (.inr (.inr (.inr (sel [h4, h5, h6, h7])))))), (h4, .inl (κ 0, 14, .inl (fun _ => 0)))] sz)) (va_Qi (fun r (u : List Value) => (u[0]? = some (.int 0)) ∧ (r = 0)) (fun u t => va_P D vwCl [(h0, .inr (8, u))] t.heap ∧ va_D (va_A [(h0, .inr (8, [.int 0, .int 0, .int 2, .ref h1, .ref h2, .int 0, .int 500, .int 0, .int 0, .int 0, .ref h3])), (h2, .inl (κ 4, 4, .inr (.inr (.inr (.inr (sel [h4, h5, h6, h7])))))), (h4, .inl (κ 0, 14, .inl (fun _ => 0)))] sz) [(h0, .inr (8, u))]) (va_A [(h0, .inr (8, [.int 0, .int 0, .int 2, .ref h1, .ref h2, .int 0, .int 500, .int 0, .int 0, .int 0, .ref h3])), (h2, .inl (κ 4, 4, .inr (.inr (.inr (.inr (sel [h4, h5, h6, h7])))))), (h4, .inl (κ 0, 14, .inl (fun _ => 0)))] sz)) 0 0 (va_A [(h0, .inr (8, [.int 0, .int 0, .int 2, .ref h1, .ref h2, .int 0, .int 500, .int 0, .int 0, .int 0, .ref h3])), (h2, .inl (κ 4, 4, .inr (.inr (.inr (.inr (sel [h4, h5, h6, h7])))))), (h4, .inl (κ 0, 14, .inl (fun _ => 0)))] sz) := by
  refine Met.ofW (cc := cX6_entries) (maxL := 2) (ret := (some .int)) (by decide) rfl ?_
  intro p e s m args below meth c s₁ B hml hv
  obtain ⟨rfl, hsz, hP, hK, hD0, hE9⟩ := hv
  have hx := B.exec
  have hb := B.bytes
  have hr := B.returns
  have hts := atoms_spec (ws := wsX6_entries) B.pre
  have hown : s.vm.findClass RX6 = some m.cls := findClass_of_methodNamed B.named
  have hlocks := B.notSynchronized
  subst hsz
  have hD := hD0.self (sz := s.heap.size)
  generalize hAe : va_A [(h0, .inr (8, [.int 0, .int 0, .int 2, .ref h1, .ref h2, .int 0, .int 500, .int 0, .int 0, .int 0, .ref h3])), (h2, .inl (κ 4, 4, .inr (.inr (.inr (.inr (sel [h4, h5, h6, h7])))))), (h4, .inl (κ 0, 14, .inl (fun _ => 0)))] s.heap.size = A at hD hE9 ⊢
  have hE := hE9.1
  have hDc := hE9.2
  have hA : ∀ q : Nat, s.heap.size ≤ q → A q := fun q h => by rw [← hAe]; exact Or.inr h
  have hS : va_S A s.heap s.heap [] := va_S.rf
  have hP : va_P D vwCl [(h0, .inr (8, [.int 0, .int 0, .int 2, .ref h1, .ref h2, .int 0, .int 500, .int 0, .int 0, .int 0, .ref h3])), (h2, .inl (κ 4, 4, .inr (.inr (.inr (.inr (sel [h4, h5, h6, h7])))))), (h4, .inl (κ 0, 14, .inl (fun _ => 0)))] s.heap := hP
  have hl := lv_entry [.ref h0, .int 1] (n := 2) (Nat.le_of_ble_eq_true rfl)
  rw [lg_entry_eq]
  generalize (lg_sl [.ref h0, .int 1] ++ List.replicate (2 - (lg_sl [.ref h0, .int 1]).length) Slot.unset).toArray = ls at hl ⊢
  have hl : lv_has ls 2 [(0, .ref h0), (1, .int 1)] := hl
  refine lv_aload_n hx hb dX6_entries_0 rfl (lv_at hl 0 rfl) ?_
  refine lv_iload_n hx hb dX6_entries_1 rfl (lv_at hl 1 rfl) ?_
  refine lv_iconst (v := 1) hx hb dX6_entries_2 (by decide) ?_
  have hF := va_free (wc := [(h0, .inr (8, [.int 0, .int 0, .int 2, .ref h1, .ref h2, .int 0, .int 500, .int 0, .int 0, .int 0, .ref h3]))]) hD hS hA [0] rfl
  refine va_calli (va_runV (As := [.int 1, .int 1]) (rest := []) ⟨hx, hb, hml, hown, hts⟩ (k_X6_isNoOrder_0 l D κ ε h0 h1 h2 h3 s.heap.size (0) (0) (500) (0) (0)) (cwV 2 hts gX6_entries_X6_isNoOrder rfl rfl rfl (by decide +kernel) ⟨(Nat.le_of_ble_eq_true rfl), (Nat.le_of_ble_eq_true rfl)⟩) (pre2_V (q0 := 0) (ci := 8) (wc := [(h0, .inr (8, [.int 0, .int 0, .int 2, .ref h1, .ref h2, .int 0, .int 500, .int 0, .int 0, .int 0, .ref h3]))]) hP hD hK hE9 hS hA [0] (by decide) rfl rfl rfl) rfl rfl hl.1 rfl (lv_room (Nat.le_of_ble_eq_true rfl)) dX6_entries_3 ⟨(Nat.le_of_ble_eq_true rfl), (Nat.le_of_ble_eq_true rfl)⟩) hS (fun q _ h => hF q h) hF (fun r u1 t H locs ht hvm hw hB hz1 hk1 hS => ?_)
  try dsimp only at hw hB
  obtain ⟨hP1, hD1⟩ := hB
  rw [ht] at hP1
  obtain ⟨hP, hD⟩ := post_j (ws' := [(h0, .inr (8, [.int 0, .int 0, .int 2, .ref h1, .ref h2, .int 0, .int 500, .int 0, .int 0, .int 0, .ref h3])), (h2, .inl (κ 4, 4, .inr (.inr (.inr (.inr (sel [h4, h5, h6, h7])))))), (h4, .inl (κ 0, 14, .inl (fun _ => 0)))]) (wr := [(h2, .inl (κ 4, 4, .inr (.inr (.inr (.inr (sel [h4, h5, h6, h7])))))), (h4, .inl (κ 0, 14, .inl (fun _ => 0)))]) (w1 := [(h0, .inr (8, [.int 0, .int 0, .int 2, .ref h1, .ref h2, .int 0, .int 500, .int 0, .int 0, .int 0, .ref h3]))]) hP hD hF [0] rfl [1, 2] rfl (by decide) (by decide) hk1 hP1 hD1 [2, 0, 1] (by decide) rfl
  have hP : va_P D vwCl [(h0, .inr (8, [.int 0, .int 0, .int 2, .ref h1, .ref h2, .int 0, .int 500, .int 0, .int 0, .int 0, .ref h3])), (h2, .inl (κ 4, 4, .inr (.inr (.inr (.inr (sel [h4, h5, h6, h7])))))), (h4, .inl (κ 0, 14, .inl (fun _ => 0)))] H := hP
  have hD : va_D A [(h0, .inr (8, [.int 0, .int 0, .int 2, .ref h1, .ref h2, .int 0, .int 500, .int 0, .int 0, .int 0, .ref h3])), (h2, .inl (κ 4, 4, .inr (.inr (.inr (.inr (sel [h4, h5, h6, h7])))))), (h4, .inl (κ 0, 14, .inl (fun _ => 0)))] := hD
  rw [hw]
  refine lv_if_eq (tgt := 13) hx hb dX6_entries_6 (by decide) (fun _ => ?_) (fun h => absurd (by decide) h)
  refine lv_aload_n hx hb dX6_entries_13 rfl (lv_at hl 0 rfl) ?_
  refine va_get (D := D) (ci := 8) (v := .ref h2) (C := RX6) (T := TX6) (N := 11) hx hb hts wi_X6_entries_RX6 hown hK hP 0 rfl rfl 4 (by decide) (hts _ wd210_X6_entries) (fun _ h9 => h9) rfl dX6_entries_14 ?_
  refine lv_iload_n hx hb dX6_entries_17 rfl (lv_at hl 1 rfl) ?_
  refine lv_iconst (v := 1) hx hb dX6_entries_18 (by decide) ?_
  refine lv_isub hx hb dX6_entries_19 ?_
  refine tpi (v := 0) (by decide) ?_
  refine ya_ld2 hx hb hK hP 1 rfl (vpl (by decide)) (v := .ref h4) rfl dX6_entries_20 ?_
  refine vp_callSi (W.runS (As := [.ref h4]) (rest := []) ⟨hx, hb, hml, hown, hts⟩ (k_X6_many_0 l D κ ε h4) (va_cwS 1 hts gX6_entries_X6_many rfl rfl rfl (by decide +kernel) ⟨(Nat.le_of_ble_eq_true rfl), (Nat.le_of_ble_eq_true rfl)⟩) (pre0_S (wc := [(h4, .inl (κ 0, 14, .inl (fun _ => 0)))]) hP hK [2] rfl) rfl rfl hl.1 rfl (lv_room (Nat.le_of_ble_eq_true rfl)) dX6_entries_21 ⟨(Nat.le_of_ble_eq_true rfl), (Nat.le_of_ble_eq_true rfl)⟩) (fun r hw => ?_)
  rw [hw]
  have hP9 := hP.sub (ws' := [(h0, .inr (8, [.int 0, .int 0, .int 2, .ref h1, .ref h2, .int 0, .int 500, .int 0, .int 0, .int 0, .ref h3]))]) [0] rfl
  have hD9 := hD.sub (ws' := [(h0, .inr (8, [.int 0, .int 0, .int 2, .ref h1, .ref h2, .int 0, .int 500, .int 0, .int 0, .int 0, .ref h3]))]) [0] (by decide) rfl
  exact W.iret (v := 0) hx hb hr (fun t ht hW => ⟨⟨0, [.int 0, .int 0, .int 2, .ref h1, .ref h2, .int 0, .int 500, .int 0, .int 0, .int 0, .ref h3], rfl, ⟨rfl, rfl⟩, by rw [ht]; exact hP9, hD9⟩, hS.F ht⟩) hS.2.2 dX6_entries_24

set_option maxHeartbeats 4000000 in
set_option maxRecDepth 100000 in
theorem k_X5_isOrder_1 (l : Launch) (D : va_G) (κ ε : Nat → Nat) (h0 h1 h2 h3 h4 h5 h6 h7 h8 : Nat) (p0 : Int32) (p1 : Int32) (p2 : Int32) (p3 : Int32) : Met l yX5_isOrder wsX5_isOrder ({ frames := 0, cells := 0, slots := 0, locals := 0 }) (va_Pc [.ref h0, .int 2] (Pre0 D κ [(h0, .inr (7, [.ref h1, .ref h2, .ref h3, .ref h4, .ref h5, .ref h6, .int p0, .int p1, .int p2, .int 0])), (h1, .inr (2, [.int p3, .int 2, .ref h7, .ref h8]))])) (vp_Si (fun r => (r = 1))) 0 0 (fun _ => False) := by
  refine Met.ofW (cc := cX5_isOrder) (maxL := 2) (ret := (some .boolean)) (by decide) rfl ?_
  intro p e s m args below meth c s₁ B hml hv
  obtain ⟨rfl, hP, hK⟩ := hv
  have hx := B.exec
  have hb := B.bytes
  have hr := B.returns
  have hts := atoms_spec (ws := wsX5_isOrder) B.pre
  have hown : s.vm.findClass RX5 = some m.cls := findClass_of_methodNamed B.named
  have hlocks := B.notSynchronized
  have hP : va_P D vwCl [(h0, .inr (7, [.ref h1, .ref h2, .ref h3, .ref h4, .ref h5, .ref h6, .int p0, .int p1, .int p2, .int 0])), (h1, .inr (2, [.int p3, .int 2, .ref h7, .ref h8]))] s.heap := hP
  have hl := lv_entry [.ref h0, .int 2] (n := 2) (Nat.le_of_ble_eq_true rfl)
  rw [lg_entry_eq]
  generalize (lg_sl [.ref h0, .int 2] ++ List.replicate (2 - (lg_sl [.ref h0, .int 2]).length) Slot.unset).toArray = ls at hl ⊢
  have hl : lv_has ls 2 [(0, .ref h0), (1, .int 2)] := hl
  refine lv_iload_n hx hb dX5_isOrder_0 rfl (lv_at hl 1 rfl) ?_
  refine lv_iconst (v := 1) hx hb dX5_isOrder_1 (by decide) ?_
  refine lv_icmp_lt (tgt := 20) hx hb dX5_isOrder_2 (by decide) (fun h => absurd h (by decide)) (fun _ => ?_)
  refine lv_iload_n hx hb dX5_isOrder_5 rfl (lv_at hl 1 rfl) ?_
  refine lv_aload_n hx hb dX5_isOrder_6 rfl (lv_at hl 0 rfl) ?_
  refine va_get (D := D) (ci := 7) (v := .ref h1) (C := RX5) (T := TX5) (N := 10) hx hb hts wi_X5_isOrder_RX5 hown hK hP 0 rfl rfl 0 (by decide) (hts _ wd205_X5_isOrder) (fun _ h9 => h9) rfl dX5_isOrder_7 ?_
  refine va_get (D := D) (ci := 2) (v := .int 2) (C := RX0) (T := TX0) (N := 4) hx hb hts wi_X5_isOrder_RX0 hown hK hP 1 rfl rfl 1 (by decide) (hts _ wd206_X5_isOrder) (fun _ h9 => h9) rfl dX5_isOrder_10 ?_
  refine lv_icmp_gt (tgt := 20) hx hb dX5_isOrder_13 (by decide) (fun h => absurd h (by decide)) (fun _ => ?_)
  refine lv_iconst (v := 1) hx hb dX5_isOrder_16 (by decide) ?_
  refine lv_goto (tgt := 21) hx hb dX5_isOrder_17 (by decide) ?_
  exact W.zret (v := 1) hx hb hr rfl (fun t ht hW => ⟨1, rfl, rfl, ht⟩) (fun q hq => absurd hq List.not_mem_nil) dX5_isOrder_21

set_option maxHeartbeats 4000000 in
set_option maxRecDepth 100000 in
theorem k_X5_entries_1 (l : Launch) (D : va_G) (κ ε : Nat → Nat) (h0 h1 h2 h3 h4 h5 h6 h7 h8 h9 h10 h11 h12 h13 h14 : Nat) (sz : Nat) : Met l yX5_entries wsX5_entries ({ frames := 2, cells := 0, slots := 0, locals := 39 }) (va_Pc [.ref h0, .int 2] (Pre2 D κ ε [(h0, .inr (7, [.ref h1, .ref h2, .ref h3, .ref h4, .ref h5, .ref h6, .int 0, .int 0, .int 0, .int 0])), (h1, .inr (2, [.int 0, .int 2, .ref h7, .ref h8])), (h7, .inl (κ 3, 4, .inr (.inr (.inr (.inr (sel [h9, h10, h11, h12])))))), (h10, .inr (6, [.ref h13, .ref h14, .int 0]))] sz)) (va_Qi (fun r (u : Unit) => (r = 0)) (fun _ _ => True) (va_A [(h0, .inr (7, [.ref h1, .ref h2, .ref h3, .ref h4, .ref h5, .ref h6, .int 0, .int 0, .int 0, .int 0])), (h1, .inr (2, [.int 0, .int 2, .ref h7, .ref h8])), (h7, .inl (κ 3, 4, .inr (.inr (.inr (.inr (sel [h9, h10, h11, h12])))))), (h10, .inr (6, [.ref h13, .ref h14, .int 0]))] sz)) 0 0 (va_A [(h0, .inr (7, [.ref h1, .ref h2, .ref h3, .ref h4, .ref h5, .ref h6, .int 0, .int 0, .int 0, .int 0])), (h1, .inr (2, [.int 0, .int 2, .ref h7, .ref h8])), (h7, .inl (κ 3, 4, .inr (.inr (.inr (.inr (sel [h9, h10, h11, h12])))))), (h10, .inr (6, [.ref h13, .ref h14, .int 0]))] sz) := by
  refine Met.ofW (cc := cX5_entries) (maxL := 2) (ret := (some .int)) (by decide) rfl ?_
  intro p e s m args below meth c s₁ B hml hv
  obtain ⟨rfl, hsz, hP, hK, hD0, hE9⟩ := hv
  have hx := B.exec
  have hb := B.bytes
  have hr := B.returns
  have hts := atoms_spec (ws := wsX5_entries) B.pre
  have hown : s.vm.findClass RX5 = some m.cls := findClass_of_methodNamed B.named
  have hlocks := B.notSynchronized
  subst hsz
  have hD := hD0.self (sz := s.heap.size)
  generalize hAe : va_A [(h0, .inr (7, [.ref h1, .ref h2, .ref h3, .ref h4, .ref h5, .ref h6, .int 0, .int 0, .int 0, .int 0])), (h1, .inr (2, [.int 0, .int 2, .ref h7, .ref h8])), (h7, .inl (κ 3, 4, .inr (.inr (.inr (.inr (sel [h9, h10, h11, h12])))))), (h10, .inr (6, [.ref h13, .ref h14, .int 0]))] s.heap.size = A at hD hE9 ⊢
  have hE := hE9.1
  have hDc := hE9.2
  have hA : ∀ q : Nat, s.heap.size ≤ q → A q := fun q h => by rw [← hAe]; exact Or.inr h
  have hS : va_S A s.heap s.heap [] := va_S.rf
  have hP : va_P D vwCl [(h0, .inr (7, [.ref h1, .ref h2, .ref h3, .ref h4, .ref h5, .ref h6, .int 0, .int 0, .int 0, .int 0])), (h1, .inr (2, [.int 0, .int 2, .ref h7, .ref h8])), (h7, .inl (κ 3, 4, .inr (.inr (.inr (.inr (sel [h9, h10, h11, h12])))))), (h10, .inr (6, [.ref h13, .ref h14, .int 0]))] s.heap := hP
  have hl := lv_entry [.ref h0, .int 2] (n := 2) (Nat.le_of_ble_eq_true rfl)
  rw [lg_entry_eq]
  generalize (lg_sl [.ref h0, .int 2] ++ List.replicate (2 - (lg_sl [.ref h0, .int 2]).length) Slot.unset).toArray = ls at hl ⊢
  have hl : lv_has ls 2 [(0, .ref h0), (1, .int 2)] := hl
  refine lv_aload_n hx hb dX5_entries_0 rfl (lv_at hl 0 rfl) ?_
  refine lv_iload_n hx hb dX5_entries_1 rfl (lv_at hl 1 rfl) ?_
  refine vp_callSi (W.runV (As := [.int 2]) (rest := []) ⟨hx, hb, hml, hown, hts⟩ (k_X5_isOrder_1 l D κ ε h0 h1 h2 h3 h4 h5 h6 h7 h8 (0) (0) (0) (0)) (cwV 1 hts gX5_entries_X5_isOrder rfl rfl rfl (by decide +kernel) ⟨(Nat.le_of_ble_eq_true rfl), (Nat.le_of_ble_eq_true rfl)⟩) (pre0_V (q0 := 0) (ci := 7) (wc := [(h0, .inr (7, [.ref h1, .ref h2, .ref h3, .ref h4, .ref h5, .ref h6, .int 0, .int 0, .int 0, .int 0])), (h1, .inr (2, [.int 0, .int 2, .ref h7, .ref h8]))]) hP hK [0, 1] rfl rfl rfl) rfl rfl hl.1 rfl (lv_room (Nat.le_of_ble_eq_true rfl)) dX5_entries_2 ⟨(Nat.le_of_ble_eq_true rfl), (Nat.le_of_ble_eq_true rfl)⟩) (fun r hw => ?_)
  rw [hw]
  refine lv_if_ne (tgt := 18) hx hb dX5_entries_5 (by decide) (fun _ => ?_) (fun h => absurd h (by decide))
  refine lv_aload_n hx hb dX5_entries_18 rfl (lv_at hl 0 rfl) ?_
  refine va_get (D := D) (ci := 7) (v := .ref h1) (C := RX5) (T := TX5) (N := 10) hx hb hts wi_X5_entries_RX5 hown hK hP 0 rfl rfl 0 (by decide) (hts _ wd207_X5_entries) (fun _ h9 => h9) rfl dX5_entries_19 ?_
  refine lv_iload_n hx hb dX5_entries_22 rfl (lv_at hl 1 rfl) ?_
  refine va_csr (W.runV (As := [.int 2]) (rest := []) ⟨hx, hb, hml, hown, hts⟩ (k_X0_countsOf_1 l D κ ε h1 h7 h8 h9 h10 h11 h12 (0) (2)) (cwV 1 hts gX5_entries_X0_countsOf rfl rfl rfl (by decide +kernel) ⟨(Nat.le_of_ble_eq_true rfl), (Nat.le_of_ble_eq_true rfl)⟩) (pre0_V (q0 := 1) (ci := 2) (wc := [(h1, .inr (2, [.int 0, .int 2, .ref h7, .ref h8])), (h7, .inl (κ 3, 4, .inr (.inr (.inr (.inr (sel [h9, h10, h11, h12]))))))]) hP hK [1, 2] rfl rfl rfl) rfl rfl hl.1 rfl (lv_room (Nat.le_of_ble_eq_true rfl)) dX5_entries_23 ⟨(Nat.le_of_ble_eq_true rfl), (Nat.le_of_ble_eq_true rfl)⟩) (fun r hw => ?_)
  rw [hw]
  refine va_get (D := D) (ci := 6) (v := .int 0) (C := RX4) (T := TX4) (N := 3) hx hb hts wi_X5_entries_RX4 hown hK hP 3 rfl rfl 2 (by decide) (hts _ wd208_X5_entries) (fun _ h9 => h9) rfl dX5_entries_26 ?_
  exact W.iret (v := 0) hx hb hr (fun t ht hW => ⟨⟨0, (), rfl, rfl, trivial⟩, hS.F ht⟩) hS.2.2 dX5_entries_29

set_option maxHeartbeats 4000000 in
set_option maxRecDepth 100000 in
theorem k_L_entries_1 (l : Launch) (hst : l.stackTraces = false) (D : va_G) (κ ε : Nat → Nat) (h0 h1 h2 h3 h4 h5 h6 h7 h8 h9 h10 h11 h12 h13 h14 h15 : Nat) (sz : Nat) : Met l yL_entries wsL_entries ({ frames := 3, cells := 0, slots := 0, locals := 60 }) (va_Pc [.ref h0, .int 2, .ref h1] (Pre2 D κ ε [(h0, .inr (7, [.ref h2, .ref h3, .ref h4, .ref h5, .ref h6, .ref h7, .int 0, .int 0, .int 0, .int 0])), (h1, .inl (κ 2, 1, .inr (.inl (fun _ => 0)))), (h2, .inr (2, [.int 0, .int 2, .ref h8, .ref h9])), (h8, .inl (κ 3, 4, .inr (.inr (.inr (.inr (sel [h10, h11, h12, h13])))))), (h11, .inr (6, [.ref h14, .ref h15, .int 0]))] sz)) (va_Qi (fun r (u : Nat → Int64) => (u 0 = 0) ∧ (r = 0)) (fun u t => va_P D vwCl [(h1, .inl (κ 2, 1, .inr (.inl u)))] t.heap ∧ va_D (va_A [(h0, .inr (7, [.ref h2, .ref h3, .ref h4, .ref h5, .ref h6, .ref h7, .int 0, .int 0, .int 0, .int 0])), (h1, .inl (κ 2, 1, .inr (.inl (fun _ => 0)))), (h2, .inr (2, [.int 0, .int 2, .ref h8, .ref h9])), (h8, .inl (κ 3, 4, .inr (.inr (.inr (.inr (sel [h10, h11, h12, h13])))))), (h11, .inr (6, [.ref h14, .ref h15, .int 0]))] sz) [(h1, .inl (κ 2, 1, .inr (.inl u)))]) (va_A [(h0, .inr (7, [.ref h2, .ref h3, .ref h4, .ref h5, .ref h6, .ref h7, .int 0, .int 0, .int 0, .int 0])), (h1, .inl (κ 2, 1, .inr (.inl (fun _ => 0)))), (h2, .inr (2, [.int 0, .int 2, .ref h8, .ref h9])), (h8, .inl (κ 3, 4, .inr (.inr (.inr (.inr (sel [h10, h11, h12, h13])))))), (h11, .inr (6, [.ref h14, .ref h15, .int 0]))] sz)) 0 0 (va_A [(h0, .inr (7, [.ref h2, .ref h3, .ref h4, .ref h5, .ref h6, .ref h7, .int 0, .int 0, .int 0, .int 0])), (h1, .inl (κ 2, 1, .inr (.inl (fun _ => 0)))), (h2, .inr (2, [.int 0, .int 2, .ref h8, .ref h9])), (h8, .inl (κ 3, 4, .inr (.inr (.inr (.inr (sel [h10, h11, h12, h13])))))), (h11, .inr (6, [.ref h14, .ref h15, .int 0]))] sz) := by
  refine va_MetW (cc := cL_entries) (maxL := 4) (ret := (some .int)) (hh := [(0, 9, 12, 19)]) (by decide) rfl ?_
  intro p e s m args below meth c s₁ B hml hv
  obtain ⟨rfl, hsz, hP, hK, hD0, hE9⟩ := hv
  have hx := B.exec
  have hb := B.bytes
  have hr := B.returns
  have hts := atoms_spec (ws := wsL_entries) B.pre
  have hown : s.vm.findClass RL = some m.cls := findClass_of_methodNamed B.named
  have hlocks := B.notSynchronized
  have htab : c.exceptionTable.toList = tableOf [(0, 9, 12, 19)] := vx_table (x := yL_entries) B (hts (.codeWith yL_entries cL_entries 4 (some .int) [(0, 9, 12, 19)]) List.mem_cons_self)
  subst hsz
  have hD := hD0.self (sz := s.heap.size)
  generalize hAe : va_A [(h0, .inr (7, [.ref h2, .ref h3, .ref h4, .ref h5, .ref h6, .ref h7, .int 0, .int 0, .int 0, .int 0])), (h1, .inl (κ 2, 1, .inr (.inl (fun _ => 0)))), (h2, .inr (2, [.int 0, .int 2, .ref h8, .ref h9])), (h8, .inl (κ 3, 4, .inr (.inr (.inr (.inr (sel [h10, h11, h12, h13])))))), (h11, .inr (6, [.ref h14, .ref h15, .int 0]))] s.heap.size = A at hD hE9 ⊢
  have hE := hE9.1
  have hDc := hE9.2
  have hA : ∀ q : Nat, s.heap.size ≤ q → A q := fun q h => by rw [← hAe]; exact Or.inr h
  have hS : va_S A s.heap s.heap [] := va_S.rf
  have hP : va_P D vwCl [(h0, .inr (7, [.ref h2, .ref h3, .ref h4, .ref h5, .ref h6, .ref h7, .int 0, .int 0, .int 0, .int 0])), (h1, .inl (κ 2, 1, .inr (.inl (fun _ => 0)))), (h2, .inr (2, [.int 0, .int 2, .ref h8, .ref h9])), (h8, .inl (κ 3, 4, .inr (.inr (.inr (.inr (sel [h10, h11, h12, h13])))))), (h11, .inr (6, [.ref h14, .ref h15, .int 0]))] s.heap := hP
  have hl := lv_entry [.ref h0, .int 2, .ref h1] (n := 4) (Nat.le_of_ble_eq_true rfl)
  rw [lg_entry_eq]
  generalize (lg_sl [.ref h0, .int 2, .ref h1] ++ List.replicate (4 - (lg_sl [.ref h0, .int 2, .ref h1]).length) Slot.unset).toArray = ls at hl ⊢
  have hl : lv_has ls 4 [(0, .ref h0), (1, .int 2), (2, .ref h1)] := hl
  refine lv_aload_n hx hb dL_entries_0 rfl (lv_at hl 2 rfl) ?_
  refine lv_iconst (v := 0) hx hb dL_entries_1 (by decide) ?_
  refine lv_aload_n hx hb dL_entries_2 rfl (lv_at hl 0 rfl) ?_
  refine lv_iload_n hx hb dL_entries_3 rfl (lv_at hl 1 rfl) ?_
  have hF := va_free (wc := [(h0, .inr (7, [.ref h2, .ref h3, .ref h4, .ref h5, .ref h6, .ref h7, .int 0, .int 0, .int 0, .int 0])), (h2, .inr (2, [.int 0, .int 2, .ref h8, .ref h9])), (h8, .inl (κ 3, 4, .inr (.inr (.inr (.inr (sel [h10, h11, h12, h13])))))), (h11, .inr (6, [.ref h14, .ref h15, .int 0]))]) hD hS hA [0, 2, 3, 4] rfl
  refine va_calli (va_runV (As := [.int 2]) (rest := [.int 0, .ref h1]) ⟨hx, hb, hml, hown, hts⟩ (k_X5_entries_1 l D κ ε h0 h2 h3 h4 h5 h6 h7 h8 h9 h10 h11 h12 h13 h14 h15 s.heap.size) (cwV 1 hts gL_entries_X5_entries rfl rfl rfl (by decide +kernel) ⟨(Nat.le_of_ble_eq_true rfl), (Nat.le_of_ble_eq_true rfl)⟩) (pre2_V (q0 := 0) (ci := 7) (wc := [(h0, .inr (7, [.ref h2, .ref h3, .ref h4, .ref h5, .ref h6, .ref h7, .int 0, .int 0, .int 0, .int 0])), (h2, .inr (2, [.int 0, .int 2, .ref h8, .ref h9])), (h8, .inl (κ 3, 4, .inr (.inr (.inr (.inr (sel [h10, h11, h12, h13])))))), (h11, .inr (6, [.ref h14, .ref h15, .int 0]))]) hP hD hK hE9 hS hA [0, 2, 3, 4] (by decide) rfl rfl rfl) rfl rfl hl.1 rfl (lv_room (Nat.le_of_ble_eq_true rfl)) dL_entries_4 ⟨(Nat.le_of_ble_eq_true rfl), (Nat.le_of_ble_eq_true rfl)⟩) hS (fun q _ h => hF q h) hF (fun r u1 t H locs ht hvm hw hB hz1 hk1 hS => ?_)
  try dsimp only at hw hB
  have hP1 : va_P D vwCl [] H := P_nil
  obtain ⟨hP, hD⟩ := post_j (ws' := [(h1, .inl (κ 2, 1, .inr (.inl (fun _ => 0))))]) (wr := [(h1, .inl (κ 2, 1, .inr (.inl (fun _ => 0))))]) (w1 := []) hP hD hF [0, 2, 3, 4] rfl [1] rfl (by decide) (by decide) hk1 hP1 D_nil [0] (by decide) rfl
  have hP : va_P D vwCl [(h1, .inl (κ 2, 1, .inr (.inl (fun _ => 0))))] H := hP
  have hD : va_D A [(h1, .inl (κ 2, 1, .inr (.inl (fun _ => 0))))] := hD
  rw [hw]
  refine lv_i2l (v := 0) hx hb dL_entries_7 (by decide) ?_
  refine va_last (cA := κ 2) (n := 1) (f := (fun _ => 0)) hx hb hK hP hD hS 0 2 rfl rfl (vpl (by decide)) dL_entries_8 (fun H locs hP hD hS => ?_)
  have hP : va_P D vwCl [(h1, .inl (κ 2, 1, .inr (.inl (vp_updL (fun _ => 0) 0 0))))] H := hP
  have hD : va_D A [(h1, .inl (κ 2, 1, .inr (.inl (vp_updL (fun _ => 0) 0 0))))] := hD
  refine lv_goto (tgt := 15) hx hb dL_entries_9 (by decide) ?_
  refine lv_iconst (v := 0) hx hb dL_entries_15 (by decide) ?_
  have hP9 := hP.sub (ws' := [(h1, .inl (κ 2, 1, .inr (.inl (vp_updL (fun _ => 0) 0 0))))]) [0] rfl
  have hD9 := hD.sub (ws' := [(h1, .inl (κ 2, 1, .inr (.inl (vp_updL (fun _ => 0) 0 0))))]) [0] (by decide) rfl
  exact W.iret (v := 0) hx hb hr (fun t ht hW => ⟨⟨0, (vp_updL (fun _ => 0) 0 0), rfl, ⟨rfl, rfl⟩, by rw [ht]; exact hP9, hD9⟩, hS.F ht⟩) hS.2.2 dL_entries_16

set_option maxHeartbeats 4000000 in
set_option maxRecDepth 100000 in
theorem k_X6_isIn_9 (l : Launch) (D : va_G) (κ ε : Nat → Nat) : Met l yX6_isIn wsX6_isIn ({ frames := 0, cells := 0, slots := 0, locals := 0 }) (va_Pc [.int 2, .int 1, .int 2] (Pre0 D κ [])) (vp_Si (fun r => (r = 1))) 0 0 (fun _ => False) := by
  refine Met.ofW (cc := cX6_isIn) (maxL := 3) (ret := (some .boolean)) (by decide) rfl ?_
  intro p e s m args below meth c s₁ B hml hv
  obtain ⟨rfl, hP, hK⟩ := hv
  have hx := B.exec
  have hb := B.bytes
  have hr := B.returns
  have hts := atoms_spec (ws := wsX6_isIn) B.pre
  have hown : s.vm.findClass RX6 = some m.cls := findClass_of_methodNamed B.named
  have hlocks := B.notSynchronized
  have hP : va_P D vwCl [] s.heap := hP
  have hl := lv_entry [.int 2, .int 1, .int 2] (n := 3) (Nat.le_of_ble_eq_true rfl)
  rw [lg_entry_eq]
  generalize (lg_sl [.int 2, .int 1, .int 2] ++ List.replicate (3 - (lg_sl [.int 2, .int 1, .int 2]).length) Slot.unset).toArray = ls at hl ⊢
  have hl : lv_has ls 3 [(0, .int 2), (1, .int 1), (2, .int 2)] := hl
  refine lv_iload_n hx hb dX6_isIn_0 rfl (lv_at hl 0 rfl) ?_
  refine lv_iload_n hx hb dX6_isIn_1 rfl (lv_at hl 1 rfl) ?_
  refine lv_icmp_lt (tgt := 14) hx hb dX6_isIn_2 (by decide) (fun h => absurd h (by decide)) (fun _ => ?_)
  refine lv_iload_n hx hb dX6_isIn_5 rfl (lv_at hl 0 rfl) ?_
  refine lv_iload_n hx hb dX6_isIn_6 rfl (lv_at hl 2 rfl) ?_
  refine lv_icmp_gt (tgt := 14) hx hb dX6_isIn_7 (by decide) (fun h => absurd h (by decide)) (fun _ => ?_)
  refine lv_iconst (v := 1) hx hb dX6_isIn_10 (by decide) ?_
  refine lv_goto (tgt := 15) hx hb dX6_isIn_11 (by decide) ?_
  exact W.zret (v := 1) hx hb hr rfl (fun t ht hW => ⟨1, rfl, rfl, ht⟩) (fun q hq => absurd hq List.not_mem_nil) dX6_isIn_15

set_option maxHeartbeats 4000000 in
set_option maxRecDepth 100000 in
theorem k_X6_isNoOrder_1 (l : Launch) (D : va_G) (κ ε : Nat → Nat) (h0 h1 h2 h3 : Nat) (sz : Nat) (p0 : Int32) (p1 : Int32) (p2 : Int32) (p3 : Int32) (p4 : Int32) : Met l yX6_isNoOrder wsX6_isNoOrder ({ frames := 2, cells := 0, slots := 0, locals := 44 }) (va_Pc [.ref h0, .int 2, .int 1] (Pre2 D κ ε [(h0, .inr (8, [.int 0, .int p0, .int 2, .ref h1, .ref h2, .int p1, .int p2, .int p3, .int p4, .int 0, .ref h3]))] sz)) (va_Qi (fun r (u : Unit) => (r = 0)) (fun u t => va_P D vwCl [(h0, .inr (8, [.int 0, .int p0, .int 2, .ref h1, .ref h2, .int p1, .int p2, .int p3, .int p4, .int 0, .ref h3]))] t.heap ∧ va_D (va_A [(h0, .inr (8, [.int 0, .int p0, .int 2, .ref h1, .ref h2, .int p1, .int p2, .int p3, .int p4, .int 0, .ref h3]))] sz) [(h0, .inr (8, [.int 0, .int p0, .int 2, .ref h1, .ref h2, .int p1, .int p2, .int p3, .int p4, .int 0, .ref h3]))]) (va_A [(h0, .inr (8, [.int 0, .int p0, .int 2, .ref h1, .ref h2, .int p1, .int p2, .int p3, .int p4, .int 0, .ref h3]))] sz)) 0 0 (va_A [(h0, .inr (8, [.int 0, .int p0, .int 2, .ref h1, .ref h2, .int p1, .int p2, .int p3, .int p4, .int 0, .ref h3]))] sz) := by
  refine Met.ofW (cc := cX6_isNoOrder) (maxL := 3) (ret := (some .boolean)) (by decide) rfl ?_
  intro p e s m args below meth c s₁ B hml hv
  obtain ⟨rfl, hsz, hP, hK, hD0, hE9⟩ := hv
  have hx := B.exec
  have hb := B.bytes
  have hr := B.returns
  have hts := atoms_spec (ws := wsX6_isNoOrder) B.pre
  have hown : s.vm.findClass RX6 = some m.cls := findClass_of_methodNamed B.named
  have hlocks := B.notSynchronized
  subst hsz
  have hD := hD0.self (sz := s.heap.size)
  generalize hAe : va_A [(h0, .inr (8, [.int 0, .int p0, .int 2, .ref h1, .ref h2, .int p1, .int p2, .int p3, .int p4, .int 0, .ref h3]))] s.heap.size = A at hD hE9 ⊢
  have hE := hE9.1
  have hDc := hE9.2
  have hA : ∀ q : Nat, s.heap.size ≤ q → A q := fun q h => by rw [← hAe]; exact Or.inr h
  have hS : va_S A s.heap s.heap [] := va_S.rf
  have hP : va_P D vwCl [(h0, .inr (8, [.int 0, .int p0, .int 2, .ref h1, .ref h2, .int p1, .int p2, .int p3, .int p4, .int 0, .ref h3]))] s.heap := hP
  have hl := lv_entry [.ref h0, .int 2, .int 1] (n := 3) (Nat.le_of_ble_eq_true rfl)
  rw [lg_entry_eq]
  generalize (lg_sl [.ref h0, .int 2, .int 1] ++ List.replicate (3 - (lg_sl [.ref h0, .int 2, .int 1]).length) Slot.unset).toArray = ls at hl ⊢
  have hl : lv_has ls 3 [(0, .ref h0), (1, .int 2), (2, .int 1)] := hl
  refine lv_aload_n hx hb dX6_isNoOrder_0 rfl (lv_at hl 0 rfl) ?_
  refine lv_iload_n hx hb dX6_isNoOrder_1 rfl (lv_at hl 1 rfl) ?_
  refine lv_iload_n hx hb dX6_isNoOrder_2 rfl (lv_at hl 2 rfl) ?_
  refine lv_aload_n hx hb dX6_isNoOrder_3 rfl (lv_at hl 0 rfl) ?_
  refine va_get (D := D) (ci := 8) (v := .int 2) (C := RX6) (T := TX6) (N := 11) hx hb hts wi_X6_isNoOrder_RX6 hown hK hP 0 rfl rfl 2 (by decide) (hts _ wd209_X6_isNoOrder) (fun _ h9 => h9) rfl dX6_isNoOrder_4 ?_
  refine vp_callSi (W.runS (As := [.int 2, .int 1, .int 2]) (rest := [.ref h0]) ⟨hx, hb, hml, hown, hts⟩ (k_X6_isIn_9 l D κ ε) (va_cwS 3 hts gX6_isNoOrder_X6_isIn rfl rfl rfl (by decide +kernel) ⟨(Nat.le_of_ble_eq_true rfl), (Nat.le_of_ble_eq_true rfl)⟩) (pre0_S (wc := []) hP hK [] rfl) rfl rfl hl.1 rfl (lv_room (Nat.le_of_ble_eq_true rfl)) dX6_isNoOrder_7 ⟨(Nat.le_of_ble_eq_true rfl), (Nat.le_of_ble_eq_true rfl)⟩) (fun r hw => ?_)
  rw [hw]
  refine lv_if_ne (tgt := 17) hx hb dX6_isNoOrder_10 (by decide) (fun _ => ?_) (fun h => absurd h (by decide))
  refine lv_iconst (v := 0) hx hb dX6_isNoOrder_17 (by decide) ?_
  refine lv_iconst (v := 1) hx hb dX6_isNoOrder_18 (by decide) ?_
  have hF := va_free (wc := [(h0, .inr (8, [.int 0, .int p0, .int 2, .ref h1, .ref h2, .int p1, .int p2, .int p3, .int p4, .int 0, .ref h3]))]) hD hS hA [0] rfl
  refine va_calli (va_runV (As := [.int 0, .int 1]) (rest := []) ⟨hx, hb, hml, hown, hts⟩ (k_X6_start_0 l D κ ε h0 h1 h2 h3 s.heap.size (p0) (2) (p1) (p2) (p3) (p4)) (cwV 2 hts gX6_isNoOrder_X6_start rfl rfl rfl (by decide +kernel) ⟨(Nat.le_of_ble_eq_true rfl), (Nat.le_of_ble_eq_true rfl)⟩) (pre2_V (q0 := 0) (ci := 8) (wc := [(h0, .inr (8, [.int 0, .int p0, .int 2, .ref h1, .ref h2, .int p1, .int p2, .int p3, .int p4, .int 0, .ref h3]))]) hP hD hK hE9 hS hA [0] (by decide) rfl rfl rfl) rfl rfl hl.1 rfl (lv_room (Nat.le_of_ble_eq_true rfl)) dX6_isNoOrder_19 ⟨(Nat.le_of_ble_eq_true rfl), (Nat.le_of_ble_eq_true rfl)⟩) hS (fun q _ h => hF q h) hF (fun r u1 t H locs ht hvm hw hB hz1 hk1 hS => ?_)
  try dsimp only at hw hB
  obtain ⟨hP1, hD1⟩ := hB
  rw [ht] at hP1
  obtain ⟨hP, hD⟩ := post_j (ws' := [(h0, .inr (8, [.int 0, .int p0, .int 2, .ref h1, .ref h2, .int p1, .int p2, .int p3, .int p4, .int 0, .ref h3]))]) (wr := []) (w1 := [(h0, .inr (8, [.int 0, .int p0, .int 2, .ref h1, .ref h2, .int p1, .int p2, .int p3, .int p4, .int 0, .ref h3]))]) hP hD hF [0] rfl [] rfl (by decide) (by decide) hk1 hP1 hD1 [0] (by decide) rfl
  have hP : va_P D vwCl [(h0, .inr (8, [.int 0, .int p0, .int 2, .ref h1, .ref h2, .int p1, .int p2, .int p3, .int p4, .int 0, .ref h3]))] H := hP
  have hD : va_D A [(h0, .inr (8, [.int 0, .int p0, .int 2, .ref h1, .ref h2, .int p1, .int p2, .int p3, .int p4, .int 0, .ref h3]))] := hD
  rw [hw]
  have hP9 := hP
  have hD9 := hD
  exact W.zret (v := 0) hx hb hr rfl (fun t ht hW => ⟨⟨0, (), rfl, rfl, by rw [ht]; exact hP9, hD9⟩, hS.F ht⟩) hS.2.2 dX6_isNoOrder_22

set_option maxHeartbeats 4000000 in
set_option maxRecDepth 100000 in
theorem k_X6_many_1 (l : Launch) (D : va_G) (κ ε : Nat → Nat) (h0 : Nat) : Met l yX6_many wsX6_many ({ frames := 0, cells := 0, slots := 0, locals := 0 }) (va_Pc [.ref h0] (Pre0 D κ [(h0, .inl (κ 0, 196, .inl (fun _ => 0)))])) (vp_Si (fun r => (r = 0))) 0 0 (fun _ => False) := by
  refine Met.ofW (cc := cX6_many) (maxL := 3) (ret := (some .int)) (by decide) rfl ?_
  intro p e s m args below meth c s₁ B hml hv
  obtain ⟨rfl, hP, hK⟩ := hv
  have hx := B.exec
  have hb := B.bytes
  have hr := B.returns
  have hts := atoms_spec (ws := wsX6_many) B.pre
  have hown : s.vm.findClass RX6 = some m.cls := findClass_of_methodNamed B.named
  have hlocks := B.notSynchronized
  have hP : va_P D vwCl [(h0, .inl (κ 0, 196, .inl (fun _ => 0)))] s.heap := hP
  have hl := lv_entry [.ref h0] (n := 3) (Nat.le_of_ble_eq_true rfl)
  rw [lg_entry_eq]
  generalize (lg_sl [.ref h0] ++ List.replicate (3 - (lg_sl [.ref h0]).length) Slot.unset).toArray = ls at hl ⊢
  have hl : lv_has ls 3 [(0, .ref h0)] := hl
  refine lv_iconst (v := 0) hx hb dX6_many_0 (by decide) ?_
  refine lv_istore_n (lv' := [(1, .int 0), (0, .ref h0)]) hx hb dX6_many_1 rfl hl (by decide) rfl (fun ls hl => ?_)
  refine lv_iconst (v := 0) hx hb dX6_many_2 (by decide) ?_
  refine lv_istore_n (lv' := [(2, .int 0), (1, .int 0), (0, .ref h0)]) hx hb dX6_many_3 rfl hl (by decide) rfl (fun ls hl => ?_)
  refine loop_up (Wp := fun ls => W p l e _ s m _ below meth c s.heap _ _ _ _ (F0 m 4 ls [])) (N := 196) (lv := fun i => [(0, .ref h0), (1, .int 0), (2, .int (nI i))]) 0 (by decide) ?_ ?_ ls (lv_sub hl [2, 1, 0] rfl)
  · intro ls hl
    have hl : lv_has ls 3 [(0, .ref h0), (1, .int 0), (2, .int 196)] := hl
    refine lv_iload_n hx hb dX6_many_4 rfl (lv_at hl 2 rfl) ?_
    refine lv_aload_n hx hb dX6_many_5 rfl (lv_at hl 0 rfl) ?_
    refine va_alen hx hb hK hP 0 0 rfl rfl (v := 196) (by decide) dX6_many_6 ?_
    refine lv_icmp_ge (tgt := 30) hx hb dX6_many_7 (by decide) (fun _ => ?_) (fun h => absurd (by decide) h)
    refine lv_iload_n hx hb dX6_many_30 rfl (lv_at hl 1 rfl) ?_
    exact W.iret (v := 0) hx hb hr (fun t ht hW => ⟨0, rfl, rfl, ht⟩) (fun q hq => absurd hq List.not_mem_nil) dX6_many_31
  · intro i1 hji1 hii1 ihi1 ls hl
    have hl : lv_has ls 3 [(0, .ref h0), (1, .int 0), (2, .int (nI i1))] := hl
    refine lv_iload_n hx hb dX6_many_4 rfl (lv_at hl 2 rfl) ?_
    refine lv_aload_n hx hb dX6_many_5 rfl (lv_at hl 0 rfl) ?_
    refine va_alen hx hb hK hP 0 0 rfl rfl (v := 196) (by decide) dX6_many_6 ?_
    refine lv_icmp_ge (tgt := 30) hx hb dX6_many_7 (by decide) (fun h => absurd h (lp_nge (N := 196) rfl hii1 (by decide))) (fun _ => ?_)
    refine lv_iload_n hx hb dX6_many_10 rfl (lv_at hl 1 rfl) ?_
    refine lv_aload_n hx hb dX6_many_11 rfl (lv_at hl 0 rfl) ?_
    refine lv_iload_n hx hb dX6_many_12 rfl (lv_at hl 2 rfl) ?_
    refine va_iald (cA := κ 0) (n := 196) (f := (fun _ => 0)) hx hb hK hP 0 0 rfl rfl (vp_in_nI (Nat.lt_of_lt_of_le hii1 (by decide)) (by decide)) dX6_many_13 ?_
    refine tpi (v := 0) rfl ?_
    refine lv_if_le (tgt := 21) hx hb dX6_many_14 (by decide) (fun _ => ?_) (fun h => absurd (by decide) h)
    refine lv_iconst (v := 0) hx hb dX6_many_21 (by decide) ?_
    refine lv_iadd hx hb dX6_many_22 ?_
    refine tpi (v := 0) (by decide) ?_
    refine lv_istore_n (lv' := [(1, .int 0), (0, .ref h0), (2, .int (nI i1))]) hx hb dX6_many_23 rfl hl (by decide) rfl (fun ls hl => ?_)
    refine lv_iinc (v := (nI (i1 + 1))) (lv' := [(2, .int (nI (i1 + 1))), (1, .int 0), (0, .ref h0)]) hx hb dX6_many_24 hl (k := 2) rfl (nI_inc _) (by decide) rfl (fun ls hl => ?_)
    refine lv_goto (tgt := 4) hx hb dX6_many_27 (by decide) ?_
    exact ihi1 _ (lv_sub hl [2, 1, 0] rfl)

set_option maxHeartbeats 4000000 in
set_option maxRecDepth 100000 in
theorem k_X6_entries_1 (l : Launch) (D : va_G) (κ ε : Nat → Nat) (h0 h1 h2 h3 h4 h5 h6 h7 : Nat) (sz : Nat) : Met l yX6_entries wsX6_entries ({ frames := 3, cells := 0, slots := 0, locals := 66 }) (va_Pc [.ref h0, .int 2] (Pre2 D κ ε [(h0, .inr (8, [.int 0, .int 0, .int 2, .ref h1, .ref h2, .int 0, .int 500, .int 0, .int 0, .int 0, .ref h3])), (h2, .inl (κ 4, 4, .inr (.inr (.inr (.inr (sel [h4, h5, h6, h7])))))), (h5, .inl (κ 0, 196, .inl (fun _ => 0)))] sz)) (va_Qi (fun r (u : List Value) => (u[0]? = some (.int 0)) ∧ (r = 0)) (fun u t => va_P D vwCl [(h0, .inr (8, u))] t.heap ∧ va_D (va_A [(h0, .inr (8, [.int 0, .int 0, .int 2, .ref h1, .ref h2, .int 0, .int 500, .int 0, .int 0, .int 0, .ref h3])), (h2, .inl (κ 4, 4, .inr (.inr (.inr (.inr (sel [h4, h5, h6, h7])))))), (h5, .inl (κ 0, 196, .inl (fun _ => 0)))] sz) [(h0, .inr (8, u))]) (va_A [(h0, .inr (8, [.int 0, .int 0, .int 2, .ref h1, .ref h2, .int 0, .int 500, .int 0, .int 0, .int 0, .ref h3])), (h2, .inl (κ 4, 4, .inr (.inr (.inr (.inr (sel [h4, h5, h6, h7])))))), (h5, .inl (κ 0, 196, .inl (fun _ => 0)))] sz)) 0 0 (va_A [(h0, .inr (8, [.int 0, .int 0, .int 2, .ref h1, .ref h2, .int 0, .int 500, .int 0, .int 0, .int 0, .ref h3])), (h2, .inl (κ 4, 4, .inr (.inr (.inr (.inr (sel [h4, h5, h6, h7])))))), (h5, .inl (κ 0, 196, .inl (fun _ => 0)))] sz) := by
  refine Met.ofW (cc := cX6_entries) (maxL := 2) (ret := (some .int)) (by decide) rfl ?_
  intro p e s m args below meth c s₁ B hml hv
  obtain ⟨rfl, hsz, hP, hK, hD0, hE9⟩ := hv
  have hx := B.exec
  have hb := B.bytes
  have hr := B.returns
  have hts := atoms_spec (ws := wsX6_entries) B.pre
  have hown : s.vm.findClass RX6 = some m.cls := findClass_of_methodNamed B.named
  have hlocks := B.notSynchronized
  subst hsz
  have hD := hD0.self (sz := s.heap.size)
  generalize hAe : va_A [(h0, .inr (8, [.int 0, .int 0, .int 2, .ref h1, .ref h2, .int 0, .int 500, .int 0, .int 0, .int 0, .ref h3])), (h2, .inl (κ 4, 4, .inr (.inr (.inr (.inr (sel [h4, h5, h6, h7])))))), (h5, .inl (κ 0, 196, .inl (fun _ => 0)))] s.heap.size = A at hD hE9 ⊢
  have hE := hE9.1
  have hDc := hE9.2
  have hA : ∀ q : Nat, s.heap.size ≤ q → A q := fun q h => by rw [← hAe]; exact Or.inr h
  have hS : va_S A s.heap s.heap [] := va_S.rf
  have hP : va_P D vwCl [(h0, .inr (8, [.int 0, .int 0, .int 2, .ref h1, .ref h2, .int 0, .int 500, .int 0, .int 0, .int 0, .ref h3])), (h2, .inl (κ 4, 4, .inr (.inr (.inr (.inr (sel [h4, h5, h6, h7])))))), (h5, .inl (κ 0, 196, .inl (fun _ => 0)))] s.heap := hP
  have hl := lv_entry [.ref h0, .int 2] (n := 2) (Nat.le_of_ble_eq_true rfl)
  rw [lg_entry_eq]
  generalize (lg_sl [.ref h0, .int 2] ++ List.replicate (2 - (lg_sl [.ref h0, .int 2]).length) Slot.unset).toArray = ls at hl ⊢
  have hl : lv_has ls 2 [(0, .ref h0), (1, .int 2)] := hl
  refine lv_aload_n hx hb dX6_entries_0 rfl (lv_at hl 0 rfl) ?_
  refine lv_iload_n hx hb dX6_entries_1 rfl (lv_at hl 1 rfl) ?_
  refine lv_iconst (v := 1) hx hb dX6_entries_2 (by decide) ?_
  have hF := va_free (wc := [(h0, .inr (8, [.int 0, .int 0, .int 2, .ref h1, .ref h2, .int 0, .int 500, .int 0, .int 0, .int 0, .ref h3]))]) hD hS hA [0] rfl
  refine va_calli (va_runV (As := [.int 2, .int 1]) (rest := []) ⟨hx, hb, hml, hown, hts⟩ (k_X6_isNoOrder_1 l D κ ε h0 h1 h2 h3 s.heap.size (0) (0) (500) (0) (0)) (cwV 2 hts gX6_entries_X6_isNoOrder rfl rfl rfl (by decide +kernel) ⟨(Nat.le_of_ble_eq_true rfl), (Nat.le_of_ble_eq_true rfl)⟩) (pre2_V (q0 := 0) (ci := 8) (wc := [(h0, .inr (8, [.int 0, .int 0, .int 2, .ref h1, .ref h2, .int 0, .int 500, .int 0, .int 0, .int 0, .ref h3]))]) hP hD hK hE9 hS hA [0] (by decide) rfl rfl rfl) rfl rfl hl.1 rfl (lv_room (Nat.le_of_ble_eq_true rfl)) dX6_entries_3 ⟨(Nat.le_of_ble_eq_true rfl), (Nat.le_of_ble_eq_true rfl)⟩) hS (fun q _ h => hF q h) hF (fun r u1 t H locs ht hvm hw hB hz1 hk1 hS => ?_)
  try dsimp only at hw hB
  obtain ⟨hP1, hD1⟩ := hB
  rw [ht] at hP1
  obtain ⟨hP, hD⟩ := post_j (ws' := [(h0, .inr (8, [.int 0, .int 0, .int 2, .ref h1, .ref h2, .int 0, .int 500, .int 0, .int 0, .int 0, .ref h3])), (h2, .inl (κ 4, 4, .inr (.inr (.inr (.inr (sel [h4, h5, h6, h7])))))), (h5, .inl (κ 0, 196, .inl (fun _ => 0)))]) (wr := [(h2, .inl (κ 4, 4, .inr (.inr (.inr (.inr (sel [h4, h5, h6, h7])))))), (h5, .inl (κ 0, 196, .inl (fun _ => 0)))]) (w1 := [(h0, .inr (8, [.int 0, .int 0, .int 2, .ref h1, .ref h2, .int 0, .int 500, .int 0, .int 0, .int 0, .ref h3]))]) hP hD hF [0] rfl [1, 2] rfl (by decide) (by decide) hk1 hP1 hD1 [2, 0, 1] (by decide) rfl
  have hP : va_P D vwCl [(h0, .inr (8, [.int 0, .int 0, .int 2, .ref h1, .ref h2, .int 0, .int 500, .int 0, .int 0, .int 0, .ref h3])), (h2, .inl (κ 4, 4, .inr (.inr (.inr (.inr (sel [h4, h5, h6, h7])))))), (h5, .inl (κ 0, 196, .inl (fun _ => 0)))] H := hP
  have hD : va_D A [(h0, .inr (8, [.int 0, .int 0, .int 2, .ref h1, .ref h2, .int 0, .int 500, .int 0, .int 0, .int 0, .ref h3])), (h2, .inl (κ 4, 4, .inr (.inr (.inr (.inr (sel [h4, h5, h6, h7])))))), (h5, .inl (κ 0, 196, .inl (fun _ => 0)))] := hD
  rw [hw]
  refine lv_if_eq (tgt := 13) hx hb dX6_entries_6 (by decide) (fun _ => ?_) (fun h => absurd (by decide) h)
  refine lv_aload_n hx hb dX6_entries_13 rfl (lv_at hl 0 rfl) ?_
  refine va_get (D := D) (ci := 8) (v := .ref h2) (C := RX6) (T := TX6) (N := 11) hx hb hts wi_X6_entries_RX6 hown hK hP 0 rfl rfl 4 (by decide) (hts _ wd210_X6_entries) (fun _ h9 => h9) rfl dX6_entries_14 ?_
  refine lv_iload_n hx hb dX6_entries_17 rfl (lv_at hl 1 rfl) ?_
  refine lv_iconst (v := 1) hx hb dX6_entries_18 (by decide) ?_
  refine lv_isub hx hb dX6_entries_19 ?_
  refine tpi (v := 1) (by decide) ?_
  refine ya_ld2 hx hb hK hP 1 rfl (vpl (by decide)) (v := .ref h5) rfl dX6_entries_20 ?_
  refine vp_callSi (W.runS (As := [.ref h5]) (rest := []) ⟨hx, hb, hml, hown, hts⟩ (k_X6_many_1 l D κ ε h5) (va_cwS 1 hts gX6_entries_X6_many rfl rfl rfl (by decide +kernel) ⟨(Nat.le_of_ble_eq_true rfl), (Nat.le_of_ble_eq_true rfl)⟩) (pre0_S (wc := [(h5, .inl (κ 0, 196, .inl (fun _ => 0)))]) hP hK [2] rfl) rfl rfl hl.1 rfl (lv_room (Nat.le_of_ble_eq_true rfl)) dX6_entries_21 ⟨(Nat.le_of_ble_eq_true rfl), (Nat.le_of_ble_eq_true rfl)⟩) (fun r hw => ?_)
  rw [hw]
  have hP9 := hP.sub (ws' := [(h0, .inr (8, [.int 0, .int 0, .int 2, .ref h1, .ref h2, .int 0, .int 500, .int 0, .int 0, .int 0, .ref h3]))]) [0] rfl
  have hD9 := hD.sub (ws' := [(h0, .inr (8, [.int 0, .int 0, .int 2, .ref h1, .ref h2, .int 0, .int 500, .int 0, .int 0, .int 0, .ref h3]))]) [0] (by decide) rfl
  exact W.iret (v := 0) hx hb hr (fun t ht hW => ⟨⟨0, [.int 0, .int 0, .int 2, .ref h1, .ref h2, .int 0, .int 500, .int 0, .int 0, .int 0, .ref h3], rfl, ⟨rfl, rfl⟩, by rw [ht]; exact hP9, hD9⟩, hS.F ht⟩) hS.2.2 dX6_entries_24

theorem iv6 (x : Int32) (h0 : ¬ x = 1) (h1 : ¬ x = 2) (h2 : ¬ x < 1) : 2 < x := by
  have e0 : (1 : Int32).toInt = 1 := by decide
  have e1 : (2 : Int32).toInt = 2 := by decide
  simp only [Int32.lt_iff_toInt_lt, Int32.le_iff_toInt_le, ← Int32.toInt_inj, e0, e1] at *
  omega

set_option maxHeartbeats 4000000 in
set_option maxRecDepth 100000 in
theorem k_X5_isOrder_2 (l : Launch) (D : va_G) (κ ε : Nat → Nat) (h0 h1 h2 h3 h4 h5 h6 h7 h8 : Nat) (p0 : Int32) (p1 : Int32) (p2 : Int32) (p3 : Int32) (p4 : Int32) (hf0 : ¬ p0 = 1) (hf1 : ¬ p0 = 2) : Met l yX5_isOrder wsX5_isOrder ({ frames := 0, cells := 0, slots := 0, locals := 0 }) (va_Pc [.ref h0, .int p0] (Pre0 D κ [(h0, .inr (7, [.ref h1, .ref h2, .ref h3, .ref h4, .ref h5, .ref h6, .int p1, .int p2, .int p3, .int 0])), (h1, .inr (2, [.int p4, .int 2, .ref h7, .ref h8]))])) (vp_Si (fun r => ((p0 < 1) ∧ (r = 0)) ∨ ((¬ p0 < 1) ∧ (r = 0)))) 0 0 (fun _ => False) := by
  refine Met.ofW (cc := cX5_isOrder) (maxL := 2) (ret := (some .boolean)) (by decide) rfl ?_
  intro p e s m args below meth c s₁ B hml hv
  obtain ⟨rfl, hP, hK⟩ := hv
  have hx := B.exec
  have hb := B.bytes
  have hr := B.returns
  have hts := atoms_spec (ws := wsX5_isOrder) B.pre
  have hown : s.vm.findClass RX5 = some m.cls := findClass_of_methodNamed B.named
  have hlocks := B.notSynchronized
  have hP : va_P D vwCl [(h0, .inr (7, [.ref h1, .ref h2, .ref h3, .ref h4, .ref h5, .ref h6, .int p1, .int p2, .int p3, .int 0])), (h1, .inr (2, [.int p4, .int 2, .ref h7, .ref h8]))] s.heap := hP
  have hl := lv_entry [.ref h0, .int p0] (n := 2) (Nat.le_of_ble_eq_true rfl)
  rw [lg_entry_eq]
  generalize (lg_sl [.ref h0, .int p0] ++ List.replicate (2 - (lg_sl [.ref h0, .int p0]).length) Slot.unset).toArray = ls at hl ⊢
  have hl : lv_has ls 2 [(0, .ref h0), (1, .int p0)] := hl
  refine lv_iload_n hx hb dX5_isOrder_0 rfl (lv_at hl 1 rfl) ?_
  refine lv_iconst (v := 1) hx hb dX5_isOrder_1 (by decide) ?_
  refine lv_icmp_lt (tgt := 20) hx hb dX5_isOrder_2 (by decide) (fun c1 => ?_) (fun c1 => ?_)
  · skip
    refine lv_iconst (v := 0) hx hb dX5_isOrder_20 (by decide) ?_
    exact W.zret (v := 0) hx hb hr rfl (fun t ht hW => ⟨0, rfl, (Or.inl ⟨c1, rfl⟩), ht⟩) (fun q hq => absurd hq List.not_mem_nil) dX5_isOrder_21
  · skip
    refine lv_iload_n hx hb dX5_isOrder_5 rfl (lv_at hl 1 rfl) ?_
    refine lv_aload_n hx hb dX5_isOrder_6 rfl (lv_at hl 0 rfl) ?_
    refine va_get (D := D) (ci := 7) (v := .ref h1) (C := RX5) (T := TX5) (N := 10) hx hb hts wi_X5_isOrder_RX5 hown hK hP 0 rfl rfl 0 (by decide) (hts _ wd205_X5_isOrder) (fun _ h9 => h9) rfl dX5_isOrder_7 ?_
    refine va_get (D := D) (ci := 2) (v := .int 2) (C := RX0) (T := TX0) (N := 4) hx hb hts wi_X5_isOrder_RX0 hown hK hP 1 rfl rfl 1 (by decide) (hts _ wd206_X5_isOrder) (fun _ h9 => h9) rfl dX5_isOrder_10 ?_
    refine lv_icmp_gt (tgt := 20) hx hb dX5_isOrder_13 (by decide) (fun _ => ?_) (fun h => absurd (iv6 _ hf0 hf1 c1) h)
    refine lv_iconst (v := 0) hx hb dX5_isOrder_20 (by decide) ?_
    exact W.zret (v := 0) hx hb hr rfl (fun t ht hW => ⟨0, rfl, (Or.inr ⟨c1, rfl⟩), ht⟩) (fun q hq => absurd hq List.not_mem_nil) dX5_isOrder_21

theorem at1_X5_entries_82 : ∀ w ∈ (vx_atS RX5 82 "java/lang/IllegalArgumentException" ["java/lang/RuntimeException", "java/lang/Exception"]).filter goodWord, w ∈ wsX5_entries := by decide +kernel

theorem wd211_X5_entries : (.classLink RX5 78 "java/lang/IllegalArgumentException" : Cond) ∈ wsX5_entries := by decide +kernel

theorem wd212_X5_entries : (.initialized "java/lang/IllegalArgumentException" : Cond) ∈ wsX5_entries := by decide +kernel

set_option maxHeartbeats 4000000 in
set_option maxRecDepth 100000 in
theorem k_X5_entries_2 (l : Launch) (hst : l.stackTraces = false) (D : va_G) (κ ε : Nat → Nat) (h0 h1 h2 h3 h4 h5 h6 h7 h8 : Nat) (sz : Nat) (p0 : Int32) (hf0 : ¬ p0 = 1) (hf1 : ¬ p0 = 2) : vx_Met l yX5_entries wsX5_entries ({ frames := 6, cells := 1, slots := 6, locals := 120 }) (va_Pc [.ref h0, .int p0] (Pre2 D κ ε [(h0, .inr (7, [.ref h1, .ref h2, .ref h3, .ref h4, .ref h5, .ref h6, .int 0, .int 0, .int 0, .int 0])), (h1, .inr (2, [.int 0, .int 2, .ref h7, .ref h8]))] sz)) (va_Qi (fun r (u : Unit) => False) (fun _ _ => True) (va_A [(h0, .inr (7, [.ref h1, .ref h2, .ref h3, .ref h4, .ref h5, .ref h6, .int 0, .int 0, .int 0, .int 0])), (h1, .inr (2, [.int 0, .int 2, .ref h7, .ref h8]))] sz)) (vx_X (fun _ : Unit => True) (fun E _ _ => ((p0 < 1) ∧ E = "java/lang/IllegalArgumentException") ∨ ((¬ p0 < 1) ∧ E = "java/lang/IllegalArgumentException")) (va_A [(h0, .inr (7, [.ref h1, .ref h2, .ref h3, .ref h4, .ref h5, .ref h6, .int 0, .int 0, .int 0, .int 0])), (h1, .inr (2, [.int 0, .int 2, .ref h7, .ref h8]))] sz)) 1 6 (va_A [(h0, .inr (7, [.ref h1, .ref h2, .ref h3, .ref h4, .ref h5, .ref h6, .int 0, .int 0, .int 0, .int 0])), (h1, .inr (2, [.int 0, .int 2, .ref h7, .ref h8]))] sz) := by
  refine vx_ofW (cc := cX5_entries) (maxL := 2) (ret := (some .int)) (by decide) rfl ?_
  intro p e s m args below meth c s₁ B hml hnx hv
  obtain ⟨rfl, hsz, hP, hK, hD0, hE9⟩ := hv
  have hx := B.exec
  have hb := B.bytes
  have hr := B.returns
  have hts := atoms_spec (ws := wsX5_entries) B.pre
  have hown : s.vm.findClass RX5 = some m.cls := findClass_of_methodNamed B.named
  have hlocks := B.notSynchronized
  subst hsz
  have hD := hD0.self (sz := s.heap.size)
  generalize hAe : va_A [(h0, .inr (7, [.ref h1, .ref h2, .ref h3, .ref h4, .ref h5, .ref h6, .int 0, .int 0, .int 0, .int 0])), (h1, .inr (2, [.int 0, .int 2, .ref h7, .ref h8]))] s.heap.size = A at hD hE9 ⊢
  have hE := hE9.1
  have hDc := hE9.2
  have hA : ∀ q : Nat, s.heap.size ≤ q → A q := fun q h => by rw [← hAe]; exact Or.inr h
  have hS : va_S A s.heap s.heap [] := va_S.rf
  have hP : va_P D vwCl [(h0, .inr (7, [.ref h1, .ref h2, .ref h3, .ref h4, .ref h5, .ref h6, .int 0, .int 0, .int 0, .int 0])), (h1, .inr (2, [.int 0, .int 2, .ref h7, .ref h8]))] s.heap := hP
  have hl := lv_entry [.ref h0, .int p0] (n := 2) (Nat.le_of_ble_eq_true rfl)
  rw [lg_entry_eq]
  generalize (lg_sl [.ref h0, .int p0] ++ List.replicate (2 - (lg_sl [.ref h0, .int p0]).length) Slot.unset).toArray = ls at hl ⊢
  have hl : lv_has ls 2 [(0, .ref h0), (1, .int p0)] := hl
  refine lv_aload_n hx hb dX5_entries_0 rfl (lv_at hl 0 rfl) ?_
  refine lv_iload_n hx hb dX5_entries_1 rfl (lv_at hl 1 rfl) ?_
  refine vp_callSi (W.runV (As := [.int p0]) (rest := []) ⟨hx, hb, hml, hown, hts⟩ (k_X5_isOrder_2 l D κ ε h0 h1 h2 h3 h4 h5 h6 h7 h8 (p0) (0) (0) (0) (0) hf0 hf1) (cwV 1 hts gX5_entries_X5_isOrder rfl rfl rfl (by decide +kernel) ⟨(Nat.le_of_ble_eq_true rfl), (Nat.le_of_ble_eq_true rfl)⟩) (pre0_V (q0 := 0) (ci := 7) (wc := [(h0, .inr (7, [.ref h1, .ref h2, .ref h3, .ref h4, .ref h5, .ref h6, .int 0, .int 0, .int 0, .int 0])), (h1, .inr (2, [.int 0, .int 2, .ref h7, .ref h8]))]) hP hK [0, 1] rfl rfl rfl) rfl rfl hl.1 rfl (lv_room (Nat.le_of_ble_eq_true rfl)) dX5_entries_2 ⟨(Nat.le_of_ble_eq_true rfl), (Nat.le_of_ble_eq_true rfl)⟩) (fun r hw => ?_)
  rcases hw with ⟨c1, rfl⟩ | ⟨c2, rfl⟩
  · skip
    refine lv_if_ne (tgt := 18) hx hb dX5_entries_5 (by decide) (fun h => absurd (by decide) h) (fun _ => ?_)
    exact vx_throwS (names := ["java/lang/RuntimeException", "java/lang/Exception"]) (sa := ε 19) hx hb hst hown (by decide +kernel) (by decide +kernel) (hts _ wd211_X5_entries) (hts _ wd212_X5_entries) (hE.2.2.2.2.2.2.1 _ (List.mem_of_getElem? (i := 9) rfl)) (vx_hat (B := [.castable "java/lang/IllegalArgumentException" "java/lang/IllegalArgumentException", .declares (Bundle.initS "java/lang/RuntimeException"), .declares (Bundle.initS "java/lang/Exception"), .declares (Bundle.initS "java/lang/Throwable")]) (fun w hw => hts w (at1_X5_entries_82 w hw)) at2_RX5_82 (vx_c (va_Nw.use rfl hE.2.2.2.2.2.2.2.2.2.2.2.2.2.2.1) (vx_c (va_Nw.use rfl hDc.1) (vx_c (va_Nw.use rfl hDc.2.1) (vx_c (va_Nw.use rfl hDc.2.2) vx_n))))) at2_RX5_82g hE.1 hE.2.1 hS (by rw [hml]; exact hl.1) dX5_entries_8 dX5_entries_11 dX5_entries_12 dX5_entries_14 dX5_entries_17 (fun x hx => (hnx x hx).elim) (by decide) (by decide) (Nat.le_of_ble_eq_true rfl) (Nat.le_of_ble_eq_true rfl) hlocks (fun t _ h1 h2 => ⟨(), trivial, (Or.inl ⟨c1, rfl⟩), thF (H0 := s.heap) hS h1 h2⟩) hS.2.2 (Nat.le_of_ble_eq_true rfl) (Nat.le_of_ble_eq_true rfl)
  · skip
    refine lv_if_ne (tgt := 18) hx hb dX5_entries_5 (by decide) (fun h => absurd (by decide) h) (fun _ => ?_)
    exact vx_throwS (names := ["java/lang/RuntimeException", "java/lang/Exception"]) (sa := ε 19) hx hb hst hown (by decide +kernel) (by decide +kernel) (hts _ wd211_X5_entries) (hts _ wd212_X5_entries) (hE.2.2.2.2.2.2.1 _ (List.mem_of_getElem? (i := 9) rfl)) (vx_hat (B := [.castable "java/lang/IllegalArgumentException" "java/lang/IllegalArgumentException", .declares (Bundle.initS "java/lang/RuntimeException"), .declares (Bundle.initS "java/lang/Exception"), .declares (Bundle.initS "java/lang/Throwable")]) (fun w hw => hts w (at1_X5_entries_82 w hw)) at2_RX5_82 (vx_c (va_Nw.use rfl hE.2.2.2.2.2.2.2.2.2.2.2.2.2.2.1) (vx_c (va_Nw.use rfl hDc.1) (vx_c (va_Nw.use rfl hDc.2.1) (vx_c (va_Nw.use rfl hDc.2.2) vx_n))))) at2_RX5_82g hE.1 hE.2.1 hS (by rw [hml]; exact hl.1) dX5_entries_8 dX5_entries_11 dX5_entries_12 dX5_entries_14 dX5_entries_17 (fun x hx => (hnx x hx).elim) (by decide) (by decide) (Nat.le_of_ble_eq_true rfl) (Nat.le_of_ble_eq_true rfl) hlocks (fun t _ h1 h2 => ⟨(), trivial, (Or.inr ⟨c2, rfl⟩), thF (H0 := s.heap) hS h1 h2⟩) hS.2.2 (Nat.le_of_ble_eq_true rfl) (Nat.le_of_ble_eq_true rfl)

theorem wd213_L_entries : (.classLink RL 19 "java/lang/IllegalArgumentException" : Cond) ∈ wsL_entries := by decide +kernel

set_option maxHeartbeats 4000000 in
set_option maxRecDepth 100000 in
theorem k_L_entries_2 (l : Launch) (hst : l.stackTraces = false) (D : va_G) (κ ε : Nat → Nat) (h0 h1 h2 h3 h4 h5 h6 h7 h8 h9 : Nat) (sz : Nat) (p0 : Int32) (hf0 : ¬ p0 = 1) (hf1 : ¬ p0 = 2) : Met l yL_entries wsL_entries ({ frames := 7, cells := 1, slots := 6, locals := 141 }) (va_Pc [.ref h0, .int p0, .ref h1] (Pre2 D κ ε [(h0, .inr (7, [.ref h2, .ref h3, .ref h4, .ref h5, .ref h6, .ref h7, .int 0, .int 0, .int 0, .int 0])), (h1, .inl (κ 2, 1, .inr (.inl (fun _ => 0)))), (h2, .inr (2, [.int 0, .int 2, .ref h8, .ref h9]))] sz)) (va_Qi (fun r (u : Nat → Int64) => ((p0 < 1) ∧ (r = 1)) ∨ ((¬ p0 < 1) ∧ (r = 1))) (fun u t => va_P D vwCl [(h1, .inl (κ 2, 1, .inr (.inl u)))] t.heap ∧ va_D (va_A [(h0, .inr (7, [.ref h2, .ref h3, .ref h4, .ref h5, .ref h6, .ref h7, .int 0, .int 0, .int 0, .int 0])), (h1, .inl (κ 2, 1, .inr (.inl (fun _ => 0)))), (h2, .inr (2, [.int 0, .int 2, .ref h8, .ref h9]))] sz) [(h1, .inl (κ 2, 1, .inr (.inl u)))]) (va_A [(h0, .inr (7, [.ref h2, .ref h3, .ref h4, .ref h5, .ref h6, .ref h7, .int 0, .int 0, .int 0, .int 0])), (h1, .inl (κ 2, 1, .inr (.inl (fun _ => 0)))), (h2, .inr (2, [.int 0, .int 2, .ref h8, .ref h9]))] sz)) 1 6 (va_A [(h0, .inr (7, [.ref h2, .ref h3, .ref h4, .ref h5, .ref h6, .ref h7, .int 0, .int 0, .int 0, .int 0])), (h1, .inl (κ 2, 1, .inr (.inl (fun _ => 0)))), (h2, .inr (2, [.int 0, .int 2, .ref h8, .ref h9]))] sz) := by
  refine va_MetW (cc := cL_entries) (maxL := 4) (ret := (some .int)) (hh := [(0, 9, 12, 19)]) (by decide) rfl ?_
  intro p e s m args below meth c s₁ B hml hv
  obtain ⟨rfl, hsz, hP, hK, hD0, hE9⟩ := hv
  have hx := B.exec
  have hb := B.bytes
  have hr := B.returns
  have hts := atoms_spec (ws := wsL_entries) B.pre
  have hown : s.vm.findClass RL = some m.cls := findClass_of_methodNamed B.named
  have hlocks := B.notSynchronized
  have htab : c.exceptionTable.toList = tableOf [(0, 9, 12, 19)] := vx_table (x := yL_entries) B (hts (.codeWith yL_entries cL_entries 4 (some .int) [(0, 9, 12, 19)]) List.mem_cons_self)
  subst hsz
  have hD := hD0.self (sz := s.heap.size)
  generalize hAe : va_A [(h0, .inr (7, [.ref h2, .ref h3, .ref h4, .ref h5, .ref h6, .ref h7, .int 0, .int 0, .int 0, .int 0])), (h1, .inl (κ 2, 1, .inr (.inl (fun _ => 0)))), (h2, .inr (2, [.int 0, .int 2, .ref h8, .ref h9]))] s.heap.size = A at hD hE9 ⊢
  have hE := hE9.1
  have hDc := hE9.2
  have hA : ∀ q : Nat, s.heap.size ≤ q → A q := fun q h => by rw [← hAe]; exact Or.inr h
  have hS : va_S A s.heap s.heap [] := va_S.rf
  have hP : va_P D vwCl [(h0, .inr (7, [.ref h2, .ref h3, .ref h4, .ref h5, .ref h6, .ref h7, .int 0, .int 0, .int 0, .int 0])), (h1, .inl (κ 2, 1, .inr (.inl (fun _ => 0)))), (h2, .inr (2, [.int 0, .int 2, .ref h8, .ref h9]))] s.heap := hP
  have hl := lv_entry [.ref h0, .int p0, .ref h1] (n := 4) (Nat.le_of_ble_eq_true rfl)
  rw [lg_entry_eq]
  generalize (lg_sl [.ref h0, .int p0, .ref h1] ++ List.replicate (4 - (lg_sl [.ref h0, .int p0, .ref h1]).length) Slot.unset).toArray = ls at hl ⊢
  have hl : lv_has ls 4 [(0, .ref h0), (1, .int p0), (2, .ref h1)] := hl
  refine lv_aload_n hx hb dL_entries_0 rfl (lv_at hl 2 rfl) ?_
  refine lv_iconst (v := 0) hx hb dL_entries_1 (by decide) ?_
  refine lv_aload_n hx hb dL_entries_2 rfl (lv_at hl 0 rfl) ?_
  refine lv_iload_n hx hb dL_entries_3 rfl (lv_at hl 1 rfl) ?_
  have hF := va_free (wc := [(h0, .inr (7, [.ref h2, .ref h3, .ref h4, .ref h5, .ref h6, .ref h7, .int 0, .int 0, .int 0, .int 0])), (h2, .inr (2, [.int 0, .int 2, .ref h8, .ref h9]))]) hD hS hA [0, 2] rfl
  refine vx_calli (vx_runV (As := [.int p0]) (rest := [.int 0, .ref h1]) ⟨hx, hb, hml, hown, hts⟩ (k_X5_entries_2 l hst D κ ε h0 h2 h3 h4 h5 h6 h7 h8 h9 s.heap.size (p0) hf0 hf1) (cwV 1 hts gL_entries_X5_entries rfl rfl rfl (by decide +kernel) ⟨(Nat.le_of_ble_eq_true rfl), (Nat.le_of_ble_eq_true rfl)⟩) (pre2_V (q0 := 0) (ci := 7) (wc := [(h0, .inr (7, [.ref h2, .ref h3, .ref h4, .ref h5, .ref h6, .ref h7, .int 0, .int 0, .int 0, .int 0])), (h2, .inr (2, [.int 0, .int 2, .ref h8, .ref h9]))]) hP hD hK hE9 hS hA [0, 2] (by decide) rfl rfl rfl) rfl rfl hl.1 rfl (lv_room (Nat.le_of_ble_eq_true rfl)) dL_entries_4 ⟨(Nat.le_of_ble_eq_true rfl), (Nat.le_of_ble_eq_true rfl)⟩) hS (fun q _ h => hF q h) hF (fun q _ h => hF q h) (fun E9 ce q9 u t H locs ht hvm hw hB hz1 hk1 hS hce hcv hcl => ?_) (fun r u t H locs ht hvm hw hB hz1 hk1 hS => ?_)
  · try dsimp only at hB
    have hP1 : va_P D vwCl [] H := P_nil
    obtain ⟨hP, hD⟩ := post_j (ws' := [(h1, .inl (κ 2, 1, .inr (.inl (fun _ => 0))))]) (wr := [(h1, .inl (κ 2, 1, .inr (.inl (fun _ => 0))))]) (w1 := []) hP hD hF [0, 2] rfl [1] rfl (by decide) (by decide) hk1 hP1 D_nil [0] (by decide) rfl
    have hP : va_P D vwCl [(h1, .inl (κ 2, 1, .inr (.inl (fun _ => 0))))] H := hP
    have hD : va_D A [(h1, .inl (κ 2, 1, .inr (.inl (fun _ => 0))))] := hD
    rcases hB with ⟨c2, rfl⟩ | ⟨c3, rfl⟩
    · skip
      refine vx_catch (name := "java/lang/IllegalArgumentException") hown [] ⟨0, 9, 12, 19⟩ [] (htab.trans rfl) (fun z hz => nomatch hz) (by decide) (by decide) (hts _ wd213_L_entries) (va_Nw.use rfl hE.2.2.2.2.2.2.2.2.2.2.2.2.2.2.1) hce hcv hcl ?_
      refine lv_astore_n (lv' := [(3, .ref q9), (0, .ref h0), (1, .int p0), (2, .ref h1)]) hx hb dL_entries_12 rfl hl (by decide) rfl (fun ls hl => ?_)
      refine lv_iconst (v := 1) hx hb dL_entries_13 (by decide) ?_
      have hP9 := hP.sub (ws' := [(h1, .inl (κ 2, 1, .inr (.inl (fun _ => 0))))]) [0] rfl
      have hD9 := hD.sub (ws' := [(h1, .inl (κ 2, 1, .inr (.inl (fun _ => 0))))]) [0] (by decide) rfl
      refine W.widen (k := 1) (n := 6) (Nat.le_of_ble_eq_true rfl) (Nat.le_of_ble_eq_true rfl) ?_
      exact W.iret (v := 1) hx hb hr (fun t ht hW => ⟨⟨1, (fun _ => 0), rfl, (Or.inl ⟨c2, rfl⟩), by rw [ht]; exact hP9, hD9⟩, hS.F ht⟩) hS.2.2 dL_entries_14
    · skip
      refine vx_catch (name := "java/lang/IllegalArgumentException") hown [] ⟨0, 9, 12, 19⟩ [] (htab.trans rfl) (fun z hz => nomatch hz) (by decide) (by decide) (hts _ wd213_L_entries) (va_Nw.use rfl hE.2.2.2.2.2.2.2.2.2.2.2.2.2.2.1) hce hcv hcl ?_
      refine lv_astore_n (lv' := [(3, .ref q9), (0, .ref h0), (1, .int p0), (2, .ref h1)]) hx hb dL_entries_12 rfl hl (by decide) rfl (fun ls hl => ?_)
      refine lv_iconst (v := 1) hx hb dL_entries_13 (by decide) ?_
      have hP9 := hP.sub (ws' := [(h1, .inl (κ 2, 1, .inr (.inl (fun _ => 0))))]) [0] rfl
      have hD9 := hD.sub (ws' := [(h1, .inl (κ 2, 1, .inr (.inl (fun _ => 0))))]) [0] (by decide) rfl
      refine W.widen (k := 1) (n := 6) (Nat.le_of_ble_eq_true rfl) (Nat.le_of_ble_eq_true rfl) ?_
      exact W.iret (v := 1) hx hb hr (fun t ht hW => ⟨⟨1, (fun _ => 0), rfl, (Or.inr ⟨c3, rfl⟩), by rw [ht]; exact hP9, hD9⟩, hS.F ht⟩) hS.2.2 dL_entries_14
  · exact False.elim hw

set_option maxHeartbeats 4000000 in
set_option maxRecDepth 100000 in
theorem k_X6_isIn_10 (l : Launch) (D : va_G) (κ ε : Nat → Nat) (p0 : Int32) (hf0 : p0 < 1) : Met l yX6_isIn wsX6_isIn ({ frames := 0, cells := 0, slots := 0, locals := 0 }) (va_Pc [.int p0, .int 1, .int 2] (Pre0 D κ [])) (vp_Si (fun r => (r = 0))) 0 0 (fun _ => False) := by
  refine Met.ofW (cc := cX6_isIn) (maxL := 3) (ret := (some .boolean)) (by decide) rfl ?_
  intro p e s m args below meth c s₁ B hml hv
  obtain ⟨rfl, hP, hK⟩ := hv
  have hx := B.exec
  have hb := B.bytes
  have hr := B.returns
  have hts := atoms_spec (ws := wsX6_isIn) B.pre
  have hown : s.vm.findClass RX6 = some m.cls := findClass_of_methodNamed B.named
  have hlocks := B.notSynchronized
  have hP : va_P D vwCl [] s.heap := hP
  have hl := lv_entry [.int p0, .int 1, .int 2] (n := 3) (Nat.le_of_ble_eq_true rfl)
  rw [lg_entry_eq]
  generalize (lg_sl [.int p0, .int 1, .int 2] ++ List.replicate (3 - (lg_sl [.int p0, .int 1, .int 2]).length) Slot.unset).toArray = ls at hl ⊢
  have hl : lv_has ls 3 [(0, .int p0), (1, .int 1), (2, .int 2)] := hl
  refine lv_iload_n hx hb dX6_isIn_0 rfl (lv_at hl 0 rfl) ?_
  refine lv_iload_n hx hb dX6_isIn_1 rfl (lv_at hl 1 rfl) ?_
  refine lv_icmp_lt (tgt := 14) hx hb dX6_isIn_2 (by decide) (fun _ => ?_) (fun h => absurd hf0 h)
  refine lv_iconst (v := 0) hx hb dX6_isIn_14 (by decide) ?_
  exact W.zret (v := 0) hx hb hr rfl (fun t ht hW => ⟨0, rfl, rfl, ht⟩) (fun q hq => absurd hq List.not_mem_nil) dX6_isIn_15

set_option maxHeartbeats 4000000 in
set_option maxRecDepth 100000 in
theorem k_X6_isNoOrder_2 (l : Launch) (D : va_G) (κ ε : Nat → Nat) (h0 h1 h2 h3 : Nat) (sz : Nat) (p0 : Int32) (p1 : Int32) (p2 : Int32) (p3 : Int32) (p4 : Int32) (p5 : Int32) (hf0 : p0 < 1) : Met l yX6_isNoOrder wsX6_isNoOrder ({ frames := 2, cells := 0, slots := 0, locals := 44 }) (va_Pc [.ref h0, .int p0, .int 1] (Pre2 D κ ε [(h0, .inr (8, [.int 0, .int p1, .int 2, .ref h1, .ref h2, .int p2, .int p3, .int p4, .int p5, .int 0, .ref h3]))] sz)) (va_Qi (fun r (u : Unit) => (r = 1)) (fun u t => va_P D vwCl [(h0, .inr (8, [.int 1, .int p1, .int 2, .ref h1, .ref h2, .int p2, .int p3, .int p4, .int p5, .int 0, .ref h3]))] t.heap ∧ va_D (va_A [(h0, .inr (8, [.int 0, .int p1, .int 2, .ref h1, .ref h2, .int p2, .int p3, .int p4, .int p5, .int 0, .ref h3]))] sz) [(h0, .inr (8, [.int 1, .int p1, .int 2, .ref h1, .ref h2, .int p2, .int p3, .int p4, .int p5, .int 0, .ref h3]))]) (va_A [(h0, .inr (8, [.int 0, .int p1, .int 2, .ref h1, .ref h2, .int p2, .int p3, .int p4, .int p5, .int 0, .ref h3]))] sz)) 0 0 (va_A [(h0, .inr (8, [.int 0, .int p1, .int 2, .ref h1, .ref h2, .int p2, .int p3, .int p4, .int p5, .int 0, .ref h3]))] sz) := by
  refine Met.ofW (cc := cX6_isNoOrder) (maxL := 3) (ret := (some .boolean)) (by decide) rfl ?_
  intro p e s m args below meth c s₁ B hml hv
  obtain ⟨rfl, hsz, hP, hK, hD0, hE9⟩ := hv
  have hx := B.exec
  have hb := B.bytes
  have hr := B.returns
  have hts := atoms_spec (ws := wsX6_isNoOrder) B.pre
  have hown : s.vm.findClass RX6 = some m.cls := findClass_of_methodNamed B.named
  have hlocks := B.notSynchronized
  subst hsz
  have hD := hD0.self (sz := s.heap.size)
  generalize hAe : va_A [(h0, .inr (8, [.int 0, .int p1, .int 2, .ref h1, .ref h2, .int p2, .int p3, .int p4, .int p5, .int 0, .ref h3]))] s.heap.size = A at hD hE9 ⊢
  have hE := hE9.1
  have hDc := hE9.2
  have hA : ∀ q : Nat, s.heap.size ≤ q → A q := fun q h => by rw [← hAe]; exact Or.inr h
  have hS : va_S A s.heap s.heap [] := va_S.rf
  have hP : va_P D vwCl [(h0, .inr (8, [.int 0, .int p1, .int 2, .ref h1, .ref h2, .int p2, .int p3, .int p4, .int p5, .int 0, .ref h3]))] s.heap := hP
  have hl := lv_entry [.ref h0, .int p0, .int 1] (n := 3) (Nat.le_of_ble_eq_true rfl)
  rw [lg_entry_eq]
  generalize (lg_sl [.ref h0, .int p0, .int 1] ++ List.replicate (3 - (lg_sl [.ref h0, .int p0, .int 1]).length) Slot.unset).toArray = ls at hl ⊢
  have hl : lv_has ls 3 [(0, .ref h0), (1, .int p0), (2, .int 1)] := hl
  refine lv_aload_n hx hb dX6_isNoOrder_0 rfl (lv_at hl 0 rfl) ?_
  refine lv_iload_n hx hb dX6_isNoOrder_1 rfl (lv_at hl 1 rfl) ?_
  refine lv_iload_n hx hb dX6_isNoOrder_2 rfl (lv_at hl 2 rfl) ?_
  refine lv_aload_n hx hb dX6_isNoOrder_3 rfl (lv_at hl 0 rfl) ?_
  refine va_get (D := D) (ci := 8) (v := .int 2) (C := RX6) (T := TX6) (N := 11) hx hb hts wi_X6_isNoOrder_RX6 hown hK hP 0 rfl rfl 2 (by decide) (hts _ wd209_X6_isNoOrder) (fun _ h9 => h9) rfl dX6_isNoOrder_4 ?_
  refine vp_callSi (W.runS (As := [.int p0, .int 1, .int 2]) (rest := [.ref h0]) ⟨hx, hb, hml, hown, hts⟩ (k_X6_isIn_10 l D κ ε (p0) hf0) (va_cwS 3 hts gX6_isNoOrder_X6_isIn rfl rfl rfl (by decide +kernel) ⟨(Nat.le_of_ble_eq_true rfl), (Nat.le_of_ble_eq_true rfl)⟩) (pre0_S (wc := []) hP hK [] rfl) rfl rfl hl.1 rfl (lv_room (Nat.le_of_ble_eq_true rfl)) dX6_isNoOrder_7 ⟨(Nat.le_of_ble_eq_true rfl), (Nat.le_of_ble_eq_true rfl)⟩) (fun r hw => ?_)
  rw [hw]
  refine lv_if_ne (tgt := 17) hx hb dX6_isNoOrder_10 (by decide) (fun h => absurd (by decide) h) (fun _ => ?_)
  refine lv_iconst (v := 1) hx hb dX6_isNoOrder_13 (by decide) ?_
  refine lv_goto (tgt := 18) hx hb dX6_isNoOrder_14 (by decide) ?_
  refine lv_iconst (v := 1) hx hb dX6_isNoOrder_18 (by decide) ?_
  have hF := va_free (wc := [(h0, .inr (8, [.int 0, .int p1, .int 2, .ref h1, .ref h2, .int p2, .int p3, .int p4, .int p5, .int 0, .ref h3]))]) hD hS hA [0] rfl
  refine va_calli (va_runV (As := [.int 1, .int 1]) (rest := []) ⟨hx, hb, hml, hown, hts⟩ (k_X6_start_1 l D κ ε h0 h1 h2 h3 s.heap.size (p1) (2) (p2) (p3) (p4) (p5)) (cwV 2 hts gX6_isNoOrder_X6_start rfl rfl rfl (by decide +kernel) ⟨(Nat.le_of_ble_eq_true rfl), (Nat.le_of_ble_eq_true rfl)⟩) (pre2_V (q0 := 0) (ci := 8) (wc := [(h0, .inr (8, [.int 0, .int p1, .int 2, .ref h1, .ref h2, .int p2, .int p3, .int p4, .int p5, .int 0, .ref h3]))]) hP hD hK hE9 hS hA [0] (by decide) rfl rfl rfl) rfl rfl hl.1 rfl (lv_room (Nat.le_of_ble_eq_true rfl)) dX6_isNoOrder_19 ⟨(Nat.le_of_ble_eq_true rfl), (Nat.le_of_ble_eq_true rfl)⟩) hS (fun q _ h => hF q h) hF (fun r u1 t H locs ht hvm hw hB hz1 hk1 hS => ?_)
  try dsimp only at hw hB
  obtain ⟨hP1, hD1⟩ := hB
  rw [ht] at hP1
  obtain ⟨hP, hD⟩ := post_j (ws' := [(h0, .inr (8, [.int 1, .int p1, .int 2, .ref h1, .ref h2, .int p2, .int p3, .int p4, .int p5, .int 0, .ref h3]))]) (wr := []) (w1 := [(h0, .inr (8, [.int 1, .int p1, .int 2, .ref h1, .ref h2, .int p2, .int p3, .int p4, .int p5, .int 0, .ref h3]))]) hP hD hF [0] rfl [] rfl (by decide) (by decide) hk1 hP1 hD1 [0] (by decide) rfl
  have hP : va_P D vwCl [(h0, .inr (8, [.int 1, .int p1, .int 2, .ref h1, .ref h2, .int p2, .int p3, .int p4, .int p5, .int 0, .ref h3]))] H := hP
  have hD : va_D A [(h0, .inr (8, [.int 1, .int p1, .int 2, .ref h1, .ref h2, .int p2, .int p3, .int p4, .int p5, .int 0, .ref h3]))] := hD
  rw [hw]
  have hP9 := hP
  have hD9 := hD
  exact W.zret (v := 1) hx hb hr rfl (fun t ht hW => ⟨⟨1, (), rfl, rfl, by rw [ht]; exact hP9, hD9⟩, hS.F ht⟩) hS.2.2 dX6_isNoOrder_22

set_option maxHeartbeats 4000000 in
set_option maxRecDepth 100000 in
theorem k_X6_entries_2 (l : Launch) (D : va_G) (κ ε : Nat → Nat) (h0 h1 h2 h3 : Nat) (sz : Nat) (p0 : Int32) (hf0 : p0 < 1) : Met l yX6_entries wsX6_entries ({ frames := 3, cells := 0, slots := 0, locals := 66 }) (va_Pc [.ref h0, .int p0] (Pre2 D κ ε [(h0, .inr (8, [.int 0, .int 0, .int 2, .ref h1, .ref h2, .int 0, .int 500, .int 0, .int 0, .int 0, .ref h3]))] sz)) (va_Qi (fun r (u : List Value) => (u[0]? = some (.int 1)) ∧ (r = 0)) (fun u t => va_P D vwCl [(h0, .inr (8, u))] t.heap ∧ va_D (va_A [(h0, .inr (8, [.int 0, .int 0, .int 2, .ref h1, .ref h2, .int 0, .int 500, .int 0, .int 0, .int 0, .ref h3]))] sz) [(h0, .inr (8, u))]) (va_A [(h0, .inr (8, [.int 0, .int 0, .int 2, .ref h1, .ref h2, .int 0, .int 500, .int 0, .int 0, .int 0, .ref h3]))] sz)) 0 0 (va_A [(h0, .inr (8, [.int 0, .int 0, .int 2, .ref h1, .ref h2, .int 0, .int 500, .int 0, .int 0, .int 0, .ref h3]))] sz) := by
  refine Met.ofW (cc := cX6_entries) (maxL := 2) (ret := (some .int)) (by decide) rfl ?_
  intro p e s m args below meth c s₁ B hml hv
  obtain ⟨rfl, hsz, hP, hK, hD0, hE9⟩ := hv
  have hx := B.exec
  have hb := B.bytes
  have hr := B.returns
  have hts := atoms_spec (ws := wsX6_entries) B.pre
  have hown : s.vm.findClass RX6 = some m.cls := findClass_of_methodNamed B.named
  have hlocks := B.notSynchronized
  subst hsz
  have hD := hD0.self (sz := s.heap.size)
  generalize hAe : va_A [(h0, .inr (8, [.int 0, .int 0, .int 2, .ref h1, .ref h2, .int 0, .int 500, .int 0, .int 0, .int 0, .ref h3]))] s.heap.size = A at hD hE9 ⊢
  have hE := hE9.1
  have hDc := hE9.2
  have hA : ∀ q : Nat, s.heap.size ≤ q → A q := fun q h => by rw [← hAe]; exact Or.inr h
  have hS : va_S A s.heap s.heap [] := va_S.rf
  have hP : va_P D vwCl [(h0, .inr (8, [.int 0, .int 0, .int 2, .ref h1, .ref h2, .int 0, .int 500, .int 0, .int 0, .int 0, .ref h3]))] s.heap := hP
  have hl := lv_entry [.ref h0, .int p0] (n := 2) (Nat.le_of_ble_eq_true rfl)
  rw [lg_entry_eq]
  generalize (lg_sl [.ref h0, .int p0] ++ List.replicate (2 - (lg_sl [.ref h0, .int p0]).length) Slot.unset).toArray = ls at hl ⊢
  have hl : lv_has ls 2 [(0, .ref h0), (1, .int p0)] := hl
  refine lv_aload_n hx hb dX6_entries_0 rfl (lv_at hl 0 rfl) ?_
  refine lv_iload_n hx hb dX6_entries_1 rfl (lv_at hl 1 rfl) ?_
  refine lv_iconst (v := 1) hx hb dX6_entries_2 (by decide) ?_
  have hF := va_free (wc := [(h0, .inr (8, [.int 0, .int 0, .int 2, .ref h1, .ref h2, .int 0, .int 500, .int 0, .int 0, .int 0, .ref h3]))]) hD hS hA [0] rfl
  refine va_calli (va_runV (As := [.int p0, .int 1]) (rest := []) ⟨hx, hb, hml, hown, hts⟩ (k_X6_isNoOrder_2 l D κ ε h0 h1 h2 h3 s.heap.size (p0) (0) (0) (500) (0) (0) hf0) (cwV 2 hts gX6_entries_X6_isNoOrder rfl rfl rfl (by decide +kernel) ⟨(Nat.le_of_ble_eq_true rfl), (Nat.le_of_ble_eq_true rfl)⟩) (pre2_V (q0 := 0) (ci := 8) (wc := [(h0, .inr (8, [.int 0, .int 0, .int 2, .ref h1, .ref h2, .int 0, .int 500, .int 0, .int 0, .int 0, .ref h3]))]) hP hD hK hE9 hS hA [0] (by decide) rfl rfl rfl) rfl rfl hl.1 rfl (lv_room (Nat.le_of_ble_eq_true rfl)) dX6_entries_3 ⟨(Nat.le_of_ble_eq_true rfl), (Nat.le_of_ble_eq_true rfl)⟩) hS (fun q _ h => hF q h) hF (fun r u1 t H locs ht hvm hw hB hz1 hk1 hS => ?_)
  try dsimp only at hw hB
  obtain ⟨hP1, hD1⟩ := hB
  rw [ht] at hP1
  obtain ⟨hP, hD⟩ := post_j (ws' := [(h0, .inr (8, [.int 1, .int 0, .int 2, .ref h1, .ref h2, .int 0, .int 500, .int 0, .int 0, .int 0, .ref h3]))]) (wr := []) (w1 := [(h0, .inr (8, [.int 1, .int 0, .int 2, .ref h1, .ref h2, .int 0, .int 500, .int 0, .int 0, .int 0, .ref h3]))]) hP hD hF [0] rfl [] rfl (by decide) (by decide) hk1 hP1 hD1 [0] (by decide) rfl
  have hP : va_P D vwCl [(h0, .inr (8, [.int 1, .int 0, .int 2, .ref h1, .ref h2, .int 0, .int 500, .int 0, .int 0, .int 0, .ref h3]))] H := hP
  have hD : va_D A [(h0, .inr (8, [.int 1, .int 0, .int 2, .ref h1, .ref h2, .int 0, .int 500, .int 0, .int 0, .int 0, .ref h3]))] := hD
  rw [hw]
  refine lv_if_eq (tgt := 13) hx hb dX6_entries_6 (by decide) (fun h => absurd h (by decide)) (fun _ => ?_)
  refine lv_iconst (v := 0) hx hb dX6_entries_9 (by decide) ?_
  refine lv_goto (tgt := 24) hx hb dX6_entries_10 (by decide) ?_
  have hP9 := hP.sub (ws' := [(h0, .inr (8, [.int 1, .int 0, .int 2, .ref h1, .ref h2, .int 0, .int 500, .int 0, .int 0, .int 0, .ref h3]))]) [0] rfl
  have hD9 := hD.sub (ws' := [(h0, .inr (8, [.int 1, .int 0, .int 2, .ref h1, .ref h2, .int 0, .int 500, .int 0, .int 0, .int 0, .ref h3]))]) [0] (by decide) rfl
  exact W.iret (v := 0) hx hb hr (fun t ht hW => ⟨⟨0, [.int 1, .int 0, .int 2, .ref h1, .ref h2, .int 0, .int 500, .int 0, .int 0, .int 0, .ref h3], rfl, ⟨rfl, rfl⟩, by rw [ht]; exact hP9, hD9⟩, hS.F ht⟩) hS.2.2 dX6_entries_24

set_option maxHeartbeats 4000000 in
set_option maxRecDepth 100000 in
theorem k_X6_isIn_11 (l : Launch) (D : va_G) (κ ε : Nat → Nat) (p0 : Int32) (hf0 : ¬ p0 = 1) (hf1 : ¬ p0 = 2) (hf2 : ¬ p0 < 1) : Met l yX6_isIn wsX6_isIn ({ frames := 0, cells := 0, slots := 0, locals := 0 }) (va_Pc [.int p0, .int 1, .int 2] (Pre0 D κ [])) (vp_Si (fun r => (r = 0))) 0 0 (fun _ => False) := by
  refine Met.ofW (cc := cX6_isIn) (maxL := 3) (ret := (some .boolean)) (by decide) rfl ?_
  intro p e s m args below meth c s₁ B hml hv
  obtain ⟨rfl, hP, hK⟩ := hv
  have hx := B.exec
  have hb := B.bytes
  have hr := B.returns
  have hts := atoms_spec (ws := wsX6_isIn) B.pre
  have hown : s.vm.findClass RX6 = some m.cls := findClass_of_methodNamed B.named
  have hlocks := B.notSynchronized
  have hP : va_P D vwCl [] s.heap := hP
  have hl := lv_entry [.int p0, .int 1, .int 2] (n := 3) (Nat.le_of_ble_eq_true rfl)
  rw [lg_entry_eq]
  generalize (lg_sl [.int p0, .int 1, .int 2] ++ List.replicate (3 - (lg_sl [.int p0, .int 1, .int 2]).length) Slot.unset).toArray = ls at hl ⊢
  have hl : lv_has ls 3 [(0, .int p0), (1, .int 1), (2, .int 2)] := hl
  refine lv_iload_n hx hb dX6_isIn_0 rfl (lv_at hl 0 rfl) ?_
  refine lv_iload_n hx hb dX6_isIn_1 rfl (lv_at hl 1 rfl) ?_
  refine lv_icmp_lt (tgt := 14) hx hb dX6_isIn_2 (by decide) (fun h => absurd h hf2) (fun _ => ?_)
  refine lv_iload_n hx hb dX6_isIn_5 rfl (lv_at hl 0 rfl) ?_
  refine lv_iload_n hx hb dX6_isIn_6 rfl (lv_at hl 2 rfl) ?_
  refine lv_icmp_gt (tgt := 14) hx hb dX6_isIn_7 (by decide) (fun _ => ?_) (fun h => absurd (iv6 _ hf0 hf1 hf2) h)
  refine lv_iconst (v := 0) hx hb dX6_isIn_14 (by decide) ?_
  exact W.zret (v := 0) hx hb hr rfl (fun t ht hW => ⟨0, rfl, rfl, ht⟩) (fun q hq => absurd hq List.not_mem_nil) dX6_isIn_15

set_option maxHeartbeats 4000000 in
set_option maxRecDepth 100000 in
theorem k_X6_isNoOrder_3 (l : Launch) (D : va_G) (κ ε : Nat → Nat) (h0 h1 h2 h3 : Nat) (sz : Nat) (p0 : Int32) (p1 : Int32) (p2 : Int32) (p3 : Int32) (p4 : Int32) (p5 : Int32) (hf0 : ¬ p0 = 1) (hf1 : ¬ p0 = 2) (hf2 : ¬ p0 < 1) : Met l yX6_isNoOrder wsX6_isNoOrder ({ frames := 2, cells := 0, slots := 0, locals := 44 }) (va_Pc [.ref h0, .int p0, .int 1] (Pre2 D κ ε [(h0, .inr (8, [.int 0, .int p1, .int 2, .ref h1, .ref h2, .int p2, .int p3, .int p4, .int p5, .int 0, .ref h3]))] sz)) (va_Qi (fun r (u : Unit) => (r = 1)) (fun u t => va_P D vwCl [(h0, .inr (8, [.int 1, .int p1, .int 2, .ref h1, .ref h2, .int p2, .int p3, .int p4, .int p5, .int 0, .ref h3]))] t.heap ∧ va_D (va_A [(h0, .inr (8, [.int 0, .int p1, .int 2, .ref h1, .ref h2, .int p2, .int p3, .int p4, .int p5, .int 0, .ref h3]))] sz) [(h0, .inr (8, [.int 1, .int p1, .int 2, .ref h1, .ref h2, .int p2, .int p3, .int p4, .int p5, .int 0, .ref h3]))]) (va_A [(h0, .inr (8, [.int 0, .int p1, .int 2, .ref h1, .ref h2, .int p2, .int p3, .int p4, .int p5, .int 0, .ref h3]))] sz)) 0 0 (va_A [(h0, .inr (8, [.int 0, .int p1, .int 2, .ref h1, .ref h2, .int p2, .int p3, .int p4, .int p5, .int 0, .ref h3]))] sz) := by
  refine Met.ofW (cc := cX6_isNoOrder) (maxL := 3) (ret := (some .boolean)) (by decide) rfl ?_
  intro p e s m args below meth c s₁ B hml hv
  obtain ⟨rfl, hsz, hP, hK, hD0, hE9⟩ := hv
  have hx := B.exec
  have hb := B.bytes
  have hr := B.returns
  have hts := atoms_spec (ws := wsX6_isNoOrder) B.pre
  have hown : s.vm.findClass RX6 = some m.cls := findClass_of_methodNamed B.named
  have hlocks := B.notSynchronized
  subst hsz
  have hD := hD0.self (sz := s.heap.size)
  generalize hAe : va_A [(h0, .inr (8, [.int 0, .int p1, .int 2, .ref h1, .ref h2, .int p2, .int p3, .int p4, .int p5, .int 0, .ref h3]))] s.heap.size = A at hD hE9 ⊢
  have hE := hE9.1
  have hDc := hE9.2
  have hA : ∀ q : Nat, s.heap.size ≤ q → A q := fun q h => by rw [← hAe]; exact Or.inr h
  have hS : va_S A s.heap s.heap [] := va_S.rf
  have hP : va_P D vwCl [(h0, .inr (8, [.int 0, .int p1, .int 2, .ref h1, .ref h2, .int p2, .int p3, .int p4, .int p5, .int 0, .ref h3]))] s.heap := hP
  have hl := lv_entry [.ref h0, .int p0, .int 1] (n := 3) (Nat.le_of_ble_eq_true rfl)
  rw [lg_entry_eq]
  generalize (lg_sl [.ref h0, .int p0, .int 1] ++ List.replicate (3 - (lg_sl [.ref h0, .int p0, .int 1]).length) Slot.unset).toArray = ls at hl ⊢
  have hl : lv_has ls 3 [(0, .ref h0), (1, .int p0), (2, .int 1)] := hl
  refine lv_aload_n hx hb dX6_isNoOrder_0 rfl (lv_at hl 0 rfl) ?_
  refine lv_iload_n hx hb dX6_isNoOrder_1 rfl (lv_at hl 1 rfl) ?_
  refine lv_iload_n hx hb dX6_isNoOrder_2 rfl (lv_at hl 2 rfl) ?_
  refine lv_aload_n hx hb dX6_isNoOrder_3 rfl (lv_at hl 0 rfl) ?_
  refine va_get (D := D) (ci := 8) (v := .int 2) (C := RX6) (T := TX6) (N := 11) hx hb hts wi_X6_isNoOrder_RX6 hown hK hP 0 rfl rfl 2 (by decide) (hts _ wd209_X6_isNoOrder) (fun _ h9 => h9) rfl dX6_isNoOrder_4 ?_
  refine vp_callSi (W.runS (As := [.int p0, .int 1, .int 2]) (rest := [.ref h0]) ⟨hx, hb, hml, hown, hts⟩ (k_X6_isIn_11 l D κ ε (p0) hf0 hf1 hf2) (va_cwS 3 hts gX6_isNoOrder_X6_isIn rfl rfl rfl (by decide +kernel) ⟨(Nat.le_of_ble_eq_true rfl), (Nat.le_of_ble_eq_true rfl)⟩) (pre0_S (wc := []) hP hK [] rfl) rfl rfl hl.1 rfl (lv_room (Nat.le_of_ble_eq_true rfl)) dX6_isNoOrder_7 ⟨(Nat.le_of_ble_eq_true rfl), (Nat.le_of_ble_eq_true rfl)⟩) (fun r hw => ?_)
  rw [hw]
  refine lv_if_ne (tgt := 17) hx hb dX6_isNoOrder_10 (by decide) (fun h => absurd (by decide) h) (fun _ => ?_)
  refine lv_iconst (v := 1) hx hb dX6_isNoOrder_13 (by decide) ?_
  refine lv_goto (tgt := 18) hx hb dX6_isNoOrder_14 (by decide) ?_
  refine lv_iconst (v := 1) hx hb dX6_isNoOrder_18 (by decide) ?_
  have hF := va_free (wc := [(h0, .inr (8, [.int 0, .int p1, .int 2, .ref h1, .ref h2, .int p2, .int p3, .int p4, .int p5, .int 0, .ref h3]))]) hD hS hA [0] rfl
  refine va_calli (va_runV (As := [.int 1, .int 1]) (rest := []) ⟨hx, hb, hml, hown, hts⟩ (k_X6_start_1 l D κ ε h0 h1 h2 h3 s.heap.size (p1) (2) (p2) (p3) (p4) (p5)) (cwV 2 hts gX6_isNoOrder_X6_start rfl rfl rfl (by decide +kernel) ⟨(Nat.le_of_ble_eq_true rfl), (Nat.le_of_ble_eq_true rfl)⟩) (pre2_V (q0 := 0) (ci := 8) (wc := [(h0, .inr (8, [.int 0, .int p1, .int 2, .ref h1, .ref h2, .int p2, .int p3, .int p4, .int p5, .int 0, .ref h3]))]) hP hD hK hE9 hS hA [0] (by decide) rfl rfl rfl) rfl rfl hl.1 rfl (lv_room (Nat.le_of_ble_eq_true rfl)) dX6_isNoOrder_19 ⟨(Nat.le_of_ble_eq_true rfl), (Nat.le_of_ble_eq_true rfl)⟩) hS (fun q _ h => hF q h) hF (fun r u1 t H locs ht hvm hw hB hz1 hk1 hS => ?_)
  try dsimp only at hw hB
  obtain ⟨hP1, hD1⟩ := hB
  rw [ht] at hP1
  obtain ⟨hP, hD⟩ := post_j (ws' := [(h0, .inr (8, [.int 1, .int p1, .int 2, .ref h1, .ref h2, .int p2, .int p3, .int p4, .int p5, .int 0, .ref h3]))]) (wr := []) (w1 := [(h0, .inr (8, [.int 1, .int p1, .int 2, .ref h1, .ref h2, .int p2, .int p3, .int p4, .int p5, .int 0, .ref h3]))]) hP hD hF [0] rfl [] rfl (by decide) (by decide) hk1 hP1 hD1 [0] (by decide) rfl
  have hP : va_P D vwCl [(h0, .inr (8, [.int 1, .int p1, .int 2, .ref h1, .ref h2, .int p2, .int p3, .int p4, .int p5, .int 0, .ref h3]))] H := hP
  have hD : va_D A [(h0, .inr (8, [.int 1, .int p1, .int 2, .ref h1, .ref h2, .int p2, .int p3, .int p4, .int p5, .int 0, .ref h3]))] := hD
  rw [hw]
  have hP9 := hP
  have hD9 := hD
  exact W.zret (v := 1) hx hb hr rfl (fun t ht hW => ⟨⟨1, (), rfl, rfl, by rw [ht]; exact hP9, hD9⟩, hS.F ht⟩) hS.2.2 dX6_isNoOrder_22

set_option maxHeartbeats 4000000 in
set_option maxRecDepth 100000 in
theorem k_X6_entries_3 (l : Launch) (D : va_G) (κ ε : Nat → Nat) (h0 h1 h2 h3 : Nat) (sz : Nat) (p0 : Int32) (hf0 : ¬ p0 = 1) (hf1 : ¬ p0 = 2) (hf2 : ¬ p0 < 1) : Met l yX6_entries wsX6_entries ({ frames := 3, cells := 0, slots := 0, locals := 66 }) (va_Pc [.ref h0, .int p0] (Pre2 D κ ε [(h0, .inr (8, [.int 0, .int 0, .int 2, .ref h1, .ref h2, .int 0, .int 500, .int 0, .int 0, .int 0, .ref h3]))] sz)) (va_Qi (fun r (u : List Value) => (u[0]? = some (.int 1)) ∧ (r = 0)) (fun u t => va_P D vwCl [(h0, .inr (8, u))] t.heap ∧ va_D (va_A [(h0, .inr (8, [.int 0, .int 0, .int 2, .ref h1, .ref h2, .int 0, .int 500, .int 0, .int 0, .int 0, .ref h3]))] sz) [(h0, .inr (8, u))]) (va_A [(h0, .inr (8, [.int 0, .int 0, .int 2, .ref h1, .ref h2, .int 0, .int 500, .int 0, .int 0, .int 0, .ref h3]))] sz)) 0 0 (va_A [(h0, .inr (8, [.int 0, .int 0, .int 2, .ref h1, .ref h2, .int 0, .int 500, .int 0, .int 0, .int 0, .ref h3]))] sz) := by
  refine Met.ofW (cc := cX6_entries) (maxL := 2) (ret := (some .int)) (by decide) rfl ?_
  intro p e s m args below meth c s₁ B hml hv
  obtain ⟨rfl, hsz, hP, hK, hD0, hE9⟩ := hv
  have hx := B.exec
  have hb := B.bytes
  have hr := B.returns
  have hts := atoms_spec (ws := wsX6_entries) B.pre
  have hown : s.vm.findClass RX6 = some m.cls := findClass_of_methodNamed B.named
  have hlocks := B.notSynchronized
  subst hsz
  have hD := hD0.self (sz := s.heap.size)
  generalize hAe : va_A [(h0, .inr (8, [.int 0, .int 0, .int 2, .ref h1, .ref h2, .int 0, .int 500, .int 0, .int 0, .int 0, .ref h3]))] s.heap.size = A at hD hE9 ⊢
  have hE := hE9.1
  have hDc := hE9.2
  have hA : ∀ q : Nat, s.heap.size ≤ q → A q := fun q h => by rw [← hAe]; exact Or.inr h
  have hS : va_S A s.heap s.heap [] := va_S.rf
  have hP : va_P D vwCl [(h0, .inr (8, [.int 0, .int 0, .int 2, .ref h1, .ref h2, .int 0, .int 500, .int 0, .int 0, .int 0, .ref h3]))] s.heap := hP
  have hl := lv_entry [.ref h0, .int p0] (n := 2) (Nat.le_of_ble_eq_true rfl)
  rw [lg_entry_eq]
  generalize (lg_sl [.ref h0, .int p0] ++ List.replicate (2 - (lg_sl [.ref h0, .int p0]).length) Slot.unset).toArray = ls at hl ⊢
  have hl : lv_has ls 2 [(0, .ref h0), (1, .int p0)] := hl
  refine lv_aload_n hx hb dX6_entries_0 rfl (lv_at hl 0 rfl) ?_
  refine lv_iload_n hx hb dX6_entries_1 rfl (lv_at hl 1 rfl) ?_
  refine lv_iconst (v := 1) hx hb dX6_entries_2 (by decide) ?_
  have hF := va_free (wc := [(h0, .inr (8, [.int 0, .int 0, .int 2, .ref h1, .ref h2, .int 0, .int 500, .int 0, .int 0, .int 0, .ref h3]))]) hD hS hA [0] rfl
  refine va_calli (va_runV (As := [.int p0, .int 1]) (rest := []) ⟨hx, hb, hml, hown, hts⟩ (k_X6_isNoOrder_3 l D κ ε h0 h1 h2 h3 s.heap.size (p0) (0) (0) (500) (0) (0) hf0 hf1 hf2) (cwV 2 hts gX6_entries_X6_isNoOrder rfl rfl rfl (by decide +kernel) ⟨(Nat.le_of_ble_eq_true rfl), (Nat.le_of_ble_eq_true rfl)⟩) (pre2_V (q0 := 0) (ci := 8) (wc := [(h0, .inr (8, [.int 0, .int 0, .int 2, .ref h1, .ref h2, .int 0, .int 500, .int 0, .int 0, .int 0, .ref h3]))]) hP hD hK hE9 hS hA [0] (by decide) rfl rfl rfl) rfl rfl hl.1 rfl (lv_room (Nat.le_of_ble_eq_true rfl)) dX6_entries_3 ⟨(Nat.le_of_ble_eq_true rfl), (Nat.le_of_ble_eq_true rfl)⟩) hS (fun q _ h => hF q h) hF (fun r u1 t H locs ht hvm hw hB hz1 hk1 hS => ?_)
  try dsimp only at hw hB
  obtain ⟨hP1, hD1⟩ := hB
  rw [ht] at hP1
  obtain ⟨hP, hD⟩ := post_j (ws' := [(h0, .inr (8, [.int 1, .int 0, .int 2, .ref h1, .ref h2, .int 0, .int 500, .int 0, .int 0, .int 0, .ref h3]))]) (wr := []) (w1 := [(h0, .inr (8, [.int 1, .int 0, .int 2, .ref h1, .ref h2, .int 0, .int 500, .int 0, .int 0, .int 0, .ref h3]))]) hP hD hF [0] rfl [] rfl (by decide) (by decide) hk1 hP1 hD1 [0] (by decide) rfl
  have hP : va_P D vwCl [(h0, .inr (8, [.int 1, .int 0, .int 2, .ref h1, .ref h2, .int 0, .int 500, .int 0, .int 0, .int 0, .ref h3]))] H := hP
  have hD : va_D A [(h0, .inr (8, [.int 1, .int 0, .int 2, .ref h1, .ref h2, .int 0, .int 500, .int 0, .int 0, .int 0, .ref h3]))] := hD
  rw [hw]
  refine lv_if_eq (tgt := 13) hx hb dX6_entries_6 (by decide) (fun h => absurd h (by decide)) (fun _ => ?_)
  refine lv_iconst (v := 0) hx hb dX6_entries_9 (by decide) ?_
  refine lv_goto (tgt := 24) hx hb dX6_entries_10 (by decide) ?_
  have hP9 := hP.sub (ws' := [(h0, .inr (8, [.int 1, .int 0, .int 2, .ref h1, .ref h2, .int 0, .int 500, .int 0, .int 0, .int 0, .ref h3]))]) [0] rfl
  have hD9 := hD.sub (ws' := [(h0, .inr (8, [.int 1, .int 0, .int 2, .ref h1, .ref h2, .int 0, .int 500, .int 0, .int 0, .int 0, .ref h3]))]) [0] (by decide) rfl
  exact W.iret (v := 0) hx hb hr (fun t ht hW => ⟨⟨0, [.int 1, .int 0, .int 2, .ref h1, .ref h2, .int 0, .int 500, .int 0, .int 0, .int 0, .ref h3], rfl, ⟨rfl, rfl⟩, by rw [ht]; exact hP9, hD9⟩, hS.F ht⟩) hS.2.2 dX6_entries_24

set_option maxHeartbeats 4000000 in
set_option maxRecDepth 100000 in
theorem case_10 {p : Program} {e : Env} {s : State} {m : MethodId} {below : List Frame} {meth : Method} {c : Code} (l : Launch) (hst : l.stackTraces = false) {b : Nat} {xs : Nat → Int32} (C0 : lw_At p s m meth c b 4 xs) (D : va_G) (κ ε : Nat → Nat) (hK : va_K D vwCl (tys κ) s) (hE9 : En2 ε (fun q : Nat => s.heap.size ≤ q) s s.heap) (qx qm qo : Nat) (ux um : Nat → Nat) {H : Heap} {locs : List Loc} (hP : va_P D vwCl [(qx, .inr (7, [.ref (ux 0), .ref (ux 27), .ref (ux 30), .ref (ux 31), .ref (ux 35), .ref (ux 36), .int 0, .int 0, .int 0, .int 0])), ((ux 0), .inr (2, [.int 0, .int 2, .ref (ux 1), .ref (ux 2)])), ((ux 1), .inl (κ 3, 4, .inr (.inr (.inr (.inr (sel [(ux 3), (ux 9), (ux 15), (ux 21)])))))), ((ux 3), .inr (6, [.ref (ux 4), .ref (ux 5), .int 0])), ((ux 9), .inr (6, [.ref (ux 10), .ref (ux 11), .int 0])), (qm, .inr (8, [.int 0, .int 0, .int 2, .ref (um 0), .ref (um 1), .int 0, .int 500, .int 0, .int 0, .int 0, .ref (um 6)])), ((um 1), .inl (κ 4, 4, .inr (.inr (.inr (.inr (sel [(um 2), (um 3), (um 4), (um 5)])))))), ((um 2), .inl (κ 0, 14, .inl (fun _ => 0))), ((um 3), .inl (κ 0, 196, .inl (fun _ => 0))), (qo, .inl (κ 2, 1, .inr (.inl (fun _ => 0))))] H) (hD : va_D (fun q : Nat => s.heap.size ≤ q) [(qx, .inr (7, [.ref (ux 0), .ref (ux 27), .ref (ux 30), .ref (ux 31), .ref (ux 35), .ref (ux 36), .int 0, .int 0, .int 0, .int 0])), ((ux 0), .inr (2, [.int 0, .int 2, .ref (ux 1), .ref (ux 2)])), ((ux 1), .inl (κ 3, 4, .inr (.inr (.inr (.inr (sel [(ux 3), (ux 9), (ux 15), (ux 21)])))))), ((ux 3), .inr (6, [.ref (ux 4), .ref (ux 5), .int 0])), ((ux 9), .inr (6, [.ref (ux 10), .ref (ux 11), .int 0])), (qm, .inr (8, [.int 0, .int 0, .int 2, .ref (um 0), .ref (um 1), .int 0, .int 500, .int 0, .int 0, .int 0, .ref (um 6)])), ((um 1), .inl (κ 4, 4, .inr (.inr (.inr (.inr (sel [(um 2), (um 3), (um 4), (um 5)])))))), ((um 2), .inl (κ 0, 14, .inl (fun _ => 0))), ((um 3), .inl (κ 0, 196, .inl (fun _ => 0))), (qo, .inl (κ 2, 1, .inr (.inl (fun _ => 0))))]) (hS : va_S (fun q : Nat => s.heap.size ≤ q) s.heap H locs) {ls : Array Slot} (hl : lv_has ls 9 [(0, .ref b), (1, .ref qx), (2, .ref qm), (3, .ref qo), (4, .int 0)]) : W p l e room_1 s m #[Value.ref b] below meth c H locs 100 120000 (lw_Z below #[Value.ref b] s) (F0 m 552 ls []) := by
  obtain ⟨hx, hb, hr, hml, hown0, hts0, hX, hbl, hlocks, hgv⟩ := id C0
  have hts : ∀ w ∈ wsL_law, w.before #[Value.ref b] s = true := fun w h => hts0 w (wsL_law_in w h)
  have hown : s.vm.findClass RL = some m.cls := hown0
  have hE := hE9.1
  have hDc := hE9.2
  have hA : ∀ q : Nat, s.heap.size ≤ q → (fun q : Nat => s.heap.size ≤ q) q := fun _ h => h
  have hbA : ¬ (fun q : Nat => s.heap.size ≤ q) b := Nat.not_le.mpr hbl
  by_cases e1 : (xs 1) = 1
  · skip
    refine lv_aload_n hx hb dL_law_552 rfl (lv_at hl 1 rfl) ?_
    refine lv_aload_n hx hb dL_law_553 rfl (lv_at hl 0 rfl) ?_
    refine lv_iload hx hb dL_law_554 (lv_at hl 4 rfl) ?_
    refine lv_iconst (v := 1) hx hb dL_law_556 (by decide) ?_
    refine lv_iadd hx hb dL_law_557 ?_
    refine tpi (v := 1) (by decide) ?_
    refine va_sld hx hb hX hbl hbA hS (vpl (by decide)) dL_law_558 ?_
    refine tpi (v := (xs 1)) rfl ?_
    refine tpi (v := 1) e1 ?_
    refine lv_aload_n hx hb dL_law_559 rfl (lv_at hl 3 rfl) ?_
    have hF := va_free (wc := [(qx, .inr (7, [.ref (ux 0), .ref (ux 27), .ref (ux 30), .ref (ux 31), .ref (ux 35), .ref (ux 36), .int 0, .int 0, .int 0, .int 0])), (qo, .inl (κ 2, 1, .inr (.inl (fun _ => 0)))), ((ux 0), .inr (2, [.int 0, .int 2, .ref (ux 1), .ref (ux 2)])), ((ux 1), .inl (κ 3, 4, .inr (.inr (.inr (.inr (sel [(ux 3), (ux 9), (ux 15), (ux 21)])))))), ((ux 3), .inr (6, [.ref (ux 4), .ref (ux 5), .int 0]))]) hD hS hA [0, 9, 1, 2, 3] rfl
    refine va_calli (vx_runSW (As := [.ref qx, .int 1, .ref qo]) (rest := []) ⟨hx, hb, hml, hown, hts⟩ (k_L_entries_0 l hst D κ ε qx qo (ux 0) (ux 27) (ux 30) (ux 31) (ux 35) (ux 36) (ux 1) (ux 2) (ux 3) (ux 9) (ux 15) (ux 21) (ux 4) (ux 5) H.size) (vx_cwSW 3 hts gL_law_L_entries rfl rfl rfl (by decide +kernel) ⟨(Nat.le_of_ble_eq_true rfl), (Nat.le_of_ble_eq_true rfl)⟩) (pre2_S (wc := [(qx, .inr (7, [.ref (ux 0), .ref (ux 27), .ref (ux 30), .ref (ux 31), .ref (ux 35), .ref (ux 36), .int 0, .int 0, .int 0, .int 0])), (qo, .inl (κ 2, 1, .inr (.inl (fun _ => 0)))), ((ux 0), .inr (2, [.int 0, .int 2, .ref (ux 1), .ref (ux 2)])), ((ux 1), .inl (κ 3, 4, .inr (.inr (.inr (.inr (sel [(ux 3), (ux 9), (ux 15), (ux 21)])))))), ((ux 3), .inr (6, [.ref (ux 4), .ref (ux 5), .int 0]))]) hP hD hK hE9 hS hA [0, 9, 1, 2, 3] (by decide) rfl) rfl rfl hl.1 rfl (lv_room (Nat.le_of_ble_eq_true rfl)) dL_law_560 ⟨(Nat.le_of_ble_eq_true rfl), (Nat.le_of_ble_eq_true rfl)⟩) hS (fun q _ h => hF q h) hF (fun r u2 t H locs ht hvm hw hB hz1 hk1 hS => ?_)
    try dsimp only at hw hB
    obtain ⟨hP1, hD1⟩ := hB
    rw [ht] at hP1
    obtain ⟨hP, hD⟩ := post_j (ws' := [((ux 9), .inr (6, [.ref (ux 10), .ref (ux 11), .int 0])), (qm, .inr (8, [.int 0, .int 0, .int 2, .ref (um 0), .ref (um 1), .int 0, .int 500, .int 0, .int 0, .int 0, .ref (um 6)])), ((um 1), .inl (κ 4, 4, .inr (.inr (.inr (.inr (sel [(um 2), (um 3), (um 4), (um 5)])))))), ((um 2), .inl (κ 0, 14, .inl (fun _ => 0))), ((um 3), .inl (κ 0, 196, .inl (fun _ => 0))), (qo, .inl (κ 2, 1, .inr (.inl u2)))]) (wr := [((ux 9), .inr (6, [.ref (ux 10), .ref (ux 11), .int 0])), (qm, .inr (8, [.int 0, .int 0, .int 2, .ref (um 0), .ref (um 1), .int 0, .int 500, .int 0, .int 0, .int 0, .ref (um 6)])), ((um 1), .inl (κ 4, 4, .inr (.inr (.inr (.inr (sel [(um 2), (um 3), (um 4), (um 5)])))))), ((um 2), .inl (κ 0, 14, .inl (fun _ => 0))), ((um 3), .inl (κ 0, 196, .inl (fun _ => 0)))]) (w1 := [(qo, .inl (κ 2, 1, .inr (.inl u2)))]) hP hD hF [0, 9, 1, 2, 3] rfl [4, 5, 6, 7, 8] rfl (by decide) (by decide) hk1 hP1 hD1 [0, 1, 2, 3, 4, 5] (by decide) rfl
    have hP : va_P D vwCl [((ux 9), .inr (6, [.ref (ux 10), .ref (ux 11), .int 0])), (qm, .inr (8, [.int 0, .int 0, .int 2, .ref (um 0), .ref (um 1), .int 0, .int 500, .int 0, .int 0, .int 0, .ref (um 6)])), ((um 1), .inl (κ 4, 4, .inr (.inr (.inr (.inr (sel [(um 2), (um 3), (um 4), (um 5)])))))), ((um 2), .inl (κ 0, 14, .inl (fun _ => 0))), ((um 3), .inl (κ 0, 196, .inl (fun _ => 0))), (qo, .inl (κ 2, 1, .inr (.inl u2)))] H := hP
    have hD : va_D (fun q : Nat => s.heap.size ≤ q) [((ux 9), .inr (6, [.ref (ux 10), .ref (ux 11), .int 0])), (qm, .inr (8, [.int 0, .int 0, .int 2, .ref (um 0), .ref (um 1), .int 0, .int 500, .int 0, .int 0, .int 0, .ref (um 6)])), ((um 1), .inl (κ 4, 4, .inr (.inr (.inr (.inr (sel [(um 2), (um 3), (um 4), (um 5)])))))), ((um 2), .inl (κ 0, 14, .inl (fun _ => 0))), ((um 3), .inl (κ 0, 196, .inl (fun _ => 0))), (qo, .inl (κ 2, 1, .inr (.inl u2)))] := hD
    obtain ⟨hu3, rfl⟩ := hw
    refine lv_istore (lv' := [(5, .int 0), (0, .ref b), (1, .ref qx), (2, .ref qm), (3, .ref qo), (4, .int 0)]) hx hb dL_law_563 hl (by decide) rfl (fun ls hl => ?_)
    refine lv_aload_n hx hb dL_law_565 rfl (lv_at hl 3 rfl) ?_
    refine lv_aload_n hx hb dL_law_566 rfl (lv_at hl 1 rfl) ?_
    refine lv_iload hx hb dL_law_567 (lv_at hl 5 rfl) ?_
    refine lv_iconst (v := 1) hx hb dL_law_569 (by decide) ?_
    refine lv_iadd hx hb dL_law_570 ?_
    refine tpi (v := 1) (by decide) ?_
    refine va_sld hx hb hX hbl hbA hS (vpl (by decide)) dL_law_571 ?_
    refine tpi (v := (xs 1)) rfl ?_
    refine tpi (v := 1) e1 ?_
    have hF := va_free (wc := [(qm, .inr (8, [.int 0, .int 0, .int 2, .ref (um 0), .ref (um 1), .int 0, .int 500, .int 0, .int 0, .int 0, .ref (um 6)])), ((um 1), .inl (κ 4, 4, .inr (.inr (.inr (.inr (sel [(um 2), (um 3), (um 4), (um 5)])))))), ((um 2), .inl (κ 0, 14, .inl (fun _ => 0)))]) hD hS hA [1, 2, 3] rfl
    refine va_calli (va_runV (As := [.int 1]) (rest := []) ⟨hx, hb, hml, hown, hts⟩ (k_X6_entries_0 l D κ ε qm (um 0) (um 1) (um 6) (um 2) (um 3) (um 4) (um 5) H.size) (cwV 1 hts gL_law_X6_entries rfl rfl rfl (by decide +kernel) ⟨(Nat.le_of_ble_eq_true rfl), (Nat.le_of_ble_eq_true rfl)⟩) (pre2_V (q0 := 1) (ci := 8) (wc := [(qm, .inr (8, [.int 0, .int 0, .int 2, .ref (um 0), .ref (um 1), .int 0, .int 500, .int 0, .int 0, .int 0, .ref (um 6)])), ((um 1), .inl (κ 4, 4, .inr (.inr (.inr (.inr (sel [(um 2), (um 3), (um 4), (um 5)])))))), ((um 2), .inl (κ 0, 14, .inl (fun _ => 0)))]) hP hD hK hE9 hS hA [1, 2, 3] (by decide) rfl rfl rfl) rfl rfl hl.1 rfl (lv_room (Nat.le_of_ble_eq_true rfl)) dL_law_572 ⟨(Nat.le_of_ble_eq_true rfl), (Nat.le_of_ble_eq_true rfl)⟩) hS (fun q _ h => hF q h) hF (fun r u4 t H locs ht hvm hw hB hz1 hk1 hS => ?_)
    try dsimp only at hw hB
    obtain ⟨hP1, hD1⟩ := hB
    rw [ht] at hP1
    obtain ⟨hP, hD⟩ := post_j (ws' := [((ux 9), .inr (6, [.ref (ux 10), .ref (ux 11), .int 0])), (qm, .inr (8, u4)), ((um 3), .inl (κ 0, 196, .inl (fun _ => 0))), (qo, .inl (κ 2, 1, .inr (.inl u2)))]) (wr := [((ux 9), .inr (6, [.ref (ux 10), .ref (ux 11), .int 0])), ((um 3), .inl (κ 0, 196, .inl (fun _ => 0))), (qo, .inl (κ 2, 1, .inr (.inl u2)))]) (w1 := [(qm, .inr (8, u4))]) hP hD hF [1, 2, 3] rfl [0, 4, 5] rfl (by decide) (by decide) hk1 hP1 hD1 [0, 3, 1, 2] (by decide) rfl
    have hP : va_P D vwCl [((ux 9), .inr (6, [.ref (ux 10), .ref (ux 11), .int 0])), (qm, .inr (8, u4)), ((um 3), .inl (κ 0, 196, .inl (fun _ => 0))), (qo, .inl (κ 2, 1, .inr (.inl u2)))] H := hP
    have hD : va_D (fun q : Nat => s.heap.size ≤ q) [((ux 9), .inr (6, [.ref (ux 10), .ref (ux 11), .int 0])), (qm, .inr (8, u4)), ((um 3), .inl (κ 0, 196, .inl (fun _ => 0))), (qo, .inl (κ 2, 1, .inr (.inl u2)))] := hD
    obtain ⟨hu5, rfl⟩ := hw
    refine lv_istore (lv' := [(6, .int 0), (5, .int 0), (0, .ref b), (1, .ref qx), (2, .ref qm), (3, .ref qo), (4, .int 0)]) hx hb dL_law_575 hl (by decide) rfl (fun ls hl => ?_)
    refine lv_aload_n hx hb dL_law_577 rfl (lv_at hl 4 rfl) ?_
    refine vp_callSi (W.runV (As := []) (rest := []) ⟨hx, hb, hml, hown, hts⟩ (k_thrown l D κ qm u4 (0) hu5) (cwV 0 hts gL_law_X6_thrown rfl rfl rfl (by decide +kernel) ⟨(Nat.le_of_ble_eq_true rfl), (Nat.le_of_ble_eq_true rfl)⟩) (pre0_V (q0 := 1) (ci := 8) (wc := [(qm, .inr (8, u4))]) hP hK [1] rfl rfl rfl) rfl rfl hl.1 rfl (lv_room (Nat.le_of_ble_eq_true rfl)) dL_law_578 ⟨(Nat.le_of_ble_eq_true rfl), (Nat.le_of_ble_eq_true rfl)⟩) (fun r hw => ?_)
    subst hw
    refine lv_iload hx hb dL_law_581 (lv_at hl 1 rfl) ?_
    refine lv_icmp_eq (tgt := 588) hx hb dL_law_583 (by decide) (fun _ => ?_) (fun h => absurd (by decide) h)
    refine lv_iload hx hb dL_law_588 (lv_at hl 1 rfl) ?_
    refine lv_if_ne (tgt := 605) hx hb dL_law_590 (by decide) (fun h => absurd (by decide) h) (fun _ => ?_)
    refine lv_aload_n hx hb dL_law_593 rfl (lv_at hl 5 rfl) ?_
    refine lv_iconst (v := 0) hx hb dL_law_594 (by decide) ?_
    refine va_lald (cA := κ 2) (n := 1) (f := u2) hx hb hK hP 3 2 rfl rfl (vpl (by decide)) dL_law_595 ?_
    refine tpl (v := 0) hu3 ?_
    refine lv_iload hx hb dL_law_596 (lv_at hl 0 rfl) ?_
    refine lv_i2l (v := 0) hx hb dL_law_598 (by decide) ?_
    refine W.lcmp hx hb dL_law_599 ?_
    refine tpi (v := 0) (by decide) ?_
    refine lv_if_eq (tgt := 605) hx hb dL_law_600 (by decide) (fun _ => ?_) (fun h => absurd (by decide) h)
    refine lv_goto (tgt := 1677) hx hb dL_law_605 (by decide) ?_
    exact law_end C0 (Nat.le_of_ble_eq_true rfl) (Nat.le_of_ble_eq_true rfl) hS (lv_sub hl [2, 6] rfl)
  · skip
    by_cases e6 : (xs 1) = 2
    · skip
      refine lv_aload_n hx hb dL_law_552 rfl (lv_at hl 1 rfl) ?_
      refine lv_aload_n hx hb dL_law_553 rfl (lv_at hl 0 rfl) ?_
      refine lv_iload hx hb dL_law_554 (lv_at hl 4 rfl) ?_
      refine lv_iconst (v := 1) hx hb dL_law_556 (by decide) ?_
      refine lv_iadd hx hb dL_law_557 ?_
      refine tpi (v := 1) (by decide) ?_
      refine va_sld hx hb hX hbl hbA hS (vpl (by decide)) dL_law_558 ?_
      refine tpi (v := (xs 1)) rfl ?_
      refine tpi (v := 2) e6 ?_
      refine lv_aload_n hx hb dL_law_559 rfl (lv_at hl 3 rfl) ?_
      have hF := va_free (wc := [(qx, .inr (7, [.ref (ux 0), .ref (ux 27), .ref (ux 30), .ref (ux 31), .ref (ux 35), .ref (ux 36), .int 0, .int 0, .int 0, .int 0])), (qo, .inl (κ 2, 1, .inr (.inl (fun _ => 0)))), ((ux 0), .inr (2, [.int 0, .int 2, .ref (ux 1), .ref (ux 2)])), ((ux 1), .inl (κ 3, 4, .inr (.inr (.inr (.inr (sel [(ux 3), (ux 9), (ux 15), (ux 21)])))))), ((ux 9), .inr (6, [.ref (ux 10), .ref (ux 11), .int 0]))]) hD hS hA [0, 9, 1, 2, 4] rfl
      refine va_calli (vx_runSW (As := [.ref qx, .int 2, .ref qo]) (rest := []) ⟨hx, hb, hml, hown, hts⟩ (k_L_entries_1 l hst D κ ε qx qo (ux 0) (ux 27) (ux 30) (ux 31) (ux 35) (ux 36) (ux 1) (ux 2) (ux 3) (ux 9) (ux 15) (ux 21) (ux 10) (ux 11) H.size) (vx_cwSW 3 hts gL_law_L_entries rfl rfl rfl (by decide +kernel) ⟨(Nat.le_of_ble_eq_true rfl), (Nat.le_of_ble_eq_true rfl)⟩) (pre2_S (wc := [(qx, .inr (7, [.ref (ux 0), .ref (ux 27), .ref (ux 30), .ref (ux 31), .ref (ux 35), .ref (ux 36), .int 0, .int 0, .int 0, .int 0])), (qo, .inl (κ 2, 1, .inr (.inl (fun _ => 0)))), ((ux 0), .inr (2, [.int 0, .int 2, .ref (ux 1), .ref (ux 2)])), ((ux 1), .inl (κ 3, 4, .inr (.inr (.inr (.inr (sel [(ux 3), (ux 9), (ux 15), (ux 21)])))))), ((ux 9), .inr (6, [.ref (ux 10), .ref (ux 11), .int 0]))]) hP hD hK hE9 hS hA [0, 9, 1, 2, 4] (by decide) rfl) rfl rfl hl.1 rfl (lv_room (Nat.le_of_ble_eq_true rfl)) dL_law_560 ⟨(Nat.le_of_ble_eq_true rfl), (Nat.le_of_ble_eq_true rfl)⟩) hS (fun q _ h => hF q h) hF (fun r u7 t H locs ht hvm hw hB hz1 hk1 hS => ?_)
      try dsimp only at hw hB
      obtain ⟨hP1, hD1⟩ := hB
      rw [ht] at hP1
      obtain ⟨hP, hD⟩ := post_j (ws' := [((ux 3), .inr (6, [.ref (ux 4), .ref (ux 5), .int 0])), (qm, .inr (8, [.int 0, .int 0, .int 2, .ref (um 0), .ref (um 1), .int 0, .int 500, .int 0, .int 0, .int 0, .ref (um 6)])), ((um 1), .inl (κ 4, 4, .inr (.inr (.inr (.inr (sel [(um 2), (um 3), (um 4), (um 5)])))))), ((um 2), .inl (κ 0, 14, .inl (fun _ => 0))), ((um 3), .inl (κ 0, 196, .inl (fun _ => 0))), (qo, .inl (κ 2, 1, .inr (.inl u7)))]) (wr := [((ux 3), .inr (6, [.ref (ux 4), .ref (ux 5), .int 0])), (qm, .inr (8, [.int 0, .int 0, .int 2, .ref (um 0), .ref (um 1), .int 0, .int 500, .int 0, .int 0, .int 0, .ref (um 6)])), ((um 1), .inl (κ 4, 4, .inr (.inr (.inr (.inr (sel [(um 2), (um 3), (um 4), (um 5)])))))), ((um 2), .inl (κ 0, 14, .inl (fun _ => 0))), ((um 3), .inl (κ 0, 196, .inl (fun _ => 0)))]) (w1 := [(qo, .inl (κ 2, 1, .inr (.inl u7)))]) hP hD hF [0, 9, 1, 2, 4] rfl [3, 5, 6, 7, 8] rfl (by decide) (by decide) hk1 hP1 hD1 [0, 1, 2, 3, 4, 5] (by decide) rfl
      have hP : va_P D vwCl [((ux 3), .inr (6, [.ref (ux 4), .ref (ux 5), .int 0])), (qm, .inr (8, [.int 0, .int 0, .int 2, .ref (um 0), .ref (um 1), .int 0, .int 500, .int 0, .int 0, .int 0, .ref (um 6)])), ((um 1), .inl (κ 4, 4, .inr (.inr (.inr (.inr (sel [(um 2), (um 3), (um 4), (um 5)])))))), ((um 2), .inl (κ 0, 14, .inl (fun _ => 0))), ((um 3), .inl (κ 0, 196, .inl (fun _ => 0))), (qo, .inl (κ 2, 1, .inr (.inl u7)))] H := hP
      have hD : va_D (fun q : Nat => s.heap.size ≤ q) [((ux 3), .inr (6, [.ref (ux 4), .ref (ux 5), .int 0])), (qm, .inr (8, [.int 0, .int 0, .int 2, .ref (um 0), .ref (um 1), .int 0, .int 500, .int 0, .int 0, .int 0, .ref (um 6)])), ((um 1), .inl (κ 4, 4, .inr (.inr (.inr (.inr (sel [(um 2), (um 3), (um 4), (um 5)])))))), ((um 2), .inl (κ 0, 14, .inl (fun _ => 0))), ((um 3), .inl (κ 0, 196, .inl (fun _ => 0))), (qo, .inl (κ 2, 1, .inr (.inl u7)))] := hD
      obtain ⟨hu8, rfl⟩ := hw
      refine lv_istore (lv' := [(5, .int 0), (0, .ref b), (1, .ref qx), (2, .ref qm), (3, .ref qo), (4, .int 0)]) hx hb dL_law_563 hl (by decide) rfl (fun ls hl => ?_)
      refine lv_aload_n hx hb dL_law_565 rfl (lv_at hl 3 rfl) ?_
      refine lv_aload_n hx hb dL_law_566 rfl (lv_at hl 1 rfl) ?_
      refine lv_iload hx hb dL_law_567 (lv_at hl 5 rfl) ?_
      refine lv_iconst (v := 1) hx hb dL_law_569 (by decide) ?_
      refine lv_iadd hx hb dL_law_570 ?_
      refine tpi (v := 1) (by decide) ?_
      refine va_sld hx hb hX hbl hbA hS (vpl (by decide)) dL_law_571 ?_
      refine tpi (v := (xs 1)) rfl ?_
      refine tpi (v := 2) e6 ?_
      have hF := va_free (wc := [(qm, .inr (8, [.int 0, .int 0, .int 2, .ref (um 0), .ref (um 1), .int 0, .int 500, .int 0, .int 0, .int 0, .ref (um 6)])), ((um 1), .inl (κ 4, 4, .inr (.inr (.inr (.inr (sel [(um 2), (um 3), (um 4), (um 5)])))))), ((um 3), .inl (κ 0, 196, .inl (fun _ => 0)))]) hD hS hA [1, 2, 4] rfl
      refine va_calli (va_runV (As := [.int 2]) (rest := []) ⟨hx, hb, hml, hown, hts⟩ (k_X6_entries_1 l D κ ε qm (um 0) (um 1) (um 6) (um 2) (um 3) (um 4) (um 5) H.size) (cwV 1 hts gL_law_X6_entries rfl rfl rfl (by decide +kernel) ⟨(Nat.le_of_ble_eq_true rfl), (Nat.le_of_ble_eq_true rfl)⟩) (pre2_V (q0 := 1) (ci := 8) (wc := [(qm, .inr (8, [.int 0, .int 0, .int 2, .ref (um 0), .ref (um 1), .int 0, .int 500, .int 0, .int 0, .int 0, .ref (um 6)])), ((um 1), .inl (κ 4, 4, .inr (.inr (.inr (.inr (sel [(um 2), (um 3), (um 4), (um 5)])))))), ((um 3), .inl (κ 0, 196, .inl (fun _ => 0)))]) hP hD hK hE9 hS hA [1, 2, 4] (by decide) rfl rfl rfl) rfl rfl hl.1 rfl (lv_room (Nat.le_of_ble_eq_true rfl)) dL_law_572 ⟨(Nat.le_of_ble_eq_true rfl), (Nat.le_of_ble_eq_true rfl)⟩) hS (fun q _ h => hF q h) hF (fun r u9 t H locs ht hvm hw hB hz1 hk1 hS => ?_)
      try dsimp only at hw hB
      obtain ⟨hP1, hD1⟩ := hB
      rw [ht] at hP1
      obtain ⟨hP, hD⟩ := post_j (ws' := [((ux 3), .inr (6, [.ref (ux 4), .ref (ux 5), .int 0])), (qm, .inr (8, u9)), ((um 2), .inl (κ 0, 14, .inl (fun _ => 0))), (qo, .inl (κ 2, 1, .inr (.inl u7)))]) (wr := [((ux 3), .inr (6, [.ref (ux 4), .ref (ux 5), .int 0])), ((um 2), .inl (κ 0, 14, .inl (fun _ => 0))), (qo, .inl (κ 2, 1, .inr (.inl u7)))]) (w1 := [(qm, .inr (8, u9))]) hP hD hF [1, 2, 4] rfl [0, 3, 5] rfl (by decide) (by decide) hk1 hP1 hD1 [0, 3, 1, 2] (by decide) rfl
      have hP : va_P D vwCl [((ux 3), .inr (6, [.ref (ux 4), .ref (ux 5), .int 0])), (qm, .inr (8, u9)), ((um 2), .inl (κ 0, 14, .inl (fun _ => 0))), (qo, .inl (κ 2, 1, .inr (.inl u7)))] H := hP
      have hD : va_D (fun q : Nat => s.heap.size ≤ q) [((ux 3), .inr (6, [.ref (ux 4), .ref (ux 5), .int 0])), (qm, .inr (8, u9)), ((um 2), .inl (κ 0, 14, .inl (fun _ => 0))), (qo, .inl (κ 2, 1, .inr (.inl u7)))] := hD
      obtain ⟨hu10, rfl⟩ := hw
      refine lv_istore (lv' := [(6, .int 0), (5, .int 0), (0, .ref b), (1, .ref qx), (2, .ref qm), (3, .ref qo), (4, .int 0)]) hx hb dL_law_575 hl (by decide) rfl (fun ls hl => ?_)
      refine lv_aload_n hx hb dL_law_577 rfl (lv_at hl 4 rfl) ?_
      refine vp_callSi (W.runV (As := []) (rest := []) ⟨hx, hb, hml, hown, hts⟩ (k_thrown l D κ qm u9 (0) hu10) (cwV 0 hts gL_law_X6_thrown rfl rfl rfl (by decide +kernel) ⟨(Nat.le_of_ble_eq_true rfl), (Nat.le_of_ble_eq_true rfl)⟩) (pre0_V (q0 := 1) (ci := 8) (wc := [(qm, .inr (8, u9))]) hP hK [1] rfl rfl rfl) rfl rfl hl.1 rfl (lv_room (Nat.le_of_ble_eq_true rfl)) dL_law_578 ⟨(Nat.le_of_ble_eq_true rfl), (Nat.le_of_ble_eq_true rfl)⟩) (fun r hw => ?_)
      subst hw
      refine lv_iload hx hb dL_law_581 (lv_at hl 1 rfl) ?_
      refine lv_icmp_eq (tgt := 588) hx hb dL_law_583 (by decide) (fun _ => ?_) (fun h => absurd (by decide) h)
      refine lv_iload hx hb dL_law_588 (lv_at hl 1 rfl) ?_
      refine lv_if_ne (tgt := 605) hx hb dL_law_590 (by decide) (fun h => absurd (by decide) h) (fun _ => ?_)
      refine lv_aload_n hx hb dL_law_593 rfl (lv_at hl 5 rfl) ?_
      refine lv_iconst (v := 0) hx hb dL_law_594 (by decide) ?_
      refine va_lald (cA := κ 2) (n := 1) (f := u7) hx hb hK hP 3 2 rfl rfl (vpl (by decide)) dL_law_595 ?_
      refine tpl (v := 0) hu8 ?_
      refine lv_iload hx hb dL_law_596 (lv_at hl 0 rfl) ?_
      refine lv_i2l (v := 0) hx hb dL_law_598 (by decide) ?_
      refine W.lcmp hx hb dL_law_599 ?_
      refine tpi (v := 0) (by decide) ?_
      refine lv_if_eq (tgt := 605) hx hb dL_law_600 (by decide) (fun _ => ?_) (fun h => absurd (by decide) h)
      refine lv_goto (tgt := 1677) hx hb dL_law_605 (by decide) ?_
      exact law_end C0 (Nat.le_of_ble_eq_true rfl) (Nat.le_of_ble_eq_true rfl) hS (lv_sub hl [2, 6] rfl)
    · skip
      refine lv_aload_n hx hb dL_law_552 rfl (lv_at hl 1 rfl) ?_
      refine lv_aload_n hx hb dL_law_553 rfl (lv_at hl 0 rfl) ?_
      refine lv_iload hx hb dL_law_554 (lv_at hl 4 rfl) ?_
      refine lv_iconst (v := 1) hx hb dL_law_556 (by decide) ?_
      refine lv_iadd hx hb dL_law_557 ?_
      refine tpi (v := 1) (by decide) ?_
      refine va_sld hx hb hX hbl hbA hS (vpl (by decide)) dL_law_558 ?_
      refine tpi (v := (xs 1)) rfl ?_
      refine lv_aload_n hx hb dL_law_559 rfl (lv_at hl 3 rfl) ?_
      have hF := va_free (wc := [(qx, .inr (7, [.ref (ux 0), .ref (ux 27), .ref (ux 30), .ref (ux 31), .ref (ux 35), .ref (ux 36), .int 0, .int 0, .int 0, .int 0])), (qo, .inl (κ 2, 1, .inr (.inl (fun _ => 0)))), ((ux 0), .inr (2, [.int 0, .int 2, .ref (ux 1), .ref (ux 2)]))]) hD hS hA [0, 9, 1] rfl
      refine va_calli (vx_runSW (As := [.ref qx, .int (xs 1), .ref qo]) (rest := []) ⟨hx, hb, hml, hown, hts⟩ (k_L_entries_2 l hst D κ ε qx qo (ux 0) (ux 27) (ux 30) (ux 31) (ux 35) (ux 36) (ux 1) (ux 2) H.size ((xs 1)) e1 e6) (vx_cwSW 3 hts gL_law_L_entries rfl rfl rfl (by decide +kernel) ⟨(Nat.le_of_ble_eq_true rfl), (Nat.le_of_ble_eq_true rfl)⟩) (pre2_S (wc := [(qx, .inr (7, [.ref (ux 0), .ref (ux 27), .ref (ux 30), .ref (ux 31), .ref (ux 35), .ref (ux 36), .int 0, .int 0, .int 0, .int 0])), (qo, .inl (κ 2, 1, .inr (.inl (fun _ => 0)))), ((ux 0), .inr (2, [.int 0, .int 2, .ref (ux 1), .ref (ux 2)]))]) hP hD hK hE9 hS hA [0, 9, 1] (by decide) rfl) rfl rfl hl.1 rfl (lv_room (Nat.le_of_ble_eq_true rfl)) dL_law_560 ⟨(Nat.le_of_ble_eq_true rfl), (Nat.le_of_ble_eq_true rfl)⟩) hS (fun q _ h => hF q h) hF (fun r u11 t H locs ht hvm hw hB hz1 hk1 hS => ?_)
      try dsimp only at hw hB
      obtain ⟨hP1, hD1⟩ := hB
      rw [ht] at hP1
      obtain ⟨hP, hD⟩ := post_j (ws' := [((ux 1), .inl (κ 3, 4, .inr (.inr (.inr (.inr (sel [(ux 3), (ux 9), (ux 15), (ux 21)])))))), ((ux 3), .inr (6, [.ref (ux 4), .ref (ux 5), .int 0])), ((ux 9), .inr (6, [.ref (ux 10), .ref (ux 11), .int 0])), (qm, .inr (8, [.int 0, .int 0, .int 2, .ref (um 0), .ref (um 1), .int 0, .int 500, .int 0, .int 0, .int 0, .ref (um 6)])), ((um 1), .inl (κ 4, 4, .inr (.inr (.inr (.inr (sel [(um 2), (um 3), (um 4), (um 5)])))))), ((um 2), .inl (κ 0, 14, .inl (fun _ => 0))), ((um 3), .inl (κ 0, 196, .inl (fun _ => 0))), (qo, .inl (κ 2, 1, .inr (.inl u11)))]) (wr := [((ux 1), .inl (κ 3, 4, .inr (.inr (.inr (.inr (sel [(ux 3), (ux 9), (ux 15), (ux 21)])))))), ((ux 3), .inr (6, [.ref (ux 4), .ref (ux 5), .int 0])), ((ux 9), .inr (6, [.ref (ux 10), .ref (ux 11), .int 0])), (qm, .inr (8, [.int 0, .int 0, .int 2, .ref (um 0), .ref (um 1), .int 0, .int 500, .int 0, .int 0, .int 0, .ref (um 6)])), ((um 1), .inl (κ 4, 4, .inr (.inr (.inr (.inr (sel [(um 2), (um 3), (um 4), (um 5)])))))), ((um 2), .inl (κ 0, 14, .inl (fun _ => 0))), ((um 3), .inl (κ 0, 196, .inl (fun _ => 0)))]) (w1 := [(qo, .inl (κ 2, 1, .inr (.inl u11)))]) hP hD hF [0, 9, 1] rfl [2, 3, 4, 5, 6, 7, 8] rfl (by decide) (by decide) hk1 hP1 hD1 [0, 1, 2, 3, 4, 5, 6, 7] (by decide) rfl
      have hP : va_P D vwCl [((ux 1), .inl (κ 3, 4, .inr (.inr (.inr (.inr (sel [(ux 3), (ux 9), (ux 15), (ux 21)])))))), ((ux 3), .inr (6, [.ref (ux 4), .ref (ux 5), .int 0])), ((ux 9), .inr (6, [.ref (ux 10), .ref (ux 11), .int 0])), (qm, .inr (8, [.int 0, .int 0, .int 2, .ref (um 0), .ref (um 1), .int 0, .int 500, .int 0, .int 0, .int 0, .ref (um 6)])), ((um 1), .inl (κ 4, 4, .inr (.inr (.inr (.inr (sel [(um 2), (um 3), (um 4), (um 5)])))))), ((um 2), .inl (κ 0, 14, .inl (fun _ => 0))), ((um 3), .inl (κ 0, 196, .inl (fun _ => 0))), (qo, .inl (κ 2, 1, .inr (.inl u11)))] H := hP
      have hD : va_D (fun q : Nat => s.heap.size ≤ q) [((ux 1), .inl (κ 3, 4, .inr (.inr (.inr (.inr (sel [(ux 3), (ux 9), (ux 15), (ux 21)])))))), ((ux 3), .inr (6, [.ref (ux 4), .ref (ux 5), .int 0])), ((ux 9), .inr (6, [.ref (ux 10), .ref (ux 11), .int 0])), (qm, .inr (8, [.int 0, .int 0, .int 2, .ref (um 0), .ref (um 1), .int 0, .int 500, .int 0, .int 0, .int 0, .ref (um 6)])), ((um 1), .inl (κ 4, 4, .inr (.inr (.inr (.inr (sel [(um 2), (um 3), (um 4), (um 5)])))))), ((um 2), .inl (κ 0, 14, .inl (fun _ => 0))), ((um 3), .inl (κ 0, 196, .inl (fun _ => 0))), (qo, .inl (κ 2, 1, .inr (.inl u11)))] := hD
      rcases hw with ⟨c12, rfl⟩ | ⟨c13, rfl⟩
      · skip
        refine lv_istore (lv' := [(5, .int 1), (0, .ref b), (1, .ref qx), (2, .ref qm), (3, .ref qo), (4, .int 0)]) hx hb dL_law_563 hl (by decide) rfl (fun ls hl => ?_)
        refine lv_aload_n hx hb dL_law_565 rfl (lv_at hl 3 rfl) ?_
        refine lv_aload_n hx hb dL_law_566 rfl (lv_at hl 1 rfl) ?_
        refine lv_iload hx hb dL_law_567 (lv_at hl 5 rfl) ?_
        refine lv_iconst (v := 1) hx hb dL_law_569 (by decide) ?_
        refine lv_iadd hx hb dL_law_570 ?_
        refine tpi (v := 1) (by decide) ?_
        refine va_sld hx hb hX hbl hbA hS (vpl (by decide)) dL_law_571 ?_
        refine tpi (v := (xs 1)) rfl ?_
        have hF := va_free (wc := [(qm, .inr (8, [.int 0, .int 0, .int 2, .ref (um 0), .ref (um 1), .int 0, .int 500, .int 0, .int 0, .int 0, .ref (um 6)]))]) hD hS hA [3] rfl
        refine va_calli (va_runV (As := [.int (xs 1)]) (rest := []) ⟨hx, hb, hml, hown, hts⟩ (k_X6_entries_2 l D κ ε qm (um 0) (um 1) (um 6) H.size ((xs 1)) c12) (cwV 1 hts gL_law_X6_entries rfl rfl rfl (by decide +kernel) ⟨(Nat.le_of_ble_eq_true rfl), (Nat.le_of_ble_eq_true rfl)⟩) (pre2_V (q0 := 3) (ci := 8) (wc := [(qm, .inr (8, [.int 0, .int 0, .int 2, .ref (um 0), .ref (um 1), .int 0, .int 500, .int 0, .int 0, .int 0, .ref (um 6)]))]) hP hD hK hE9 hS hA [3] (by decide) rfl rfl rfl) rfl rfl hl.1 rfl (lv_room (Nat.le_of_ble_eq_true rfl)) dL_law_572 ⟨(Nat.le_of_ble_eq_true rfl), (Nat.le_of_ble_eq_true rfl)⟩) hS (fun q _ h => hF q h) hF (fun r u14 t H locs ht hvm hw hB hz1 hk1 hS => ?_)
        try dsimp only at hw hB
        obtain ⟨hP1, hD1⟩ := hB
        rw [ht] at hP1
        obtain ⟨hP, hD⟩ := post_j (ws' := [((ux 1), .inl (κ 3, 4, .inr (.inr (.inr (.inr (sel [(ux 3), (ux 9), (ux 15), (ux 21)])))))), ((ux 3), .inr (6, [.ref (ux 4), .ref (ux 5), .int 0])), ((ux 9), .inr (6, [.ref (ux 10), .ref (ux 11), .int 0])), (qm, .inr (8, u14)), ((um 1), .inl (κ 4, 4, .inr (.inr (.inr (.inr (sel [(um 2), (um 3), (um 4), (um 5)])))))), ((um 2), .inl (κ 0, 14, .inl (fun _ => 0))), ((um 3), .inl (κ 0, 196, .inl (fun _ => 0))), (qo, .inl (κ 2, 1, .inr (.inl u11)))]) (wr := [((ux 1), .inl (κ 3, 4, .inr (.inr (.inr (.inr (sel [(ux 3), (ux 9), (ux 15), (ux 21)])))))), ((ux 3), .inr (6, [.ref (ux 4), .ref (ux 5), .int 0])), ((ux 9), .inr (6, [.ref (ux 10), .ref (ux 11), .int 0])), ((um 1), .inl (κ 4, 4, .inr (.inr (.inr (.inr (sel [(um 2), (um 3), (um 4), (um 5)])))))), ((um 2), .inl (κ 0, 14, .inl (fun _ => 0))), ((um 3), .inl (κ 0, 196, .inl (fun _ => 0))), (qo, .inl (κ 2, 1, .inr (.inl u11)))]) (w1 := [(qm, .inr (8, u14))]) hP hD hF [3] rfl [0, 1, 2, 4, 5, 6, 7] rfl (by decide) (by decide) hk1 hP1 hD1 [0, 1, 2, 7, 3, 4, 5, 6] (by decide) rfl
        have hP : va_P D vwCl [((ux 1), .inl (κ 3, 4, .inr (.inr (.inr (.inr (sel [(ux 3), (ux 9), (ux 15), (ux 21)])))))), ((ux 3), .inr (6, [.ref (ux 4), .ref (ux 5), .int 0])), ((ux 9), .inr (6, [.ref (ux 10), .ref (ux 11), .int 0])), (qm, .inr (8, u14)), ((um 1), .inl (κ 4, 4, .inr (.inr (.inr (.inr (sel [(um 2), (um 3), (um 4), (um 5)])))))), ((um 2), .inl (κ 0, 14, .inl (fun _ => 0))), ((um 3), .inl (κ 0, 196, .inl (fun _ => 0))), (qo, .inl (κ 2, 1, .inr (.inl u11)))] H := hP
        have hD : va_D (fun q : Nat => s.heap.size ≤ q) [((ux 1), .inl (κ 3, 4, .inr (.inr (.inr (.inr (sel [(ux 3), (ux 9), (ux 15), (ux 21)])))))), ((ux 3), .inr (6, [.ref (ux 4), .ref (ux 5), .int 0])), ((ux 9), .inr (6, [.ref (ux 10), .ref (ux 11), .int 0])), (qm, .inr (8, u14)), ((um 1), .inl (κ 4, 4, .inr (.inr (.inr (.inr (sel [(um 2), (um 3), (um 4), (um 5)])))))), ((um 2), .inl (κ 0, 14, .inl (fun _ => 0))), ((um 3), .inl (κ 0, 196, .inl (fun _ => 0))), (qo, .inl (κ 2, 1, .inr (.inl u11)))] := hD
        obtain ⟨hu15, rfl⟩ := hw
        refine lv_istore (lv' := [(6, .int 0), (5, .int 1), (0, .ref b), (1, .ref qx), (2, .ref qm), (3, .ref qo), (4, .int 0)]) hx hb dL_law_575 hl (by decide) rfl (fun ls hl => ?_)
        refine lv_aload_n hx hb dL_law_577 rfl (lv_at hl 4 rfl) ?_
        refine vp_callSi (W.runV (As := []) (rest := []) ⟨hx, hb, hml, hown, hts⟩ (k_thrown l D κ qm u14 (1) hu15) (cwV 0 hts gL_law_X6_thrown rfl rfl rfl (by decide +kernel) ⟨(Nat.le_of_ble_eq_true rfl), (Nat.le_of_ble_eq_true rfl)⟩) (pre0_V (q0 := 3) (ci := 8) (wc := [(qm, .inr (8, u14))]) hP hK [3] rfl rfl rfl) rfl rfl hl.1 rfl (lv_room (Nat.le_of_ble_eq_true rfl)) dL_law_578 ⟨(Nat.le_of_ble_eq_true rfl), (Nat.le_of_ble_eq_true rfl)⟩) (fun r hw => ?_)
        subst hw
        refine lv_iload hx hb dL_law_581 (lv_at hl 1 rfl) ?_
        refine lv_icmp_eq (tgt := 588) hx hb dL_law_583 (by decide) (fun _ => ?_) (fun h => absurd (by decide) h)
        refine lv_iload hx hb dL_law_588 (lv_at hl 1 rfl) ?_
        refine lv_if_ne (tgt := 605) hx hb dL_law_590 (by decide) (fun _ => ?_) (fun h => absurd h (by decide))
        refine lv_goto (tgt := 1677) hx hb dL_law_605 (by decide) ?_
        exact law_end C0 (Nat.le_of_ble_eq_true rfl) (Nat.le_of_ble_eq_true rfl) hS (lv_sub hl [2, 6] rfl)
      · skip
        refine lv_istore (lv' := [(5, .int 1), (0, .ref b), (1, .ref qx), (2, .ref qm), (3, .ref qo), (4, .int 0)]) hx hb dL_law_563 hl (by decide) rfl (fun ls hl => ?_)
        refine lv_aload_n hx hb dL_law_565 rfl (lv_at hl 3 rfl) ?_
        refine lv_aload_n hx hb dL_law_566 rfl (lv_at hl 1 rfl) ?_
        refine lv_iload hx hb dL_law_567 (lv_at hl 5 rfl) ?_
        refine lv_iconst (v := 1) hx hb dL_law_569 (by decide) ?_
        refine lv_iadd hx hb dL_law_570 ?_
        refine tpi (v := 1) (by decide) ?_
        refine va_sld hx hb hX hbl hbA hS (vpl (by decide)) dL_law_571 ?_
        refine tpi (v := (xs 1)) rfl ?_
        have hF := va_free (wc := [(qm, .inr (8, [.int 0, .int 0, .int 2, .ref (um 0), .ref (um 1), .int 0, .int 500, .int 0, .int 0, .int 0, .ref (um 6)]))]) hD hS hA [3] rfl
        refine va_calli (va_runV (As := [.int (xs 1)]) (rest := []) ⟨hx, hb, hml, hown, hts⟩ (k_X6_entries_3 l D κ ε qm (um 0) (um 1) (um 6) H.size ((xs 1)) e1 e6 c13) (cwV 1 hts gL_law_X6_entries rfl rfl rfl (by decide +kernel) ⟨(Nat.le_of_ble_eq_true rfl), (Nat.le_of_ble_eq_true rfl)⟩) (pre2_V (q0 := 3) (ci := 8) (wc := [(qm, .inr (8, [.int 0, .int 0, .int 2, .ref (um 0), .ref (um 1), .int 0, .int 500, .int 0, .int 0, .int 0, .ref (um 6)]))]) hP hD hK hE9 hS hA [3] (by decide) rfl rfl rfl) rfl rfl hl.1 rfl (lv_room (Nat.le_of_ble_eq_true rfl)) dL_law_572 ⟨(Nat.le_of_ble_eq_true rfl), (Nat.le_of_ble_eq_true rfl)⟩) hS (fun q _ h => hF q h) hF (fun r u16 t H locs ht hvm hw hB hz1 hk1 hS => ?_)
        try dsimp only at hw hB
        obtain ⟨hP1, hD1⟩ := hB
        rw [ht] at hP1
        obtain ⟨hP, hD⟩ := post_j (ws' := [((ux 1), .inl (κ 3, 4, .inr (.inr (.inr (.inr (sel [(ux 3), (ux 9), (ux 15), (ux 21)])))))), ((ux 3), .inr (6, [.ref (ux 4), .ref (ux 5), .int 0])), ((ux 9), .inr (6, [.ref (ux 10), .ref (ux 11), .int 0])), (qm, .inr (8, u16)), ((um 1), .inl (κ 4, 4, .inr (.inr (.inr (.inr (sel [(um 2), (um 3), (um 4), (um 5)])))))), ((um 2), .inl (κ 0, 14, .inl (fun _ => 0))), ((um 3), .inl (κ 0, 196, .inl (fun _ => 0))), (qo, .inl (κ 2, 1, .inr (.inl u11)))]) (wr := [((ux 1), .inl (κ 3, 4, .inr (.inr (.inr (.inr (sel [(ux 3), (ux 9), (ux 15), (ux 21)])))))), ((ux 3), .inr (6, [.ref (ux 4), .ref (ux 5), .int 0])), ((ux 9), .inr (6, [.ref (ux 10), .ref (ux 11), .int 0])), ((um 1), .inl (κ 4, 4, .inr (.inr (.inr (.inr (sel [(um 2), (um 3), (um 4), (um 5)])))))), ((um 2), .inl (κ 0, 14, .inl (fun _ => 0))), ((um 3), .inl (κ 0, 196, .inl (fun _ => 0))), (qo, .inl (κ 2, 1, .inr (.inl u11)))]) (w1 := [(qm, .inr (8, u16))]) hP hD hF [3] rfl [0, 1, 2, 4, 5, 6, 7] rfl (by decide) (by decide) hk1 hP1 hD1 [0, 1, 2, 7, 3, 4, 5, 6] (by decide) rfl
        have hP : va_P D vwCl [((ux 1), .inl (κ 3, 4, .inr (.inr (.inr (.inr (sel [(ux 3), (ux 9), (ux 15), (ux 21)])))))), ((ux 3), .inr (6, [.ref (ux 4), .ref (ux 5), .int 0])), ((ux 9), .inr (6, [.ref (ux 10), .ref (ux 11), .int 0])), (qm, .inr (8, u16)), ((um 1), .inl (κ 4, 4, .inr (.inr (.inr (.inr (sel [(um 2), (um 3), (um 4), (um 5)])))))), ((um 2), .inl (κ 0, 14, .inl (fun _ => 0))), ((um 3), .inl (κ 0, 196, .inl (fun _ => 0))), (qo, .inl (κ 2, 1, .inr (.inl u11)))] H := hP
        have hD : va_D (fun q : Nat => s.heap.size ≤ q) [((ux 1), .inl (κ 3, 4, .inr (.inr (.inr (.inr (sel [(ux 3), (ux 9), (ux 15), (ux 21)])))))), ((ux 3), .inr (6, [.ref (ux 4), .ref (ux 5), .int 0])), ((ux 9), .inr (6, [.ref (ux 10), .ref (ux 11), .int 0])), (qm, .inr (8, u16)), ((um 1), .inl (κ 4, 4, .inr (.inr (.inr (.inr (sel [(um 2), (um 3), (um 4), (um 5)])))))), ((um 2), .inl (κ 0, 14, .inl (fun _ => 0))), ((um 3), .inl (κ 0, 196, .inl (fun _ => 0))), (qo, .inl (κ 2, 1, .inr (.inl u11)))] := hD
        obtain ⟨hu17, rfl⟩ := hw
        refine lv_istore (lv' := [(6, .int 0), (5, .int 1), (0, .ref b), (1, .ref qx), (2, .ref qm), (3, .ref qo), (4, .int 0)]) hx hb dL_law_575 hl (by decide) rfl (fun ls hl => ?_)
        refine lv_aload_n hx hb dL_law_577 rfl (lv_at hl 4 rfl) ?_
        refine vp_callSi (W.runV (As := []) (rest := []) ⟨hx, hb, hml, hown, hts⟩ (k_thrown l D κ qm u16 (1) hu17) (cwV 0 hts gL_law_X6_thrown rfl rfl rfl (by decide +kernel) ⟨(Nat.le_of_ble_eq_true rfl), (Nat.le_of_ble_eq_true rfl)⟩) (pre0_V (q0 := 3) (ci := 8) (wc := [(qm, .inr (8, u16))]) hP hK [3] rfl rfl rfl) rfl rfl hl.1 rfl (lv_room (Nat.le_of_ble_eq_true rfl)) dL_law_578 ⟨(Nat.le_of_ble_eq_true rfl), (Nat.le_of_ble_eq_true rfl)⟩) (fun r hw => ?_)
        subst hw
        refine lv_iload hx hb dL_law_581 (lv_at hl 1 rfl) ?_
        refine lv_icmp_eq (tgt := 588) hx hb dL_law_583 (by decide) (fun _ => ?_) (fun h => absurd (by decide) h)
        refine lv_iload hx hb dL_law_588 (lv_at hl 1 rfl) ?_
        refine lv_if_ne (tgt := 605) hx hb dL_law_590 (by decide) (fun _ => ?_) (fun h => absurd h (by decide))
        refine lv_goto (tgt := 1677) hx hb dL_law_605 (by decide) ?_
        exact law_end C0 (Nat.le_of_ble_eq_true rfl) (Nat.le_of_ble_eq_true rfl) hS (lv_sub hl [2, 6] rfl)
