set_option maxHeartbeats 4000000 in
set_option maxRecDepth 100000 in
theorem k_X5_cost_1 (l : Launch) (D : va_G) (κ ε : Nat → Nat) : Met l yX5_cost wsX5_cost ({ frames := 0, cells := 0, slots := 0, locals := 0 }) (va_Pc [.int 1000000] (Pre0 D κ [])) (vp_Si (fun r => (r = 0))) 0 0 (fun _ => False) := by
  refine Met.ofW (cc := cX5_cost) (maxL := 4) (ret := (some .int)) (by decide) rfl ?_
  intro p e s m args below meth c s₁ B hml hv
  obtain ⟨rfl, hP, hK⟩ := hv
  have hx := B.exec
  have hb := B.bytes
  have hr := B.returns
  have hts := atoms_spec (ws := wsX5_cost) B.pre
  have hown : s.vm.findClass RX5 = some m.cls := findClass_of_methodNamed B.named
  have hlocks := B.notSynchronized
  have hP : va_P D vwCl [] s.heap := hP
  have hl := lv_entry [.int 1000000] (n := 4) (Nat.le_of_ble_eq_true rfl)
  rw [lg_entry_eq]
  generalize (lg_sl [.int 1000000] ++ List.replicate (4 - (lg_sl [.int 1000000]).length) Slot.unset).toArray = ls at hl ⊢
  have hl : lv_has ls 4 [(0, .int 1000000)] := hl
  refine lv_iload_n hx hb dX5_cost_0 rfl (lv_at hl 0 rfl) ?_
  refine lv_if_gt (tgt := 8) hx hb dX5_cost_1 (by decide) (fun _ => ?_) (fun h => absurd (by decide) h)
  refine lv_iload_n hx hb dX5_cost_8 rfl (lv_at hl 0 rfl) ?_
  refine lv_ldc (v := 1000000) hx hb hown (hts _ wd329_X5_cost) dX5_cost_9 ?_
  refine lv_icmp_lt (tgt := 16) hx hb dX5_cost_11 (by decide) (fun h => absurd h (by decide)) (fun _ => ?_)
  refine lv_iconst (v := 0) hx hb dX5_cost_14 (by decide) ?_
  exact W.iret (v := 0) hx hb hr (fun t ht hW => ⟨0, rfl, rfl, ht⟩) (fun q hq => absurd hq List.not_mem_nil) dX5_cost_15

theorem wi_X5_sumOfCosts_RX5 : ∀ w ∈ u_ws RX5 TX5 10, w ∈ wsX5_sumOfCosts := by decide +kernel

theorem wd335_X5_sumOfCosts : (.fieldLink RX5 51 "Canticle" "length" "I" : Cond) ∈ wsX5_sumOfCosts := by decide +kernel

theorem wd336_X5_sumOfCosts : (.fieldLink RX5 21 "Canticle" "reckoner" "LCanticle$Reckoner;" : Cond) ∈ wsX5_sumOfCosts := by decide +kernel

theorem wd337_X5_sumOfCosts : (.fieldLink RX5 10 "Canticle" "ledger" "LCanticle$Ledger;" : Cond) ∈ wsX5_sumOfCosts := by decide +kernel

theorem wi_X5_sumOfCosts_RX0 : ∀ w ∈ u_ws RX0 TX0 4, w ∈ wsX5_sumOfCosts := by decide +kernel

theorem wd338_X5_sumOfCosts : (.fieldLink RX5 83 "Canticle$Ledger" "order" "I" : Cond) ∈ wsX5_sumOfCosts := by decide +kernel

theorem wi_X5_sumOfCosts_RX1 : ∀ w ∈ u_ws RX1 TX1 7, w ∈ wsX5_sumOfCosts := by decide +kernel

theorem wd339_X5_sumOfCosts : (.fieldLink RX5 186 "Canticle$Reckoner" "chances" "[I" : Cond) ∈ wsX5_sumOfCosts := by decide +kernel

set_option maxHeartbeats 4000000 in
set_option maxRecDepth 100000 in
theorem k_X5_sumOfCosts_0 (l : Launch) (D : va_G) (κ ε : Nat → Nat) (h0 h1 h2 h3 h4 h5 h6 h7 h8 h9 h10 h11 h12 h13 h14 h15 h16 : Nat) (sz : Nat) (p0 : Int32) (p1 : Int32) (p2 : Int32) : Met l yX5_sumOfCosts wsX5_sumOfCosts ({ frames := 4, cells := 0, slots := 0, locals := 95 }) (va_Pc [.ref h0] (Pre2 D κ ε [(h0, .inr (7, [.ref h1, .ref h2, .ref h3, .ref h4, .ref h5, .ref h6, .int 0, .int p0, .int p1, .int 0])), (h1, .inr (2, [.int 0, .int 2, .ref h7, .ref h8])), (h2, .inr (3, [.ref h1, .int 0, .int 500, .ref h9, .ref h10, .long 0, .int p2])), (h7, .inl (κ 3, 4, .inr (.inr (.inr (.inr (sel [h11, h12, h13, h14])))))), (h9, .inl (κ 0, 13, .inl (fun _ => 0))), (h10, .inl (κ 0, 13, .inl (fun _ => 0))), (h12, .inr (6, [.ref h15, .ref h16, .int 0]))] sz)) (va_Qi (fun r (u : Unit) => (r = 0)) (fun u t => va_P D vwCl [(h0, .inr (7, [.ref h1, .ref h2, .ref h3, .ref h4, .ref h5, .ref h6, .int 0, .int p0, .int p1, .int 0])), (h1, .inr (2, [.int 0, .int 2, .ref h7, .ref h8])), (h2, .inr (3, [.ref h1, .int 0, .int 500, .ref h9, .ref h10, .long 0, .int 0])), (h7, .inl (κ 3, 4, .inr (.inr (.inr (.inr (sel [h11, h12, h13, h14])))))), (h9, .inl (κ 0, 13, .inl (upd (upd (upd (upd (upd (upd (upd (upd (upd (upd (upd (upd (upd (upd (fun _ => 0) 0 1000000) 1 1000000) 2 1000000) 3 1000000) 4 1000000) 5 1000000) 6 1000000) 7 1000000) 8 1000000) 9 1000000) 10 1000000) 11 1000000) 12 1000000) 0 1000000))), (h10, .inl (κ 0, 13, .inl (fun _ => 0))), (h12, .inr (6, [.ref h15, .ref h16, .int 0]))] t.heap ∧ va_D (va_A [(h0, .inr (7, [.ref h1, .ref h2, .ref h3, .ref h4, .ref h5, .ref h6, .int 0, .int p0, .int p1, .int 0])), (h1, .inr (2, [.int 0, .int 2, .ref h7, .ref h8])), (h2, .inr (3, [.ref h1, .int 0, .int 500, .ref h9, .ref h10, .long 0, .int p2])), (h7, .inl (κ 3, 4, .inr (.inr (.inr (.inr (sel [h11, h12, h13, h14])))))), (h9, .inl (κ 0, 13, .inl (fun _ => 0))), (h10, .inl (κ 0, 13, .inl (fun _ => 0))), (h12, .inr (6, [.ref h15, .ref h16, .int 0]))] sz) [(h0, .inr (7, [.ref h1, .ref h2, .ref h3, .ref h4, .ref h5, .ref h6, .int 0, .int p0, .int p1, .int 0])), (h1, .inr (2, [.int 0, .int 2, .ref h7, .ref h8])), (h2, .inr (3, [.ref h1, .int 0, .int 500, .ref h9, .ref h10, .long 0, .int 0])), (h7, .inl (κ 3, 4, .inr (.inr (.inr (.inr (sel [h11, h12, h13, h14])))))), (h9, .inl (κ 0, 13, .inl (upd (upd (upd (upd (upd (upd (upd (upd (upd (upd (upd (upd (upd (upd (fun _ => 0) 0 1000000) 1 1000000) 2 1000000) 3 1000000) 4 1000000) 5 1000000) 6 1000000) 7 1000000) 8 1000000) 9 1000000) 10 1000000) 11 1000000) 12 1000000) 0 1000000))), (h10, .inl (κ 0, 13, .inl (fun _ => 0))), (h12, .inr (6, [.ref h15, .ref h16, .int 0]))]) (va_A [(h0, .inr (7, [.ref h1, .ref h2, .ref h3, .ref h4, .ref h5, .ref h6, .int 0, .int p0, .int p1, .int 0])), (h1, .inr (2, [.int 0, .int 2, .ref h7, .ref h8])), (h2, .inr (3, [.ref h1, .int 0, .int 500, .ref h9, .ref h10, .long 0, .int p2])), (h7, .inl (κ 3, 4, .inr (.inr (.inr (.inr (sel [h11, h12, h13, h14])))))), (h9, .inl (κ 0, 13, .inl (fun _ => 0))), (h10, .inl (κ 0, 13, .inl (fun _ => 0))), (h12, .inr (6, [.ref h15, .ref h16, .int 0]))] sz)) 0 0 (va_A [(h0, .inr (7, [.ref h1, .ref h2, .ref h3, .ref h4, .ref h5, .ref h6, .int 0, .int p0, .int p1, .int 0])), (h1, .inr (2, [.int 0, .int 2, .ref h7, .ref h8])), (h2, .inr (3, [.ref h1, .int 0, .int 500, .ref h9, .ref h10, .long 0, .int p2])), (h7, .inl (κ 3, 4, .inr (.inr (.inr (.inr (sel [h11, h12, h13, h14])))))), (h9, .inl (κ 0, 13, .inl (fun _ => 0))), (h10, .inl (κ 0, 13, .inl (fun _ => 0))), (h12, .inr (6, [.ref h15, .ref h16, .int 0]))] sz) := by
  refine Met.ofW (cc := cX5_sumOfCosts) (maxL := 4) (ret := (some .int)) (by decide) rfl ?_
  intro p e s m args below meth c s₁ B hml hv
  obtain ⟨rfl, hsz, hP, hK, hD0, hE9⟩ := hv
  have hx := B.exec
  have hb := B.bytes
  have hr := B.returns
  have hts := atoms_spec (ws := wsX5_sumOfCosts) B.pre
  have hown : s.vm.findClass RX5 = some m.cls := findClass_of_methodNamed B.named
  have hlocks := B.notSynchronized
  subst hsz
  have hD := hD0.self (sz := s.heap.size)
  generalize hAe : va_A [(h0, .inr (7, [.ref h1, .ref h2, .ref h3, .ref h4, .ref h5, .ref h6, .int 0, .int p0, .int p1, .int 0])), (h1, .inr (2, [.int 0, .int 2, .ref h7, .ref h8])), (h2, .inr (3, [.ref h1, .int 0, .int 500, .ref h9, .ref h10, .long 0, .int p2])), (h7, .inl (κ 3, 4, .inr (.inr (.inr (.inr (sel [h11, h12, h13, h14])))))), (h9, .inl (κ 0, 13, .inl (fun _ => 0))), (h10, .inl (κ 0, 13, .inl (fun _ => 0))), (h12, .inr (6, [.ref h15, .ref h16, .int 0]))] s.heap.size = A at hD hE9 ⊢
  have hE := hE9.1
  have hDc := hE9.2
  have hA : ∀ q : Nat, s.heap.size ≤ q → A q := fun q h => by rw [← hAe]; exact Or.inr h
  have hS : va_S A s.heap s.heap [] := va_S.rf
  have hP : va_P D vwCl [(h0, .inr (7, [.ref h1, .ref h2, .ref h3, .ref h4, .ref h5, .ref h6, .int 0, .int p0, .int p1, .int 0])), (h1, .inr (2, [.int 0, .int 2, .ref h7, .ref h8])), (h2, .inr (3, [.ref h1, .int 0, .int 500, .ref h9, .ref h10, .long 0, .int p2])), (h7, .inl (κ 3, 4, .inr (.inr (.inr (.inr (sel [h11, h12, h13, h14])))))), (h9, .inl (κ 0, 13, .inl (fun _ => 0))), (h10, .inl (κ 0, 13, .inl (fun _ => 0))), (h12, .inr (6, [.ref h15, .ref h16, .int 0]))] s.heap := hP
  have hl := lv_entry [.ref h0] (n := 4) (Nat.le_of_ble_eq_true rfl)
  rw [lg_entry_eq]
  generalize (lg_sl [.ref h0] ++ List.replicate (4 - (lg_sl [.ref h0]).length) Slot.unset).toArray = ls at hl ⊢
  have hl : lv_has ls 4 [(0, .ref h0)] := hl
  refine lv_iconst (v := 0) hx hb dX5_sumOfCosts_0 (by decide) ?_
  refine lv_istore_n (lv' := [(1, .int 0), (0, .ref h0)]) hx hb dX5_sumOfCosts_1 rfl hl (by decide) rfl (fun ls hl => ?_)
  refine lv_iconst (v := 0) hx hb dX5_sumOfCosts_2 (by decide) ?_
  refine lv_istore_n (lv' := [(2, .int 0), (1, .int 0), (0, .ref h0)]) hx hb dX5_sumOfCosts_3 rfl hl (by decide) rfl (fun ls hl => ?_)
  refine lv_iload_n hx hb dX5_sumOfCosts_4 rfl (lv_at hl 0 rfl) ?_
  refine lv_aload_n hx hb dX5_sumOfCosts_5 rfl (lv_at hl 2 rfl) ?_
  refine va_get (D := D) (ci := 7) (v := .int 0) (C := RX5) (T := TX5) (N := 10) hx hb hts wi_X5_sumOfCosts_RX5 hown hK hP 0 rfl rfl 6 (by decide) (hts _ wd335_X5_sumOfCosts) (fun _ h9 => h9) rfl dX5_sumOfCosts_6 ?_
  refine lv_icmp_gt (tgt := 81) hx hb dX5_sumOfCosts_9 (by decide) (fun h => absurd h (by decide)) (fun _ => ?_)
  refine lv_aload_n hx hb dX5_sumOfCosts_12 rfl (lv_at hl 2 rfl) ?_
  refine va_get (D := D) (ci := 7) (v := .ref h2) (C := RX5) (T := TX5) (N := 10) hx hb hts wi_X5_sumOfCosts_RX5 hown hK hP 0 rfl rfl 1 (by decide) (hts _ wd336_X5_sumOfCosts) (fun _ h9 => h9) rfl dX5_sumOfCosts_13 ?_
  refine lv_aload_n hx hb dX5_sumOfCosts_16 rfl (lv_at hl 2 rfl) ?_
  refine va_get (D := D) (ci := 7) (v := .ref h1) (C := RX5) (T := TX5) (N := 10) hx hb hts wi_X5_sumOfCosts_RX5 hown hK hP 0 rfl rfl 0 (by decide) (hts _ wd337_X5_sumOfCosts) (fun _ h9 => h9) rfl dX5_sumOfCosts_17 ?_
  refine va_get (D := D) (ci := 2) (v := .int 2) (C := RX0) (T := TX0) (N := 4) hx hb hts wi_X5_sumOfCosts_RX0 hown hK hP 1 rfl rfl 1 (by decide) (hts _ wd338_X5_sumOfCosts) (fun _ h9 => h9) rfl dX5_sumOfCosts_20 ?_
  refine lv_aload_n hx hb dX5_sumOfCosts_23 rfl (lv_at hl 2 rfl) ?_
  refine lv_iload_n hx hb dX5_sumOfCosts_24 rfl (lv_at hl 0 rfl) ?_
  refine lv_iconst (v := 1) hx hb dX5_sumOfCosts_25 (by decide) ?_
  refine lv_isub hx hb dX5_sumOfCosts_26 ?_
  refine tpi (v := (-1)) (by decide) ?_
  refine lv_aload_n hx hb dX5_sumOfCosts_27 rfl (lv_at hl 2 rfl) ?_
  refine va_get (D := D) (ci := 7) (v := .ref h1) (C := RX5) (T := TX5) (N := 10) hx hb hts wi_X5_sumOfCosts_RX5 hown hK hP 0 rfl rfl 0 (by decide) (hts _ wd337_X5_sumOfCosts) (fun _ h9 => h9) rfl dX5_sumOfCosts_28 ?_
  refine va_get (D := D) (ci := 2) (v := .int 2) (C := RX0) (T := TX0) (N := 4) hx hb hts wi_X5_sumOfCosts_RX0 hown hK hP 1 rfl rfl 1 (by decide) (hts _ wd338_X5_sumOfCosts) (fun _ h9 => h9) rfl dX5_sumOfCosts_31 ?_
  refine lv_iconst (v := 1) hx hb dX5_sumOfCosts_34 (by decide) ?_
  refine lv_isub hx hb dX5_sumOfCosts_35 ?_
  refine tpi (v := 1) (by decide) ?_
  refine vp_callSi (W.runV (As := [.int (-1), .int 1]) (rest := [.int 2, .ref h2]) ⟨hx, hb, hml, hown, hts⟩ (k_X5_keyUpTo_2 l D κ ε h0 h1 h2 h3 h4 h5 h6 (0) (p0) (p1)) (cwV 2 hts gX5_sumOfCosts_X5_keyUpTo rfl rfl rfl (by decide +kernel) ⟨(Nat.le_of_ble_eq_true rfl), (Nat.le_of_ble_eq_true rfl)⟩) (pre0_V (q0 := 0) (ci := 7) (wc := [(h0, .inr (7, [.ref h1, .ref h2, .ref h3, .ref h4, .ref h5, .ref h6, .int 0, .int p0, .int p1, .int 0]))]) hP hK [0] rfl rfl rfl) rfl rfl hl.1 rfl (lv_room (Nat.le_of_ble_eq_true rfl)) dX5_sumOfCosts_36 ⟨(Nat.le_of_ble_eq_true rfl), (Nat.le_of_ble_eq_true rfl)⟩) (fun r hw => ?_)
  rw [hw]
  have hF := va_free (wc := [(h2, .inr (3, [.ref h1, .int 0, .int 500, .ref h9, .ref h10, .long 0, .int p2])), (h1, .inr (2, [.int 0, .int 2, .ref h7, .ref h8])), (h9, .inl (κ 0, 13, .inl (fun _ => 0))), (h10, .inl (κ 0, 13, .inl (fun _ => 0))), (h7, .inl (κ 3, 4, .inr (.inr (.inr (.inr (sel [h11, h12, h13, h14])))))), (h12, .inr (6, [.ref h15, .ref h16, .int 0]))]) hD hS hA [2, 1, 4, 5, 3, 6] rfl
  refine va_callv (va_runV (As := [.int 2, .int 0]) (rest := []) ⟨hx, hb, hml, hown, hts⟩ (k_X1_reckon_0 l D κ ε h2 h1 h9 h10 h7 h8 h11 h12 h13 h14 h15 h16 s.heap.size (p2) (2)) (cwV 2 hts gX5_sumOfCosts_X1_reckon rfl rfl rfl (by decide +kernel) ⟨(Nat.le_of_ble_eq_true rfl), (Nat.le_of_ble_eq_true rfl)⟩) (pre2_V (q0 := 2) (ci := 3) (wc := [(h2, .inr (3, [.ref h1, .int 0, .int 500, .ref h9, .ref h10, .long 0, .int p2])), (h1, .inr (2, [.int 0, .int 2, .ref h7, .ref h8])), (h9, .inl (κ 0, 13, .inl (fun _ => 0))), (h10, .inl (κ 0, 13, .inl (fun _ => 0))), (h7, .inl (κ 3, 4, .inr (.inr (.inr (.inr (sel [h11, h12, h13, h14])))))), (h12, .inr (6, [.ref h15, .ref h16, .int 0]))]) hP hD hK hE9 hS hA [2, 1, 4, 5, 3, 6] (by decide) rfl rfl rfl) rfl rfl hl.1 rfl (lv_room (Nat.le_of_ble_eq_true rfl)) dX5_sumOfCosts_39 ⟨(Nat.le_of_ble_eq_true rfl), (Nat.le_of_ble_eq_true rfl)⟩) hS (fun q _ h => hF q h) hF (fun u1 t H locs ht hvm hw hB hz1 hk1 hS => ?_)
  try dsimp only at hw hB
  obtain ⟨hP1, hD1⟩ := hB
  rw [ht] at hP1
  obtain ⟨hP, hD⟩ := post_j (ws' := [(h0, .inr (7, [.ref h1, .ref h2, .ref h3, .ref h4, .ref h5, .ref h6, .int 0, .int p0, .int p1, .int 0])), (h1, .inr (2, [.int 0, .int 2, .ref h7, .ref h8])), (h2, .inr (3, [.ref h1, .int 0, .int 500, .ref h9, .ref h10, .long 0, .int 0])), (h7, .inl (κ 3, 4, .inr (.inr (.inr (.inr (sel [h11, h12, h13, h14])))))), (h9, .inl (κ 0, 13, .inl (upd (upd (upd (upd (upd (upd (upd (upd (upd (upd (upd (upd (upd (upd (fun _ => 0) 0 1000000) 1 1000000) 2 1000000) 3 1000000) 4 1000000) 5 1000000) 6 1000000) 7 1000000) 8 1000000) 9 1000000) 10 1000000) 11 1000000) 12 1000000) 0 1000000))), (h10, .inl (κ 0, 13, .inl (fun _ => 0))), (h12, .inr (6, [.ref h15, .ref h16, .int 0]))]) (wr := [(h0, .inr (7, [.ref h1, .ref h2, .ref h3, .ref h4, .ref h5, .ref h6, .int 0, .int p0, .int p1, .int 0]))]) (w1 := [(h2, .inr (3, [.ref h1, .int 0, .int 500, .ref h9, .ref h10, .long 0, .int 0])), (h1, .inr (2, [.int 0, .int 2, .ref h7, .ref h8])), (h9, .inl (κ 0, 13, .inl (upd (upd (upd (upd (upd (upd (upd (upd (upd (upd (upd (upd (upd (upd (fun _ => 0) 0 1000000) 1 1000000) 2 1000000) 3 1000000) 4 1000000) 5 1000000) 6 1000000) 7 1000000) 8 1000000) 9 1000000) 10 1000000) 11 1000000) 12 1000000) 0 1000000))), (h10, .inl (κ 0, 13, .inl (fun _ => 0))), (h7, .inl (κ 3, 4, .inr (.inr (.inr (.inr (sel [h11, h12, h13, h14])))))), (h12, .inr (6, [.ref h15, .ref h16, .int 0]))]) hP hD hF [2, 1, 4, 5, 3, 6] rfl [0] rfl (by decide) (by decide) hk1 hP1 hD1 [0, 2, 1, 5, 3, 4, 6] (by decide) rfl
  have hP : va_P D vwCl [(h0, .inr (7, [.ref h1, .ref h2, .ref h3, .ref h4, .ref h5, .ref h6, .int 0, .int p0, .int p1, .int 0])), (h1, .inr (2, [.int 0, .int 2, .ref h7, .ref h8])), (h2, .inr (3, [.ref h1, .int 0, .int 500, .ref h9, .ref h10, .long 0, .int 0])), (h7, .inl (κ 3, 4, .inr (.inr (.inr (.inr (sel [h11, h12, h13, h14])))))), (h9, .inl (κ 0, 13, .inl (upd (upd (upd (upd (upd (upd (upd (upd (upd (upd (upd (upd (upd (upd (fun _ => 0) 0 1000000) 1 1000000) 2 1000000) 3 1000000) 4 1000000) 5 1000000) 6 1000000) 7 1000000) 8 1000000) 9 1000000) 10 1000000) 11 1000000) 12 1000000) 0 1000000))), (h10, .inl (κ 0, 13, .inl (fun _ => 0))), (h12, .inr (6, [.ref h15, .ref h16, .int 0]))] H := hP
  have hD : va_D A [(h0, .inr (7, [.ref h1, .ref h2, .ref h3, .ref h4, .ref h5, .ref h6, .int 0, .int p0, .int p1, .int 0])), (h1, .inr (2, [.int 0, .int 2, .ref h7, .ref h8])), (h2, .inr (3, [.ref h1, .int 0, .int 500, .ref h9, .ref h10, .long 0, .int 0])), (h7, .inl (κ 3, 4, .inr (.inr (.inr (.inr (sel [h11, h12, h13, h14])))))), (h9, .inl (κ 0, 13, .inl (upd (upd (upd (upd (upd (upd (upd (upd (upd (upd (upd (upd (upd (upd (fun _ => 0) 0 1000000) 1 1000000) 2 1000000) 3 1000000) 4 1000000) 5 1000000) 6 1000000) 7 1000000) 8 1000000) 9 1000000) 10 1000000) 11 1000000) 12 1000000) 0 1000000))), (h10, .inl (κ 0, 13, .inl (fun _ => 0))), (h12, .inr (6, [.ref h15, .ref h16, .int 0]))] := hD
  refine lv_aload_n hx hb dX5_sumOfCosts_42 rfl (lv_at hl 2 rfl) ?_
  refine lv_iload_n hx hb dX5_sumOfCosts_43 rfl (lv_at hl 0 rfl) ?_
  refine vp_callSi (W.runV (As := [.int 0]) (rest := []) ⟨hx, hb, hml, hown, hts⟩ (k_X5_digitAt_0 l D κ ε h0 h1 h2 h3 h4 h5 h6 h7 h8 (p0) (p1) (2)) (cwV 1 hts gX5_sumOfCosts_X5_digitAt rfl rfl rfl (by decide +kernel) ⟨(Nat.le_of_ble_eq_true rfl), (Nat.le_of_ble_eq_true rfl)⟩) (pre0_V (q0 := 0) (ci := 7) (wc := [(h0, .inr (7, [.ref h1, .ref h2, .ref h3, .ref h4, .ref h5, .ref h6, .int 0, .int p0, .int p1, .int 0])), (h1, .inr (2, [.int 0, .int 2, .ref h7, .ref h8]))]) hP hK [0, 1] rfl rfl rfl) rfl rfl hl.1 rfl (lv_room (Nat.le_of_ble_eq_true rfl)) dX5_sumOfCosts_44 ⟨(Nat.le_of_ble_eq_true rfl), (Nat.le_of_ble_eq_true rfl)⟩) (fun r hw => ?_)
  rw [hw]
  refine lv_iconst (v := 1) hx hb dX5_sumOfCosts_47 (by decide) ?_
  refine lv_isub hx hb dX5_sumOfCosts_48 ?_
  refine tpi (v := 0) (by decide) ?_
  refine lv_istore_n (lv' := [(3, .int 0), (2, .int 0), (1, .int 0), (0, .ref h0)]) hx hb dX5_sumOfCosts_49 rfl hl (by decide) rfl (fun ls hl => ?_)
  refine lv_iload_n hx hb dX5_sumOfCosts_50 rfl (lv_at hl 0 rfl) ?_
  refine lv_if_lt (tgt := 75) hx hb dX5_sumOfCosts_51 (by decide) (fun h => absurd h (by decide)) (fun _ => ?_)
  refine lv_iload_n hx hb dX5_sumOfCosts_54 rfl (lv_at hl 0 rfl) ?_
  refine lv_bipush (v := 12) hx hb dX5_sumOfCosts_55 (by decide) ?_
  refine lv_icmp_gt (tgt := 75) hx hb dX5_sumOfCosts_57 (by decide) (fun h => absurd h (by decide)) (fun _ => ?_)
  refine lv_iload_n hx hb dX5_sumOfCosts_60 rfl (lv_at hl 2 rfl) ?_
  refine lv_aload_n hx hb dX5_sumOfCosts_61 rfl (lv_at hl 3 rfl) ?_
  refine va_get (D := D) (ci := 7) (v := .ref h2) (C := RX5) (T := TX5) (N := 10) hx hb hts wi_X5_sumOfCosts_RX5 hown hK hP 0 rfl rfl 1 (by decide) (hts _ wd336_X5_sumOfCosts) (fun _ h9 => h9) rfl dX5_sumOfCosts_62 ?_
  refine va_get (D := D) (ci := 3) (v := .ref h9) (C := RX1) (T := TX1) (N := 7) hx hb hts wi_X5_sumOfCosts_RX1 hown hK hP 2 rfl rfl 3 (by decide) (hts _ wd339_X5_sumOfCosts) (fun _ h9 => h9) rfl dX5_sumOfCosts_65 ?_
  refine lv_iload_n hx hb dX5_sumOfCosts_68 rfl (lv_at hl 0 rfl) ?_
  refine va_iald (cA := κ 0) (n := 13) (f := (upd (upd (upd (upd (upd (upd (upd (upd (upd (upd (upd (upd (upd (upd (fun _ => 0) 0 1000000) 1 1000000) 2 1000000) 3 1000000) 4 1000000) 5 1000000) 6 1000000) 7 1000000) 8 1000000) 9 1000000) 10 1000000) 11 1000000) 12 1000000) 0 1000000)) hx hb hK hP 4 0 rfl rfl (vpl (by decide)) dX5_sumOfCosts_69 ?_
  refine tpi (v := 1000000) (by decide) ?_
  refine vp_callSi (W.runS (As := [.int 1000000]) (rest := [.int 0]) ⟨hx, hb, hml, hown, hts⟩ (k_X5_cost_1 l D κ ε) (va_cwS 1 hts gX5_sumOfCosts_X5_cost rfl rfl rfl (by decide +kernel) ⟨(Nat.le_of_ble_eq_true rfl), (Nat.le_of_ble_eq_true rfl)⟩) (pre0_S (wc := []) hP hK [] rfl) rfl rfl hl.1 rfl (lv_room (Nat.le_of_ble_eq_true rfl)) dX5_sumOfCosts_70 ⟨(Nat.le_of_ble_eq_true rfl), (Nat.le_of_ble_eq_true rfl)⟩) (fun r hw => ?_)
  rw [hw]
  refine lv_iadd hx hb dX5_sumOfCosts_73 ?_
  refine tpi (v := 0) (by decide) ?_
  refine lv_istore_n (lv' := [(1, .int 0), (3, .int 0), (2, .int 0), (0, .ref h0)]) hx hb dX5_sumOfCosts_74 rfl hl (by decide) rfl (fun ls hl => ?_)
  refine lv_iinc (v := 1) (lv' := [(2, .int 1), (1, .int 0), (3, .int 0), (0, .ref h0)]) hx hb dX5_sumOfCosts_75 hl (k := 2) rfl (by decide) (by decide) rfl (fun ls hl => ?_)
  refine lv_goto (tgt := 4) hx hb dX5_sumOfCosts_78 (by decide) ?_
  refine lv_iload_n hx hb dX5_sumOfCosts_4 rfl (lv_at hl 0 rfl) ?_
  refine lv_aload_n hx hb dX5_sumOfCosts_5 rfl (lv_at hl 3 rfl) ?_
  refine va_get (D := D) (ci := 7) (v := .int 0) (C := RX5) (T := TX5) (N := 10) hx hb hts wi_X5_sumOfCosts_RX5 hown hK hP 0 rfl rfl 6 (by decide) (hts _ wd335_X5_sumOfCosts) (fun _ h9 => h9) rfl dX5_sumOfCosts_6 ?_
  refine lv_icmp_gt (tgt := 81) hx hb dX5_sumOfCosts_9 (by decide) (fun _ => ?_) (fun h => absurd (by decide) h)
  refine lv_iload_n hx hb dX5_sumOfCosts_81 rfl (lv_at hl 1 rfl) ?_
  have hP9 := hP
  have hD9 := hD
  exact W.iret (v := 0) hx hb hr (fun t ht hW => ⟨⟨0, (), rfl, rfl, by rw [ht]; exact hP9, hD9⟩, hS.F ht⟩) hS.2.2 dX5_sumOfCosts_82

set_option maxHeartbeats 4000000 in
set_option maxRecDepth 100000 in
theorem k_X5_score_0 (l : Launch) (D : va_G) (κ ε : Nat → Nat) (h0 h1 h2 h3 h4 h5 h6 h7 h8 h9 h10 h11 h12 h13 h14 h15 h16 : Nat) (sz : Nat) : Met l yX5_score wsX5_score ({ frames := 5, cells := 0, slots := 0, locals := 118 }) (va_Pc [.ref h0] (Pre2 D κ ε [(h0, .inr (7, [.ref h1, .ref h2, .ref h3, .ref h4, .ref h5, .ref h6, .int 0, .int 0, .int 0, .int 0])), (h1, .inr (2, [.int 0, .int 2, .ref h7, .ref h8])), (h2, .inr (3, [.ref h1, .int 0, .int 500, .ref h9, .ref h10, .long 0, .int 0])), (h7, .inl (κ 3, 4, .inr (.inr (.inr (.inr (sel [h11, h12, h13, h14])))))), (h9, .inl (κ 0, 13, .inl (fun _ => 0))), (h10, .inl (κ 0, 13, .inl (fun _ => 0))), (h12, .inr (6, [.ref h15, .ref h16, .int 0]))] sz)) (va_Qi (fun r (u : Unit) => (r = 0)) (fun _ _ => True) (va_A [(h0, .inr (7, [.ref h1, .ref h2, .ref h3, .ref h4, .ref h5, .ref h6, .int 0, .int 0, .int 0, .int 0])), (h1, .inr (2, [.int 0, .int 2, .ref h7, .ref h8])), (h2, .inr (3, [.ref h1, .int 0, .int 500, .ref h9, .ref h10, .long 0, .int 0])), (h7, .inl (κ 3, 4, .inr (.inr (.inr (.inr (sel [h11, h12, h13, h14])))))), (h9, .inl (κ 0, 13, .inl (fun _ => 0))), (h10, .inl (κ 0, 13, .inl (fun _ => 0))), (h12, .inr (6, [.ref h15, .ref h16, .int 0]))] sz)) 0 0 (va_A [(h0, .inr (7, [.ref h1, .ref h2, .ref h3, .ref h4, .ref h5, .ref h6, .int 0, .int 0, .int 0, .int 0])), (h1, .inr (2, [.int 0, .int 2, .ref h7, .ref h8])), (h2, .inr (3, [.ref h1, .int 0, .int 500, .ref h9, .ref h10, .long 0, .int 0])), (h7, .inl (κ 3, 4, .inr (.inr (.inr (.inr (sel [h11, h12, h13, h14])))))), (h9, .inl (κ 0, 13, .inl (fun _ => 0))), (h10, .inl (κ 0, 13, .inl (fun _ => 0))), (h12, .inr (6, [.ref h15, .ref h16, .int 0]))] sz) := by
  refine Met.ofW (cc := cX5_score) (maxL := 1) (ret := (some .int)) (by decide) rfl ?_
  intro p e s m args below meth c s₁ B hml hv
  obtain ⟨rfl, hsz, hP, hK, hD0, hE9⟩ := hv
  have hx := B.exec
  have hb := B.bytes
  have hr := B.returns
  have hts := atoms_spec (ws := wsX5_score) B.pre
  have hown : s.vm.findClass RX5 = some m.cls := findClass_of_methodNamed B.named
  have hlocks := B.notSynchronized
  subst hsz
  have hD := hD0.self (sz := s.heap.size)
  generalize hAe : va_A [(h0, .inr (7, [.ref h1, .ref h2, .ref h3, .ref h4, .ref h5, .ref h6, .int 0, .int 0, .int 0, .int 0])), (h1, .inr (2, [.int 0, .int 2, .ref h7, .ref h8])), (h2, .inr (3, [.ref h1, .int 0, .int 500, .ref h9, .ref h10, .long 0, .int 0])), (h7, .inl (κ 3, 4, .inr (.inr (.inr (.inr (sel [h11, h12, h13, h14])))))), (h9, .inl (κ 0, 13, .inl (fun _ => 0))), (h10, .inl (κ 0, 13, .inl (fun _ => 0))), (h12, .inr (6, [.ref h15, .ref h16, .int 0]))] s.heap.size = A at hD hE9 ⊢
  have hE := hE9.1
  have hDc := hE9.2
  have hA : ∀ q : Nat, s.heap.size ≤ q → A q := fun q h => by rw [← hAe]; exact Or.inr h
  have hS : va_S A s.heap s.heap [] := va_S.rf
  have hP : va_P D vwCl [(h0, .inr (7, [.ref h1, .ref h2, .ref h3, .ref h4, .ref h5, .ref h6, .int 0, .int 0, .int 0, .int 0])), (h1, .inr (2, [.int 0, .int 2, .ref h7, .ref h8])), (h2, .inr (3, [.ref h1, .int 0, .int 500, .ref h9, .ref h10, .long 0, .int 0])), (h7, .inl (κ 3, 4, .inr (.inr (.inr (.inr (sel [h11, h12, h13, h14])))))), (h9, .inl (κ 0, 13, .inl (fun _ => 0))), (h10, .inl (κ 0, 13, .inl (fun _ => 0))), (h12, .inr (6, [.ref h15, .ref h16, .int 0]))] s.heap := hP
  have hl := lv_entry [.ref h0] (n := 1) (Nat.le_of_ble_eq_true rfl)
  rw [lg_entry_eq]
  generalize (lg_sl [.ref h0] ++ List.replicate (1 - (lg_sl [.ref h0]).length) Slot.unset).toArray = ls at hl ⊢
  have hl : lv_has ls 1 [(0, .ref h0)] := hl
  refine lv_aload_n hx hb dX5_score_0 rfl (lv_at hl 0 rfl) ?_
  have hF := va_free (wc := [(h0, .inr (7, [.ref h1, .ref h2, .ref h3, .ref h4, .ref h5, .ref h6, .int 0, .int 0, .int 0, .int 0])), (h1, .inr (2, [.int 0, .int 2, .ref h7, .ref h8])), (h2, .inr (3, [.ref h1, .int 0, .int 500, .ref h9, .ref h10, .long 0, .int 0])), (h7, .inl (κ 3, 4, .inr (.inr (.inr (.inr (sel [h11, h12, h13, h14])))))), (h9, .inl (κ 0, 13, .inl (fun _ => 0))), (h10, .inl (κ 0, 13, .inl (fun _ => 0))), (h12, .inr (6, [.ref h15, .ref h16, .int 0]))]) hD hS hA [0, 1, 2, 3, 4, 5, 6] rfl
  refine va_calli (va_runV (As := []) (rest := []) ⟨hx, hb, hml, hown, hts⟩ (k_X5_sumOfCosts_0 l D κ ε h0 h1 h2 h3 h4 h5 h6 h7 h8 h9 h10 h11 h12 h13 h14 h15 h16 s.heap.size (0) (0) (0)) (cwV 0 hts gX5_score_X5_sumOfCosts rfl rfl rfl (by decide +kernel) ⟨(Nat.le_of_ble_eq_true rfl), (Nat.le_of_ble_eq_true rfl)⟩) (pre2_V (q0 := 0) (ci := 7) (wc := [(h0, .inr (7, [.ref h1, .ref h2, .ref h3, .ref h4, .ref h5, .ref h6, .int 0, .int 0, .int 0, .int 0])), (h1, .inr (2, [.int 0, .int 2, .ref h7, .ref h8])), (h2, .inr (3, [.ref h1, .int 0, .int 500, .ref h9, .ref h10, .long 0, .int 0])), (h7, .inl (κ 3, 4, .inr (.inr (.inr (.inr (sel [h11, h12, h13, h14])))))), (h9, .inl (κ 0, 13, .inl (fun _ => 0))), (h10, .inl (κ 0, 13, .inl (fun _ => 0))), (h12, .inr (6, [.ref h15, .ref h16, .int 0]))]) hP hD hK hE9 hS hA [0, 1, 2, 3, 4, 5, 6] (by decide) rfl rfl rfl) rfl rfl hl.1 rfl (lv_room (Nat.le_of_ble_eq_true rfl)) dX5_score_1 ⟨(Nat.le_of_ble_eq_true rfl), (Nat.le_of_ble_eq_true rfl)⟩) hS (fun q _ h => hF q h) hF (fun r u1 t H locs ht hvm hw hB hz1 hk1 hS => ?_)
  try dsimp only at hw hB
  obtain ⟨hP1, hD1⟩ := hB
  rw [ht] at hP1
  obtain ⟨hP, hD⟩ := post_j (ws' := [(h0, .inr (7, [.ref h1, .ref h2, .ref h3, .ref h4, .ref h5, .ref h6, .int 0, .int 0, .int 0, .int 0])), (h1, .inr (2, [.int 0, .int 2, .ref h7, .ref h8])), (h2, .inr (3, [.ref h1, .int 0, .int 500, .ref h9, .ref h10, .long 0, .int 0])), (h7, .inl (κ 3, 4, .inr (.inr (.inr (.inr (sel [h11, h12, h13, h14])))))), (h9, .inl (κ 0, 13, .inl (upd (upd (upd (upd (upd (upd (upd (upd (upd (upd (upd (upd (upd (upd (fun _ => 0) 0 1000000) 1 1000000) 2 1000000) 3 1000000) 4 1000000) 5 1000000) 6 1000000) 7 1000000) 8 1000000) 9 1000000) 10 1000000) 11 1000000) 12 1000000) 0 1000000))), (h10, .inl (κ 0, 13, .inl (fun _ => 0))), (h12, .inr (6, [.ref h15, .ref h16, .int 0]))]) (wr := []) (w1 := [(h0, .inr (7, [.ref h1, .ref h2, .ref h3, .ref h4, .ref h5, .ref h6, .int 0, .int 0, .int 0, .int 0])), (h1, .inr (2, [.int 0, .int 2, .ref h7, .ref h8])), (h2, .inr (3, [.ref h1, .int 0, .int 500, .ref h9, .ref h10, .long 0, .int 0])), (h7, .inl (κ 3, 4, .inr (.inr (.inr (.inr (sel [h11, h12, h13, h14])))))), (h9, .inl (κ 0, 13, .inl (upd (upd (upd (upd (upd (upd (upd (upd (upd (upd (upd (upd (upd (upd (fun _ => 0) 0 1000000) 1 1000000) 2 1000000) 3 1000000) 4 1000000) 5 1000000) 6 1000000) 7 1000000) 8 1000000) 9 1000000) 10 1000000) 11 1000000) 12 1000000) 0 1000000))), (h10, .inl (κ 0, 13, .inl (fun _ => 0))), (h12, .inr (6, [.ref h15, .ref h16, .int 0]))]) hP hD hF [0, 1, 2, 3, 4, 5, 6] rfl [] rfl (by decide) (by decide) hk1 hP1 hD1 [0, 1, 2, 3, 4, 5, 6] (by decide) rfl
  have hP : va_P D vwCl [(h0, .inr (7, [.ref h1, .ref h2, .ref h3, .ref h4, .ref h5, .ref h6, .int 0, .int 0, .int 0, .int 0])), (h1, .inr (2, [.int 0, .int 2, .ref h7, .ref h8])), (h2, .inr (3, [.ref h1, .int 0, .int 500, .ref h9, .ref h10, .long 0, .int 0])), (h7, .inl (κ 3, 4, .inr (.inr (.inr (.inr (sel [h11, h12, h13, h14])))))), (h9, .inl (κ 0, 13, .inl (upd (upd (upd (upd (upd (upd (upd (upd (upd (upd (upd (upd (upd (upd (fun _ => 0) 0 1000000) 1 1000000) 2 1000000) 3 1000000) 4 1000000) 5 1000000) 6 1000000) 7 1000000) 8 1000000) 9 1000000) 10 1000000) 11 1000000) 12 1000000) 0 1000000))), (h10, .inl (κ 0, 13, .inl (fun _ => 0))), (h12, .inr (6, [.ref h15, .ref h16, .int 0]))] H := hP
  have hD : va_D A [(h0, .inr (7, [.ref h1, .ref h2, .ref h3, .ref h4, .ref h5, .ref h6, .int 0, .int 0, .int 0, .int 0])), (h1, .inr (2, [.int 0, .int 2, .ref h7, .ref h8])), (h2, .inr (3, [.ref h1, .int 0, .int 500, .ref h9, .ref h10, .long 0, .int 0])), (h7, .inl (κ 3, 4, .inr (.inr (.inr (.inr (sel [h11, h12, h13, h14])))))), (h9, .inl (κ 0, 13, .inl (upd (upd (upd (upd (upd (upd (upd (upd (upd (upd (upd (upd (upd (upd (fun _ => 0) 0 1000000) 1 1000000) 2 1000000) 3 1000000) 4 1000000) 5 1000000) 6 1000000) 7 1000000) 8 1000000) 9 1000000) 10 1000000) 11 1000000) 12 1000000) 0 1000000))), (h10, .inl (κ 0, 13, .inl (fun _ => 0))), (h12, .inr (6, [.ref h15, .ref h16, .int 0]))] := hD
  rw [hw]
  exact W.iret (v := 0) hx hb hr (fun t ht hW => ⟨⟨0, (), rfl, rfl, trivial⟩, hS.F ht⟩) hS.2.2 dX5_score_4

set_option maxHeartbeats 4000000 in
set_option maxRecDepth 100000 in
theorem k_X6_cost_1 (l : Launch) (D : va_G) (κ ε : Nat → Nat) : Met l yX6_cost wsX6_cost ({ frames := 0, cells := 0, slots := 0, locals := 0 }) (va_Pc [.long 1000000] (Pre0 D κ [])) (vp_Si (fun r => (r = 0))) 0 0 (fun _ => False) := by
  refine Met.ofW (cc := cX6_cost) (maxL := 7) (ret := (some .int)) (by decide) rfl ?_
  intro p e s m args below meth c s₁ B hml hv
  obtain ⟨rfl, hP, hK⟩ := hv
  have hx := B.exec
  have hb := B.bytes
  have hr := B.returns
  have hts := atoms_spec (ws := wsX6_cost) B.pre
  have hown : s.vm.findClass RX6 = some m.cls := findClass_of_methodNamed B.named
  have hlocks := B.notSynchronized
  have hP : va_P D vwCl [] s.heap := hP
  have hl := lv_entry [.long 1000000] (n := 7) (Nat.le_of_ble_eq_true rfl)
  rw [lg_entry_eq]
  generalize (lg_sl [.long 1000000] ++ List.replicate (7 - (lg_sl [.long 1000000]).length) Slot.unset).toArray = ls at hl ⊢
  have hl : lv_has ls 7 [(0, .long 1000000)] := hl
  refine lv_lload_n hx hb dX6_cost_0 rfl (lv_at hl 0 rfl) ?_
  refine lv_lconst (v := 0) hx hb dX6_cost_1 (by decide) ?_
  refine W.lcmp hx hb dX6_cost_2 ?_
  refine tpi (v := 1) (by decide) ?_
  refine lv_if_gt (tgt := 9) hx hb dX6_cost_3 (by decide) (fun _ => ?_) (fun h => absurd (by decide) h)
  refine lv_lload_n hx hb dX6_cost_9 rfl (lv_at hl 0 rfl) ?_
  refine lv_ldc2 (v := 1000000) hx hb hown (hts _ wd331_X6_cost) dX6_cost_10 ?_
  refine W.lcmp hx hb dX6_cost_13 ?_
  refine tpi (v := 0) (by decide) ?_
  refine lv_if_lt (tgt := 19) hx hb dX6_cost_14 (by decide) (fun h => absurd h (by decide)) (fun _ => ?_)
  refine lv_iconst (v := 0) hx hb dX6_cost_17 (by decide) ?_
  exact W.iret (v := 0) hx hb hr (fun t ht hW => ⟨0, rfl, rfl, ht⟩) (fun q hq => absurd hq List.not_mem_nil) dX6_cost_18

theorem wi_X6_score_RX6 : ∀ w ∈ u_ws RX6 TX6 11, w ∈ wsX6_score := by decide +kernel

theorem wd340_X6_score : (.fieldLink RX6 16 "CanticleModel" "sentence" "Ljava/util/ArrayList;" : Cond) ∈ wsX6_score := by decide +kernel

theorem wd341_X6_score : (.fieldLink RX6 7 "CanticleModel" "order" "I" : Cond) ∈ wsX6_score := by decide +kernel

set_option maxHeartbeats 4000000 in
set_option maxRecDepth 100000 in
theorem k_X6_score_0 (l : Launch) (D : va_G) (κ ε : Nat → Nat) (h0 h1 h2 h3 h4 h5 h6 h7 : Nat) (p0 : Int32) (p1 : Int32) (p2 : Int32) (p3 : Int32) (p4 : Int32) (p5 : Int32) : Met l yX6_score wsX6_score ({ frames := 2, cells := 0, slots := 0, locals := 57 }) (va_Pc [.ref h0, .ref h1, .int 0, .int 500] (Pre0 D κ [(h0, .inr (8, [.int p0, .int 0, .int 2, .ref h2, .ref h1, .int p1, .int p2, .int p3, .int p4, .int 0, .ref h3])), (h1, .inl (κ 4, 4, .inr (.inr (.inr (.inr (sel [h4, h5, h6, h7])))))), (h2, .inr (1, [.int p5, .ref (ε 1), .int 0])), (h5, .inl (κ 0, 196, .inl (fun _ => 0)))])) (vp_Si (fun r => (r = 0))) 0 0 (fun _ => False) := by
  refine Met.ofW (cc := cX6_score) (maxL := 6) (ret := (some .int)) (by decide) rfl ?_
  intro p e s m args below meth c s₁ B hml hv
  obtain ⟨rfl, hP, hK⟩ := hv
  have hx := B.exec
  have hb := B.bytes
  have hr := B.returns
  have hts := atoms_spec (ws := wsX6_score) B.pre
  have hown : s.vm.findClass RX6 = some m.cls := findClass_of_methodNamed B.named
  have hlocks := B.notSynchronized
  have hP : va_P D vwCl [(h0, .inr (8, [.int p0, .int 0, .int 2, .ref h2, .ref h1, .int p1, .int p2, .int p3, .int p4, .int 0, .ref h3])), (h1, .inl (κ 4, 4, .inr (.inr (.inr (.inr (sel [h4, h5, h6, h7])))))), (h2, .inr (1, [.int p5, .ref (ε 1), .int 0])), (h5, .inl (κ 0, 196, .inl (fun _ => 0)))] s.heap := hP
  have hl := lv_entry [.ref h0, .ref h1, .int 0, .int 500] (n := 6) (Nat.le_of_ble_eq_true rfl)
  rw [lg_entry_eq]
  generalize (lg_sl [.ref h0, .ref h1, .int 0, .int 500] ++ List.replicate (6 - (lg_sl [.ref h0, .ref h1, .int 0, .int 500]).length) Slot.unset).toArray = ls at hl ⊢
  have hl : lv_has ls 6 [(0, .ref h0), (1, .ref h1), (2, .int 0), (3, .int 500)] := hl
  refine lv_iconst (v := 0) hx hb dX6_score_0 (by decide) ?_
  refine lv_istore (lv' := [(4, .int 0), (0, .ref h0), (1, .ref h1), (2, .int 0), (3, .int 500)]) hx hb dX6_score_1 hl (by decide) rfl (fun ls hl => ?_)
  refine lv_iconst (v := 0) hx hb dX6_score_3 (by decide) ?_
  refine lv_istore (lv' := [(5, .int 0), (4, .int 0), (0, .ref h0), (1, .ref h1), (2, .int 0), (3, .int 500)]) hx hb dX6_score_4 hl (by decide) rfl (fun ls hl => ?_)
  refine lv_iload hx hb dX6_score_6 (lv_at hl 0 rfl) ?_
  refine lv_aload_n hx hb dX6_score_8 rfl (lv_at hl 2 rfl) ?_
  refine va_get (D := D) (ci := 8) (v := .ref h2) (C := RX6) (T := TX6) (N := 11) hx hb hts wi_X6_score_RX6 hown hK hP 0 rfl rfl 3 (by decide) (hts _ wd340_X6_score) (fun _ h9 => h9) rfl dX6_score_9 ?_
  refine vp_callSi (W.runV (As := []) (rest := [.int 0]) ⟨hx, hb, hml, hown, hts⟩ (k_Jx4a65c_size_8abf5_0 l D κ ε h2 (p5)) (cwV 0 hts gX6_score_Jx4a65c_size_8abf5 rfl rfl rfl (by decide +kernel) ⟨(Nat.le_of_ble_eq_true rfl), (Nat.le_of_ble_eq_true rfl)⟩) (pre0_V (q0 := 2) (ci := 1) (wc := [(h2, .inr (1, [.int p5, .ref (ε 1), .int 0]))]) hP hK [2] rfl rfl rfl) rfl rfl hl.1 rfl (lv_room (Nat.le_of_ble_eq_true rfl)) dX6_score_12 ⟨(Nat.le_of_ble_eq_true rfl), (Nat.le_of_ble_eq_true rfl)⟩) (fun r hw => ?_)
  rw [hw]
  refine lv_icmp_gt (tgt := 70) hx hb dX6_score_15 (by decide) (fun h => absurd h (by decide)) (fun _ => ?_)
  refine lv_iload hx hb dX6_score_18 (lv_at hl 1 rfl) ?_
  refine lv_aload_n hx hb dX6_score_20 rfl (lv_at hl 2 rfl) ?_
  refine lv_aload_n hx hb dX6_score_21 rfl (lv_at hl 3 rfl) ?_
  refine lv_iload_n hx hb dX6_score_22 rfl (lv_at hl 4 rfl) ?_
  refine lv_iload_n hx hb dX6_score_23 rfl (lv_at hl 5 rfl) ?_
  refine lv_aload_n hx hb dX6_score_24 rfl (lv_at hl 2 rfl) ?_
  refine lv_aload_n hx hb dX6_score_25 rfl (lv_at hl 2 rfl) ?_
  refine va_get (D := D) (ci := 8) (v := .ref h2) (C := RX6) (T := TX6) (N := 11) hx hb hts wi_X6_score_RX6 hown hK hP 0 rfl rfl 3 (by decide) (hts _ wd340_X6_score) (fun _ h9 => h9) rfl dX6_score_26 ?_
  refine lv_iload hx hb dX6_score_29 (lv_at hl 0 rfl) ?_
  refine vp_callSi (W.runV (As := [.ref h2, .int 0]) (rest := [.int 500, .int 0, .ref h1, .ref h0, .int 0]) ⟨hx, hb, hml, hown, hts⟩ (k_X6_at_0 l D κ ε h0 h2 h1 h3 (p0) (2) (p1) (p2) (p3) (p4) (p5)) (cwV 2 hts gX6_score_X6_at rfl rfl rfl (by decide +kernel) ⟨(Nat.le_of_ble_eq_true rfl), (Nat.le_of_ble_eq_true rfl)⟩) (pre0_V (q0 := 0) (ci := 8) (wc := [(h0, .inr (8, [.int p0, .int 0, .int 2, .ref h2, .ref h1, .int p1, .int p2, .int p3, .int p4, .int 0, .ref h3])), (h2, .inr (1, [.int p5, .ref (ε 1), .int 0]))]) hP hK [0, 2] rfl rfl rfl) rfl rfl hl.1 rfl (lv_room (Nat.le_of_ble_eq_true rfl)) dX6_score_31 ⟨(Nat.le_of_ble_eq_true rfl), (Nat.le_of_ble_eq_true rfl)⟩) (fun r hw => ?_)
  rw [hw]
  refine lv_aload_n hx hb dX6_score_34 rfl (lv_at hl 2 rfl) ?_
  refine va_get (D := D) (ci := 8) (v := .ref h2) (C := RX6) (T := TX6) (N := 11) hx hb hts wi_X6_score_RX6 hown hK hP 0 rfl rfl 3 (by decide) (hts _ wd340_X6_score) (fun _ h9 => h9) rfl dX6_score_35 ?_
  refine lv_iload hx hb dX6_score_38 (lv_at hl 0 rfl) ?_
  refine lv_aload_n hx hb dX6_score_40 rfl (lv_at hl 2 rfl) ?_
  refine va_get (D := D) (ci := 8) (v := .int 2) (C := RX6) (T := TX6) (N := 11) hx hb hts wi_X6_score_RX6 hown hK hP 0 rfl rfl 2 (by decide) (hts _ wd341_X6_score) (fun _ h9 => h9) rfl dX6_score_41 ?_
  refine lv_iconst (v := 1) hx hb dX6_score_44 (by decide) ?_
  refine lv_isub hx hb dX6_score_45 ?_
  refine tpi (v := 1) (by decide) ?_
  refine vp_callSi (W.runS (As := [.ref h2, .int 0, .int 1]) (rest := [.int 0, .int 500, .int 0, .ref h1, .ref h0, .int 0]) ⟨hx, hb, hml, hown, hts⟩ (k_X6_ahead_1 l D κ ε h2) (va_cwS 3 hts gX6_score_X6_ahead rfl rfl rfl (by decide +kernel) ⟨(Nat.le_of_ble_eq_true rfl), (Nat.le_of_ble_eq_true rfl)⟩) (pre0_S (wc := []) hP hK [] rfl) rfl rfl hl.1 rfl (lv_room (Nat.le_of_ble_eq_true rfl)) dX6_score_46 ⟨(Nat.le_of_ble_eq_true rfl), (Nat.le_of_ble_eq_true rfl)⟩) (fun r hw => ?_)
  rw [hw]
  refine lv_aload_n hx hb dX6_score_49 rfl (lv_at hl 2 rfl) ?_
  refine va_get (D := D) (ci := 8) (v := .int 2) (C := RX6) (T := TX6) (N := 11) hx hb hts wi_X6_score_RX6 hown hK hP 0 rfl rfl 2 (by decide) (hts _ wd341_X6_score) (fun _ h9 => h9) rfl dX6_score_50 ?_
  refine lv_iconst (v := 1) hx hb dX6_score_53 (by decide) ?_
  refine lv_isub hx hb dX6_score_54 ?_
  refine tpi (v := 1) (by decide) ?_
  refine vp_callSl (W.runV (As := [.ref h1, .int 0, .int 500, .int 0, .int 0, .int 1]) (rest := [.int 0]) ⟨hx, hb, hml, hown, hts⟩ (k_X6_chance_0 l D κ ε h0 h1 h2 h3 h4 h5 h6 h7 (p0) (2) (p1) (p2) (p3) (p4)) (cwV 6 hts gX6_score_X6_chance rfl rfl rfl (by decide +kernel) ⟨(Nat.le_of_ble_eq_true rfl), (Nat.le_of_ble_eq_true rfl)⟩) (pre0_V (q0 := 0) (ci := 8) (wc := [(h0, .inr (8, [.int p0, .int 0, .int 2, .ref h2, .ref h1, .int p1, .int p2, .int p3, .int p4, .int 0, .ref h3])), (h1, .inl (κ 4, 4, .inr (.inr (.inr (.inr (sel [h4, h5, h6, h7])))))), (h5, .inl (κ 0, 196, .inl (fun _ => 0)))]) hP hK [0, 1, 3] rfl rfl rfl) rfl rfl hl.1 rfl (lv_room (Nat.le_of_ble_eq_true rfl)) dX6_score_55 ⟨(Nat.le_of_ble_eq_true rfl), (Nat.le_of_ble_eq_true rfl)⟩) (fun r hw => ?_)
  rw [hw]
  refine vp_callSi (W.runS (As := [.long 1000000]) (rest := [.int 0]) ⟨hx, hb, hml, hown, hts⟩ (k_X6_cost_1 l D κ ε) (va_cwS 1 hts gX6_score_X6_cost rfl rfl rfl (by decide +kernel) ⟨(Nat.le_of_ble_eq_true rfl), (Nat.le_of_ble_eq_true rfl)⟩) (pre0_S (wc := []) hP hK [] rfl) rfl rfl hl.1 rfl (lv_room (Nat.le_of_ble_eq_true rfl)) dX6_score_58 ⟨(Nat.le_of_ble_eq_true rfl), (Nat.le_of_ble_eq_true rfl)⟩) (fun r hw => ?_)
  rw [hw]
  refine lv_iadd hx hb dX6_score_61 ?_
  refine tpi (v := 0) (by decide) ?_
  refine lv_istore (lv' := [(4, .int 0), (5, .int 0), (0, .ref h0), (1, .ref h1), (2, .int 0), (3, .int 500)]) hx hb dX6_score_62 hl (by decide) rfl (fun ls hl => ?_)
  refine lv_iinc (v := 1) (lv' := [(5, .int 1), (4, .int 0), (0, .ref h0), (1, .ref h1), (2, .int 0), (3, .int 500)]) hx hb dX6_score_64 hl (k := 1) rfl (by decide) (by decide) rfl (fun ls hl => ?_)
  refine lv_goto (tgt := 6) hx hb dX6_score_67 (by decide) ?_
  refine lv_iload hx hb dX6_score_6 (lv_at hl 0 rfl) ?_
  refine lv_aload_n hx hb dX6_score_8 rfl (lv_at hl 2 rfl) ?_
  refine va_get (D := D) (ci := 8) (v := .ref h2) (C := RX6) (T := TX6) (N := 11) hx hb hts wi_X6_score_RX6 hown hK hP 0 rfl rfl 3 (by decide) (hts _ wd340_X6_score) (fun _ h9 => h9) rfl dX6_score_9 ?_
  refine vp_callSi (W.runV (As := []) (rest := [.int 1]) ⟨hx, hb, hml, hown, hts⟩ (k_Jx4a65c_size_8abf5_0 l D κ ε h2 (p5)) (cwV 0 hts gX6_score_Jx4a65c_size_8abf5 rfl rfl rfl (by decide +kernel) ⟨(Nat.le_of_ble_eq_true rfl), (Nat.le_of_ble_eq_true rfl)⟩) (pre0_V (q0 := 2) (ci := 1) (wc := [(h2, .inr (1, [.int p5, .ref (ε 1), .int 0]))]) hP hK [2] rfl rfl rfl) rfl rfl hl.1 rfl (lv_room (Nat.le_of_ble_eq_true rfl)) dX6_score_12 ⟨(Nat.le_of_ble_eq_true rfl), (Nat.le_of_ble_eq_true rfl)⟩) (fun r hw => ?_)
  rw [hw]
  refine lv_icmp_gt (tgt := 70) hx hb dX6_score_15 (by decide) (fun _ => ?_) (fun h => absurd (by decide) h)
  refine lv_iload hx hb dX6_score_70 (lv_at hl 1 rfl) ?_
  exact W.iret (v := 0) hx hb hr (fun t ht hW => ⟨0, rfl, rfl, ht⟩) (fun q hq => absurd hq List.not_mem_nil) dX6_score_72

theorem wi_X6_scoreNow_RX6 : ∀ w ∈ u_ws RX6 TX6 11, w ∈ wsX6_scoreNow := by decide +kernel

theorem wd342_X6_scoreNow : (.fieldLink RX6 24 "CanticleModel" "counts" "[[I" : Cond) ∈ wsX6_scoreNow := by decide +kernel

theorem wd343_X6_scoreNow : (.fieldLink RX6 137 "CanticleModel" "way" "I" : Cond) ∈ wsX6_scoreNow := by decide +kernel

theorem wd344_X6_scoreNow : (.fieldLink RX6 28 "CanticleModel" "number" "I" : Cond) ∈ wsX6_scoreNow := by decide +kernel

set_option maxHeartbeats 4000000 in
set_option maxRecDepth 100000 in
theorem k_X6_scoreNow_0 (l : Launch) (D : va_G) (κ ε : Nat → Nat) (h0 h1 h2 h3 h4 h5 h6 h7 : Nat) (p0 : Int32) (p1 : Int32) (p2 : Int32) (p3 : Int32) : Met l yX6_scoreNow wsX6_scoreNow ({ frames := 3, cells := 0, slots := 0, locals := 82 }) (va_Pc [.ref h0] (Pre0 D κ [(h0, .inr (8, [.int p0, .int 0, .int 2, .ref h1, .ref h2, .int 0, .int 500, .int p1, .int p2, .int 0, .ref h3])), (h1, .inr (1, [.int p3, .ref (ε 1), .int 0])), (h2, .inl (κ 4, 4, .inr (.inr (.inr (.inr (sel [h4, h5, h6, h7])))))), (h5, .inl (κ 0, 196, .inl (fun _ => 0)))])) (vp_Si (fun r => (r = 0))) 0 0 (fun _ => False) := by
  refine Met.ofW (cc := cX6_scoreNow) (maxL := 1) (ret := (some .int)) (by decide) rfl ?_
  intro p e s m args below meth c s₁ B hml hv
  obtain ⟨rfl, hP, hK⟩ := hv
  have hx := B.exec
  have hb := B.bytes
  have hr := B.returns
  have hts := atoms_spec (ws := wsX6_scoreNow) B.pre
  have hown : s.vm.findClass RX6 = some m.cls := findClass_of_methodNamed B.named
  have hlocks := B.notSynchronized
  have hP : va_P D vwCl [(h0, .inr (8, [.int p0, .int 0, .int 2, .ref h1, .ref h2, .int 0, .int 500, .int p1, .int p2, .int 0, .ref h3])), (h1, .inr (1, [.int p3, .ref (ε 1), .int 0])), (h2, .inl (κ 4, 4, .inr (.inr (.inr (.inr (sel [h4, h5, h6, h7])))))), (h5, .inl (κ 0, 196, .inl (fun _ => 0)))] s.heap := hP
  have hl := lv_entry [.ref h0] (n := 1) (Nat.le_of_ble_eq_true rfl)
  rw [lg_entry_eq]
  generalize (lg_sl [.ref h0] ++ List.replicate (1 - (lg_sl [.ref h0]).length) Slot.unset).toArray = ls at hl ⊢
  have hl : lv_has ls 1 [(0, .ref h0)] := hl
  refine lv_aload_n hx hb dX6_scoreNow_0 rfl (lv_at hl 0 rfl) ?_
  refine lv_aload_n hx hb dX6_scoreNow_1 rfl (lv_at hl 0 rfl) ?_
  refine va_get (D := D) (ci := 8) (v := .ref h2) (C := RX6) (T := TX6) (N := 11) hx hb hts wi_X6_scoreNow_RX6 hown hK hP 0 rfl rfl 4 (by decide) (hts _ wd342_X6_scoreNow) (fun _ h9 => h9) rfl dX6_scoreNow_2 ?_
  refine lv_aload_n hx hb dX6_scoreNow_5 rfl (lv_at hl 0 rfl) ?_
  refine va_get (D := D) (ci := 8) (v := .int 0) (C := RX6) (T := TX6) (N := 11) hx hb hts wi_X6_scoreNow_RX6 hown hK hP 0 rfl rfl 5 (by decide) (hts _ wd343_X6_scoreNow) (fun _ h9 => h9) rfl dX6_scoreNow_6 ?_
  refine lv_aload_n hx hb dX6_scoreNow_9 rfl (lv_at hl 0 rfl) ?_
  refine va_get (D := D) (ci := 8) (v := .int 500) (C := RX6) (T := TX6) (N := 11) hx hb hts wi_X6_scoreNow_RX6 hown hK hP 0 rfl rfl 6 (by decide) (hts _ wd344_X6_scoreNow) (fun _ h9 => h9) rfl dX6_scoreNow_10 ?_
  refine vp_callSi (W.runV (As := [.ref h2, .int 0, .int 500]) (rest := []) ⟨hx, hb, hml, hown, hts⟩ (k_X6_score_0 l D κ ε h0 h2 h1 h3 h4 h5 h6 h7 (p0) (0) (500) (p1) (p2) (p3)) (cwV 3 hts gX6_scoreNow_X6_score rfl rfl rfl (by decide +kernel) ⟨(Nat.le_of_ble_eq_true rfl), (Nat.le_of_ble_eq_true rfl)⟩) (pre0_V (q0 := 0) (ci := 8) (wc := [(h0, .inr (8, [.int p0, .int 0, .int 2, .ref h1, .ref h2, .int 0, .int 500, .int p1, .int p2, .int 0, .ref h3])), (h2, .inl (κ 4, 4, .inr (.inr (.inr (.inr (sel [h4, h5, h6, h7])))))), (h1, .inr (1, [.int p3, .ref (ε 1), .int 0])), (h5, .inl (κ 0, 196, .inl (fun _ => 0)))]) hP hK [0, 2, 1, 3] rfl rfl rfl) rfl rfl hl.1 rfl (lv_room (Nat.le_of_ble_eq_true rfl)) dX6_scoreNow_13 ⟨(Nat.le_of_ble_eq_true rfl), (Nat.le_of_ble_eq_true rfl)⟩) (fun r hw => ?_)
  rw [hw]
  exact W.iret (v := 0) hx hb hr (fun t ht hW => ⟨0, rfl, rfl, ht⟩) (fun q hq => absurd hq List.not_mem_nil) dX6_scoreNow_16

set_option maxHeartbeats 4000000 in
set_option maxRecDepth 100000 in
theorem k_X6_score__0 (l : Launch) (D : va_G) (κ ε : Nat → Nat) (h0 h1 h2 h3 h4 h5 h6 h7 : Nat) (sz : Nat) : Met l yX6_score_ wsX6_score_ ({ frames := 4, cells := 0, slots := 0, locals := 102 }) (va_Pc [.ref h0] (Pre2 D κ ε [(h0, .inr (8, [.int 0, .int 0, .int 2, .ref h1, .ref h2, .int 0, .int 500, .int 0, .int 0, .int 0, .ref h3])), (h1, .inr (1, [.int 0, .ref (ε 1), .int 0])), (h2, .inl (κ 4, 4, .inr (.inr (.inr (.inr (sel [h4, h5, h6, h7])))))), (h5, .inl (κ 0, 196, .inl (fun _ => 0)))] sz)) (va_Qi (fun r (u : List Value) => (u[0]? = some (.int 0)) ∧ (r = 0)) (fun u t => va_P D vwCl [(h0, .inr (8, u))] t.heap ∧ va_D (va_A [(h0, .inr (8, [.int 0, .int 0, .int 2, .ref h1, .ref h2, .int 0, .int 500, .int 0, .int 0, .int 0, .ref h3])), (h1, .inr (1, [.int 0, .ref (ε 1), .int 0])), (h2, .inl (κ 4, 4, .inr (.inr (.inr (.inr (sel [h4, h5, h6, h7])))))), (h5, .inl (κ 0, 196, .inl (fun _ => 0)))] sz) [(h0, .inr (8, u))]) (va_A [(h0, .inr (8, [.int 0, .int 0, .int 2, .ref h1, .ref h2, .int 0, .int 500, .int 0, .int 0, .int 0, .ref h3])), (h1, .inr (1, [.int 0, .ref (ε 1), .int 0])), (h2, .inl (κ 4, 4, .inr (.inr (.inr (.inr (sel [h4, h5, h6, h7])))))), (h5, .inl (κ 0, 196, .inl (fun _ => 0)))] sz)) 0 0 (va_A [(h0, .inr (8, [.int 0, .int 0, .int 2, .ref h1, .ref h2, .int 0, .int 500, .int 0, .int 0, .int 0, .ref h3])), (h1, .inr (1, [.int 0, .ref (ε 1), .int 0])), (h2, .inl (κ 4, 4, .inr (.inr (.inr (.inr (sel [h4, h5, h6, h7])))))), (h5, .inl (κ 0, 196, .inl (fun _ => 0)))] sz) := by
  refine Met.ofW (cc := cX6_score_) (maxL := 1) (ret := (some .int)) (by decide) rfl ?_
  intro p e s m args below meth c s₁ B hml hv
  obtain ⟨rfl, hsz, hP, hK, hD0, hE9⟩ := hv
  have hx := B.exec
  have hb := B.bytes
  have hr := B.returns
  have hts := atoms_spec (ws := wsX6_score_) B.pre
  have hown : s.vm.findClass RX6 = some m.cls := findClass_of_methodNamed B.named
  have hlocks := B.notSynchronized
  subst hsz
  have hD := hD0.self (sz := s.heap.size)
  generalize hAe : va_A [(h0, .inr (8, [.int 0, .int 0, .int 2, .ref h1, .ref h2, .int 0, .int 500, .int 0, .int 0, .int 0, .ref h3])), (h1, .inr (1, [.int 0, .ref (ε 1), .int 0])), (h2, .inl (κ 4, 4, .inr (.inr (.inr (.inr (sel [h4, h5, h6, h7])))))), (h5, .inl (κ 0, 196, .inl (fun _ => 0)))] s.heap.size = A at hD hE9 ⊢
  have hE := hE9.1
  have hDc := hE9.2
  have hA : ∀ q : Nat, s.heap.size ≤ q → A q := fun q h => by rw [← hAe]; exact Or.inr h
  have hS : va_S A s.heap s.heap [] := va_S.rf
  have hP : va_P D vwCl [(h0, .inr (8, [.int 0, .int 0, .int 2, .ref h1, .ref h2, .int 0, .int 500, .int 0, .int 0, .int 0, .ref h3])), (h1, .inr (1, [.int 0, .ref (ε 1), .int 0])), (h2, .inl (κ 4, 4, .inr (.inr (.inr (.inr (sel [h4, h5, h6, h7])))))), (h5, .inl (κ 0, 196, .inl (fun _ => 0)))] s.heap := hP
  have hl := lv_entry [.ref h0] (n := 1) (Nat.le_of_ble_eq_true rfl)
  rw [lg_entry_eq]
  generalize (lg_sl [.ref h0] ++ List.replicate (1 - (lg_sl [.ref h0]).length) Slot.unset).toArray = ls at hl ⊢
  have hl : lv_has ls 1 [(0, .ref h0)] := hl
  refine lv_aload_n hx hb dX6_score__0 rfl (lv_at hl 0 rfl) ?_
  refine lv_aload_n hx hb dX6_score__1 rfl (lv_at hl 0 rfl) ?_
  refine vp_callSi (W.runV (As := []) (rest := [.ref h0]) ⟨hx, hb, hml, hown, hts⟩ (k_X6_scoreNow_0 l D κ ε h0 h1 h2 h3 h4 h5 h6 h7 (0) (0) (0) (0)) (cwV 0 hts gX6_score__X6_scoreNow rfl rfl rfl (by decide +kernel) ⟨(Nat.le_of_ble_eq_true rfl), (Nat.le_of_ble_eq_true rfl)⟩) (pre0_V (q0 := 0) (ci := 8) (wc := [(h0, .inr (8, [.int 0, .int 0, .int 2, .ref h1, .ref h2, .int 0, .int 500, .int 0, .int 0, .int 0, .ref h3])), (h1, .inr (1, [.int 0, .ref (ε 1), .int 0])), (h2, .inl (κ 4, 4, .inr (.inr (.inr (.inr (sel [h4, h5, h6, h7])))))), (h5, .inl (κ 0, 196, .inl (fun _ => 0)))]) hP hK [0, 1, 2, 3] rfl rfl rfl) rfl rfl hl.1 rfl (lv_room (Nat.le_of_ble_eq_true rfl)) dX6_score__2 ⟨(Nat.le_of_ble_eq_true rfl), (Nat.le_of_ble_eq_true rfl)⟩) (fun r hw => ?_)
  rw [hw]
  have hF := va_free (wc := [(h0, .inr (8, [.int 0, .int 0, .int 2, .ref h1, .ref h2, .int 0, .int 500, .int 0, .int 0, .int 0, .ref h3]))]) hD hS hA [0] rfl
  refine va_calli (va_runV (As := [.int 0]) (rest := []) ⟨hx, hb, hml, hown, hts⟩ (k_X6_plain_0 l D κ ε h0 h1 h2 h3 s.heap.size (0) (0) (2) (0) (500) (0) (0)) (cwV 1 hts gX6_score__X6_plain rfl rfl rfl (by decide +kernel) ⟨(Nat.le_of_ble_eq_true rfl), (Nat.le_of_ble_eq_true rfl)⟩) (pre2_V (q0 := 0) (ci := 8) (wc := [(h0, .inr (8, [.int 0, .int 0, .int 2, .ref h1, .ref h2, .int 0, .int 500, .int 0, .int 0, .int 0, .ref h3]))]) hP hD hK hE9 hS hA [0] (by decide) rfl rfl rfl) rfl rfl hl.1 rfl (lv_room (Nat.le_of_ble_eq_true rfl)) dX6_score__5 ⟨(Nat.le_of_ble_eq_true rfl), (Nat.le_of_ble_eq_true rfl)⟩) hS (fun q _ h => hF q h) hF (fun r u1 t H locs ht hvm hw hB hz1 hk1 hS => ?_)
  try dsimp only at hw hB
  obtain ⟨hP1, hD1⟩ := hB
  rw [ht] at hP1
  obtain ⟨hP, hD⟩ := post_j (ws' := [(h0, .inr (8, [.int 0, .int 0, .int 2, .ref h1, .ref h2, .int 0, .int 500, .int 0, .int 0, .int 0, .ref h3])), (h1, .inr (1, [.int 0, .ref (ε 1), .int 0])), (h2, .inl (κ 4, 4, .inr (.inr (.inr (.inr (sel [h4, h5, h6, h7])))))), (h5, .inl (κ 0, 196, .inl (fun _ => 0)))]) (wr := [(h1, .inr (1, [.int 0, .ref (ε 1), .int 0])), (h2, .inl (κ 4, 4, .inr (.inr (.inr (.inr (sel [h4, h5, h6, h7])))))), (h5, .inl (κ 0, 196, .inl (fun _ => 0)))]) (w1 := [(h0, .inr (8, [.int 0, .int 0, .int 2, .ref h1, .ref h2, .int 0, .int 500, .int 0, .int 0, .int 0, .ref h3]))]) hP hD hF [0] rfl [1, 2, 3] rfl (by decide) (by decide) hk1 hP1 hD1 [3, 0, 1, 2] (by decide) rfl
  have hP : va_P D vwCl [(h0, .inr (8, [.int 0, .int 0, .int 2, .ref h1, .ref h2, .int 0, .int 500, .int 0, .int 0, .int 0, .ref h3])), (h1, .inr (1, [.int 0, .ref (ε 1), .int 0])), (h2, .inl (κ 4, 4, .inr (.inr (.inr (.inr (sel [h4, h5, h6, h7])))))), (h5, .inl (κ 0, 196, .inl (fun _ => 0)))] H := hP
  have hD : va_D A [(h0, .inr (8, [.int 0, .int 0, .int 2, .ref h1, .ref h2, .int 0, .int 500, .int 0, .int 0, .int 0, .ref h3])), (h1, .inr (1, [.int 0, .ref (ε 1), .int 0])), (h2, .inl (κ 4, 4, .inr (.inr (.inr (.inr (sel [h4, h5, h6, h7])))))), (h5, .inl (κ 0, 196, .inl (fun _ => 0)))] := hD
  rw [hw]
  have hP9 := hP.sub (ws' := [(h0, .inr (8, [.int 0, .int 0, .int 2, .ref h1, .ref h2, .int 0, .int 500, .int 0, .int 0, .int 0, .ref h3]))]) [0] rfl
  have hD9 := hD.sub (ws' := [(h0, .inr (8, [.int 0, .int 0, .int 2, .ref h1, .ref h2, .int 0, .int 500, .int 0, .int 0, .int 0, .ref h3]))]) [0] (by decide) rfl
  exact W.iret (v := 0) hx hb hr (fun t ht hW => ⟨⟨0, [.int 0, .int 0, .int 2, .ref h1, .ref h2, .int 0, .int 500, .int 0, .int 0, .int 0, .ref h3], rfl, ⟨rfl, rfl⟩, by rw [ht]; exact hP9, hD9⟩, hS.F ht⟩) hS.2.2 dX6_score__8

set_option maxHeartbeats 4000000 in
set_option maxRecDepth 100000 in
theorem case_20 {p : Program} {e : Env} {s : State} {m : MethodId} {below : List Frame} {meth : Method} {c : Code} (l : Launch) (hst : l.stackTraces = false) {b : Nat} {xs : Nat → Int32} (C0 : lw_At p s m meth c b 4 xs) (D : va_G) (κ ε : Nat → Nat) (hK : va_K D vwCl (tys κ) s) (hE9 : En2 ε (fun q : Nat => s.heap.size ≤ q) s s.heap) (qx qm qo : Nat) (ux um : Nat → Nat) {H : Heap} {locs : List Loc} (hP : va_P D vwCl [(qx, .inr (7, [.ref (ux 0), .ref (ux 27), .ref (ux 30), .ref (ux 31), .ref (ux 35), .ref (ux 36), .int 0, .int 0, .int 0, .int 0])), ((ux 0), .inr (2, [.int 0, .int 2, .ref (ux 1), .ref (ux 2)])), ((ux 1), .inl (κ 3, 4, .inr (.inr (.inr (.inr (sel [(ux 3), (ux 9), (ux 15), (ux 21)])))))), ((ux 9), .inr (6, [.ref (ux 10), .ref (ux 11), .int 0])), ((ux 27), .inr (3, [.ref (ux 0), .int 0, .int 500, .ref (ux 28), .ref (ux 29), .long 0, .int 0])), ((ux 28), .inl (κ 0, 13, .inl (fun _ => 0))), ((ux 29), .inl (κ 0, 13, .inl (fun _ => 0))), (qm, .inr (8, [.int 0, .int 0, .int 2, .ref (um 0), .ref (um 1), .int 0, .int 500, .int 0, .int 0, .int 0, .ref (um 6)])), ((um 0), .inr (1, [.int 0, .ref (ε 1), .int 0])), ((um 1), .inl (κ 4, 4, .inr (.inr (.inr (.inr (sel [(um 2), (um 3), (um 4), (um 5)])))))), ((um 3), .inl (κ 0, 196, .inl (fun _ => 0)))] H) (hD : va_D (fun q : Nat => s.heap.size ≤ q) [(qx, .inr (7, [.ref (ux 0), .ref (ux 27), .ref (ux 30), .ref (ux 31), .ref (ux 35), .ref (ux 36), .int 0, .int 0, .int 0, .int 0])), ((ux 0), .inr (2, [.int 0, .int 2, .ref (ux 1), .ref (ux 2)])), ((ux 1), .inl (κ 3, 4, .inr (.inr (.inr (.inr (sel [(ux 3), (ux 9), (ux 15), (ux 21)])))))), ((ux 9), .inr (6, [.ref (ux 10), .ref (ux 11), .int 0])), ((ux 27), .inr (3, [.ref (ux 0), .int 0, .int 500, .ref (ux 28), .ref (ux 29), .long 0, .int 0])), ((ux 28), .inl (κ 0, 13, .inl (fun _ => 0))), ((ux 29), .inl (κ 0, 13, .inl (fun _ => 0))), (qm, .inr (8, [.int 0, .int 0, .int 2, .ref (um 0), .ref (um 1), .int 0, .int 500, .int 0, .int 0, .int 0, .ref (um 6)])), ((um 0), .inr (1, [.int 0, .ref (ε 1), .int 0])), ((um 1), .inl (κ 4, 4, .inr (.inr (.inr (.inr (sel [(um 2), (um 3), (um 4), (um 5)])))))), ((um 3), .inl (κ 0, 196, .inl (fun _ => 0)))]) (hS : va_S (fun q : Nat => s.heap.size ≤ q) s.heap H locs) {ls : Array Slot} (hl : lv_has ls 9 [(0, .ref b), (1, .ref qx), (2, .ref qm), (3, .ref qo), (4, .int 0)]) : W p l e room_1 s m #[Value.ref b] below meth c H locs 100 120000 (lw_Z below #[Value.ref b] s) (F0 m 1165 ls []) := by
  obtain ⟨hx, hb, hr, hml, hown0, hts0, hX, hbl, hlocks, hgv⟩ := id C0
  have hts : ∀ w ∈ wsL_law, w.before #[Value.ref b] s = true := fun w h => hts0 w (wsL_law_in w h)
  have hown : s.vm.findClass RL = some m.cls := hown0
  have hE := hE9.1
  have hDc := hE9.2
  have hA : ∀ q : Nat, s.heap.size ≤ q → (fun q : Nat => s.heap.size ≤ q) q := fun _ h => h
  have hbA : ¬ (fun q : Nat => s.heap.size ≤ q) b := Nat.not_le.mpr hbl
  refine lv_aload_n hx hb dL_law_1165 rfl (lv_at hl 1 rfl) ?_
  have hF := va_free (wc := [(qx, .inr (7, [.ref (ux 0), .ref (ux 27), .ref (ux 30), .ref (ux 31), .ref (ux 35), .ref (ux 36), .int 0, .int 0, .int 0, .int 0])), ((ux 0), .inr (2, [.int 0, .int 2, .ref (ux 1), .ref (ux 2)])), ((ux 27), .inr (3, [.ref (ux 0), .int 0, .int 500, .ref (ux 28), .ref (ux 29), .long 0, .int 0])), ((ux 1), .inl (κ 3, 4, .inr (.inr (.inr (.inr (sel [(ux 3), (ux 9), (ux 15), (ux 21)])))))), ((ux 28), .inl (κ 0, 13, .inl (fun _ => 0))), ((ux 29), .inl (κ 0, 13, .inl (fun _ => 0))), ((ux 9), .inr (6, [.ref (ux 10), .ref (ux 11), .int 0]))]) hD hS hA [0, 1, 4, 2, 5, 6, 3] rfl
  refine va_calli (va_runV (As := []) (rest := []) ⟨hx, hb, hml, hown, hts⟩ (k_X5_score_0 l D κ ε qx (ux 0) (ux 27) (ux 30) (ux 31) (ux 35) (ux 36) (ux 1) (ux 2) (ux 28) (ux 29) (ux 3) (ux 9) (ux 15) (ux 21) (ux 10) (ux 11) H.size) (cwV 0 hts gL_law_X5_score rfl rfl rfl (by decide +kernel) ⟨(Nat.le_of_ble_eq_true rfl), (Nat.le_of_ble_eq_true rfl)⟩) (pre2_V (q0 := 0) (ci := 7) (wc := [(qx, .inr (7, [.ref (ux 0), .ref (ux 27), .ref (ux 30), .ref (ux 31), .ref (ux 35), .ref (ux 36), .int 0, .int 0, .int 0, .int 0])), ((ux 0), .inr (2, [.int 0, .int 2, .ref (ux 1), .ref (ux 2)])), ((ux 27), .inr (3, [.ref (ux 0), .int 0, .int 500, .ref (ux 28), .ref (ux 29), .long 0, .int 0])), ((ux 1), .inl (κ 3, 4, .inr (.inr (.inr (.inr (sel [(ux 3), (ux 9), (ux 15), (ux 21)])))))), ((ux 28), .inl (κ 0, 13, .inl (fun _ => 0))), ((ux 29), .inl (κ 0, 13, .inl (fun _ => 0))), ((ux 9), .inr (6, [.ref (ux 10), .ref (ux 11), .int 0]))]) hP hD hK hE9 hS hA [0, 1, 4, 2, 5, 6, 3] (by decide) rfl rfl rfl) rfl rfl hl.1 rfl (lv_room (Nat.le_of_ble_eq_true rfl)) dL_law_1166 ⟨(Nat.le_of_ble_eq_true rfl), (Nat.le_of_ble_eq_true rfl)⟩) hS (fun q _ h => hF q h) hF (fun r u1 t H locs ht hvm hw hB hz1 hk1 hS => ?_)
  try dsimp only at hw hB
  have hP1 : va_P D vwCl [] H := P_nil
  obtain ⟨hP, hD⟩ := post_j (ws' := [(qm, .inr (8, [.int 0, .int 0, .int 2, .ref (um 0), .ref (um 1), .int 0, .int 500, .int 0, .int 0, .int 0, .ref (um 6)])), ((um 0), .inr (1, [.int 0, .ref (ε 1), .int 0])), ((um 1), .inl (κ 4, 4, .inr (.inr (.inr (.inr (sel [(um 2), (um 3), (um 4), (um 5)])))))), ((um 3), .inl (κ 0, 196, .inl (fun _ => 0)))]) (wr := [(qm, .inr (8, [.int 0, .int 0, .int 2, .ref (um 0), .ref (um 1), .int 0, .int 500, .int 0, .int 0, .int 0, .ref (um 6)])), ((um 0), .inr (1, [.int 0, .ref (ε 1), .int 0])), ((um 1), .inl (κ 4, 4, .inr (.inr (.inr (.inr (sel [(um 2), (um 3), (um 4), (um 5)])))))), ((um 3), .inl (κ 0, 196, .inl (fun _ => 0)))]) (w1 := []) hP hD hF [0, 1, 4, 2, 5, 6, 3] rfl [7, 8, 9, 10] rfl (by decide) (by decide) hk1 hP1 D_nil [0, 1, 2, 3] (by decide) rfl
  have hP : va_P D vwCl [(qm, .inr (8, [.int 0, .int 0, .int 2, .ref (um 0), .ref (um 1), .int 0, .int 500, .int 0, .int 0, .int 0, .ref (um 6)])), ((um 0), .inr (1, [.int 0, .ref (ε 1), .int 0])), ((um 1), .inl (κ 4, 4, .inr (.inr (.inr (.inr (sel [(um 2), (um 3), (um 4), (um 5)])))))), ((um 3), .inl (κ 0, 196, .inl (fun _ => 0)))] H := hP
  have hD : va_D (fun q : Nat => s.heap.size ≤ q) [(qm, .inr (8, [.int 0, .int 0, .int 2, .ref (um 0), .ref (um 1), .int 0, .int 500, .int 0, .int 0, .int 0, .ref (um 6)])), ((um 0), .inr (1, [.int 0, .ref (ε 1), .int 0])), ((um 1), .inl (κ 4, 4, .inr (.inr (.inr (.inr (sel [(um 2), (um 3), (um 4), (um 5)])))))), ((um 3), .inl (κ 0, 196, .inl (fun _ => 0)))] := hD
  rw [hw]
  refine lv_aload_n hx hb dL_law_1169 rfl (lv_at hl 2 rfl) ?_
  have hF := va_free (wc := [(qm, .inr (8, [.int 0, .int 0, .int 2, .ref (um 0), .ref (um 1), .int 0, .int 500, .int 0, .int 0, .int 0, .ref (um 6)])), ((um 0), .inr (1, [.int 0, .ref (ε 1), .int 0])), ((um 1), .inl (κ 4, 4, .inr (.inr (.inr (.inr (sel [(um 2), (um 3), (um 4), (um 5)])))))), ((um 3), .inl (κ 0, 196, .inl (fun _ => 0)))]) hD hS hA [0, 1, 2, 3] rfl
  refine va_calli (va_runV (As := []) (rest := [.int 0]) ⟨hx, hb, hml, hown, hts⟩ (k_X6_score__0 l D κ ε qm (um 0) (um 1) (um 6) (um 2) (um 3) (um 4) (um 5) H.size) (cwV 0 hts gL_law_X6_score_ rfl rfl rfl (by decide +kernel) ⟨(Nat.le_of_ble_eq_true rfl), (Nat.le_of_ble_eq_true rfl)⟩) (pre2_V (q0 := 0) (ci := 8) (wc := [(qm, .inr (8, [.int 0, .int 0, .int 2, .ref (um 0), .ref (um 1), .int 0, .int 500, .int 0, .int 0, .int 0, .ref (um 6)])), ((um 0), .inr (1, [.int 0, .ref (ε 1), .int 0])), ((um 1), .inl (κ 4, 4, .inr (.inr (.inr (.inr (sel [(um 2), (um 3), (um 4), (um 5)])))))), ((um 3), .inl (κ 0, 196, .inl (fun _ => 0)))]) hP hD hK hE9 hS hA [0, 1, 2, 3] (by decide) rfl rfl rfl) rfl rfl hl.1 rfl (lv_room (Nat.le_of_ble_eq_true rfl)) dL_law_1170 ⟨(Nat.le_of_ble_eq_true rfl), (Nat.le_of_ble_eq_true rfl)⟩) hS (fun q _ h => hF q h) hF (fun r u2 t H locs ht hvm hw hB hz1 hk1 hS => ?_)
  try dsimp only at hw hB
  obtain ⟨hP1, hD1⟩ := hB
  rw [ht] at hP1
  obtain ⟨hP, hD⟩ := post_j (ws' := [(qm, .inr (8, u2))]) (wr := []) (w1 := [(qm, .inr (8, u2))]) hP hD hF [0, 1, 2, 3] rfl [] rfl (by decide) (by decide) hk1 hP1 hD1 [0] (by decide) rfl
  have hP : va_P D vwCl [(qm, .inr (8, u2))] H := hP
  have hD : va_D (fun q : Nat => s.heap.size ≤ q) [(qm, .inr (8, u2))] := hD
  obtain ⟨hu3, rfl⟩ := hw
  refine lv_icmp_eq (tgt := 1677) hx hb dL_law_1173 (by decide) (fun _ => ?_) (fun h => absurd (by decide) h)
  exact law_end C0 (Nat.le_of_ble_eq_true rfl) (Nat.le_of_ble_eq_true rfl) hS (lv_sub hl [0, 4] rfl)
