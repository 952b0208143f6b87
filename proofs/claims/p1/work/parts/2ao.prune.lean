theorem wi_X5_dropDoomed_RX5 : ∀ w ∈ u_ws RX5 TX5 10, w ∈ wsX5_dropDoomed := by decide +kernel

theorem wd246_X5_dropDoomed : (.fieldLink RX5 10 "Canticle" "ledger" "LCanticle$Ledger;" : Cond) ∈ wsX5_dropDoomed := by decide +kernel

theorem wi_X5_dropDoomed_RX4 : ∀ w ∈ u_ws RX4 TX4 3, w ∈ wsX5_dropDoomed := by decide +kernel

theorem wd247_X5_dropDoomed : (.fieldLink RX5 135 "Canticle$Tally" "size" "I" : Cond) ∈ wsX5_dropDoomed := by decide +kernel

set_option maxHeartbeats 4000000 in
set_option maxRecDepth 100000 in
theorem k_X5_dropDoomed_0 (l : Launch) (D : va_G) (κ ε : Nat → Nat) (h0 h1 h2 h3 h4 h5 h6 h7 h8 h9 h10 h11 h12 h13 h14 : Nat) (p0 : Int32) (p1 : Int32) (p2 : Int32) (p3 : Int32) (p4 : Int32) : Met l yX5_dropDoomed wsX5_dropDoomed ({ frames := 2, cells := 0, slots := 0, locals := 39 }) (va_Pc [.ref h0, .int 2] (Pre0 D κ [(h0, .inr (7, [.ref h1, .ref h2, .ref h3, .ref h4, .ref h5, .ref h6, .int p0, .int p1, .int p2, .int 0])), (h1, .inr (2, [.int p3, .int p4, .ref h7, .ref h8])), (h7, .inl (κ 3, 4, .inr (.inr (.inr (.inr (sel [h9, h10, h11, h12])))))), (h10, .inr (6, [.ref h13, .ref h14, .int 0]))])) (vp_Si (fun r => (r = 0))) 0 0 (fun _ => False) := by
  refine Met.ofW (cc := cX5_dropDoomed) (maxL := 4) (ret := (some .int)) (by decide) rfl ?_
  intro p e s m args below meth c s₁ B hml hv
  obtain ⟨rfl, hP, hK⟩ := hv
  have hx := B.exec
  have hb := B.bytes
  have hr := B.returns
  have hts := atoms_spec (ws := wsX5_dropDoomed) B.pre
  have hown : s.vm.findClass RX5 = some m.cls := findClass_of_methodNamed B.named
  have hlocks := B.notSynchronized
  have hP : va_P D vwCl [(h0, .inr (7, [.ref h1, .ref h2, .ref h3, .ref h4, .ref h5, .ref h6, .int p0, .int p1, .int p2, .int 0])), (h1, .inr (2, [.int p3, .int p4, .ref h7, .ref h8])), (h7, .inl (κ 3, 4, .inr (.inr (.inr (.inr (sel [h9, h10, h11, h12])))))), (h10, .inr (6, [.ref h13, .ref h14, .int 0]))] s.heap := hP
  have hl := lv_entry [.ref h0, .int 2] (n := 4) (Nat.le_of_ble_eq_true rfl)
  rw [lg_entry_eq]
  generalize (lg_sl [.ref h0, .int 2] ++ List.replicate (4 - (lg_sl [.ref h0, .int 2]).length) Slot.unset).toArray = ls at hl ⊢
  have hl : lv_has ls 4 [(0, .ref h0), (1, .int 2)] := hl
  refine lv_iconst (v := 0) hx hb dX5_dropDoomed_0 (by decide) ?_
  refine lv_istore_n (lv' := [(2, .int 0), (0, .ref h0), (1, .int 2)]) hx hb dX5_dropDoomed_1 rfl hl (by decide) rfl (fun ls hl => ?_)
  refine lv_aload_n hx hb dX5_dropDoomed_2 rfl (lv_at hl 1 rfl) ?_
  refine va_get (D := D) (ci := 7) (v := .ref h1) (C := RX5) (T := TX5) (N := 10) hx hb hts wi_X5_dropDoomed_RX5 hown hK hP 0 rfl rfl 0 (by decide) (hts _ wd246_X5_dropDoomed) (fun _ h9 => h9) rfl dX5_dropDoomed_3 ?_
  refine lv_iload_n hx hb dX5_dropDoomed_6 rfl (lv_at hl 2 rfl) ?_
  refine va_csr (W.runV (As := [.int 2]) (rest := []) ⟨hx, hb, hml, hown, hts⟩ (k_X0_countsOf_1 l D κ ε h1 h7 h8 h9 h10 h11 h12 (p3) (p4)) (cwV 1 hts gX5_dropDoomed_X0_countsOf rfl rfl rfl (by decide +kernel) ⟨(Nat.le_of_ble_eq_true rfl), (Nat.le_of_ble_eq_true rfl)⟩) (pre0_V (q0 := 1) (ci := 2) (wc := [(h1, .inr (2, [.int p3, .int p4, .ref h7, .ref h8])), (h7, .inl (κ 3, 4, .inr (.inr (.inr (.inr (sel [h9, h10, h11, h12]))))))]) hP hK [1, 2] rfl rfl rfl) rfl rfl hl.1 rfl (lv_room (Nat.le_of_ble_eq_true rfl)) dX5_dropDoomed_7 ⟨(Nat.le_of_ble_eq_true rfl), (Nat.le_of_ble_eq_true rfl)⟩) (fun r hw => ?_)
  rw [hw]
  refine va_get (D := D) (ci := 6) (v := .int 0) (C := RX4) (T := TX4) (N := 3) hx hb hts wi_X5_dropDoomed_RX4 hown hK hP 3 rfl rfl 2 (by decide) (hts _ wd247_X5_dropDoomed) (fun _ h9 => h9) rfl dX5_dropDoomed_10 ?_
  refine lv_iconst (v := 1) hx hb dX5_dropDoomed_13 (by decide) ?_
  refine lv_isub hx hb dX5_dropDoomed_14 ?_
  refine tpi (v := (-1)) (by decide) ?_
  refine lv_istore_n (lv' := [(3, .int (-1)), (2, .int 0), (0, .ref h0), (1, .int 2)]) hx hb dX5_dropDoomed_15 rfl hl (by decide) rfl (fun ls hl => ?_)
  refine lv_iload_n hx hb dX5_dropDoomed_16 rfl (lv_at hl 0 rfl) ?_
  refine lv_if_lt (tgt := 47) hx hb dX5_dropDoomed_17 (by decide) (fun _ => ?_) (fun h => absurd (by decide) h)
  refine lv_iload_n hx hb dX5_dropDoomed_47 rfl (lv_at hl 1 rfl) ?_
  exact W.iret (v := 0) hx hb hr (fun t ht hW => ⟨0, rfl, rfl, ht⟩) (fun q hq => absurd hq List.not_mem_nil) dX5_dropDoomed_48

theorem wi_X5_prune_RX5 : ∀ w ∈ u_ws RX5 TX5 10, w ∈ wsX5_prune := by decide +kernel

theorem wd248_X5_prune : (.fieldLink RX5 10 "Canticle" "ledger" "LCanticle$Ledger;" : Cond) ∈ wsX5_prune := by decide +kernel

theorem wi_X5_prune_RX0 : ∀ w ∈ u_ws RX0 TX0 4, w ∈ wsX5_prune := by decide +kernel

theorem wd249_X5_prune : (.fieldLink RX5 83 "Canticle$Ledger" "order" "I" : Cond) ∈ wsX5_prune := by decide +kernel

theorem at1_X5_prune_82 : ∀ w ∈ (vx_atS RX5 82 "java/lang/IllegalArgumentException" ["java/lang/RuntimeException", "java/lang/Exception"]).filter goodWord, w ∈ wsX5_prune := by decide +kernel

theorem wd250_X5_prune : (.classLink RX5 78 "java/lang/IllegalArgumentException" : Cond) ∈ wsX5_prune := by decide +kernel

theorem wd251_X5_prune : (.initialized "java/lang/IllegalArgumentException" : Cond) ∈ wsX5_prune := by decide +kernel

theorem wi_X5_prune_RX4 : ∀ w ∈ u_ws RX4 TX4 3, w ∈ wsX5_prune := by decide +kernel

theorem wd252_X5_prune : (.fieldLink RX5 135 "Canticle$Tally" "size" "I" : Cond) ∈ wsX5_prune := by decide +kernel

set_option maxHeartbeats 4000000 in
set_option maxRecDepth 100000 in
theorem k_X5_prune_0 (l : Launch) (hst : l.stackTraces = false) (D : va_G) (κ ε : Nat → Nat) (h0 h1 h2 h3 h4 h5 h6 h7 h8 h9 h10 h11 h12 h13 h14 : Nat) (sz : Nat) (p0 : Int32) : vx_Met l yX5_prune wsX5_prune ({ frames := 6, cells := 1, slots := 6, locals := 120 }) (va_Pc [.ref h0, .int 2, .int p0] (Pre2 D κ ε [(h0, .inr (7, [.ref h1, .ref h2, .ref h3, .ref h4, .ref h5, .ref h6, .int 0, .int 0, .int 0, .int 0])), (h1, .inr (2, [.int 0, .int 2, .ref h7, .ref h8])), (h7, .inl (κ 3, 4, .inr (.inr (.inr (.inr (sel [h9, h10, h11, h12])))))), (h10, .inr (6, [.ref h13, .ref h14, .int 0]))] sz)) (va_Qi (fun r (u : Unit) => (¬ p0 < 1) ∧ (p0 ≤ 1000) ∧ (r = 0)) (fun _ _ => True) (va_A [(h0, .inr (7, [.ref h1, .ref h2, .ref h3, .ref h4, .ref h5, .ref h6, .int 0, .int 0, .int 0, .int 0])), (h1, .inr (2, [.int 0, .int 2, .ref h7, .ref h8])), (h7, .inl (κ 3, 4, .inr (.inr (.inr (.inr (sel [h9, h10, h11, h12])))))), (h10, .inr (6, [.ref h13, .ref h14, .int 0]))] sz)) (vx_X (fun _ : Unit => True) (fun E _ _ => ((p0 < 1) ∧ E = "java/lang/IllegalArgumentException") ∨ ((¬ p0 < 1) ∧ (¬ p0 ≤ 1000) ∧ E = "java/lang/IllegalArgumentException")) (va_A [(h0, .inr (7, [.ref h1, .ref h2, .ref h3, .ref h4, .ref h5, .ref h6, .int 0, .int 0, .int 0, .int 0])), (h1, .inr (2, [.int 0, .int 2, .ref h7, .ref h8])), (h7, .inl (κ 3, 4, .inr (.inr (.inr (.inr (sel [h9, h10, h11, h12])))))), (h10, .inr (6, [.ref h13, .ref h14, .int 0]))] sz)) 1 6 (va_A [(h0, .inr (7, [.ref h1, .ref h2, .ref h3, .ref h4, .ref h5, .ref h6, .int 0, .int 0, .int 0, .int 0])), (h1, .inr (2, [.int 0, .int 2, .ref h7, .ref h8])), (h7, .inl (κ 3, 4, .inr (.inr (.inr (.inr (sel [h9, h10, h11, h12])))))), (h10, .inr (6, [.ref h13, .ref h14, .int 0]))] sz) := by
  refine vx_ofW (cc := cX5_prune) (maxL := 5) (ret := (some .int)) (by decide) rfl ?_
  intro p e s m args below meth c s₁ B hml hnx hv
  obtain ⟨rfl, hsz, hP, hK, hD0, hE9⟩ := hv
  have hx := B.exec
  have hb := B.bytes
  have hr := B.returns
  have hts := atoms_spec (ws := wsX5_prune) B.pre
  have hown : s.vm.findClass RX5 = some m.cls := findClass_of_methodNamed B.named
  have hlocks := B.notSynchronized
  subst hsz
  have hD := hD0.self (sz := s.heap.size)
  generalize hAe : va_A [(h0, .inr (7, [.ref h1, .ref h2, .ref h3, .ref h4, .ref h5, .ref h6, .int 0, .int 0, .int 0, .int 0])), (h1, .inr (2, [.int 0, .int 2, .ref h7, .ref h8])), (h7, .inl (κ 3, 4, .inr (.inr (.inr (.inr (sel [h9, h10, h11, h12])))))), (h10, .inr (6, [.ref h13, .ref h14, .int 0]))] s.heap.size = A at hD hE9 ⊢
  have hE := hE9.1
  have hDc := hE9.2
  have hA : ∀ q : Nat, s.heap.size ≤ q → A q := fun q h => by rw [← hAe]; exact Or.inr h
  have hS : va_S A s.heap s.heap [] := va_S.rf
  have hP : va_P D vwCl [(h0, .inr (7, [.ref h1, .ref h2, .ref h3, .ref h4, .ref h5, .ref h6, .int 0, .int 0, .int 0, .int 0])), (h1, .inr (2, [.int 0, .int 2, .ref h7, .ref h8])), (h7, .inl (κ 3, 4, .inr (.inr (.inr (.inr (sel [h9, h10, h11, h12])))))), (h10, .inr (6, [.ref h13, .ref h14, .int 0]))] s.heap := hP
  have hl := lv_entry [.ref h0, .int 2, .int p0] (n := 5) (Nat.le_of_ble_eq_true rfl)
  rw [lg_entry_eq]
  generalize (lg_sl [.ref h0, .int 2, .int p0] ++ List.replicate (5 - (lg_sl [.ref h0, .int 2, .int p0]).length) Slot.unset).toArray = ls at hl ⊢
  have hl : lv_has ls 5 [(0, .ref h0), (1, .int 2), (2, .int p0)] := hl
  refine lv_iload_n hx hb dX5_prune_0 rfl (lv_at hl 1 rfl) ?_
  refine lv_iconst (v := 2) hx hb dX5_prune_1 (by decide) ?_
  refine lv_icmp_lt (tgt := 28) hx hb dX5_prune_2 (by decide) (fun h => absurd h (by decide)) (fun _ => ?_)
  refine lv_iload_n hx hb dX5_prune_5 rfl (lv_at hl 1 rfl) ?_
  refine lv_aload_n hx hb dX5_prune_6 rfl (lv_at hl 0 rfl) ?_
  refine va_get (D := D) (ci := 7) (v := .ref h1) (C := RX5) (T := TX5) (N := 10) hx hb hts wi_X5_prune_RX5 hown hK hP 0 rfl rfl 0 (by decide) (hts _ wd248_X5_prune) (fun _ h9 => h9) rfl dX5_prune_7 ?_
  refine va_get (D := D) (ci := 2) (v := .int 2) (C := RX0) (T := TX0) (N := 4) hx hb hts wi_X5_prune_RX0 hown hK hP 1 rfl rfl 1 (by decide) (hts _ wd249_X5_prune) (fun _ h9 => h9) rfl dX5_prune_10 ?_
  refine lv_icmp_gt (tgt := 28) hx hb dX5_prune_13 (by decide) (fun h => absurd h (by decide)) (fun _ => ?_)
  refine lv_iload_n hx hb dX5_prune_16 rfl (lv_at hl 2 rfl) ?_
  refine lv_iconst (v := 1) hx hb dX5_prune_17 (by decide) ?_
  refine lv_icmp_lt (tgt := 28) hx hb dX5_prune_18 (by decide) (fun c1 => ?_) (fun c1 => ?_)
  · skip
    exact vx_throwS (names := ["java/lang/RuntimeException", "java/lang/Exception"]) (sa := ε 23) hx hb hst hown (by decide +kernel) (by decide +kernel) (hts _ wd250_X5_prune) (hts _ wd251_X5_prune) (hE.2.2.2.2.2.2.1 _ (List.mem_of_getElem? (i := 13) rfl)) (vx_hat (B := [.castable "java/lang/IllegalArgumentException" "java/lang/IllegalArgumentException", .declares (Bundle.initS "java/lang/RuntimeException"), .declares (Bundle.initS "java/lang/Exception"), .declares (Bundle.initS "java/lang/Throwable")]) (fun w hw => hts w (at1_X5_prune_82 w hw)) at2_RX5_82 (vx_c (va_Nw.use rfl hE.2.2.2.2.2.2.2.2.2.2.2.2.2.2.1) (vx_c (va_Nw.use rfl hDc.1) (vx_c (va_Nw.use rfl hDc.2.1) (vx_c (va_Nw.use rfl hDc.2.2) vx_n))))) at2_RX5_82g hE.1 hE.2.1 hS (by rw [hml]; exact hl.1) dX5_prune_28 dX5_prune_31 dX5_prune_32 dX5_prune_34 dX5_prune_37 (fun x hx => (hnx x hx).elim) (by decide) (by decide) (Nat.le_of_ble_eq_true rfl) (Nat.le_of_ble_eq_true rfl) hlocks (fun t _ h1 h2 => ⟨(), trivial, (Or.inl ⟨c1, rfl⟩), thF (H0 := s.heap) hS h1 h2⟩) hS.2.2 (Nat.le_of_ble_eq_true rfl) (Nat.le_of_ble_eq_true rfl)
  · skip
    refine lv_iload_n hx hb dX5_prune_21 rfl (lv_at hl 2 rfl) ?_
    refine lv_sipush (v := 1000) hx hb dX5_prune_22 (by decide) ?_
    refine lv_icmp_le (tgt := 38) hx hb dX5_prune_25 (by decide) (fun c2 => ?_) (fun c2 => ?_)
    · skip
      refine lv_aload_n hx hb dX5_prune_38 rfl (lv_at hl 0 rfl) ?_
      refine va_get (D := D) (ci := 7) (v := .ref h1) (C := RX5) (T := TX5) (N := 10) hx hb hts wi_X5_prune_RX5 hown hK hP 0 rfl rfl 0 (by decide) (hts _ wd248_X5_prune) (fun _ h9 => h9) rfl dX5_prune_39 ?_
      refine lv_iload_n hx hb dX5_prune_42 rfl (lv_at hl 1 rfl) ?_
      refine va_csr (W.runV (As := [.int 2]) (rest := []) ⟨hx, hb, hml, hown, hts⟩ (k_X0_countsOf_1 l D κ ε h1 h7 h8 h9 h10 h11 h12 (0) (2)) (cwV 1 hts gX5_prune_X0_countsOf rfl rfl rfl (by decide +kernel) ⟨(Nat.le_of_ble_eq_true rfl), (Nat.le_of_ble_eq_true rfl)⟩) (pre0_V (q0 := 1) (ci := 2) (wc := [(h1, .inr (2, [.int 0, .int 2, .ref h7, .ref h8])), (h7, .inl (κ 3, 4, .inr (.inr (.inr (.inr (sel [h9, h10, h11, h12]))))))]) hP hK [1, 2] rfl rfl rfl) rfl rfl hl.1 rfl (lv_room (Nat.le_of_ble_eq_true rfl)) dX5_prune_43 ⟨(Nat.le_of_ble_eq_true rfl), (Nat.le_of_ble_eq_true rfl)⟩) (fun r hw => ?_)
      rw [hw]
      refine lv_astore_n (lv' := [(3, .ref h10), (0, .ref h0), (1, .int 2), (2, .int p0)]) hx hb dX5_prune_46 rfl hl (by decide) rfl (fun ls hl => ?_)
      refine lv_iconst (v := 0) hx hb dX5_prune_47 (by decide) ?_
      refine lv_istore (lv' := [(4, .int 0), (3, .ref h10), (0, .ref h0), (1, .int 2), (2, .int p0)]) hx hb dX5_prune_48 hl (by decide) rfl (fun ls hl => ?_)
      refine lv_iload hx hb dX5_prune_50 (lv_at hl 0 rfl) ?_
      refine lv_aload_n hx hb dX5_prune_52 rfl (lv_at hl 1 rfl) ?_
      refine va_get (D := D) (ci := 6) (v := .int 0) (C := RX4) (T := TX4) (N := 3) hx hb hts wi_X5_prune_RX4 hown hK hP 3 rfl rfl 2 (by decide) (hts _ wd252_X5_prune) (fun _ h9 => h9) rfl dX5_prune_53 ?_
      refine lv_icmp_ge (tgt := 88) hx hb dX5_prune_56 (by decide) (fun _ => ?_) (fun h => absurd (by decide) h)
      refine lv_aload_n hx hb dX5_prune_88 rfl (lv_at hl 2 rfl) ?_
      refine lv_iload_n hx hb dX5_prune_89 rfl (lv_at hl 3 rfl) ?_
      refine vp_callSi (W.runV (As := [.int 2]) (rest := []) ⟨hx, hb, hml, hown, hts⟩ (k_X5_dropDoomed_0 l D κ ε h0 h1 h2 h3 h4 h5 h6 h7 h8 h9 h10 h11 h12 h13 h14 (0) (0) (0) (0) (2)) (cwV 1 hts gX5_prune_X5_dropDoomed rfl rfl rfl (by decide +kernel) ⟨(Nat.le_of_ble_eq_true rfl), (Nat.le_of_ble_eq_true rfl)⟩) (pre0_V (q0 := 0) (ci := 7) (wc := [(h0, .inr (7, [.ref h1, .ref h2, .ref h3, .ref h4, .ref h5, .ref h6, .int 0, .int 0, .int 0, .int 0])), (h1, .inr (2, [.int 0, .int 2, .ref h7, .ref h8])), (h7, .inl (κ 3, 4, .inr (.inr (.inr (.inr (sel [h9, h10, h11, h12])))))), (h10, .inr (6, [.ref h13, .ref h14, .int 0]))]) hP hK [0, 1, 2, 3] rfl rfl rfl) rfl rfl hl.1 rfl (lv_room (Nat.le_of_ble_eq_true rfl)) dX5_prune_90 ⟨(Nat.le_of_ble_eq_true rfl), (Nat.le_of_ble_eq_true rfl)⟩) (fun r hw => ?_)
      rw [hw]
      refine W.widen (k := 1) (n := 6) (Nat.le_of_ble_eq_true rfl) (Nat.le_of_ble_eq_true rfl) ?_
      refine vx_ret ?_
      exact W.iret (v := 0) hx hb hr (fun t ht hW => ⟨⟨0, (), rfl, ⟨c1, c2, rfl⟩, trivial⟩, hS.F ht⟩) hS.2.2 dX5_prune_93
    · skip
      exact vx_throwS (names := ["java/lang/RuntimeException", "java/lang/Exception"]) (sa := ε 23) hx hb hst hown (by decide +kernel) (by decide +kernel) (hts _ wd250_X5_prune) (hts _ wd251_X5_prune) (hE.2.2.2.2.2.2.1 _ (List.mem_of_getElem? (i := 13) rfl)) (vx_hat (B := [.castable "java/lang/IllegalArgumentException" "java/lang/IllegalArgumentException", .declares (Bundle.initS "java/lang/RuntimeException"), .declares (Bundle.initS "java/lang/Exception"), .declares (Bundle.initS "java/lang/Throwable")]) (fun w hw => hts w (at1_X5_prune_82 w hw)) at2_RX5_82 (vx_c (va_Nw.use rfl hE.2.2.2.2.2.2.2.2.2.2.2.2.2.2.1) (vx_c (va_Nw.use rfl hDc.1) (vx_c (va_Nw.use rfl hDc.2.1) (vx_c (va_Nw.use rfl hDc.2.2) vx_n))))) at2_RX5_82g hE.1 hE.2.1 hS (by rw [hml]; exact hl.1) dX5_prune_28 dX5_prune_31 dX5_prune_32 dX5_prune_34 dX5_prune_37 (fun x hx => (hnx x hx).elim) (by decide) (by decide) (Nat.le_of_ble_eq_true rfl) (Nat.le_of_ble_eq_true rfl) hlocks (fun t _ h1 h2 => ⟨(), trivial, (Or.inr ⟨c1, c2, rfl⟩), thF (H0 := s.heap) hS h1 h2⟩) hS.2.2 (Nat.le_of_ble_eq_true rfl) (Nat.le_of_ble_eq_true rfl)

theorem wd253_L_prune : (.classLink RL 19 "java/lang/IllegalArgumentException" : Cond) ∈ wsL_prune := by decide +kernel

set_option maxHeartbeats 4000000 in
set_option maxRecDepth 100000 in
theorem k_L_prune_0 (l : Launch) (hst : l.stackTraces = false) (D : va_G) (κ ε : Nat → Nat) (h0 h1 h2 h3 h4 h5 h6 h7 h8 h9 h10 h11 h12 h13 h14 h15 : Nat) (sz : Nat) (p0 : Int32) : Met l yL_prune wsL_prune ({ frames := 7, cells := 1, slots := 6, locals := 144 }) (va_Pc [.ref h0, .int 2, .int p0, .ref h1] (Pre2 D κ ε [(h0, .inr (7, [.ref h2, .ref h3, .ref h4, .ref h5, .ref h6, .ref h7, .int 0, .int 0, .int 0, .int 0])), (h1, .inl (κ 2, 1, .inr (.inl (fun _ => 0)))), (h2, .inr (2, [.int 0, .int 2, .ref h8, .ref h9])), (h8, .inl (κ 3, 4, .inr (.inr (.inr (.inr (sel [h10, h11, h12, h13])))))), (h11, .inr (6, [.ref h14, .ref h15, .int 0]))] sz)) (va_Qi (fun r (u : Nat → Int64) => ((p0 < 1) ∧ (r = 1)) ∨ ((¬ p0 < 1) ∧ (¬ p0 ≤ 1000) ∧ (r = 1)) ∨ ((¬ p0 < 1) ∧ (p0 ≤ 1000) ∧ (u 0 = 0) ∧ (r = 0))) (fun u t => va_P D vwCl [(h1, .inl (κ 2, 1, .inr (.inl u)))] t.heap ∧ va_D (va_A [(h0, .inr (7, [.ref h2, .ref h3, .ref h4, .ref h5, .ref h6, .ref h7, .int 0, .int 0, .int 0, .int 0])), (h1, .inl (κ 2, 1, .inr (.inl (fun _ => 0)))), (h2, .inr (2, [.int 0, .int 2, .ref h8, .ref h9])), (h8, .inl (κ 3, 4, .inr (.inr (.inr (.inr (sel [h10, h11, h12, h13])))))), (h11, .inr (6, [.ref h14, .ref h15, .int 0]))] sz) [(h1, .inl (κ 2, 1, .inr (.inl u)))]) (va_A [(h0, .inr (7, [.ref h2, .ref h3, .ref h4, .ref h5, .ref h6, .ref h7, .int 0, .int 0, .int 0, .int 0])), (h1, .inl (κ 2, 1, .inr (.inl (fun _ => 0)))), (h2, .inr (2, [.int 0, .int 2, .ref h8, .ref h9])), (h8, .inl (κ 3, 4, .inr (.inr (.inr (.inr (sel [h10, h11, h12, h13])))))), (h11, .inr (6, [.ref h14, .ref h15, .int 0]))] sz)) 1 6 (va_A [(h0, .inr (7, [.ref h2, .ref h3, .ref h4, .ref h5, .ref h6, .ref h7, .int 0, .int 0, .int 0, .int 0])), (h1, .inl (κ 2, 1, .inr (.inl (fun _ => 0)))), (h2, .inr (2, [.int 0, .int 2, .ref h8, .ref h9])), (h8, .inl (κ 3, 4, .inr (.inr (.inr (.inr (sel [h10, h11, h12, h13])))))), (h11, .inr (6, [.ref h14, .ref h15, .int 0]))] sz) := by
  refine va_MetW (cc := cL_prune) (maxL := 5) (ret := (some .int)) (hh := [(0, 10, 13, 19)]) (by decide) rfl ?_
  intro p e s m args below meth c s₁ B hml hv
  obtain ⟨rfl, hsz, hP, hK, hD0, hE9⟩ := hv
  have hx := B.exec
  have hb := B.bytes
  have hr := B.returns
  have hts := atoms_spec (ws := wsL_prune) B.pre
  have hown : s.vm.findClass RL = some m.cls := findClass_of_methodNamed B.named
  have hlocks := B.notSynchronized
  have htab : c.exceptionTable.toList = tableOf [(0, 10, 13, 19)] := vx_table (x := yL_prune) B (hts (.codeWith yL_prune cL_prune 5 (some .int) [(0, 10, 13, 19)]) List.mem_cons_self)
  subst hsz
  have hD := hD0.self (sz := s.heap.size)
  generalize hAe : va_A [(h0, .inr (7, [.ref h2, .ref h3, .ref h4, .ref h5, .ref h6, .ref h7, .int 0, .int 0, .int 0, .int 0])), (h1, .inl (κ 2, 1, .inr (.inl (fun _ => 0)))), (h2, .inr (2, [.int 0, .int 2, .ref h8, .ref h9])), (h8, .inl (κ 3, 4, .inr (.inr (.inr (.inr (sel [h10, h11, h12, h13])))))), (h11, .inr (6, [.ref h14, .ref h15, .int 0]))] s.heap.size = A at hD hE9 ⊢
  have hE := hE9.1
  have hDc := hE9.2
  have hA : ∀ q : Nat, s.heap.size ≤ q → A q := fun q h => by rw [← hAe]; exact Or.inr h
  have hS : va_S A s.heap s.heap [] := va_S.rf
  have hP : va_P D vwCl [(h0, .inr (7, [.ref h2, .ref h3, .ref h4, .ref h5, .ref h6, .ref h7, .int 0, .int 0, .int 0, .int 0])), (h1, .inl (κ 2, 1, .inr (.inl (fun _ => 0)))), (h2, .inr (2, [.int 0, .int 2, .ref h8, .ref h9])), (h8, .inl (κ 3, 4, .inr (.inr (.inr (.inr (sel [h10, h11, h12, h13])))))), (h11, .inr (6, [.ref h14, .ref h15, .int 0]))] s.heap := hP
  have hl := lv_entry [.ref h0, .int 2, .int p0, .ref h1] (n := 5) (Nat.le_of_ble_eq_true rfl)
  rw [lg_entry_eq]
  generalize (lg_sl [.ref h0, .int 2, .int p0, .ref h1] ++ List.replicate (5 - (lg_sl [.ref h0, .int 2, .int p0, .ref h1]).length) Slot.unset).toArray = ls at hl ⊢
  have hl : lv_has ls 5 [(0, .ref h0), (1, .int 2), (2, .int p0), (3, .ref h1)] := hl
  refine lv_aload_n hx hb dL_prune_0 rfl (lv_at hl 3 rfl) ?_
  refine lv_iconst (v := 0) hx hb dL_prune_1 (by decide) ?_
  refine lv_aload_n hx hb dL_prune_2 rfl (lv_at hl 0 rfl) ?_
  refine lv_iload_n hx hb dL_prune_3 rfl (lv_at hl 1 rfl) ?_
  refine lv_iload_n hx hb dL_prune_4 rfl (lv_at hl 2 rfl) ?_
  have hF := va_free (wc := [(h0, .inr (7, [.ref h2, .ref h3, .ref h4, .ref h5, .ref h6, .ref h7, .int 0, .int 0, .int 0, .int 0])), (h2, .inr (2, [.int 0, .int 2, .ref h8, .ref h9])), (h8, .inl (κ 3, 4, .inr (.inr (.inr (.inr (sel [h10, h11, h12, h13])))))), (h11, .inr (6, [.ref h14, .ref h15, .int 0]))]) hD hS hA [0, 2, 3, 4] rfl
  refine vx_calli (vx_runV (As := [.int 2, .int p0]) (rest := [.int 0, .ref h1]) ⟨hx, hb, hml, hown, hts⟩ (k_X5_prune_0 l hst D κ ε h0 h2 h3 h4 h5 h6 h7 h8 h9 h10 h11 h12 h13 h14 h15 s.heap.size (p0)) (cwV 2 hts gL_prune_X5_prune rfl rfl rfl (by decide +kernel) ⟨(Nat.le_of_ble_eq_true rfl), (Nat.le_of_ble_eq_true rfl)⟩) (pre2_V (q0 := 0) (ci := 7) (wc := [(h0, .inr (7, [.ref h2, .ref h3, .ref h4, .ref h5, .ref h6, .ref h7, .int 0, .int 0, .int 0, .int 0])), (h2, .inr (2, [.int 0, .int 2, .ref h8, .ref h9])), (h8, .inl (κ 3, 4, .inr (.inr (.inr (.inr (sel [h10, h11, h12, h13])))))), (h11, .inr (6, [.ref h14, .ref h15, .int 0]))]) hP hD hK hE9 hS hA [0, 2, 3, 4] (by decide) rfl rfl rfl) rfl rfl hl.1 rfl (lv_room (Nat.le_of_ble_eq_true rfl)) dL_prune_5 ⟨(Nat.le_of_ble_eq_true rfl), (Nat.le_of_ble_eq_true rfl)⟩) hS (fun q _ h => hF q h) hF (fun q _ h => hF q h) (fun E9 ce q9 u t H locs ht hvm hw hB hz1 hk1 hS hce hcv hcl => ?_) (fun r u t H locs ht hvm hw hB hz1 hk1 hS => ?_)
  · try dsimp only at hB
    have hP1 : va_P D vwCl [] H := P_nil
    obtain ⟨hP, hD⟩ := post_j (ws' := [(h1, .inl (κ 2, 1, .inr (.inl (fun _ => 0))))]) (wr := [(h1, .inl (κ 2, 1, .inr (.inl (fun _ => 0))))]) (w1 := []) hP hD hF [0, 2, 3, 4] rfl [1] rfl (by decide) (by decide) hk1 hP1 D_nil [0] (by decide) rfl
    have hP : va_P D vwCl [(h1, .inl (κ 2, 1, .inr (.inl (fun _ => 0))))] H := hP
    have hD : va_D A [(h1, .inl (κ 2, 1, .inr (.inl (fun _ => 0))))] := hD
    rcases hB with ⟨c2, rfl⟩ | ⟨c3, c4, rfl⟩
    · skip
      refine vx_catch (name := "java/lang/IllegalArgumentException") hown [] ⟨0, 10, 13, 19⟩ [] (htab.trans rfl) (fun z hz => nomatch hz) (by decide) (by decide) (hts _ wd253_L_prune) (va_Nw.use rfl hE.2.2.2.2.2.2.2.2.2.2.2.2.2.2.1) hce hcv hcl ?_
      refine lv_astore (lv' := [(4, .ref q9), (0, .ref h0), (1, .int 2), (2, .int p0), (3, .ref h1)]) hx hb dL_prune_13 hl (by decide) rfl (fun ls hl => ?_)
      refine lv_iconst (v := 1) hx hb dL_prune_15 (by decide) ?_
      have hP9 := hP.sub (ws' := [(h1, .inl (κ 2, 1, .inr (.inl (fun _ => 0))))]) [0] rfl
      have hD9 := hD.sub (ws' := [(h1, .inl (κ 2, 1, .inr (.inl (fun _ => 0))))]) [0] (by decide) rfl
      refine W.widen (k := 1) (n := 6) (Nat.le_of_ble_eq_true rfl) (Nat.le_of_ble_eq_true rfl) ?_
      exact W.iret (v := 1) hx hb hr (fun t ht hW => ⟨⟨1, (fun _ => 0), rfl, (Or.inl ⟨c2, rfl⟩), by rw [ht]; exact hP9, hD9⟩, hS.F ht⟩) hS.2.2 dL_prune_16
    · skip
      refine vx_catch (name := "java/lang/IllegalArgumentException") hown [] ⟨0, 10, 13, 19⟩ [] (htab.trans rfl) (fun z hz => nomatch hz) (by decide) (by decide) (hts _ wd253_L_prune) (va_Nw.use rfl hE.2.2.2.2.2.2.2.2.2.2.2.2.2.2.1) hce hcv hcl ?_
      refine lv_astore (lv' := [(4, .ref q9), (0, .ref h0), (1, .int 2), (2, .int p0), (3, .ref h1)]) hx hb dL_prune_13 hl (by decide) rfl (fun ls hl => ?_)
      refine lv_iconst (v := 1) hx hb dL_prune_15 (by decide) ?_
      have hP9 := hP.sub (ws' := [(h1, .inl (κ 2, 1, .inr (.inl (fun _ => 0))))]) [0] rfl
      have hD9 := hD.sub (ws' := [(h1, .inl (κ 2, 1, .inr (.inl (fun _ => 0))))]) [0] (by decide) rfl
      refine W.widen (k := 1) (n := 6) (Nat.le_of_ble_eq_true rfl) (Nat.le_of_ble_eq_true rfl) ?_
      exact W.iret (v := 1) hx hb hr (fun t ht hW => ⟨⟨1, (fun _ => 0), rfl, (Or.inr (Or.inl ⟨c3, c4, rfl⟩)), by rw [ht]; exact hP9, hD9⟩, hS.F ht⟩) hS.2.2 dL_prune_16
  · try dsimp only at hw hB
    have hP1 : va_P D vwCl [] H := P_nil
    obtain ⟨hP, hD⟩ := post_j (ws' := [(h1, .inl (κ 2, 1, .inr (.inl (fun _ => 0))))]) (wr := [(h1, .inl (κ 2, 1, .inr (.inl (fun _ => 0))))]) (w1 := []) hP hD hF [0, 2, 3, 4] rfl [1] rfl (by decide) (by decide) hk1 hP1 D_nil [0] (by decide) rfl
    have hP : va_P D vwCl [(h1, .inl (κ 2, 1, .inr (.inl (fun _ => 0))))] H := hP
    have hD : va_D A [(h1, .inl (κ 2, 1, .inr (.inl (fun _ => 0))))] := hD
    obtain ⟨c5, c6, rfl⟩ := hw
    refine lv_i2l (v := 0) hx hb dL_prune_8 (by decide) ?_
    refine va_last (cA := κ 2) (n := 1) (f := (fun _ => 0)) hx hb hK hP hD hS 0 2 rfl rfl (vpl (by decide)) dL_prune_9 (fun H locs hP hD hS => ?_)
    have hP : va_P D vwCl [(h1, .inl (κ 2, 1, .inr (.inl (vp_updL (fun _ => 0) 0 0))))] H := hP
    have hD : va_D A [(h1, .inl (κ 2, 1, .inr (.inl (vp_updL (fun _ => 0) 0 0))))] := hD
    refine lv_goto (tgt := 17) hx hb dL_prune_10 (by decide) ?_
    refine lv_iconst (v := 0) hx hb dL_prune_17 (by decide) ?_
    have hP9 := hP.sub (ws' := [(h1, .inl (κ 2, 1, .inr (.inl (vp_updL (fun _ => 0) 0 0))))]) [0] rfl
    have hD9 := hD.sub (ws' := [(h1, .inl (κ 2, 1, .inr (.inl (vp_updL (fun _ => 0) 0 0))))]) [0] (by decide) rfl
    refine W.widen (k := 1) (n := 6) (Nat.le_of_ble_eq_true rfl) (Nat.le_of_ble_eq_true rfl) ?_
    exact W.iret (v := 0) hx hb hr (fun t ht hW => ⟨⟨0, (vp_updL (fun _ => 0) 0 0), rfl, (Or.inr (Or.inr ⟨c5, c6, rfl, rfl⟩)), by rw [ht]; exact hP9, hD9⟩, hS.F ht⟩) hS.2.2 dL_prune_18

set_option maxHeartbeats 4000000 in
set_option maxRecDepth 100000 in
theorem k_X6_isIn_16 (l : Launch) (D : va_G) (κ ε : Nat → Nat) : Met l yX6_isIn wsX6_isIn ({ frames := 0, cells := 0, slots := 0, locals := 0 }) (va_Pc [.int 2, .int 2, .int 2] (Pre0 D κ [])) (vp_Si (fun r => (r = 1))) 0 0 (fun _ => False) := by
  refine Met.ofW (cc := cX6_isIn) (maxL := 3) (ret := (some .boolean)) (by decide) rfl ?_
  intro p e s m args below meth c s₁ B hml hv
  obtain ⟨rfl, hP, hK⟩ := hv
  have hx := B.exec
  have hb := B.bytes
  have hr := B.returns
  have hts := atoms_spec (ws := wsX6_isIn) B.pre
  have hown : s.vm.findClass RX6 = some m.cls := findClass_of_methodNamed B.named
  have hlocks := B.notSynchronized
  have hP : va_P D vwCl [] s.heap := hP
  have hl := lv_entry [.int 2, .int 2, .int 2] (n := 3) (Nat.le_of_ble_eq_true rfl)
  rw [lg_entry_eq]
  generalize (lg_sl [.int 2, .int 2, .int 2] ++ List.replicate (3 - (lg_sl [.int 2, .int 2, .int 2]).length) Slot.unset).toArray = ls at hl ⊢
  have hl : lv_has ls 3 [(0, .int 2), (1, .int 2), (2, .int 2)] := hl
  refine lv_iload_n hx hb dX6_isIn_0 rfl (lv_at hl 0 rfl) ?_
  refine lv_iload_n hx hb dX6_isIn_1 rfl (lv_at hl 1 rfl) ?_
  refine lv_icmp_lt (tgt := 14) hx hb dX6_isIn_2 (by decide) (fun h => absurd h (by decide)) (fun _ => ?_)
  refine lv_iload_n hx hb dX6_isIn_5 rfl (lv_at hl 0 rfl) ?_
  refine lv_iload_n hx hb dX6_isIn_6 rfl (lv_at hl 2 rfl) ?_
  refine lv_icmp_gt (tgt := 14) hx hb dX6_isIn_7 (by decide) (fun h => absurd h (by decide)) (fun _ => ?_)
  refine lv_iconst (v := 1) hx hb dX6_isIn_10 (by decide) ?_
  refine lv_goto (tgt := 15) hx hb dX6_isIn_11 (by decide) ?_
  exact W.zret (v := 1) hx hb hr rfl (fun t ht hW => ⟨1, rfl, rfl, ht⟩) (fun q hq => absurd hq List.not_mem_nil) dX6_isIn_15

set_option maxHeartbeats 4000000 in
set_option maxRecDepth 100000 in
theorem k_X6_isIn_17 (l : Launch) (D : va_G) (κ ε : Nat → Nat) (p0 : Int32) (hf0 : p0 < 1) : Met l yX6_isIn wsX6_isIn ({ frames := 0, cells := 0, slots := 0, locals := 0 }) (va_Pc [.int p0, .int 1, .int 1000] (Pre0 D κ [])) (vp_Si (fun r => (r = 0))) 0 0 (fun _ => False) := by
  refine Met.ofW (cc := cX6_isIn) (maxL := 3) (ret := (some .boolean)) (by decide) rfl ?_
  intro p e s m args below meth c s₁ B hml hv
  obtain ⟨rfl, hP, hK⟩ := hv
  have hx := B.exec
  have hb := B.bytes
  have hr := B.returns
  have hts := atoms_spec (ws := wsX6_isIn) B.pre
  have hown : s.vm.findClass RX6 = some m.cls := findClass_of_methodNamed B.named
  have hlocks := B.notSynchronized
  have hP : va_P D vwCl [] s.heap := hP
  have hl := lv_entry [.int p0, .int 1, .int 1000] (n := 3) (Nat.le_of_ble_eq_true rfl)
  rw [lg_entry_eq]
  generalize (lg_sl [.int p0, .int 1, .int 1000] ++ List.replicate (3 - (lg_sl [.int p0, .int 1, .int 1000]).length) Slot.unset).toArray = ls at hl ⊢
  have hl : lv_has ls 3 [(0, .int p0), (1, .int 1), (2, .int 1000)] := hl
  refine lv_iload_n hx hb dX6_isIn_0 rfl (lv_at hl 0 rfl) ?_
  refine lv_iload_n hx hb dX6_isIn_1 rfl (lv_at hl 1 rfl) ?_
  refine lv_icmp_lt (tgt := 14) hx hb dX6_isIn_2 (by decide) (fun _ => ?_) (fun h => absurd hf0 h)
  refine lv_iconst (v := 0) hx hb dX6_isIn_14 (by decide) ?_
  exact W.zret (v := 0) hx hb hr rfl (fun t ht hW => ⟨0, rfl, rfl, ht⟩) (fun q hq => absurd hq List.not_mem_nil) dX6_isIn_15

theorem wi_X6_prune_RX6 : ∀ w ∈ u_ws RX6 TX6 11, w ∈ wsX6_prune := by decide +kernel

theorem wd254_X6_prune : (.fieldLink RX6 7 "CanticleModel" "order" "I" : Cond) ∈ wsX6_prune := by decide +kernel

set_option maxHeartbeats 4000000 in
set_option maxRecDepth 100000 in
theorem k_X6_prune_0 (l : Launch) (D : va_G) (κ ε : Nat → Nat) (h0 h1 h2 h3 : Nat) (sz : Nat) (p0 : Int32) (hf0 : p0 < 1) : Met l yX6_prune wsX6_prune ({ frames := 2, cells := 0, slots := 0, locals := 44 }) (va_Pc [.ref h0, .int 2, .int p0] (Pre2 D κ ε [(h0, .inr (8, [.int 0, .int 0, .int 2, .ref h1, .ref h2, .int 0, .int 500, .int 0, .int 0, .int 0, .ref h3]))] sz)) (va_Qi (fun r (u : List Value) => (u[0]? = some (.int 1)) ∧ (r = 0)) (fun u t => va_P D vwCl [(h0, .inr (8, u))] t.heap ∧ va_D (va_A [(h0, .inr (8, [.int 0, .int 0, .int 2, .ref h1, .ref h2, .int 0, .int 500, .int 0, .int 0, .int 0, .ref h3]))] sz) [(h0, .inr (8, u))]) (va_A [(h0, .inr (8, [.int 0, .int 0, .int 2, .ref h1, .ref h2, .int 0, .int 500, .int 0, .int 0, .int 0, .ref h3]))] sz)) 0 0 (va_A [(h0, .inr (8, [.int 0, .int 0, .int 2, .ref h1, .ref h2, .int 0, .int 500, .int 0, .int 0, .int 0, .ref h3]))] sz) := by
  refine Met.ofW (cc := cX6_prune) (maxL := 5) (ret := (some .int)) (by decide) rfl ?_
  intro p e s m args below meth c s₁ B hml hv
  obtain ⟨rfl, hsz, hP, hK, hD0, hE9⟩ := hv
  have hx := B.exec
  have hb := B.bytes
  have hr := B.returns
  have hts := atoms_spec (ws := wsX6_prune) B.pre
  have hown : s.vm.findClass RX6 = some m.cls := findClass_of_methodNamed B.named
  have hlocks := B.notSynchronized
  subst hsz
  have hD := hD0.self (sz := s.heap.size)
  generalize hAe : va_A [(h0, .inr (8, [.int 0, .int 0, .int 2, .ref h1, .ref h2, .int 0, .int 500, .int 0, .int 0, .int 0, .ref h3]))] s.heap.size = A at hD hE9 ⊢
  have hE := hE9.1
  have hDc := hE9.2
  have hA : ∀ q : Nat, s.heap.size ≤ q → A q := fun q h => by rw [← hAe]; exact Or.inr h
  have hS : va_S A s.heap s.heap [] := va_S.rf
  have hP : va_P D vwCl [(h0, .inr (8, [.int 0, .int 0, .int 2, .ref h1, .ref h2, .int 0, .int 500, .int 0, .int 0, .int 0, .ref h3]))] s.heap := hP
  have hl := lv_entry [.ref h0, .int 2, .int p0] (n := 5) (Nat.le_of_ble_eq_true rfl)
  rw [lg_entry_eq]
  generalize (lg_sl [.ref h0, .int 2, .int p0] ++ List.replicate (5 - (lg_sl [.ref h0, .int 2, .int p0]).length) Slot.unset).toArray = ls at hl ⊢
  have hl : lv_has ls 5 [(0, .ref h0), (1, .int 2), (2, .int p0)] := hl
  refine lv_aload_n hx hb dX6_prune_0 rfl (lv_at hl 0 rfl) ?_
  refine lv_iload_n hx hb dX6_prune_1 rfl (lv_at hl 1 rfl) ?_
  refine lv_iconst (v := 2) hx hb dX6_prune_2 (by decide) ?_
  refine lv_aload_n hx hb dX6_prune_3 rfl (lv_at hl 0 rfl) ?_
  refine va_get (D := D) (ci := 8) (v := .int 2) (C := RX6) (T := TX6) (N := 11) hx hb hts wi_X6_prune_RX6 hown hK hP 0 rfl rfl 2 (by decide) (hts _ wd254_X6_prune) (fun _ h9 => h9) rfl dX6_prune_4 ?_
  refine vp_callSi (W.runS (As := [.int 2, .int 2, .int 2]) (rest := [.ref h0]) ⟨hx, hb, hml, hown, hts⟩ (k_X6_isIn_16 l D κ ε) (va_cwS 3 hts gX6_prune_X6_isIn rfl rfl rfl (by decide +kernel) ⟨(Nat.le_of_ble_eq_true rfl), (Nat.le_of_ble_eq_true rfl)⟩) (pre0_S (wc := []) hP hK [] rfl) rfl rfl hl.1 rfl (lv_room (Nat.le_of_ble_eq_true rfl)) dX6_prune_7 ⟨(Nat.le_of_ble_eq_true rfl), (Nat.le_of_ble_eq_true rfl)⟩) (fun r hw => ?_)
  rw [hw]
  refine lv_if_eq (tgt := 24) hx hb dX6_prune_10 (by decide) (fun h => absurd h (by decide)) (fun _ => ?_)
  refine lv_iload_n hx hb dX6_prune_13 rfl (lv_at hl 2 rfl) ?_
  refine lv_iconst (v := 1) hx hb dX6_prune_14 (by decide) ?_
  refine lv_sipush (v := 1000) hx hb dX6_prune_15 (by decide) ?_
  refine vp_callSi (W.runS (As := [.int p0, .int 1, .int 1000]) (rest := [.ref h0]) ⟨hx, hb, hml, hown, hts⟩ (k_X6_isIn_17 l D κ ε (p0) hf0) (va_cwS 3 hts gX6_prune_X6_isIn rfl rfl rfl (by decide +kernel) ⟨(Nat.le_of_ble_eq_true rfl), (Nat.le_of_ble_eq_true rfl)⟩) (pre0_S (wc := []) hP hK [] rfl) rfl rfl hl.1 rfl (lv_room (Nat.le_of_ble_eq_true rfl)) dX6_prune_18 ⟨(Nat.le_of_ble_eq_true rfl), (Nat.le_of_ble_eq_true rfl)⟩) (fun r hw => ?_)
  rw [hw]
  refine lv_if_ne (tgt := 28) hx hb dX6_prune_21 (by decide) (fun h => absurd (by decide) h) (fun _ => ?_)
  refine lv_iconst (v := 1) hx hb dX6_prune_24 (by decide) ?_
  refine lv_goto (tgt := 29) hx hb dX6_prune_25 (by decide) ?_
  refine lv_iconst (v := 1) hx hb dX6_prune_29 (by decide) ?_
  have hF := va_free (wc := [(h0, .inr (8, [.int 0, .int 0, .int 2, .ref h1, .ref h2, .int 0, .int 500, .int 0, .int 0, .int 0, .ref h3]))]) hD hS hA [0] rfl
  refine va_calli (va_runV (As := [.int 1, .int 1]) (rest := []) ⟨hx, hb, hml, hown, hts⟩ (k_X6_start_1 l D κ ε h0 h1 h2 h3 s.heap.size (0) (2) (0) (500) (0) (0)) (cwV 2 hts gX6_prune_X6_start rfl rfl rfl (by decide +kernel) ⟨(Nat.le_of_ble_eq_true rfl), (Nat.le_of_ble_eq_true rfl)⟩) (pre2_V (q0 := 0) (ci := 8) (wc := [(h0, .inr (8, [.int 0, .int 0, .int 2, .ref h1, .ref h2, .int 0, .int 500, .int 0, .int 0, .int 0, .ref h3]))]) hP hD hK hE9 hS hA [0] (by decide) rfl rfl rfl) rfl rfl hl.1 rfl (lv_room (Nat.le_of_ble_eq_true rfl)) dX6_prune_30 ⟨(Nat.le_of_ble_eq_true rfl), (Nat.le_of_ble_eq_true rfl)⟩) hS (fun q _ h => hF q h) hF (fun r u1 t H locs ht hvm hw hB hz1 hk1 hS => ?_)
  try dsimp only at hw hB
  obtain ⟨hP1, hD1⟩ := hB
  rw [ht] at hP1
  obtain ⟨hP, hD⟩ := post_j (ws' := [(h0, .inr (8, [.int 1, .int 0, .int 2, .ref h1, .ref h2, .int 0, .int 500, .int 0, .int 0, .int 0, .ref h3]))]) (wr := []) (w1 := [(h0, .inr (8, [.int 1, .int 0, .int 2, .ref h1, .ref h2, .int 0, .int 500, .int 0, .int 0, .int 0, .ref h3]))]) hP hD hF [0] rfl [] rfl (by decide) (by decide) hk1 hP1 hD1 [0] (by decide) rfl
  have hP : va_P D vwCl [(h0, .inr (8, [.int 1, .int 0, .int 2, .ref h1, .ref h2, .int 0, .int 500, .int 0, .int 0, .int 0, .ref h3]))] H := hP
  have hD : va_D A [(h0, .inr (8, [.int 1, .int 0, .int 2, .ref h1, .ref h2, .int 0, .int 500, .int 0, .int 0, .int 0, .ref h3]))] := hD
  rw [hw]
  refine lv_if_eq (tgt := 38) hx hb dX6_prune_33 (by decide) (fun h => absurd h (by decide)) (fun _ => ?_)
  refine lv_iconst (v := 0) hx hb dX6_prune_36 (by decide) ?_
  have hP9 := hP.sub (ws' := [(h0, .inr (8, [.int 1, .int 0, .int 2, .ref h1, .ref h2, .int 0, .int 500, .int 0, .int 0, .int 0, .ref h3]))]) [0] rfl
  have hD9 := hD.sub (ws' := [(h0, .inr (8, [.int 1, .int 0, .int 2, .ref h1, .ref h2, .int 0, .int 500, .int 0, .int 0, .int 0, .ref h3]))]) [0] (by decide) rfl
  exact W.iret (v := 0) hx hb hr (fun t ht hW => ⟨⟨0, [.int 1, .int 0, .int 2, .ref h1, .ref h2, .int 0, .int 500, .int 0, .int 0, .int 0, .ref h3], rfl, ⟨rfl, rfl⟩, by rw [ht]; exact hP9, hD9⟩, hS.F ht⟩) hS.2.2 dX6_prune_37

theorem iv9 (x : Int32) (h0 : ¬ x ≤ 1000) : 1000 < x := by
  have e0 : (1000 : Int32).toInt = 1000 := by decide
  simp only [Int32.lt_iff_toInt_lt, Int32.le_iff_toInt_le, ← Int32.toInt_inj, e0] at *
  omega

set_option maxHeartbeats 4000000 in
set_option maxRecDepth 100000 in
theorem k_X6_isIn_18 (l : Launch) (D : va_G) (κ ε : Nat → Nat) (p0 : Int32) (hf0 : ¬ p0 < 1) (hf1 : ¬ p0 ≤ 1000) : Met l yX6_isIn wsX6_isIn ({ frames := 0, cells := 0, slots := 0, locals := 0 }) (va_Pc [.int p0, .int 1, .int 1000] (Pre0 D κ [])) (vp_Si (fun r => (r = 0))) 0 0 (fun _ => False) := by
  refine Met.ofW (cc := cX6_isIn) (maxL := 3) (ret := (some .boolean)) (by decide) rfl ?_
  intro p e s m args below meth c s₁ B hml hv
  obtain ⟨rfl, hP, hK⟩ := hv
  have hx := B.exec
  have hb := B.bytes
  have hr := B.returns
  have hts := atoms_spec (ws := wsX6_isIn) B.pre
  have hown : s.vm.findClass RX6 = some m.cls := findClass_of_methodNamed B.named
  have hlocks := B.notSynchronized
  have hP : va_P D vwCl [] s.heap := hP
  have hl := lv_entry [.int p0, .int 1, .int 1000] (n := 3) (Nat.le_of_ble_eq_true rfl)
  rw [lg_entry_eq]
  generalize (lg_sl [.int p0, .int 1, .int 1000] ++ List.replicate (3 - (lg_sl [.int p0, .int 1, .int 1000]).length) Slot.unset).toArray = ls at hl ⊢
  have hl : lv_has ls 3 [(0, .int p0), (1, .int 1), (2, .int 1000)] := hl
  refine lv_iload_n hx hb dX6_isIn_0 rfl (lv_at hl 0 rfl) ?_
  refine lv_iload_n hx hb dX6_isIn_1 rfl (lv_at hl 1 rfl) ?_
  refine lv_icmp_lt (tgt := 14) hx hb dX6_isIn_2 (by decide) (fun h => absurd h hf0) (fun _ => ?_)
  refine lv_iload_n hx hb dX6_isIn_5 rfl (lv_at hl 0 rfl) ?_
  refine lv_iload_n hx hb dX6_isIn_6 rfl (lv_at hl 2 rfl) ?_
  refine lv_icmp_gt (tgt := 14) hx hb dX6_isIn_7 (by decide) (fun _ => ?_) (fun h => absurd (iv9 _ hf1) h)
  refine lv_iconst (v := 0) hx hb dX6_isIn_14 (by decide) ?_
  exact W.zret (v := 0) hx hb hr rfl (fun t ht hW => ⟨0, rfl, rfl, ht⟩) (fun q hq => absurd hq List.not_mem_nil) dX6_isIn_15

set_option maxHeartbeats 4000000 in
set_option maxRecDepth 100000 in
theorem k_X6_prune_1 (l : Launch) (D : va_G) (κ ε : Nat → Nat) (h0 h1 h2 h3 : Nat) (sz : Nat) (p0 : Int32) (hf0 : ¬ p0 < 1) (hf1 : ¬ p0 ≤ 1000) : Met l yX6_prune wsX6_prune ({ frames := 2, cells := 0, slots := 0, locals := 44 }) (va_Pc [.ref h0, .int 2, .int p0] (Pre2 D κ ε [(h0, .inr (8, [.int 0, .int 0, .int 2, .ref h1, .ref h2, .int 0, .int 500, .int 0, .int 0, .int 0, .ref h3]))] sz)) (va_Qi (fun r (u : List Value) => (u[0]? = some (.int 1)) ∧ (r = 0)) (fun u t => va_P D vwCl [(h0, .inr (8, u))] t.heap ∧ va_D (va_A [(h0, .inr (8, [.int 0, .int 0, .int 2, .ref h1, .ref h2, .int 0, .int 500, .int 0, .int 0, .int 0, .ref h3]))] sz) [(h0, .inr (8, u))]) (va_A [(h0, .inr (8, [.int 0, .int 0, .int 2, .ref h1, .ref h2, .int 0, .int 500, .int 0, .int 0, .int 0, .ref h3]))] sz)) 0 0 (va_A [(h0, .inr (8, [.int 0, .int 0, .int 2, .ref h1, .ref h2, .int 0, .int 500, .int 0, .int 0, .int 0, .ref h3]))] sz) := by
  refine Met.ofW (cc := cX6_prune) (maxL := 5) (ret := (some .int)) (by decide) rfl ?_
  intro p e s m args below meth c s₁ B hml hv
  obtain ⟨rfl, hsz, hP, hK, hD0, hE9⟩ := hv
  have hx := B.exec
  have hb := B.bytes
  have hr := B.returns
  have hts := atoms_spec (ws := wsX6_prune) B.pre
  have hown : s.vm.findClass RX6 = some m.cls := findClass_of_methodNamed B.named
  have hlocks := B.notSynchronized
  subst hsz
  have hD := hD0.self (sz := s.heap.size)
  generalize hAe : va_A [(h0, .inr (8, [.int 0, .int 0, .int 2, .ref h1, .ref h2, .int 0, .int 500, .int 0, .int 0, .int 0, .ref h3]))] s.heap.size = A at hD hE9 ⊢
  have hE := hE9.1
  have hDc := hE9.2
  have hA : ∀ q : Nat, s.heap.size ≤ q → A q := fun q h => by rw [← hAe]; exact Or.inr h
  have hS : va_S A s.heap s.heap [] := va_S.rf
  have hP : va_P D vwCl [(h0, .inr (8, [.int 0, .int 0, .int 2, .ref h1, .ref h2, .int 0, .int 500, .int 0, .int 0, .int 0, .ref h3]))] s.heap := hP
  have hl := lv_entry [.ref h0, .int 2, .int p0] (n := 5) (Nat.le_of_ble_eq_true rfl)
  rw [lg_entry_eq]
  generalize (lg_sl [.ref h0, .int 2, .int p0] ++ List.replicate (5 - (lg_sl [.ref h0, .int 2, .int p0]).length) Slot.unset).toArray = ls at hl ⊢
  have hl : lv_has ls 5 [(0, .ref h0), (1, .int 2), (2, .int p0)] := hl
  refine lv_aload_n hx hb dX6_prune_0 rfl (lv_at hl 0 rfl) ?_
  refine lv_iload_n hx hb dX6_prune_1 rfl (lv_at hl 1 rfl) ?_
  refine lv_iconst (v := 2) hx hb dX6_prune_2 (by decide) ?_
  refine lv_aload_n hx hb dX6_prune_3 rfl (lv_at hl 0 rfl) ?_
  refine va_get (D := D) (ci := 8) (v := .int 2) (C := RX6) (T := TX6) (N := 11) hx hb hts wi_X6_prune_RX6 hown hK hP 0 rfl rfl 2 (by decide) (hts _ wd254_X6_prune) (fun _ h9 => h9) rfl dX6_prune_4 ?_
  refine vp_callSi (W.runS (As := [.int 2, .int 2, .int 2]) (rest := [.ref h0]) ⟨hx, hb, hml, hown, hts⟩ (k_X6_isIn_16 l D κ ε) (va_cwS 3 hts gX6_prune_X6_isIn rfl rfl rfl (by decide +kernel) ⟨(Nat.le_of_ble_eq_true rfl), (Nat.le_of_ble_eq_true rfl)⟩) (pre0_S (wc := []) hP hK [] rfl) rfl rfl hl.1 rfl (lv_room (Nat.le_of_ble_eq_true rfl)) dX6_prune_7 ⟨(Nat.le_of_ble_eq_true rfl), (Nat.le_of_ble_eq_true rfl)⟩) (fun r hw => ?_)
  rw [hw]
  refine lv_if_eq (tgt := 24) hx hb dX6_prune_10 (by decide) (fun h => absurd h (by decide)) (fun _ => ?_)
  refine lv_iload_n hx hb dX6_prune_13 rfl (lv_at hl 2 rfl) ?_
  refine lv_iconst (v := 1) hx hb dX6_prune_14 (by decide) ?_
  refine lv_sipush (v := 1000) hx hb dX6_prune_15 (by decide) ?_
  refine vp_callSi (W.runS (As := [.int p0, .int 1, .int 1000]) (rest := [.ref h0]) ⟨hx, hb, hml, hown, hts⟩ (k_X6_isIn_18 l D κ ε (p0) hf0 hf1) (va_cwS 3 hts gX6_prune_X6_isIn rfl rfl rfl (by decide +kernel) ⟨(Nat.le_of_ble_eq_true rfl), (Nat.le_of_ble_eq_true rfl)⟩) (pre0_S (wc := []) hP hK [] rfl) rfl rfl hl.1 rfl (lv_room (Nat.le_of_ble_eq_true rfl)) dX6_prune_18 ⟨(Nat.le_of_ble_eq_true rfl), (Nat.le_of_ble_eq_true rfl)⟩) (fun r hw => ?_)
  rw [hw]
  refine lv_if_ne (tgt := 28) hx hb dX6_prune_21 (by decide) (fun h => absurd (by decide) h) (fun _ => ?_)
  refine lv_iconst (v := 1) hx hb dX6_prune_24 (by decide) ?_
  refine lv_goto (tgt := 29) hx hb dX6_prune_25 (by decide) ?_
  refine lv_iconst (v := 1) hx hb dX6_prune_29 (by decide) ?_
  have hF := va_free (wc := [(h0, .inr (8, [.int 0, .int 0, .int 2, .ref h1, .ref h2, .int 0, .int 500, .int 0, .int 0, .int 0, .ref h3]))]) hD hS hA [0] rfl
  refine va_calli (va_runV (As := [.int 1, .int 1]) (rest := []) ⟨hx, hb, hml, hown, hts⟩ (k_X6_start_1 l D κ ε h0 h1 h2 h3 s.heap.size (0) (2) (0) (500) (0) (0)) (cwV 2 hts gX6_prune_X6_start rfl rfl rfl (by decide +kernel) ⟨(Nat.le_of_ble_eq_true rfl), (Nat.le_of_ble_eq_true rfl)⟩) (pre2_V (q0 := 0) (ci := 8) (wc := [(h0, .inr (8, [.int 0, .int 0, .int 2, .ref h1, .ref h2, .int 0, .int 500, .int 0, .int 0, .int 0, .ref h3]))]) hP hD hK hE9 hS hA [0] (by decide) rfl rfl rfl) rfl rfl hl.1 rfl (lv_room (Nat.le_of_ble_eq_true rfl)) dX6_prune_30 ⟨(Nat.le_of_ble_eq_true rfl), (Nat.le_of_ble_eq_true rfl)⟩) hS (fun q _ h => hF q h) hF (fun r u1 t H locs ht hvm hw hB hz1 hk1 hS => ?_)
  try dsimp only at hw hB
  obtain ⟨hP1, hD1⟩ := hB
  rw [ht] at hP1
  obtain ⟨hP, hD⟩ := post_j (ws' := [(h0, .inr (8, [.int 1, .int 0, .int 2, .ref h1, .ref h2, .int 0, .int 500, .int 0, .int 0, .int 0, .ref h3]))]) (wr := []) (w1 := [(h0, .inr (8, [.int 1, .int 0, .int 2, .ref h1, .ref h2, .int 0, .int 500, .int 0, .int 0, .int 0, .ref h3]))]) hP hD hF [0] rfl [] rfl (by decide) (by decide) hk1 hP1 hD1 [0] (by decide) rfl
  have hP : va_P D vwCl [(h0, .inr (8, [.int 1, .int 0, .int 2, .ref h1, .ref h2, .int 0, .int 500, .int 0, .int 0, .int 0, .ref h3]))] H := hP
  have hD : va_D A [(h0, .inr (8, [.int 1, .int 0, .int 2, .ref h1, .ref h2, .int 0, .int 500, .int 0, .int 0, .int 0, .ref h3]))] := hD
  rw [hw]
  refine lv_if_eq (tgt := 38) hx hb dX6_prune_33 (by decide) (fun h => absurd h (by decide)) (fun _ => ?_)
  refine lv_iconst (v := 0) hx hb dX6_prune_36 (by decide) ?_
  have hP9 := hP.sub (ws' := [(h0, .inr (8, [.int 1, .int 0, .int 2, .ref h1, .ref h2, .int 0, .int 500, .int 0, .int 0, .int 0, .ref h3]))]) [0] rfl
  have hD9 := hD.sub (ws' := [(h0, .inr (8, [.int 1, .int 0, .int 2, .ref h1, .ref h2, .int 0, .int 500, .int 0, .int 0, .int 0, .ref h3]))]) [0] (by decide) rfl
  exact W.iret (v := 0) hx hb hr (fun t ht hW => ⟨⟨0, [.int 1, .int 0, .int 2, .ref h1, .ref h2, .int 0, .int 500, .int 0, .int 0, .int 0, .ref h3], rfl, ⟨rfl, rfl⟩, by rw [ht]; exact hP9, hD9⟩, hS.F ht⟩) hS.2.2 dX6_prune_37

theorem iv10 (x : Int32) (h0 : x ≤ 1000) : ¬ 1000 < x := by
  have e0 : (1000 : Int32).toInt = 1000 := by decide
  simp only [Int32.lt_iff_toInt_lt, Int32.le_iff_toInt_le, ← Int32.toInt_inj, e0] at *
  omega

set_option maxHeartbeats 4000000 in
set_option maxRecDepth 100000 in
theorem k_X6_isIn_19 (l : Launch) (D : va_G) (κ ε : Nat → Nat) (p0 : Int32) (hf0 : ¬ p0 < 1) (hf1 : p0 ≤ 1000) : Met l yX6_isIn wsX6_isIn ({ frames := 0, cells := 0, slots := 0, locals := 0 }) (va_Pc [.int p0, .int 1, .int 1000] (Pre0 D κ [])) (vp_Si (fun r => (r = 1))) 0 0 (fun _ => False) := by
  refine Met.ofW (cc := cX6_isIn) (maxL := 3) (ret := (some .boolean)) (by decide) rfl ?_
  intro p e s m args below meth c s₁ B hml hv
  obtain ⟨rfl, hP, hK⟩ := hv
  have hx := B.exec
  have hb := B.bytes
  have hr := B.returns
  have hts := atoms_spec (ws := wsX6_isIn) B.pre
  have hown : s.vm.findClass RX6 = some m.cls := findClass_of_methodNamed B.named
  have hlocks := B.notSynchronized
  have hP : va_P D vwCl [] s.heap := hP
  have hl := lv_entry [.int p0, .int 1, .int 1000] (n := 3) (Nat.le_of_ble_eq_true rfl)
  rw [lg_entry_eq]
  generalize (lg_sl [.int p0, .int 1, .int 1000] ++ List.replicate (3 - (lg_sl [.int p0, .int 1, .int 1000]).length) Slot.unset).toArray = ls at hl ⊢
  have hl : lv_has ls 3 [(0, .int p0), (1, .int 1), (2, .int 1000)] := hl
  refine lv_iload_n hx hb dX6_isIn_0 rfl (lv_at hl 0 rfl) ?_
  refine lv_iload_n hx hb dX6_isIn_1 rfl (lv_at hl 1 rfl) ?_
  refine lv_icmp_lt (tgt := 14) hx hb dX6_isIn_2 (by decide) (fun h => absurd h hf0) (fun _ => ?_)
  refine lv_iload_n hx hb dX6_isIn_5 rfl (lv_at hl 0 rfl) ?_
  refine lv_iload_n hx hb dX6_isIn_6 rfl (lv_at hl 2 rfl) ?_
  refine lv_icmp_gt (tgt := 14) hx hb dX6_isIn_7 (by decide) (fun h => absurd h (iv10 _ hf1)) (fun _ => ?_)
  refine lv_iconst (v := 1) hx hb dX6_isIn_10 (by decide) ?_
  refine lv_goto (tgt := 15) hx hb dX6_isIn_11 (by decide) ?_
  exact W.zret (v := 1) hx hb hr rfl (fun t ht hW => ⟨1, rfl, rfl, ht⟩) (fun q hq => absurd hq List.not_mem_nil) dX6_isIn_15

theorem wd255_X6_prune : (.fieldLink RX6 24 "CanticleModel" "counts" "[[I" : Cond) ∈ wsX6_prune := by decide +kernel

set_option maxHeartbeats 4000000 in
set_option maxRecDepth 100000 in
theorem k_X6_prune_2 (l : Launch) (D : va_G) (κ ε : Nat → Nat) (h0 h1 h2 h3 h4 h5 h6 h7 : Nat) (sz : Nat) (p0 : Int32) (hf0 : ¬ p0 < 1) (hf1 : p0 ≤ 1000) : Met l yX6_prune wsX6_prune ({ frames := 2, cells := 0, slots := 0, locals := 44 }) (va_Pc [.ref h0, .int 2, .int p0] (Pre2 D κ ε [(h0, .inr (8, [.int 0, .int 0, .int 2, .ref h1, .ref h2, .int 0, .int 500, .int 0, .int 0, .int 0, .ref h3])), (h2, .inl (κ 4, 4, .inr (.inr (.inr (.inr (sel [h4, h5, h6, h7])))))), (h5, .inl (κ 0, 196, .inl (fun _ => 0)))] sz)) (va_Qi (fun r (u : List Value) => (u[0]? = some (.int 0)) ∧ (r = 0)) (fun u t => va_P D vwCl [(h0, .inr (8, u))] t.heap ∧ va_D (va_A [(h0, .inr (8, [.int 0, .int 0, .int 2, .ref h1, .ref h2, .int 0, .int 500, .int 0, .int 0, .int 0, .ref h3])), (h2, .inl (κ 4, 4, .inr (.inr (.inr (.inr (sel [h4, h5, h6, h7])))))), (h5, .inl (κ 0, 196, .inl (fun _ => 0)))] sz) [(h0, .inr (8, u))]) (va_A [(h0, .inr (8, [.int 0, .int 0, .int 2, .ref h1, .ref h2, .int 0, .int 500, .int 0, .int 0, .int 0, .ref h3])), (h2, .inl (κ 4, 4, .inr (.inr (.inr (.inr (sel [h4, h5, h6, h7])))))), (h5, .inl (κ 0, 196, .inl (fun _ => 0)))] sz)) 0 0 (va_A [(h0, .inr (8, [.int 0, .int 0, .int 2, .ref h1, .ref h2, .int 0, .int 500, .int 0, .int 0, .int 0, .ref h3])), (h2, .inl (κ 4, 4, .inr (.inr (.inr (.inr (sel [h4, h5, h6, h7])))))), (h5, .inl (κ 0, 196, .inl (fun _ => 0)))] sz) := by
  refine Met.ofW (cc := cX6_prune) (maxL := 5) (ret := (some .int)) (by decide) rfl ?_
  intro p e s m args below meth c s₁ B hml hv
  obtain ⟨rfl, hsz, hP, hK, hD0, hE9⟩ := hv
  have hx := B.exec
  have hb := B.bytes
  have hr := B.returns
  have hts := atoms_spec (ws := wsX6_prune) B.pre
  have hown : s.vm.findClass RX6 = some m.cls := findClass_of_methodNamed B.named
  have hlocks := B.notSynchronized
  subst hsz
  have hD := hD0.self (sz := s.heap.size)
  generalize hAe : va_A [(h0, .inr (8, [.int 0, .int 0, .int 2, .ref h1, .ref h2, .int 0, .int 500, .int 0, .int 0, .int 0, .ref h3])), (h2, .inl (κ 4, 4, .inr (.inr (.inr (.inr (sel [h4, h5, h6, h7])))))), (h5, .inl (κ 0, 196, .inl (fun _ => 0)))] s.heap.size = A at hD hE9 ⊢
  have hE := hE9.1
  have hDc := hE9.2
  have hA : ∀ q : Nat, s.heap.size ≤ q → A q := fun q h => by rw [← hAe]; exact Or.inr h
  have hS : va_S A s.heap s.heap [] := va_S.rf
  have hP : va_P D vwCl [(h0, .inr (8, [.int 0, .int 0, .int 2, .ref h1, .ref h2, .int 0, .int 500, .int 0, .int 0, .int 0, .ref h3])), (h2, .inl (κ 4, 4, .inr (.inr (.inr (.inr (sel [h4, h5, h6, h7])))))), (h5, .inl (κ 0, 196, .inl (fun _ => 0)))] s.heap := hP
  have hl := lv_entry [.ref h0, .int 2, .int p0] (n := 5) (Nat.le_of_ble_eq_true rfl)
  rw [lg_entry_eq]
  generalize (lg_sl [.ref h0, .int 2, .int p0] ++ List.replicate (5 - (lg_sl [.ref h0, .int 2, .int p0]).length) Slot.unset).toArray = ls at hl ⊢
  have hl : lv_has ls 5 [(0, .ref h0), (1, .int 2), (2, .int p0)] := hl
  refine lv_aload_n hx hb dX6_prune_0 rfl (lv_at hl 0 rfl) ?_
  refine lv_iload_n hx hb dX6_prune_1 rfl (lv_at hl 1 rfl) ?_
  refine lv_iconst (v := 2) hx hb dX6_prune_2 (by decide) ?_
  refine lv_aload_n hx hb dX6_prune_3 rfl (lv_at hl 0 rfl) ?_
  refine va_get (D := D) (ci := 8) (v := .int 2) (C := RX6) (T := TX6) (N := 11) hx hb hts wi_X6_prune_RX6 hown hK hP 0 rfl rfl 2 (by decide) (hts _ wd254_X6_prune) (fun _ h9 => h9) rfl dX6_prune_4 ?_
  refine vp_callSi (W.runS (As := [.int 2, .int 2, .int 2]) (rest := [.ref h0]) ⟨hx, hb, hml, hown, hts⟩ (k_X6_isIn_16 l D κ ε) (va_cwS 3 hts gX6_prune_X6_isIn rfl rfl rfl (by decide +kernel) ⟨(Nat.le_of_ble_eq_true rfl), (Nat.le_of_ble_eq_true rfl)⟩) (pre0_S (wc := []) hP hK [] rfl) rfl rfl hl.1 rfl (lv_room (Nat.le_of_ble_eq_true rfl)) dX6_prune_7 ⟨(Nat.le_of_ble_eq_true rfl), (Nat.le_of_ble_eq_true rfl)⟩) (fun r hw => ?_)
  rw [hw]
  refine lv_if_eq (tgt := 24) hx hb dX6_prune_10 (by decide) (fun h => absurd h (by decide)) (fun _ => ?_)
  refine lv_iload_n hx hb dX6_prune_13 rfl (lv_at hl 2 rfl) ?_
  refine lv_iconst (v := 1) hx hb dX6_prune_14 (by decide) ?_
  refine lv_sipush (v := 1000) hx hb dX6_prune_15 (by decide) ?_
  refine vp_callSi (W.runS (As := [.int p0, .int 1, .int 1000]) (rest := [.ref h0]) ⟨hx, hb, hml, hown, hts⟩ (k_X6_isIn_19 l D κ ε (p0) hf0 hf1) (va_cwS 3 hts gX6_prune_X6_isIn rfl rfl rfl (by decide +kernel) ⟨(Nat.le_of_ble_eq_true rfl), (Nat.le_of_ble_eq_true rfl)⟩) (pre0_S (wc := []) hP hK [] rfl) rfl rfl hl.1 rfl (lv_room (Nat.le_of_ble_eq_true rfl)) dX6_prune_18 ⟨(Nat.le_of_ble_eq_true rfl), (Nat.le_of_ble_eq_true rfl)⟩) (fun r hw => ?_)
  rw [hw]
  refine lv_if_ne (tgt := 28) hx hb dX6_prune_21 (by decide) (fun _ => ?_) (fun h => absurd h (by decide))
  refine lv_iconst (v := 0) hx hb dX6_prune_28 (by decide) ?_
  refine lv_iconst (v := 1) hx hb dX6_prune_29 (by decide) ?_
  have hF := va_free (wc := [(h0, .inr (8, [.int 0, .int 0, .int 2, .ref h1, .ref h2, .int 0, .int 500, .int 0, .int 0, .int 0, .ref h3]))]) hD hS hA [0] rfl
  refine va_calli (va_runV (As := [.int 0, .int 1]) (rest := []) ⟨hx, hb, hml, hown, hts⟩ (k_X6_start_0 l D κ ε h0 h1 h2 h3 s.heap.size (0) (2) (0) (500) (0) (0)) (cwV 2 hts gX6_prune_X6_start rfl rfl rfl (by decide +kernel) ⟨(Nat.le_of_ble_eq_true rfl), (Nat.le_of_ble_eq_true rfl)⟩) (pre2_V (q0 := 0) (ci := 8) (wc := [(h0, .inr (8, [.int 0, .int 0, .int 2, .ref h1, .ref h2, .int 0, .int 500, .int 0, .int 0, .int 0, .ref h3]))]) hP hD hK hE9 hS hA [0] (by decide) rfl rfl rfl) rfl rfl hl.1 rfl (lv_room (Nat.le_of_ble_eq_true rfl)) dX6_prune_30 ⟨(Nat.le_of_ble_eq_true rfl), (Nat.le_of_ble_eq_true rfl)⟩) hS (fun q _ h => hF q h) hF (fun r u1 t H locs ht hvm hw hB hz1 hk1 hS => ?_)
  try dsimp only at hw hB
  obtain ⟨hP1, hD1⟩ := hB
  rw [ht] at hP1
  obtain ⟨hP, hD⟩ := post_j (ws' := [(h0, .inr (8, [.int 0, .int 0, .int 2, .ref h1, .ref h2, .int 0, .int 500, .int 0, .int 0, .int 0, .ref h3])), (h2, .inl (κ 4, 4, .inr (.inr (.inr (.inr (sel [h4, h5, h6, h7])))))), (h5, .inl (κ 0, 196, .inl (fun _ => 0)))]) (wr := [(h2, .inl (κ 4, 4, .inr (.inr (.inr (.inr (sel [h4, h5, h6, h7])))))), (h5, .inl (κ 0, 196, .inl (fun _ => 0)))]) (w1 := [(h0, .inr (8, [.int 0, .int 0, .int 2, .ref h1, .ref h2, .int 0, .int 500, .int 0, .int 0, .int 0, .ref h3]))]) hP hD hF [0] rfl [1, 2] rfl (by decide) (by decide) hk1 hP1 hD1 [2, 0, 1] (by decide) rfl
  have hP : va_P D vwCl [(h0, .inr (8, [.int 0, .int 0, .int 2, .ref h1, .ref h2, .int 0, .int 500, .int 0, .int 0, .int 0, .ref h3])), (h2, .inl (κ 4, 4, .inr (.inr (.inr (.inr (sel [h4, h5, h6, h7])))))), (h5, .inl (κ 0, 196, .inl (fun _ => 0)))] H := hP
  have hD : va_D A [(h0, .inr (8, [.int 0, .int 0, .int 2, .ref h1, .ref h2, .int 0, .int 500, .int 0, .int 0, .int 0, .ref h3])), (h2, .inl (κ 4, 4, .inr (.inr (.inr (.inr (sel [h4, h5, h6, h7])))))), (h5, .inl (κ 0, 196, .inl (fun _ => 0)))] := hD
  rw [hw]
  refine lv_if_eq (tgt := 38) hx hb dX6_prune_33 (by decide) (fun _ => ?_) (fun h => absurd (by decide) h)
  refine lv_iconst (v := 0) hx hb dX6_prune_38 (by decide) ?_
  refine lv_istore_n (lv' := [(3, .int 0), (0, .ref h0), (1, .int 2), (2, .int p0)]) hx hb dX6_prune_39 rfl hl (by decide) rfl (fun ls hl => ?_)
  refine lv_iconst (v := 0) hx hb dX6_prune_40 (by decide) ?_
  refine lv_istore (lv' := [(4, .int 0), (3, .int 0), (0, .ref h0), (1, .int 2), (2, .int p0)]) hx hb dX6_prune_41 hl (by decide) rfl (fun ls hl => ?_)
  refine loop_up (Wp := fun ls => W p l e _ s m _ below meth c H _ _ _ _ (F0 m 43 ls [])) (N := 196) (lv := fun i => [(0, .ref h0), (1, .int 2), (2, .int p0), (3, .int 0), (4, .int (nI i))]) 0 (by decide) ?_ ?_ ls (lv_sub hl [2, 3, 4, 1, 0] rfl)
  · intro ls hl
    have hl : lv_has ls 5 [(0, .ref h0), (1, .int 2), (2, .int p0), (3, .int 0), (4, .int 196)] := hl
    refine lv_iload hx hb dX6_prune_43 (lv_at hl 4 rfl) ?_
    refine lv_aload_n hx hb dX6_prune_45 rfl (lv_at hl 0 rfl) ?_
    refine va_get (D := D) (ci := 8) (v := .ref h2) (C := RX6) (T := TX6) (N := 11) hx hb hts wi_X6_prune_RX6 hown hK hP 0 rfl rfl 4 (by decide) (hts _ wd255_X6_prune) (fun _ h9 => h9) rfl dX6_prune_46 ?_
    refine lv_iload_n hx hb dX6_prune_49 rfl (lv_at hl 1 rfl) ?_
    refine lv_iconst (v := 1) hx hb dX6_prune_50 (by decide) ?_
    refine lv_isub hx hb dX6_prune_51 ?_
    refine tpi (v := 1) (by decide) ?_
    refine ya_ld2 hx hb hK hP 1 rfl (vpl (by decide)) (v := .ref h5) rfl dX6_prune_52 ?_
    refine va_alen hx hb hK hP 2 0 rfl rfl (v := 196) (by decide) dX6_prune_53 ?_
    refine lv_icmp_ge (tgt := 110) hx hb dX6_prune_54 (by decide) (fun _ => ?_) (fun h => absurd (by decide) h)
    refine lv_iload_n hx hb dX6_prune_110 rfl (lv_at hl 3 rfl) ?_
    have hP9 := hP.sub (ws' := [(h0, .inr (8, [.int 0, .int 0, .int 2, .ref h1, .ref h2, .int 0, .int 500, .int 0, .int 0, .int 0, .ref h3]))]) [0] rfl
    have hD9 := hD.sub (ws' := [(h0, .inr (8, [.int 0, .int 0, .int 2, .ref h1, .ref h2, .int 0, .int 500, .int 0, .int 0, .int 0, .ref h3]))]) [0] (by decide) rfl
    exact W.iret (v := 0) hx hb hr (fun t ht hW => ⟨⟨0, [.int 0, .int 0, .int 2, .ref h1, .ref h2, .int 0, .int 500, .int 0, .int 0, .int 0, .ref h3], rfl, ⟨rfl, rfl⟩, by rw [ht]; exact hP9, hD9⟩, hS.F ht⟩) hS.2.2 dX6_prune_111
  · intro i2 hji2 hii2 ihi2 ls hl
    have hl : lv_has ls 5 [(0, .ref h0), (1, .int 2), (2, .int p0), (3, .int 0), (4, .int (nI i2))] := hl
    refine lv_iload hx hb dX6_prune_43 (lv_at hl 4 rfl) ?_
    refine lv_aload_n hx hb dX6_prune_45 rfl (lv_at hl 0 rfl) ?_
    refine va_get (D := D) (ci := 8) (v := .ref h2) (C := RX6) (T := TX6) (N := 11) hx hb hts wi_X6_prune_RX6 hown hK hP 0 rfl rfl 4 (by decide) (hts _ wd255_X6_prune) (fun _ h9 => h9) rfl dX6_prune_46 ?_
    refine lv_iload_n hx hb dX6_prune_49 rfl (lv_at hl 1 rfl) ?_
    refine lv_iconst (v := 1) hx hb dX6_prune_50 (by decide) ?_
    refine lv_isub hx hb dX6_prune_51 ?_
    refine tpi (v := 1) (by decide) ?_
    refine ya_ld2 hx hb hK hP 1 rfl (vpl (by decide)) (v := .ref h5) rfl dX6_prune_52 ?_
    refine va_alen hx hb hK hP 2 0 rfl rfl (v := 196) (by decide) dX6_prune_53 ?_
    refine lv_icmp_ge (tgt := 110) hx hb dX6_prune_54 (by decide) (fun h => absurd h (lp_nge (N := 196) rfl hii2 (by decide))) (fun _ => ?_)
    refine lv_aload_n hx hb dX6_prune_57 rfl (lv_at hl 0 rfl) ?_
    refine va_get (D := D) (ci := 8) (v := .ref h2) (C := RX6) (T := TX6) (N := 11) hx hb hts wi_X6_prune_RX6 hown hK hP 0 rfl rfl 4 (by decide) (hts _ wd255_X6_prune) (fun _ h9 => h9) rfl dX6_prune_58 ?_
    refine lv_iload_n hx hb dX6_prune_61 rfl (lv_at hl 1 rfl) ?_
    refine lv_iconst (v := 1) hx hb dX6_prune_62 (by decide) ?_
    refine lv_isub hx hb dX6_prune_63 ?_
    refine tpi (v := 1) (by decide) ?_
    refine ya_ld2 hx hb hK hP 1 rfl (vpl (by decide)) (v := .ref h5) rfl dX6_prune_64 ?_
    refine lv_iload hx hb dX6_prune_65 (lv_at hl 4 rfl) ?_
    refine va_iald (cA := κ 0) (n := 196) (f := (fun _ => 0)) hx hb hK hP 2 0 rfl rfl (vp_in_nI (Nat.lt_of_lt_of_le hii2 (by decide)) (by decide)) dX6_prune_67 ?_
    refine tpi (v := 0) rfl ?_
    refine lv_if_eq (tgt := 104) hx hb dX6_prune_68 (by decide) (fun _ => ?_) (fun h => absurd (by decide) h)
    refine lv_iinc (v := (nI (i2 + 1))) (lv' := [(4, .int (nI (i2 + 1))), (0, .ref h0), (1, .int 2), (2, .int p0), (3, .int 0)]) hx hb dX6_prune_104 hl (k := 4) rfl (nI_inc _) (by decide) rfl (fun ls hl => ?_)
    refine lv_goto (tgt := 43) hx hb dX6_prune_107 (by decide) ?_
    exact ihi2 _ (lv_sub hl [1, 2, 3, 4, 0] rfl)

theorem iv11 (x : Int32) (h0 : ¬ x = 2) (h1 : ¬ x < 2) : 2 < x := by
  have e0 : (2 : Int32).toInt = 2 := by decide
  simp only [Int32.lt_iff_toInt_lt, Int32.le_iff_toInt_le, ← Int32.toInt_inj, e0] at *
  omega

set_option maxHeartbeats 4000000 in
set_option maxRecDepth 100000 in
theorem k_X5_prune_1 (l : Launch) (hst : l.stackTraces = false) (D : va_G) (κ ε : Nat → Nat) (h0 h1 h2 h3 h4 h5 h6 h7 h8 : Nat) (sz : Nat) (p0 : Int32) (p1 : Int32) (hf0 : ¬ p0 = 2) : vx_Met l yX5_prune wsX5_prune ({ frames := 6, cells := 1, slots := 6, locals := 120 }) (va_Pc [.ref h0, .int p0, .int p1] (Pre2 D κ ε [(h0, .inr (7, [.ref h1, .ref h2, .ref h3, .ref h4, .ref h5, .ref h6, .int 0, .int 0, .int 0, .int 0])), (h1, .inr (2, [.int 0, .int 2, .ref h7, .ref h8]))] sz)) (va_Qi (fun r (u : Unit) => False) (fun _ _ => True) (va_A [(h0, .inr (7, [.ref h1, .ref h2, .ref h3, .ref h4, .ref h5, .ref h6, .int 0, .int 0, .int 0, .int 0])), (h1, .inr (2, [.int 0, .int 2, .ref h7, .ref h8]))] sz)) (vx_X (fun _ : Unit => True) (fun E _ _ => ((p0 < 2) ∧ E = "java/lang/IllegalArgumentException") ∨ ((¬ p0 < 2) ∧ E = "java/lang/IllegalArgumentException")) (va_A [(h0, .inr (7, [.ref h1, .ref h2, .ref h3, .ref h4, .ref h5, .ref h6, .int 0, .int 0, .int 0, .int 0])), (h1, .inr (2, [.int 0, .int 2, .ref h7, .ref h8]))] sz)) 1 6 (va_A [(h0, .inr (7, [.ref h1, .ref h2, .ref h3, .ref h4, .ref h5, .ref h6, .int 0, .int 0, .int 0, .int 0])), (h1, .inr (2, [.int 0, .int 2, .ref h7, .ref h8]))] sz) := by
  refine vx_ofW (cc := cX5_prune) (maxL := 5) (ret := (some .int)) (by decide) rfl ?_
  intro p e s m args below meth c s₁ B hml hnx hv
  obtain ⟨rfl, hsz, hP, hK, hD0, hE9⟩ := hv
  have hx := B.exec
  have hb := B.bytes
  have hr := B.returns
  have hts := atoms_spec (ws := wsX5_prune) B.pre
  have hown : s.vm.findClass RX5 = some m.cls := findClass_of_methodNamed B.named
  have hlocks := B.notSynchronized
  subst hsz
  have hD := hD0.self (sz := s.heap.size)
  generalize hAe : va_A [(h0, .inr (7, [.ref h1, .ref h2, .ref h3, .ref h4, .ref h5, .ref h6, .int 0, .int 0, .int 0, .int 0])), (h1, .inr (2, [.int 0, .int 2, .ref h7, .ref h8]))] s.heap.size = A at hD hE9 ⊢
  have hE := hE9.1
  have hDc := hE9.2
  have hA : ∀ q : Nat, s.heap.size ≤ q → A q := fun q h => by rw [← hAe]; exact Or.inr h
  have hS : va_S A s.heap s.heap [] := va_S.rf
  have hP : va_P D vwCl [(h0, .inr (7, [.ref h1, .ref h2, .ref h3, .ref h4, .ref h5, .ref h6, .int 0, .int 0, .int 0, .int 0])), (h1, .inr (2, [.int 0, .int 2, .ref h7, .ref h8]))] s.heap := hP
  have hl := lv_entry [.ref h0, .int p0, .int p1] (n := 5) (Nat.le_of_ble_eq_true rfl)
  rw [lg_entry_eq]
  generalize (lg_sl [.ref h0, .int p0, .int p1] ++ List.replicate (5 - (lg_sl [.ref h0, .int p0, .int p1]).length) Slot.unset).toArray = ls at hl ⊢
  have hl : lv_has ls 5 [(0, .ref h0), (1, .int p0), (2, .int p1)] := hl
  refine lv_iload_n hx hb dX5_prune_0 rfl (lv_at hl 1 rfl) ?_
  refine lv_iconst (v := 2) hx hb dX5_prune_1 (by decide) ?_
  refine lv_icmp_lt (tgt := 28) hx hb dX5_prune_2 (by decide) (fun c1 => ?_) (fun c1 => ?_)
  · skip
    exact vx_throwS (names := ["java/lang/RuntimeException", "java/lang/Exception"]) (sa := ε 23) hx hb hst hown (by decide +kernel) (by decide +kernel) (hts _ wd250_X5_prune) (hts _ wd251_X5_prune) (hE.2.2.2.2.2.2.1 _ (List.mem_of_getElem? (i := 13) rfl)) (vx_hat (B := [.castable "java/lang/IllegalArgumentException" "java/lang/IllegalArgumentException", .declares (Bundle.initS "java/lang/RuntimeException"), .declares (Bundle.initS "java/lang/Exception"), .declares (Bundle.initS "java/lang/Throwable")]) (fun w hw => hts w (at1_X5_prune_82 w hw)) at2_RX5_82 (vx_c (va_Nw.use rfl hE.2.2.2.2.2.2.2.2.2.2.2.2.2.2.1) (vx_c (va_Nw.use rfl hDc.1) (vx_c (va_Nw.use rfl hDc.2.1) (vx_c (va_Nw.use rfl hDc.2.2) vx_n))))) at2_RX5_82g hE.1 hE.2.1 hS (by rw [hml]; exact hl.1) dX5_prune_28 dX5_prune_31 dX5_prune_32 dX5_prune_34 dX5_prune_37 (fun x hx => (hnx x hx).elim) (by decide) (by decide) (Nat.le_of_ble_eq_true rfl) (Nat.le_of_ble_eq_true rfl) hlocks (fun t _ h1 h2 => ⟨(), trivial, (Or.inl ⟨c1, rfl⟩), thF (H0 := s.heap) hS h1 h2⟩) hS.2.2 (Nat.le_of_ble_eq_true rfl) (Nat.le_of_ble_eq_true rfl)
  · skip
    refine lv_iload_n hx hb dX5_prune_5 rfl (lv_at hl 1 rfl) ?_
    refine lv_aload_n hx hb dX5_prune_6 rfl (lv_at hl 0 rfl) ?_
    refine va_get (D := D) (ci := 7) (v := .ref h1) (C := RX5) (T := TX5) (N := 10) hx hb hts wi_X5_prune_RX5 hown hK hP 0 rfl rfl 0 (by decide) (hts _ wd248_X5_prune) (fun _ h9 => h9) rfl dX5_prune_7 ?_
    refine va_get (D := D) (ci := 2) (v := .int 2) (C := RX0) (T := TX0) (N := 4) hx hb hts wi_X5_prune_RX0 hown hK hP 1 rfl rfl 1 (by decide) (hts _ wd249_X5_prune) (fun _ h9 => h9) rfl dX5_prune_10 ?_
    refine lv_icmp_gt (tgt := 28) hx hb dX5_prune_13 (by decide) (fun _ => ?_) (fun h => absurd (iv11 _ hf0 c1) h)
    exact vx_throwS (names := ["java/lang/RuntimeException", "java/lang/Exception"]) (sa := ε 23) hx hb hst hown (by decide +kernel) (by decide +kernel) (hts _ wd250_X5_prune) (hts _ wd251_X5_prune) (hE.2.2.2.2.2.2.1 _ (List.mem_of_getElem? (i := 13) rfl)) (vx_hat (B := [.castable "java/lang/IllegalArgumentException" "java/lang/IllegalArgumentException", .declares (Bundle.initS "java/lang/RuntimeException"), .declares (Bundle.initS "java/lang/Exception"), .declares (Bundle.initS "java/lang/Throwable")]) (fun w hw => hts w (at1_X5_prune_82 w hw)) at2_RX5_82 (vx_c (va_Nw.use rfl hE.2.2.2.2.2.2.2.2.2.2.2.2.2.2.1) (vx_c (va_Nw.use rfl hDc.1) (vx_c (va_Nw.use rfl hDc.2.1) (vx_c (va_Nw.use rfl hDc.2.2) vx_n))))) at2_RX5_82g hE.1 hE.2.1 hS (by rw [hml]; exact hl.1) dX5_prune_28 dX5_prune_31 dX5_prune_32 dX5_prune_34 dX5_prune_37 (fun x hx => (hnx x hx).elim) (by decide) (by decide) (Nat.le_of_ble_eq_true rfl) (Nat.le_of_ble_eq_true rfl) hlocks (fun t _ h1 h2 => ⟨(), trivial, (Or.inr ⟨c1, rfl⟩), thF (H0 := s.heap) hS h1 h2⟩) hS.2.2 (Nat.le_of_ble_eq_true rfl) (Nat.le_of_ble_eq_true rfl)

set_option maxHeartbeats 4000000 in
set_option maxRecDepth 100000 in
theorem k_L_prune_1 (l : Launch) (hst : l.stackTraces = false) (D : va_G) (κ ε : Nat → Nat) (h0 h1 h2 h3 h4 h5 h6 h7 h8 h9 : Nat) (sz : Nat) (p0 : Int32) (p1 : Int32) (hf0 : ¬ p0 = 2) : Met l yL_prune wsL_prune ({ frames := 7, cells := 1, slots := 6, locals := 144 }) (va_Pc [.ref h0, .int p0, .int p1, .ref h1] (Pre2 D κ ε [(h0, .inr (7, [.ref h2, .ref h3, .ref h4, .ref h5, .ref h6, .ref h7, .int 0, .int 0, .int 0, .int 0])), (h1, .inl (κ 2, 1, .inr (.inl (fun _ => 0)))), (h2, .inr (2, [.int 0, .int 2, .ref h8, .ref h9]))] sz)) (va_Qi (fun r (u : Nat → Int64) => ((p0 < 2) ∧ (r = 1)) ∨ ((¬ p0 < 2) ∧ (r = 1))) (fun u t => va_P D vwCl [(h1, .inl (κ 2, 1, .inr (.inl u)))] t.heap ∧ va_D (va_A [(h0, .inr (7, [.ref h2, .ref h3, .ref h4, .ref h5, .ref h6, .ref h7, .int 0, .int 0, .int 0, .int 0])), (h1, .inl (κ 2, 1, .inr (.inl (fun _ => 0)))), (h2, .inr (2, [.int 0, .int 2, .ref h8, .ref h9]))] sz) [(h1, .inl (κ 2, 1, .inr (.inl u)))]) (va_A [(h0, .inr (7, [.ref h2, .ref h3, .ref h4, .ref h5, .ref h6, .ref h7, .int 0, .int 0, .int 0, .int 0])), (h1, .inl (κ 2, 1, .inr (.inl (fun _ => 0)))), (h2, .inr (2, [.int 0, .int 2, .ref h8, .ref h9]))] sz)) 1 6 (va_A [(h0, .inr (7, [.ref h2, .ref h3, .ref h4, .ref h5, .ref h6, .ref h7, .int 0, .int 0, .int 0, .int 0])), (h1, .inl (κ 2, 1, .inr (.inl (fun _ => 0)))), (h2, .inr (2, [.int 0, .int 2, .ref h8, .ref h9]))] sz) := by
  refine va_MetW (cc := cL_prune) (maxL := 5) (ret := (some .int)) (hh := [(0, 10, 13, 19)]) (by decide) rfl ?_
  intro p e s m args below meth c s₁ B hml hv
  obtain ⟨rfl, hsz, hP, hK, hD0, hE9⟩ := hv
  have hx := B.exec
  have hb := B.bytes
  have hr := B.returns
  have hts := atoms_spec (ws := wsL_prune) B.pre
  have hown : s.vm.findClass RL = some m.cls := findClass_of_methodNamed B.named
  have hlocks := B.notSynchronized
  have htab : c.exceptionTable.toList = tableOf [(0, 10, 13, 19)] := vx_table (x := yL_prune) B (hts (.codeWith yL_prune cL_prune 5 (some .int) [(0, 10, 13, 19)]) List.mem_cons_self)
  subst hsz
  have hD := hD0.self (sz := s.heap.size)
  generalize hAe : va_A [(h0, .inr (7, [.ref h2, .ref h3, .ref h4, .ref h5, .ref h6, .ref h7, .int 0, .int 0, .int 0, .int 0])), (h1, .inl (κ 2, 1, .inr (.inl (fun _ => 0)))), (h2, .inr (2, [.int 0, .int 2, .ref h8, .ref h9]))] s.heap.size = A at hD hE9 ⊢
  have hE := hE9.1
  have hDc := hE9.2
  have hA : ∀ q : Nat, s.heap.size ≤ q → A q := fun q h => by rw [← hAe]; exact Or.inr h
  have hS : va_S A s.heap s.heap [] := va_S.rf
  have hP : va_P D vwCl [(h0, .inr (7, [.ref h2, .ref h3, .ref h4, .ref h5, .ref h6, .ref h7, .int 0, .int 0, .int 0, .int 0])), (h1, .inl (κ 2, 1, .inr (.inl (fun _ => 0)))), (h2, .inr (2, [.int 0, .int 2, .ref h8, .ref h9]))] s.heap := hP
  have hl := lv_entry [.ref h0, .int p0, .int p1, .ref h1] (n := 5) (Nat.le_of_ble_eq_true rfl)
  rw [lg_entry_eq]
  generalize (lg_sl [.ref h0, .int p0, .int p1, .ref h1] ++ List.replicate (5 - (lg_sl [.ref h0, .int p0, .int p1, .ref h1]).length) Slot.unset).toArray = ls at hl ⊢
  have hl : lv_has ls 5 [(0, .ref h0), (1, .int p0), (2, .int p1), (3, .ref h1)] := hl
  refine lv_aload_n hx hb dL_prune_0 rfl (lv_at hl 3 rfl) ?_
  refine lv_iconst (v := 0) hx hb dL_prune_1 (by decide) ?_
  refine lv_aload_n hx hb dL_prune_2 rfl (lv_at hl 0 rfl) ?_
  refine lv_iload_n hx hb dL_prune_3 rfl (lv_at hl 1 rfl) ?_
  refine lv_iload_n hx hb dL_prune_4 rfl (lv_at hl 2 rfl) ?_
  have hF := va_free (wc := [(h0, .inr (7, [.ref h2, .ref h3, .ref h4, .ref h5, .ref h6, .ref h7, .int 0, .int 0, .int 0, .int 0])), (h2, .inr (2, [.int 0, .int 2, .ref h8, .ref h9]))]) hD hS hA [0, 2] rfl
  refine vx_calli (vx_runV (As := [.int p0, .int p1]) (rest := [.int 0, .ref h1]) ⟨hx, hb, hml, hown, hts⟩ (k_X5_prune_1 l hst D κ ε h0 h2 h3 h4 h5 h6 h7 h8 h9 s.heap.size (p0) (p1) hf0) (cwV 2 hts gL_prune_X5_prune rfl rfl rfl (by decide +kernel) ⟨(Nat.le_of_ble_eq_true rfl), (Nat.le_of_ble_eq_true rfl)⟩) (pre2_V (q0 := 0) (ci := 7) (wc := [(h0, .inr (7, [.ref h2, .ref h3, .ref h4, .ref h5, .ref h6, .ref h7, .int 0, .int 0, .int 0, .int 0])), (h2, .inr (2, [.int 0, .int 2, .ref h8, .ref h9]))]) hP hD hK hE9 hS hA [0, 2] (by decide) rfl rfl rfl) rfl rfl hl.1 rfl (lv_room (Nat.le_of_ble_eq_true rfl)) dL_prune_5 ⟨(Nat.le_of_ble_eq_true rfl), (Nat.le_of_ble_eq_true rfl)⟩) hS (fun q _ h => hF q h) hF (fun q _ h => hF q h) (fun E9 ce q9 u t H locs ht hvm hw hB hz1 hk1 hS hce hcv hcl => ?_) (fun r u t H locs ht hvm hw hB hz1 hk1 hS => ?_)
  · try dsimp only at hB
    have hP1 : va_P D vwCl [] H := P_nil
    obtain ⟨hP, hD⟩ := post_j (ws' := [(h1, .inl (κ 2, 1, .inr (.inl (fun _ => 0))))]) (wr := [(h1, .inl (κ 2, 1, .inr (.inl (fun _ => 0))))]) (w1 := []) hP hD hF [0, 2] rfl [1] rfl (by decide) (by decide) hk1 hP1 D_nil [0] (by decide) rfl
    have hP : va_P D vwCl [(h1, .inl (κ 2, 1, .inr (.inl (fun _ => 0))))] H := hP
    have hD : va_D A [(h1, .inl (κ 2, 1, .inr (.inl (fun _ => 0))))] := hD
    rcases hB with ⟨c2, rfl⟩ | ⟨c3, rfl⟩
    · skip
      refine vx_catch (name := "java/lang/IllegalArgumentException") hown [] ⟨0, 10, 13, 19⟩ [] (htab.trans rfl) (fun z hz => nomatch hz) (by decide) (by decide) (hts _ wd253_L_prune) (va_Nw.use rfl hE.2.2.2.2.2.2.2.2.2.2.2.2.2.2.1) hce hcv hcl ?_
      refine lv_astore (lv' := [(4, .ref q9), (0, .ref h0), (1, .int p0), (2, .int p1), (3, .ref h1)]) hx hb dL_prune_13 hl (by decide) rfl (fun ls hl => ?_)
      refine lv_iconst (v := 1) hx hb dL_prune_15 (by decide) ?_
      have hP9 := hP.sub (ws' := [(h1, .inl (κ 2, 1, .inr (.inl (fun _ => 0))))]) [0] rfl
      have hD9 := hD.sub (ws' := [(h1, .inl (κ 2, 1, .inr (.inl (fun _ => 0))))]) [0] (by decide) rfl
      refine W.widen (k := 1) (n := 6) (Nat.le_of_ble_eq_true rfl) (Nat.le_of_ble_eq_true rfl) ?_
      exact W.iret (v := 1) hx hb hr (fun t ht hW => ⟨⟨1, (fun _ => 0), rfl, (Or.inl ⟨c2, rfl⟩), by rw [ht]; exact hP9, hD9⟩, hS.F ht⟩) hS.2.2 dL_prune_16
    · skip
      refine vx_catch (name := "java/lang/IllegalArgumentException") hown [] ⟨0, 10, 13, 19⟩ [] (htab.trans rfl) (fun z hz => nomatch hz) (by decide) (by decide) (hts _ wd253_L_prune) (va_Nw.use rfl hE.2.2.2.2.2.2.2.2.2.2.2.2.2.2.1) hce hcv hcl ?_
      refine lv_astore (lv' := [(4, .ref q9), (0, .ref h0), (1, .int p0), (2, .int p1), (3, .ref h1)]) hx hb dL_prune_13 hl (by decide) rfl (fun ls hl => ?_)
      refine lv_iconst (v := 1) hx hb dL_prune_15 (by decide) ?_
      have hP9 := hP.sub (ws' := [(h1, .inl (κ 2, 1, .inr (.inl (fun _ => 0))))]) [0] rfl
      have hD9 := hD.sub (ws' := [(h1, .inl (κ 2, 1, .inr (.inl (fun _ => 0))))]) [0] (by decide) rfl
      refine W.widen (k := 1) (n := 6) (Nat.le_of_ble_eq_true rfl) (Nat.le_of_ble_eq_true rfl) ?_
      exact W.iret (v := 1) hx hb hr (fun t ht hW => ⟨⟨1, (fun _ => 0), rfl, (Or.inr ⟨c3, rfl⟩), by rw [ht]; exact hP9, hD9⟩, hS.F ht⟩) hS.2.2 dL_prune_16
  · exact False.elim hw

set_option maxHeartbeats 4000000 in
set_option maxRecDepth 100000 in
theorem k_X6_isIn_20 (l : Launch) (D : va_G) (κ ε : Nat → Nat) (p0 : Int32) (hf0 : p0 < 2) : Met l yX6_isIn wsX6_isIn ({ frames := 0, cells := 0, slots := 0, locals := 0 }) (va_Pc [.int p0, .int 2, .int 2] (Pre0 D κ [])) (vp_Si (fun r => (r = 0))) 0 0 (fun _ => False) := by
  refine Met.ofW (cc := cX6_isIn) (maxL := 3) (ret := (some .boolean)) (by decide) rfl ?_
  intro p e s m args below meth c s₁ B hml hv
  obtain ⟨rfl, hP, hK⟩ := hv
  have hx := B.exec
  have hb := B.bytes
  have hr := B.returns
  have hts := atoms_spec (ws := wsX6_isIn) B.pre
  have hown : s.vm.findClass RX6 = some m.cls := findClass_of_methodNamed B.named
  have hlocks := B.notSynchronized
  have hP : va_P D vwCl [] s.heap := hP
  have hl := lv_entry [.int p0, .int 2, .int 2] (n := 3) (Nat.le_of_ble_eq_true rfl)
  rw [lg_entry_eq]
  generalize (lg_sl [.int p0, .int 2, .int 2] ++ List.replicate (3 - (lg_sl [.int p0, .int 2, .int 2]).length) Slot.unset).toArray = ls at hl ⊢
  have hl : lv_has ls 3 [(0, .int p0), (1, .int 2), (2, .int 2)] := hl
  refine lv_iload_n hx hb dX6_isIn_0 rfl (lv_at hl 0 rfl) ?_
  refine lv_iload_n hx hb dX6_isIn_1 rfl (lv_at hl 1 rfl) ?_
  refine lv_icmp_lt (tgt := 14) hx hb dX6_isIn_2 (by decide) (fun _ => ?_) (fun h => absurd hf0 h)
  refine lv_iconst (v := 0) hx hb dX6_isIn_14 (by decide) ?_
  exact W.zret (v := 0) hx hb hr rfl (fun t ht hW => ⟨0, rfl, rfl, ht⟩) (fun q hq => absurd hq List.not_mem_nil) dX6_isIn_15

set_option maxHeartbeats 4000000 in
set_option maxRecDepth 100000 in
theorem k_X6_prune_3 (l : Launch) (D : va_G) (κ ε : Nat → Nat) (h0 h1 h2 h3 : Nat) (sz : Nat) (p0 : Int32) (p1 : Int32) (hf0 : p0 < 2) : Met l yX6_prune wsX6_prune ({ frames := 2, cells := 0, slots := 0, locals := 44 }) (va_Pc [.ref h0, .int p0, .int p1] (Pre2 D κ ε [(h0, .inr (8, [.int 0, .int 0, .int 2, .ref h1, .ref h2, .int 0, .int 500, .int 0, .int 0, .int 0, .ref h3]))] sz)) (va_Qi (fun r (u : List Value) => (u[0]? = some (.int 1)) ∧ (r = 0)) (fun u t => va_P D vwCl [(h0, .inr (8, u))] t.heap ∧ va_D (va_A [(h0, .inr (8, [.int 0, .int 0, .int 2, .ref h1, .ref h2, .int 0, .int 500, .int 0, .int 0, .int 0, .ref h3]))] sz) [(h0, .inr (8, u))]) (va_A [(h0, .inr (8, [.int 0, .int 0, .int 2, .ref h1, .ref h2, .int 0, .int 500, .int 0, .int 0, .int 0, .ref h3]))] sz)) 0 0 (va_A [(h0, .inr (8, [.int 0, .int 0, .int 2, .ref h1, .ref h2, .int 0, .int 500, .int 0, .int 0, .int 0, .ref h3]))] sz) := by
  refine Met.ofW (cc := cX6_prune) (maxL := 5) (ret := (some .int)) (by decide) rfl ?_
  intro p e s m args below meth c s₁ B hml hv
  obtain ⟨rfl, hsz, hP, hK, hD0, hE9⟩ := hv
  have hx := B.exec
  have hb := B.bytes
  have hr := B.returns
  have hts := atoms_spec (ws := wsX6_prune) B.pre
  have hown : s.vm.findClass RX6 = some m.cls := findClass_of_methodNamed B.named
  have hlocks := B.notSynchronized
  subst hsz
  have hD := hD0.self (sz := s.heap.size)
  generalize hAe : va_A [(h0, .inr (8, [.int 0, .int 0, .int 2, .ref h1, .ref h2, .int 0, .int 500, .int 0, .int 0, .int 0, .ref h3]))] s.heap.size = A at hD hE9 ⊢
  have hE := hE9.1
  have hDc := hE9.2
  have hA : ∀ q : Nat, s.heap.size ≤ q → A q := fun q h => by rw [← hAe]; exact Or.inr h
  have hS : va_S A s.heap s.heap [] := va_S.rf
  have hP : va_P D vwCl [(h0, .inr (8, [.int 0, .int 0, .int 2, .ref h1, .ref h2, .int 0, .int 500, .int 0, .int 0, .int 0, .ref h3]))] s.heap := hP
  have hl := lv_entry [.ref h0, .int p0, .int p1] (n := 5) (Nat.le_of_ble_eq_true rfl)
  rw [lg_entry_eq]
  generalize (lg_sl [.ref h0, .int p0, .int p1] ++ List.replicate (5 - (lg_sl [.ref h0, .int p0, .int p1]).length) Slot.unset).toArray = ls at hl ⊢
  have hl : lv_has ls 5 [(0, .ref h0), (1, .int p0), (2, .int p1)] := hl
  refine lv_aload_n hx hb dX6_prune_0 rfl (lv_at hl 0 rfl) ?_
  refine lv_iload_n hx hb dX6_prune_1 rfl (lv_at hl 1 rfl) ?_
  refine lv_iconst (v := 2) hx hb dX6_prune_2 (by decide) ?_
  refine lv_aload_n hx hb dX6_prune_3 rfl (lv_at hl 0 rfl) ?_
  refine va_get (D := D) (ci := 8) (v := .int 2) (C := RX6) (T := TX6) (N := 11) hx hb hts wi_X6_prune_RX6 hown hK hP 0 rfl rfl 2 (by decide) (hts _ wd254_X6_prune) (fun _ h9 => h9) rfl dX6_prune_4 ?_
  refine vp_callSi (W.runS (As := [.int p0, .int 2, .int 2]) (rest := [.ref h0]) ⟨hx, hb, hml, hown, hts⟩ (k_X6_isIn_20 l D κ ε (p0) hf0) (va_cwS 3 hts gX6_prune_X6_isIn rfl rfl rfl (by decide +kernel) ⟨(Nat.le_of_ble_eq_true rfl), (Nat.le_of_ble_eq_true rfl)⟩) (pre0_S (wc := []) hP hK [] rfl) rfl rfl hl.1 rfl (lv_room (Nat.le_of_ble_eq_true rfl)) dX6_prune_7 ⟨(Nat.le_of_ble_eq_true rfl), (Nat.le_of_ble_eq_true rfl)⟩) (fun r hw => ?_)
  rw [hw]
  refine lv_if_eq (tgt := 24) hx hb dX6_prune_10 (by decide) (fun _ => ?_) (fun h => absurd (by decide) h)
  refine lv_iconst (v := 1) hx hb dX6_prune_24 (by decide) ?_
  refine lv_goto (tgt := 29) hx hb dX6_prune_25 (by decide) ?_
  refine lv_iconst (v := 1) hx hb dX6_prune_29 (by decide) ?_
  have hF := va_free (wc := [(h0, .inr (8, [.int 0, .int 0, .int 2, .ref h1, .ref h2, .int 0, .int 500, .int 0, .int 0, .int 0, .ref h3]))]) hD hS hA [0] rfl
  refine va_calli (va_runV (As := [.int 1, .int 1]) (rest := []) ⟨hx, hb, hml, hown, hts⟩ (k_X6_start_1 l D κ ε h0 h1 h2 h3 s.heap.size (0) (2) (0) (500) (0) (0)) (cwV 2 hts gX6_prune_X6_start rfl rfl rfl (by decide +kernel) ⟨(Nat.le_of_ble_eq_true rfl), (Nat.le_of_ble_eq_true rfl)⟩) (pre2_V (q0 := 0) (ci := 8) (wc := [(h0, .inr (8, [.int 0, .int 0, .int 2, .ref h1, .ref h2, .int 0, .int 500, .int 0, .int 0, .int 0, .ref h3]))]) hP hD hK hE9 hS hA [0] (by decide) rfl rfl rfl) rfl rfl hl.1 rfl (lv_room (Nat.le_of_ble_eq_true rfl)) dX6_prune_30 ⟨(Nat.le_of_ble_eq_true rfl), (Nat.le_of_ble_eq_true rfl)⟩) hS (fun q _ h => hF q h) hF (fun r u1 t H locs ht hvm hw hB hz1 hk1 hS => ?_)
  try dsimp only at hw hB
  obtain ⟨hP1, hD1⟩ := hB
  rw [ht] at hP1
  obtain ⟨hP, hD⟩ := post_j (ws' := [(h0, .inr (8, [.int 1, .int 0, .int 2, .ref h1, .ref h2, .int 0, .int 500, .int 0, .int 0, .int 0, .ref h3]))]) (wr := []) (w1 := [(h0, .inr (8, [.int 1, .int 0, .int 2, .ref h1, .ref h2, .int 0, .int 500, .int 0, .int 0, .int 0, .ref h3]))]) hP hD hF [0] rfl [] rfl (by decide) (by decide) hk1 hP1 hD1 [0] (by decide) rfl
  have hP : va_P D vwCl [(h0, .inr (8, [.int 1, .int 0, .int 2, .ref h1, .ref h2, .int 0, .int 500, .int 0, .int 0, .int 0, .ref h3]))] H := hP
  have hD : va_D A [(h0, .inr (8, [.int 1, .int 0, .int 2, .ref h1, .ref h2, .int 0, .int 500, .int 0, .int 0, .int 0, .ref h3]))] := hD
  rw [hw]
  refine lv_if_eq (tgt := 38) hx hb dX6_prune_33 (by decide) (fun h => absurd h (by decide)) (fun _ => ?_)
  refine lv_iconst (v := 0) hx hb dX6_prune_36 (by decide) ?_
  have hP9 := hP.sub (ws' := [(h0, .inr (8, [.int 1, .int 0, .int 2, .ref h1, .ref h2, .int 0, .int 500, .int 0, .int 0, .int 0, .ref h3]))]) [0] rfl
  have hD9 := hD.sub (ws' := [(h0, .inr (8, [.int 1, .int 0, .int 2, .ref h1, .ref h2, .int 0, .int 500, .int 0, .int 0, .int 0, .ref h3]))]) [0] (by decide) rfl
  exact W.iret (v := 0) hx hb hr (fun t ht hW => ⟨⟨0, [.int 1, .int 0, .int 2, .ref h1, .ref h2, .int 0, .int 500, .int 0, .int 0, .int 0, .ref h3], rfl, ⟨rfl, rfl⟩, by rw [ht]; exact hP9, hD9⟩, hS.F ht⟩) hS.2.2 dX6_prune_37

set_option maxHeartbeats 4000000 in
set_option maxRecDepth 100000 in
theorem k_X6_isIn_21 (l : Launch) (D : va_G) (κ ε : Nat → Nat) (p0 : Int32) (hf0 : ¬ p0 = 2) (hf1 : ¬ p0 < 2) : Met l yX6_isIn wsX6_isIn ({ frames := 0, cells := 0, slots := 0, locals := 0 }) (va_Pc [.int p0, .int 2, .int 2] (Pre0 D κ [])) (vp_Si (fun r => (r = 0))) 0 0 (fun _ => False) := by
  refine Met.ofW (cc := cX6_isIn) (maxL := 3) (ret := (some .boolean)) (by decide) rfl ?_
  intro p e s m args below meth c s₁ B hml hv
  obtain ⟨rfl, hP, hK⟩ := hv
  have hx := B.exec
  have hb := B.bytes
  have hr := B.returns
  have hts := atoms_spec (ws := wsX6_isIn) B.pre
  have hown : s.vm.findClass RX6 = some m.cls := findClass_of_methodNamed B.named
  have hlocks := B.notSynchronized
  have hP : va_P D vwCl [] s.heap := hP
  have hl := lv_entry [.int p0, .int 2, .int 2] (n := 3) (Nat.le_of_ble_eq_true rfl)
  rw [lg_entry_eq]
  generalize (lg_sl [.int p0, .int 2, .int 2] ++ List.replicate (3 - (lg_sl [.int p0, .int 2, .int 2]).length) Slot.unset).toArray = ls at hl ⊢
  have hl : lv_has ls 3 [(0, .int p0), (1, .int 2), (2, .int 2)] := hl
  refine lv_iload_n hx hb dX6_isIn_0 rfl (lv_at hl 0 rfl) ?_
  refine lv_iload_n hx hb dX6_isIn_1 rfl (lv_at hl 1 rfl) ?_
  refine lv_icmp_lt (tgt := 14) hx hb dX6_isIn_2 (by decide) (fun h => absurd h hf1) (fun _ => ?_)
  refine lv_iload_n hx hb dX6_isIn_5 rfl (lv_at hl 0 rfl) ?_
  refine lv_iload_n hx hb dX6_isIn_6 rfl (lv_at hl 2 rfl) ?_
  refine lv_icmp_gt (tgt := 14) hx hb dX6_isIn_7 (by decide) (fun _ => ?_) (fun h => absurd (iv11 _ hf0 hf1) h)
  refine lv_iconst (v := 0) hx hb dX6_isIn_14 (by decide) ?_
  exact W.zret (v := 0) hx hb hr rfl (fun t ht hW => ⟨0, rfl, rfl, ht⟩) (fun q hq => absurd hq List.not_mem_nil) dX6_isIn_15

set_option maxHeartbeats 4000000 in
set_option maxRecDepth 100000 in
theorem k_X6_prune_4 (l : Launch) (D : va_G) (κ ε : Nat → Nat) (h0 h1 h2 h3 : Nat) (sz : Nat) (p0 : Int32) (p1 : Int32) (hf0 : ¬ p0 = 2) (hf1 : ¬ p0 < 2) : Met l yX6_prune wsX6_prune ({ frames := 2, cells := 0, slots := 0, locals := 44 }) (va_Pc [.ref h0, .int p0, .int p1] (Pre2 D κ ε [(h0, .inr (8, [.int 0, .int 0, .int 2, .ref h1, .ref h2, .int 0, .int 500, .int 0, .int 0, .int 0, .ref h3]))] sz)) (va_Qi (fun r (u : List Value) => (u[0]? = some (.int 1)) ∧ (r = 0)) (fun u t => va_P D vwCl [(h0, .inr (8, u))] t.heap ∧ va_D (va_A [(h0, .inr (8, [.int 0, .int 0, .int 2, .ref h1, .ref h2, .int 0, .int 500, .int 0, .int 0, .int 0, .ref h3]))] sz) [(h0, .inr (8, u))]) (va_A [(h0, .inr (8, [.int 0, .int 0, .int 2, .ref h1, .ref h2, .int 0, .int 500, .int 0, .int 0, .int 0, .ref h3]))] sz)) 0 0 (va_A [(h0, .inr (8, [.int 0, .int 0, .int 2, .ref h1, .ref h2, .int 0, .int 500, .int 0, .int 0, .int 0, .ref h3]))] sz) := by
  refine Met.ofW (cc := cX6_prune) (maxL := 5) (ret := (some .int)) (by decide) rfl ?_
  intro p e s m args below meth c s₁ B hml hv
  obtain ⟨rfl, hsz, hP, hK, hD0, hE9⟩ := hv
  have hx := B.exec
  have hb := B.bytes
  have hr := B.returns
  have hts := atoms_spec (ws := wsX6_prune) B.pre
  have hown : s.vm.findClass RX6 = some m.cls := findClass_of_methodNamed B.named
  have hlocks := B.notSynchronized
  subst hsz
  have hD := hD0.self (sz := s.heap.size)
  generalize hAe : va_A [(h0, .inr (8, [.int 0, .int 0, .int 2, .ref h1, .ref h2, .int 0, .int 500, .int 0, .int 0, .int 0, .ref h3]))] s.heap.size = A at hD hE9 ⊢
  have hE := hE9.1
  have hDc := hE9.2
  have hA : ∀ q : Nat, s.heap.size ≤ q → A q := fun q h => by rw [← hAe]; exact Or.inr h
  have hS : va_S A s.heap s.heap [] := va_S.rf
  have hP : va_P D vwCl [(h0, .inr (8, [.int 0, .int 0, .int 2, .ref h1, .ref h2, .int 0, .int 500, .int 0, .int 0, .int 0, .ref h3]))] s.heap := hP
  have hl := lv_entry [.ref h0, .int p0, .int p1] (n := 5) (Nat.le_of_ble_eq_true rfl)
  rw [lg_entry_eq]
  generalize (lg_sl [.ref h0, .int p0, .int p1] ++ List.replicate (5 - (lg_sl [.ref h0, .int p0, .int p1]).length) Slot.unset).toArray = ls at hl ⊢
  have hl : lv_has ls 5 [(0, .ref h0), (1, .int p0), (2, .int p1)] := hl
  refine lv_aload_n hx hb dX6_prune_0 rfl (lv_at hl 0 rfl) ?_
  refine lv_iload_n hx hb dX6_prune_1 rfl (lv_at hl 1 rfl) ?_
  refine lv_iconst (v := 2) hx hb dX6_prune_2 (by decide) ?_
  refine lv_aload_n hx hb dX6_prune_3 rfl (lv_at hl 0 rfl) ?_
  refine va_get (D := D) (ci := 8) (v := .int 2) (C := RX6) (T := TX6) (N := 11) hx hb hts wi_X6_prune_RX6 hown hK hP 0 rfl rfl 2 (by decide) (hts _ wd254_X6_prune) (fun _ h9 => h9) rfl dX6_prune_4 ?_
  refine vp_callSi (W.runS (As := [.int p0, .int 2, .int 2]) (rest := [.ref h0]) ⟨hx, hb, hml, hown, hts⟩ (k_X6_isIn_21 l D κ ε (p0) hf0 hf1) (va_cwS 3 hts gX6_prune_X6_isIn rfl rfl rfl (by decide +kernel) ⟨(Nat.le_of_ble_eq_true rfl), (Nat.le_of_ble_eq_true rfl)⟩) (pre0_S (wc := []) hP hK [] rfl) rfl rfl hl.1 rfl (lv_room (Nat.le_of_ble_eq_true rfl)) dX6_prune_7 ⟨(Nat.le_of_ble_eq_true rfl), (Nat.le_of_ble_eq_true rfl)⟩) (fun r hw => ?_)
  rw [hw]
  refine lv_if_eq (tgt := 24) hx hb dX6_prune_10 (by decide) (fun _ => ?_) (fun h => absurd (by decide) h)
  refine lv_iconst (v := 1) hx hb dX6_prune_24 (by decide) ?_
  refine lv_goto (tgt := 29) hx hb dX6_prune_25 (by decide) ?_
  refine lv_iconst (v := 1) hx hb dX6_prune_29 (by decide) ?_
  have hF := va_free (wc := [(h0, .inr (8, [.int 0, .int 0, .int 2, .ref h1, .ref h2, .int 0, .int 500, .int 0, .int 0, .int 0, .ref h3]))]) hD hS hA [0] rfl
  refine va_calli (va_runV (As := [.int 1, .int 1]) (rest := []) ⟨hx, hb, hml, hown, hts⟩ (k_X6_start_1 l D κ ε h0 h1 h2 h3 s.heap.size (0) (2) (0) (500) (0) (0)) (cwV 2 hts gX6_prune_X6_start rfl rfl rfl (by decide +kernel) ⟨(Nat.le_of_ble_eq_true rfl), (Nat.le_of_ble_eq_true rfl)⟩) (pre2_V (q0 := 0) (ci := 8) (wc := [(h0, .inr (8, [.int 0, .int 0, .int 2, .ref h1, .ref h2, .int 0, .int 500, .int 0, .int 0, .int 0, .ref h3]))]) hP hD hK hE9 hS hA [0] (by decide) rfl rfl rfl) rfl rfl hl.1 rfl (lv_room (Nat.le_of_ble_eq_true rfl)) dX6_prune_30 ⟨(Nat.le_of_ble_eq_true rfl), (Nat.le_of_ble_eq_true rfl)⟩) hS (fun q _ h => hF q h) hF (fun r u1 t H locs ht hvm hw hB hz1 hk1 hS => ?_)
  try dsimp only at hw hB
  obtain ⟨hP1, hD1⟩ := hB
  rw [ht] at hP1
  obtain ⟨hP, hD⟩ := post_j (ws' := [(h0, .inr (8, [.int 1, .int 0, .int 2, .ref h1, .ref h2, .int 0, .int 500, .int 0, .int 0, .int 0, .ref h3]))]) (wr := []) (w1 := [(h0, .inr (8, [.int 1, .int 0, .int 2, .ref h1, .ref h2, .int 0, .int 500, .int 0, .int 0, .int 0, .ref h3]))]) hP hD hF [0] rfl [] rfl (by decide) (by decide) hk1 hP1 hD1 [0] (by decide) rfl
  have hP : va_P D vwCl [(h0, .inr (8, [.int 1, .int 0, .int 2, .ref h1, .ref h2, .int 0, .int 500, .int 0, .int 0, .int 0, .ref h3]))] H := hP
  have hD : va_D A [(h0, .inr (8, [.int 1, .int 0, .int 2, .ref h1, .ref h2, .int 0, .int 500, .int 0, .int 0, .int 0, .ref h3]))] := hD
  rw [hw]
  refine lv_if_eq (tgt := 38) hx hb dX6_prune_33 (by decide) (fun h => absurd h (by decide)) (fun _ => ?_)
  refine lv_iconst (v := 0) hx hb dX6_prune_36 (by decide) ?_
  have hP9 := hP.sub (ws' := [(h0, .inr (8, [.int 1, .int 0, .int 2, .ref h1, .ref h2, .int 0, .int 500, .int 0, .int 0, .int 0, .ref h3]))]) [0] rfl
  have hD9 := hD.sub (ws' := [(h0, .inr (8, [.int 1, .int 0, .int 2, .ref h1, .ref h2, .int 0, .int 500, .int 0, .int 0, .int 0, .ref h3]))]) [0] (by decide) rfl
  exact W.iret (v := 0) hx hb hr (fun t ht hW => ⟨⟨0, [.int 1, .int 0, .int 2, .ref h1, .ref h2, .int 0, .int 500, .int 0, .int 0, .int 0, .ref h3], rfl, ⟨rfl, rfl⟩, by rw [ht]; exact hP9, hD9⟩, hS.F ht⟩) hS.2.2 dX6_prune_37

set_option maxHeartbeats 4000000 in
set_option maxRecDepth 100000 in
theorem case_14 {p : Program} {e : Env} {s : State} {m : MethodId} {below : List Frame} {meth : Method} {c : Code} (l : Launch) (hst : l.stackTraces = false) {b : Nat} {xs : Nat → Int32} (C0 : lw_At p s m meth c b 4 xs) (D : va_G) (κ ε : Nat → Nat) (hK : va_K D vwCl (tys κ) s) (hE9 : En2 ε (fun q : Nat => s.heap.size ≤ q) s s.heap) (qx qm qo : Nat) (ux um : Nat → Nat) {H : Heap} {locs : List Loc} (hP : va_P D vwCl [(qx, .inr (7, [.ref (ux 0), .ref (ux 27), .ref (ux 30), .ref (ux 31), .ref (ux 35), .ref (ux 36), .int 0, .int 0, .int 0, .int 0])), ((ux 0), .inr (2, [.int 0, .int 2, .ref (ux 1), .ref (ux 2)])), ((ux 1), .inl (κ 3, 4, .inr (.inr (.inr (.inr (sel [(ux 3), (ux 9), (ux 15), (ux 21)])))))), ((ux 9), .inr (6, [.ref (ux 10), .ref (ux 11), .int 0])), (qm, .inr (8, [.int 0, .int 0, .int 2, .ref (um 0), .ref (um 1), .int 0, .int 500, .int 0, .int 0, .int 0, .ref (um 6)])), ((um 1), .inl (κ 4, 4, .inr (.inr (.inr (.inr (sel [(um 2), (um 3), (um 4), (um 5)])))))), ((um 3), .inl (κ 0, 196, .inl (fun _ => 0))), (qo, .inl (κ 2, 1, .inr (.inl (fun _ => 0))))] H) (hD : va_D (fun q : Nat => s.heap.size ≤ q) [(qx, .inr (7, [.ref (ux 0), .ref (ux 27), .ref (ux 30), .ref (ux 31), .ref (ux 35), .ref (ux 36), .int 0, .int 0, .int 0, .int 0])), ((ux 0), .inr (2, [.int 0, .int 2, .ref (ux 1), .ref (ux 2)])), ((ux 1), .inl (κ 3, 4, .inr (.inr (.inr (.inr (sel [(ux 3), (ux 9), (ux 15), (ux 21)])))))), ((ux 9), .inr (6, [.ref (ux 10), .ref (ux 11), .int 0])), (qm, .inr (8, [.int 0, .int 0, .int 2, .ref (um 0), .ref (um 1), .int 0, .int 500, .int 0, .int 0, .int 0, .ref (um 6)])), ((um 1), .inl (κ 4, 4, .inr (.inr (.inr (.inr (sel [(um 2), (um 3), (um 4), (um 5)])))))), ((um 3), .inl (κ 0, 196, .inl (fun _ => 0))), (qo, .inl (κ 2, 1, .inr (.inl (fun _ => 0))))]) (hS : va_S (fun q : Nat => s.heap.size ≤ q) s.heap H locs) {ls : Array Slot} (hl : lv_has ls 9 [(0, .ref b), (1, .ref qx), (2, .ref qm), (3, .ref qo), (4, .int 0)]) : W p l e room_1 s m #[Value.ref b] below meth c H locs 100 120000 (lw_Z below #[Value.ref b] s) (F0 m 824 ls []) := by
  obtain ⟨hx, hb, hr, hml, hown0, hts0, hX, hbl, hlocks, hgv⟩ := id C0
  have hts : ∀ w ∈ wsL_law, w.before #[Value.ref b] s = true := fun w h => hts0 w (wsL_law_in w h)
  have hown : s.vm.findClass RL = some m.cls := hown0
  have hE := hE9.1
  have hDc := hE9.2
  have hA : ∀ q : Nat, s.heap.size ≤ q → (fun q : Nat => s.heap.size ≤ q) q := fun _ h => h
  have hbA : ¬ (fun q : Nat => s.heap.size ≤ q) b := Nat.not_le.mpr hbl
  by_cases e1 : (xs 1) = 2
  · skip
    refine lv_aload_n hx hb dL_law_824 rfl (lv_at hl 1 rfl) ?_
    refine lv_aload_n hx hb dL_law_825 rfl (lv_at hl 0 rfl) ?_
    refine lv_iload hx hb dL_law_826 (lv_at hl 4 rfl) ?_
    refine lv_iconst (v := 1) hx hb dL_law_828 (by decide) ?_
    refine lv_iadd hx hb dL_law_829 ?_
    refine tpi (v := 1) (by decide) ?_
    refine va_sld hx hb hX hbl hbA hS (vpl (by decide)) dL_law_830 ?_
    refine tpi (v := (xs 1)) rfl ?_
    refine tpi (v := 2) e1 ?_
    refine lv_aload_n hx hb dL_law_831 rfl (lv_at hl 0 rfl) ?_
    refine lv_iload hx hb dL_law_832 (lv_at hl 4 rfl) ?_
    refine lv_iconst (v := 2) hx hb dL_law_834 (by decide) ?_
    refine lv_iadd hx hb dL_law_835 ?_
    refine tpi (v := 2) (by decide) ?_
    refine va_sld hx hb hX hbl hbA hS (vpl (by decide)) dL_law_836 ?_
    refine tpi (v := (xs 2)) rfl ?_
    refine lv_aload_n hx hb dL_law_837 rfl (lv_at hl 3 rfl) ?_
    have hF := va_free (wc := [(qx, .inr (7, [.ref (ux 0), .ref (ux 27), .ref (ux 30), .ref (ux 31), .ref (ux 35), .ref (ux 36), .int 0, .int 0, .int 0, .int 0])), (qo, .inl (κ 2, 1, .inr (.inl (fun _ => 0)))), ((ux 0), .inr (2, [.int 0, .int 2, .ref (ux 1), .ref (ux 2)])), ((ux 1), .inl (κ 3, 4, .inr (.inr (.inr (.inr (sel [(ux 3), (ux 9), (ux 15), (ux 21)])))))), ((ux 9), .inr (6, [.ref (ux 10), .ref (ux 11), .int 0]))]) hD hS hA [0, 7, 1, 2, 3] rfl
    refine va_calli (vx_runSW (As := [.ref qx, .int 2, .int (xs 2), .ref qo]) (rest := []) ⟨hx, hb, hml, hown, hts⟩ (k_L_prune_0 l hst D κ ε qx qo (ux 0) (ux 27) (ux 30) (ux 31) (ux 35) (ux 36) (ux 1) (ux 2) (ux 3) (ux 9) (ux 15) (ux 21) (ux 10) (ux 11) H.size ((xs 2))) (vx_cwSW 4 hts gL_law_L_prune rfl rfl rfl (by decide +kernel) ⟨(Nat.le_of_ble_eq_true rfl), (Nat.le_of_ble_eq_true rfl)⟩) (pre2_S (wc := [(qx, .inr (7, [.ref (ux 0), .ref (ux 27), .ref (ux 30), .ref (ux 31), .ref (ux 35), .ref (ux 36), .int 0, .int 0, .int 0, .int 0])), (qo, .inl (κ 2, 1, .inr (.inl (fun _ => 0)))), ((ux 0), .inr (2, [.int 0, .int 2, .ref (ux 1), .ref (ux 2)])), ((ux 1), .inl (κ 3, 4, .inr (.inr (.inr (.inr (sel [(ux 3), (ux 9), (ux 15), (ux 21)])))))), ((ux 9), .inr (6, [.ref (ux 10), .ref (ux 11), .int 0]))]) hP hD hK hE9 hS hA [0, 7, 1, 2, 3] (by decide) rfl) rfl rfl hl.1 rfl (lv_room (Nat.le_of_ble_eq_true rfl)) dL_law_838 ⟨(Nat.le_of_ble_eq_true rfl), (Nat.le_of_ble_eq_true rfl)⟩) hS (fun q _ h => hF q h) hF (fun r u2 t H locs ht hvm hw hB hz1 hk1 hS => ?_)
    try dsimp only at hw hB
    obtain ⟨hP1, hD1⟩ := hB
    rw [ht] at hP1
    obtain ⟨hP, hD⟩ := post_j (ws' := [(qm, .inr (8, [.int 0, .int 0, .int 2, .ref (um 0), .ref (um 1), .int 0, .int 500, .int 0, .int 0, .int 0, .ref (um 6)])), ((um 1), .inl (κ 4, 4, .inr (.inr (.inr (.inr (sel [(um 2), (um 3), (um 4), (um 5)])))))), ((um 3), .inl (κ 0, 196, .inl (fun _ => 0))), (qo, .inl (κ 2, 1, .inr (.inl u2)))]) (wr := [(qm, .inr (8, [.int 0, .int 0, .int 2, .ref (um 0), .ref (um 1), .int 0, .int 500, .int 0, .int 0, .int 0, .ref (um 6)])), ((um 1), .inl (κ 4, 4, .inr (.inr (.inr (.inr (sel [(um 2), (um 3), (um 4), (um 5)])))))), ((um 3), .inl (κ 0, 196, .inl (fun _ => 0)))]) (w1 := [(qo, .inl (κ 2, 1, .inr (.inl u2)))]) hP hD hF [0, 7, 1, 2, 3] rfl [4, 5, 6] rfl (by decide) (by decide) hk1 hP1 hD1 [0, 1, 2, 3] (by decide) rfl
    have hP : va_P D vwCl [(qm, .inr (8, [.int 0, .int 0, .int 2, .ref (um 0), .ref (um 1), .int 0, .int 500, .int 0, .int 0, .int 0, .ref (um 6)])), ((um 1), .inl (κ 4, 4, .inr (.inr (.inr (.inr (sel [(um 2), (um 3), (um 4), (um 5)])))))), ((um 3), .inl (κ 0, 196, .inl (fun _ => 0))), (qo, .inl (κ 2, 1, .inr (.inl u2)))] H := hP
    have hD : va_D (fun q : Nat => s.heap.size ≤ q) [(qm, .inr (8, [.int 0, .int 0, .int 2, .ref (um 0), .ref (um 1), .int 0, .int 500, .int 0, .int 0, .int 0, .ref (um 6)])), ((um 1), .inl (κ 4, 4, .inr (.inr (.inr (.inr (sel [(um 2), (um 3), (um 4), (um 5)])))))), ((um 3), .inl (κ 0, 196, .inl (fun _ => 0))), (qo, .inl (κ 2, 1, .inr (.inl u2)))] := hD
    rcases hw with ⟨c3, rfl⟩ | ⟨c4, c5, rfl⟩ | ⟨c6, c7, hu8, rfl⟩
    · skip
      refine lv_istore (lv' := [(5, .int 1), (0, .ref b), (1, .ref qx), (2, .ref qm), (3, .ref qo), (4, .int 0)]) hx hb dL_law_841 hl (by decide) rfl (fun ls hl => ?_)
      refine lv_aload_n hx hb dL_law_843 rfl (lv_at hl 3 rfl) ?_
      refine lv_aload_n hx hb dL_law_844 rfl (lv_at hl 1 rfl) ?_
      refine lv_iload hx hb dL_law_845 (lv_at hl 5 rfl) ?_
      refine lv_iconst (v := 1) hx hb dL_law_847 (by decide) ?_
      refine lv_iadd hx hb dL_law_848 ?_
      refine tpi (v := 1) (by decide) ?_
      refine va_sld hx hb hX hbl hbA hS (vpl (by decide)) dL_law_849 ?_
      refine tpi (v := (xs 1)) rfl ?_
      refine tpi (v := 2) e1 ?_
      refine lv_aload_n hx hb dL_law_850 rfl (lv_at hl 1 rfl) ?_
      refine lv_iload hx hb dL_law_851 (lv_at hl 5 rfl) ?_
      refine lv_iconst (v := 2) hx hb dL_law_853 (by decide) ?_
      refine lv_iadd hx hb dL_law_854 ?_
      refine tpi (v := 2) (by decide) ?_
      refine va_sld hx hb hX hbl hbA hS (vpl (by decide)) dL_law_855 ?_
      refine tpi (v := (xs 2)) rfl ?_
      have hF := va_free (wc := [(qm, .inr (8, [.int 0, .int 0, .int 2, .ref (um 0), .ref (um 1), .int 0, .int 500, .int 0, .int 0, .int 0, .ref (um 6)]))]) hD hS hA [0] rfl
      refine va_calli (va_runV (As := [.int 2, .int (xs 2)]) (rest := []) ⟨hx, hb, hml, hown, hts⟩ (k_X6_prune_0 l D κ ε qm (um 0) (um 1) (um 6) H.size ((xs 2)) c3) (cwV 2 hts gL_law_X6_prune rfl rfl rfl (by decide +kernel) ⟨(Nat.le_of_ble_eq_true rfl), (Nat.le_of_ble_eq_true rfl)⟩) (pre2_V (q0 := 0) (ci := 8) (wc := [(qm, .inr (8, [.int 0, .int 0, .int 2, .ref (um 0), .ref (um 1), .int 0, .int 500, .int 0, .int 0, .int 0, .ref (um 6)]))]) hP hD hK hE9 hS hA [0] (by decide) rfl rfl rfl) rfl rfl hl.1 rfl (lv_room (Nat.le_of_ble_eq_true rfl)) dL_law_856 ⟨(Nat.le_of_ble_eq_true rfl), (Nat.le_of_ble_eq_true rfl)⟩) hS (fun q _ h => hF q h) hF (fun r u9 t H locs ht hvm hw hB hz1 hk1 hS => ?_)
      try dsimp only at hw hB
      obtain ⟨hP1, hD1⟩ := hB
      rw [ht] at hP1
      obtain ⟨hP, hD⟩ := post_j (ws' := [(qm, .inr (8, u9)), ((um 1), .inl (κ 4, 4, .inr (.inr (.inr (.inr (sel [(um 2), (um 3), (um 4), (um 5)])))))), ((um 3), .inl (κ 0, 196, .inl (fun _ => 0))), (qo, .inl (κ 2, 1, .inr (.inl u2)))]) (wr := [((um 1), .inl (κ 4, 4, .inr (.inr (.inr (.inr (sel [(um 2), (um 3), (um 4), (um 5)])))))), ((um 3), .inl (κ 0, 196, .inl (fun _ => 0))), (qo, .inl (κ 2, 1, .inr (.inl u2)))]) (w1 := [(qm, .inr (8, u9))]) hP hD hF [0] rfl [1, 2, 3] rfl (by decide) (by decide) hk1 hP1 hD1 [3, 0, 1, 2] (by decide) rfl
      have hP : va_P D vwCl [(qm, .inr (8, u9)), ((um 1), .inl (κ 4, 4, .inr (.inr (.inr (.inr (sel [(um 2), (um 3), (um 4), (um 5)])))))), ((um 3), .inl (κ 0, 196, .inl (fun _ => 0))), (qo, .inl (κ 2, 1, .inr (.inl u2)))] H := hP
      have hD : va_D (fun q : Nat => s.heap.size ≤ q) [(qm, .inr (8, u9)), ((um 1), .inl (κ 4, 4, .inr (.inr (.inr (.inr (sel [(um 2), (um 3), (um 4), (um 5)])))))), ((um 3), .inl (κ 0, 196, .inl (fun _ => 0))), (qo, .inl (κ 2, 1, .inr (.inl u2)))] := hD
      obtain ⟨hu10, rfl⟩ := hw
      refine lv_istore (lv' := [(6, .int 0), (5, .int 1), (0, .ref b), (1, .ref qx), (2, .ref qm), (3, .ref qo), (4, .int 0)]) hx hb dL_law_859 hl (by decide) rfl (fun ls hl => ?_)
      refine lv_aload_n hx hb dL_law_861 rfl (lv_at hl 4 rfl) ?_
      refine vp_callSi (W.runV (As := []) (rest := []) ⟨hx, hb, hml, hown, hts⟩ (k_thrown l D κ qm u9 (1) hu10) (cwV 0 hts gL_law_X6_thrown rfl rfl rfl (by decide +kernel) ⟨(Nat.le_of_ble_eq_true rfl), (Nat.le_of_ble_eq_true rfl)⟩) (pre0_V (q0 := 0) (ci := 8) (wc := [(qm, .inr (8, u9))]) hP hK [0] rfl rfl rfl) rfl rfl hl.1 rfl (lv_room (Nat.le_of_ble_eq_true rfl)) dL_law_862 ⟨(Nat.le_of_ble_eq_true rfl), (Nat.le_of_ble_eq_true rfl)⟩) (fun r hw => ?_)
      subst hw
      refine lv_iload hx hb dL_law_865 (lv_at hl 1 rfl) ?_
      refine lv_icmp_eq (tgt := 872) hx hb dL_law_867 (by decide) (fun _ => ?_) (fun h => absurd (by decide) h)
      refine lv_iload hx hb dL_law_872 (lv_at hl 1 rfl) ?_
      refine lv_if_ne (tgt := 889) hx hb dL_law_874 (by decide) (fun _ => ?_) (fun h => absurd h (by decide))
      refine lv_goto (tgt := 1677) hx hb dL_law_889 (by decide) ?_
      exact law_end C0 (Nat.le_of_ble_eq_true rfl) (Nat.le_of_ble_eq_true rfl) hS (lv_sub hl [2, 6] rfl)
    · skip
      refine lv_istore (lv' := [(5, .int 1), (0, .ref b), (1, .ref qx), (2, .ref qm), (3, .ref qo), (4, .int 0)]) hx hb dL_law_841 hl (by decide) rfl (fun ls hl => ?_)
      refine lv_aload_n hx hb dL_law_843 rfl (lv_at hl 3 rfl) ?_
      refine lv_aload_n hx hb dL_law_844 rfl (lv_at hl 1 rfl) ?_
      refine lv_iload hx hb dL_law_845 (lv_at hl 5 rfl) ?_
      refine lv_iconst (v := 1) hx hb dL_law_847 (by decide) ?_
      refine lv_iadd hx hb dL_law_848 ?_
      refine tpi (v := 1) (by decide) ?_
      refine va_sld hx hb hX hbl hbA hS (vpl (by decide)) dL_law_849 ?_
      refine tpi (v := (xs 1)) rfl ?_
      refine tpi (v := 2) e1 ?_
      refine lv_aload_n hx hb dL_law_850 rfl (lv_at hl 1 rfl) ?_
      refine lv_iload hx hb dL_law_851 (lv_at hl 5 rfl) ?_
      refine lv_iconst (v := 2) hx hb dL_law_853 (by decide) ?_
      refine lv_iadd hx hb dL_law_854 ?_
      refine tpi (v := 2) (by decide) ?_
      refine va_sld hx hb hX hbl hbA hS (vpl (by decide)) dL_law_855 ?_
      refine tpi (v := (xs 2)) rfl ?_
      have hF := va_free (wc := [(qm, .inr (8, [.int 0, .int 0, .int 2, .ref (um 0), .ref (um 1), .int 0, .int 500, .int 0, .int 0, .int 0, .ref (um 6)]))]) hD hS hA [0] rfl
      refine va_calli (va_runV (As := [.int 2, .int (xs 2)]) (rest := []) ⟨hx, hb, hml, hown, hts⟩ (k_X6_prune_1 l D κ ε qm (um 0) (um 1) (um 6) H.size ((xs 2)) c4 c5) (cwV 2 hts gL_law_X6_prune rfl rfl rfl (by decide +kernel) ⟨(Nat.le_of_ble_eq_true rfl), (Nat.le_of_ble_eq_true rfl)⟩) (pre2_V (q0 := 0) (ci := 8) (wc := [(qm, .inr (8, [.int 0, .int 0, .int 2, .ref (um 0), .ref (um 1), .int 0, .int 500, .int 0, .int 0, .int 0, .ref (um 6)]))]) hP hD hK hE9 hS hA [0] (by decide) rfl rfl rfl) rfl rfl hl.1 rfl (lv_room (Nat.le_of_ble_eq_true rfl)) dL_law_856 ⟨(Nat.le_of_ble_eq_true rfl), (Nat.le_of_ble_eq_true rfl)⟩) hS (fun q _ h => hF q h) hF (fun r u11 t H locs ht hvm hw hB hz1 hk1 hS => ?_)
      try dsimp only at hw hB
      obtain ⟨hP1, hD1⟩ := hB
      rw [ht] at hP1
      obtain ⟨hP, hD⟩ := post_j (ws' := [(qm, .inr (8, u11)), ((um 1), .inl (κ 4, 4, .inr (.inr (.inr (.inr (sel [(um 2), (um 3), (um 4), (um 5)])))))), ((um 3), .inl (κ 0, 196, .inl (fun _ => 0))), (qo, .inl (κ 2, 1, .inr (.inl u2)))]) (wr := [((um 1), .inl (κ 4, 4, .inr (.inr (.inr (.inr (sel [(um 2), (um 3), (um 4), (um 5)])))))), ((um 3), .inl (κ 0, 196, .inl (fun _ => 0))), (qo, .inl (κ 2, 1, .inr (.inl u2)))]) (w1 := [(qm, .inr (8, u11))]) hP hD hF [0] rfl [1, 2, 3] rfl (by decide) (by decide) hk1 hP1 hD1 [3, 0, 1, 2] (by decide) rfl
      have hP : va_P D vwCl [(qm, .inr (8, u11)), ((um 1), .inl (κ 4, 4, .inr (.inr (.inr (.inr (sel [(um 2), (um 3), (um 4), (um 5)])))))), ((um 3), .inl (κ 0, 196, .inl (fun _ => 0))), (qo, .inl (κ 2, 1, .inr (.inl u2)))] H := hP
      have hD : va_D (fun q : Nat => s.heap.size ≤ q) [(qm, .inr (8, u11)), ((um 1), .inl (κ 4, 4, .inr (.inr (.inr (.inr (sel [(um 2), (um 3), (um 4), (um 5)])))))), ((um 3), .inl (κ 0, 196, .inl (fun _ => 0))), (qo, .inl (κ 2, 1, .inr (.inl u2)))] := hD
      obtain ⟨hu12, rfl⟩ := hw
      refine lv_istore (lv' := [(6, .int 0), (5, .int 1), (0, .ref b), (1, .ref qx), (2, .ref qm), (3, .ref qo), (4, .int 0)]) hx hb dL_law_859 hl (by decide) rfl (fun ls hl => ?_)
      refine lv_aload_n hx hb dL_law_861 rfl (lv_at hl 4 rfl) ?_
      refine vp_callSi (W.runV (As := []) (rest := []) ⟨hx, hb, hml, hown, hts⟩ (k_thrown l D κ qm u11 (1) hu12) (cwV 0 hts gL_law_X6_thrown rfl rfl rfl (by decide +kernel) ⟨(Nat.le_of_ble_eq_true rfl), (Nat.le_of_ble_eq_true rfl)⟩) (pre0_V (q0 := 0) (ci := 8) (wc := [(qm, .inr (8, u11))]) hP hK [0] rfl rfl rfl) rfl rfl hl.1 rfl (lv_room (Nat.le_of_ble_eq_true rfl)) dL_law_862 ⟨(Nat.le_of_ble_eq_true rfl), (Nat.le_of_ble_eq_true rfl)⟩) (fun r hw => ?_)
      subst hw
      refine lv_iload hx hb dL_law_865 (lv_at hl 1 rfl) ?_
      refine lv_icmp_eq (tgt := 872) hx hb dL_law_867 (by decide) (fun _ => ?_) (fun h => absurd (by decide) h)
      refine lv_iload hx hb dL_law_872 (lv_at hl 1 rfl) ?_
      refine lv_if_ne (tgt := 889) hx hb dL_law_874 (by decide) (fun _ => ?_) (fun h => absurd h (by decide))
      refine lv_goto (tgt := 1677) hx hb dL_law_889 (by decide) ?_
      exact law_end C0 (Nat.le_of_ble_eq_true rfl) (Nat.le_of_ble_eq_true rfl) hS (lv_sub hl [2, 6] rfl)
    · skip
      refine lv_istore (lv' := [(5, .int 0), (0, .ref b), (1, .ref qx), (2, .ref qm), (3, .ref qo), (4, .int 0)]) hx hb dL_law_841 hl (by decide) rfl (fun ls hl => ?_)
      refine lv_aload_n hx hb dL_law_843 rfl (lv_at hl 3 rfl) ?_
      refine lv_aload_n hx hb dL_law_844 rfl (lv_at hl 1 rfl) ?_
      refine lv_iload hx hb dL_law_845 (lv_at hl 5 rfl) ?_
      refine lv_iconst (v := 1) hx hb dL_law_847 (by decide) ?_
      refine lv_iadd hx hb dL_law_848 ?_
      refine tpi (v := 1) (by decide) ?_
      refine va_sld hx hb hX hbl hbA hS (vpl (by decide)) dL_law_849 ?_
      refine tpi (v := (xs 1)) rfl ?_
      refine tpi (v := 2) e1 ?_
      refine lv_aload_n hx hb dL_law_850 rfl (lv_at hl 1 rfl) ?_
      refine lv_iload hx hb dL_law_851 (lv_at hl 5 rfl) ?_
      refine lv_iconst (v := 2) hx hb dL_law_853 (by decide) ?_
      refine lv_iadd hx hb dL_law_854 ?_
      refine tpi (v := 2) (by decide) ?_
      refine va_sld hx hb hX hbl hbA hS (vpl (by decide)) dL_law_855 ?_
      refine tpi (v := (xs 2)) rfl ?_
      have hF := va_free (wc := [(qm, .inr (8, [.int 0, .int 0, .int 2, .ref (um 0), .ref (um 1), .int 0, .int 500, .int 0, .int 0, .int 0, .ref (um 6)])), ((um 1), .inl (κ 4, 4, .inr (.inr (.inr (.inr (sel [(um 2), (um 3), (um 4), (um 5)])))))), ((um 3), .inl (κ 0, 196, .inl (fun _ => 0)))]) hD hS hA [0, 1, 2] rfl
      refine va_calli (va_runV (As := [.int 2, .int (xs 2)]) (rest := []) ⟨hx, hb, hml, hown, hts⟩ (k_X6_prune_2 l D κ ε qm (um 0) (um 1) (um 6) (um 2) (um 3) (um 4) (um 5) H.size ((xs 2)) c6 c7) (cwV 2 hts gL_law_X6_prune rfl rfl rfl (by decide +kernel) ⟨(Nat.le_of_ble_eq_true rfl), (Nat.le_of_ble_eq_true rfl)⟩) (pre2_V (q0 := 0) (ci := 8) (wc := [(qm, .inr (8, [.int 0, .int 0, .int 2, .ref (um 0), .ref (um 1), .int 0, .int 500, .int 0, .int 0, .int 0, .ref (um 6)])), ((um 1), .inl (κ 4, 4, .inr (.inr (.inr (.inr (sel [(um 2), (um 3), (um 4), (um 5)])))))), ((um 3), .inl (κ 0, 196, .inl (fun _ => 0)))]) hP hD hK hE9 hS hA [0, 1, 2] (by decide) rfl rfl rfl) rfl rfl hl.1 rfl (lv_room (Nat.le_of_ble_eq_true rfl)) dL_law_856 ⟨(Nat.le_of_ble_eq_true rfl), (Nat.le_of_ble_eq_true rfl)⟩) hS (fun q _ h => hF q h) hF (fun r u13 t H locs ht hvm hw hB hz1 hk1 hS => ?_)
      try dsimp only at hw hB
      obtain ⟨hP1, hD1⟩ := hB
      rw [ht] at hP1
      obtain ⟨hP, hD⟩ := post_j (ws' := [(qm, .inr (8, u13)), (qo, .inl (κ 2, 1, .inr (.inl u2)))]) (wr := [(qo, .inl (κ 2, 1, .inr (.inl u2)))]) (w1 := [(qm, .inr (8, u13))]) hP hD hF [0, 1, 2] rfl [3] rfl (by decide) (by decide) hk1 hP1 hD1 [1, 0] (by decide) rfl
      have hP : va_P D vwCl [(qm, .inr (8, u13)), (qo, .inl (κ 2, 1, .inr (.inl u2)))] H := hP
      have hD : va_D (fun q : Nat => s.heap.size ≤ q) [(qm, .inr (8, u13)), (qo, .inl (κ 2, 1, .inr (.inl u2)))] := hD
      obtain ⟨hu14, rfl⟩ := hw
      refine lv_istore (lv' := [(6, .int 0), (5, .int 0), (0, .ref b), (1, .ref qx), (2, .ref qm), (3, .ref qo), (4, .int 0)]) hx hb dL_law_859 hl (by decide) rfl (fun ls hl => ?_)
      refine lv_aload_n hx hb dL_law_861 rfl (lv_at hl 4 rfl) ?_
      refine vp_callSi (W.runV (As := []) (rest := []) ⟨hx, hb, hml, hown, hts⟩ (k_thrown l D κ qm u13 (0) hu14) (cwV 0 hts gL_law_X6_thrown rfl rfl rfl (by decide +kernel) ⟨(Nat.le_of_ble_eq_true rfl), (Nat.le_of_ble_eq_true rfl)⟩) (pre0_V (q0 := 0) (ci := 8) (wc := [(qm, .inr (8, u13))]) hP hK [0] rfl rfl rfl) rfl rfl hl.1 rfl (lv_room (Nat.le_of_ble_eq_true rfl)) dL_law_862 ⟨(Nat.le_of_ble_eq_true rfl), (Nat.le_of_ble_eq_true rfl)⟩) (fun r hw => ?_)
      subst hw
      refine lv_iload hx hb dL_law_865 (lv_at hl 1 rfl) ?_
      refine lv_icmp_eq (tgt := 872) hx hb dL_law_867 (by decide) (fun _ => ?_) (fun h => absurd (by decide) h)
      refine lv_iload hx hb dL_law_872 (lv_at hl 1 rfl) ?_
      refine lv_if_ne (tgt := 889) hx hb dL_law_874 (by decide) (fun h => absurd (by decide) h) (fun _ => ?_)
      refine lv_aload_n hx hb dL_law_877 rfl (lv_at hl 5 rfl) ?_
      refine lv_iconst (v := 0) hx hb dL_law_878 (by decide) ?_
      refine va_lald (cA := κ 2) (n := 1) (f := u2) hx hb hK hP 1 2 rfl rfl (vpl (by decide)) dL_law_879 ?_
      refine tpl (v := 0) hu8 ?_
      refine lv_iload hx hb dL_law_880 (lv_at hl 0 rfl) ?_
      refine lv_i2l (v := 0) hx hb dL_law_882 (by decide) ?_
      refine W.lcmp hx hb dL_law_883 ?_
      refine tpi (v := 0) (by decide) ?_
      refine lv_if_eq (tgt := 889) hx hb dL_law_884 (by decide) (fun _ => ?_) (fun h => absurd (by decide) h)
      refine lv_goto (tgt := 1677) hx hb dL_law_889 (by decide) ?_
      exact law_end C0 (Nat.le_of_ble_eq_true rfl) (Nat.le_of_ble_eq_true rfl) hS (lv_sub hl [2, 6] rfl)
  · skip
    refine lv_aload_n hx hb dL_law_824 rfl (lv_at hl 1 rfl) ?_
    refine lv_aload_n hx hb dL_law_825 rfl (lv_at hl 0 rfl) ?_
    refine lv_iload hx hb dL_law_826 (lv_at hl 4 rfl) ?_
    refine lv_iconst (v := 1) hx hb dL_law_828 (by decide) ?_
    refine lv_iadd hx hb dL_law_829 ?_
    refine tpi (v := 1) (by decide) ?_
    refine va_sld hx hb hX hbl hbA hS (vpl (by decide)) dL_law_830 ?_
    refine tpi (v := (xs 1)) rfl ?_
    refine lv_aload_n hx hb dL_law_831 rfl (lv_at hl 0 rfl) ?_
    refine lv_iload hx hb dL_law_832 (lv_at hl 4 rfl) ?_
    refine lv_iconst (v := 2) hx hb dL_law_834 (by decide) ?_
    refine lv_iadd hx hb dL_law_835 ?_
    refine tpi (v := 2) (by decide) ?_
    refine va_sld hx hb hX hbl hbA hS (vpl (by decide)) dL_law_836 ?_
    refine tpi (v := (xs 2)) rfl ?_
    refine lv_aload_n hx hb dL_law_837 rfl (lv_at hl 3 rfl) ?_
    have hF := va_free (wc := [(qx, .inr (7, [.ref (ux 0), .ref (ux 27), .ref (ux 30), .ref (ux 31), .ref (ux 35), .ref (ux 36), .int 0, .int 0, .int 0, .int 0])), (qo, .inl (κ 2, 1, .inr (.inl (fun _ => 0)))), ((ux 0), .inr (2, [.int 0, .int 2, .ref (ux 1), .ref (ux 2)]))]) hD hS hA [0, 7, 1] rfl
    refine va_calli (vx_runSW (As := [.ref qx, .int (xs 1), .int (xs 2), .ref qo]) (rest := []) ⟨hx, hb, hml, hown, hts⟩ (k_L_prune_1 l hst D κ ε qx qo (ux 0) (ux 27) (ux 30) (ux 31) (ux 35) (ux 36) (ux 1) (ux 2) H.size ((xs 1)) ((xs 2)) e1) (vx_cwSW 4 hts gL_law_L_prune rfl rfl rfl (by decide +kernel) ⟨(Nat.le_of_ble_eq_true rfl), (Nat.le_of_ble_eq_true rfl)⟩) (pre2_S (wc := [(qx, .inr (7, [.ref (ux 0), .ref (ux 27), .ref (ux 30), .ref (ux 31), .ref (ux 35), .ref (ux 36), .int 0, .int 0, .int 0, .int 0])), (qo, .inl (κ 2, 1, .inr (.inl (fun _ => 0)))), ((ux 0), .inr (2, [.int 0, .int 2, .ref (ux 1), .ref (ux 2)]))]) hP hD hK hE9 hS hA [0, 7, 1] (by decide) rfl) rfl rfl hl.1 rfl (lv_room (Nat.le_of_ble_eq_true rfl)) dL_law_838 ⟨(Nat.le_of_ble_eq_true rfl), (Nat.le_of_ble_eq_true rfl)⟩) hS (fun q _ h => hF q h) hF (fun r u15 t H locs ht hvm hw hB hz1 hk1 hS => ?_)
    try dsimp only at hw hB
    obtain ⟨hP1, hD1⟩ := hB
    rw [ht] at hP1
    obtain ⟨hP, hD⟩ := post_j (ws' := [((ux 1), .inl (κ 3, 4, .inr (.inr (.inr (.inr (sel [(ux 3), (ux 9), (ux 15), (ux 21)])))))), ((ux 9), .inr (6, [.ref (ux 10), .ref (ux 11), .int 0])), (qm, .inr (8, [.int 0, .int 0, .int 2, .ref (um 0), .ref (um 1), .int 0, .int 500, .int 0, .int 0, .int 0, .ref (um 6)])), ((um 1), .inl (κ 4, 4, .inr (.inr (.inr (.inr (sel [(um 2), (um 3), (um 4), (um 5)])))))), ((um 3), .inl (κ 0, 196, .inl (fun _ => 0))), (qo, .inl (κ 2, 1, .inr (.inl u15)))]) (wr := [((ux 1), .inl (κ 3, 4, .inr (.inr (.inr (.inr (sel [(ux 3), (ux 9), (ux 15), (ux 21)])))))), ((ux 9), .inr (6, [.ref (ux 10), .ref (ux 11), .int 0])), (qm, .inr (8, [.int 0, .int 0, .int 2, .ref (um 0), .ref (um 1), .int 0, .int 500, .int 0, .int 0, .int 0, .ref (um 6)])), ((um 1), .inl (κ 4, 4, .inr (.inr (.inr (.inr (sel [(um 2), (um 3), (um 4), (um 5)])))))), ((um 3), .inl (κ 0, 196, .inl (fun _ => 0)))]) (w1 := [(qo, .inl (κ 2, 1, .inr (.inl u15)))]) hP hD hF [0, 7, 1] rfl [2, 3, 4, 5, 6] rfl (by decide) (by decide) hk1 hP1 hD1 [0, 1, 2, 3, 4, 5] (by decide) rfl
    have hP : va_P D vwCl [((ux 1), .inl (κ 3, 4, .inr (.inr (.inr (.inr (sel [(ux 3), (ux 9), (ux 15), (ux 21)])))))), ((ux 9), .inr (6, [.ref (ux 10), .ref (ux 11), .int 0])), (qm, .inr (8, [.int 0, .int 0, .int 2, .ref (um 0), .ref (um 1), .int 0, .int 500, .int 0, .int 0, .int 0, .ref (um 6)])), ((um 1), .inl (κ 4, 4, .inr (.inr (.inr (.inr (sel [(um 2), (um 3), (um 4), (um 5)])))))), ((um 3), .inl (κ 0, 196, .inl (fun _ => 0))), (qo, .inl (κ 2, 1, .inr (.inl u15)))] H := hP
    have hD : va_D (fun q : Nat => s.heap.size ≤ q) [((ux 1), .inl (κ 3, 4, .inr (.inr (.inr (.inr (sel [(ux 3), (ux 9), (ux 15), (ux 21)])))))), ((ux 9), .inr (6, [.ref (ux 10), .ref (ux 11), .int 0])), (qm, .inr (8, [.int 0, .int 0, .int 2, .ref (um 0), .ref (um 1), .int 0, .int 500, .int 0, .int 0, .int 0, .ref (um 6)])), ((um 1), .inl (κ 4, 4, .inr (.inr (.inr (.inr (sel [(um 2), (um 3), (um 4), (um 5)])))))), ((um 3), .inl (κ 0, 196, .inl (fun _ => 0))), (qo, .inl (κ 2, 1, .inr (.inl u15)))] := hD
    rcases hw with ⟨c16, rfl⟩ | ⟨c17, rfl⟩
    · skip
      refine lv_istore (lv' := [(5, .int 1), (0, .ref b), (1, .ref qx), (2, .ref qm), (3, .ref qo), (4, .int 0)]) hx hb dL_law_841 hl (by decide) rfl (fun ls hl => ?_)
      refine lv_aload_n hx hb dL_law_843 rfl (lv_at hl 3 rfl) ?_
      refine lv_aload_n hx hb dL_law_844 rfl (lv_at hl 1 rfl) ?_
      refine lv_iload hx hb dL_law_845 (lv_at hl 5 rfl) ?_
      refine lv_iconst (v := 1) hx hb dL_law_847 (by decide) ?_
      refine lv_iadd hx hb dL_law_848 ?_
      refine tpi (v := 1) (by decide) ?_
      refine va_sld hx hb hX hbl hbA hS (vpl (by decide)) dL_law_849 ?_
      refine tpi (v := (xs 1)) rfl ?_
      refine lv_aload_n hx hb dL_law_850 rfl (lv_at hl 1 rfl) ?_
      refine lv_iload hx hb dL_law_851 (lv_at hl 5 rfl) ?_
      refine lv_iconst (v := 2) hx hb dL_law_853 (by decide) ?_
      refine lv_iadd hx hb dL_law_854 ?_
      refine tpi (v := 2) (by decide) ?_
      refine va_sld hx hb hX hbl hbA hS (vpl (by decide)) dL_law_855 ?_
      refine tpi (v := (xs 2)) rfl ?_
      have hF := va_free (wc := [(qm, .inr (8, [.int 0, .int 0, .int 2, .ref (um 0), .ref (um 1), .int 0, .int 500, .int 0, .int 0, .int 0, .ref (um 6)]))]) hD hS hA [2] rfl
      refine va_calli (va_runV (As := [.int (xs 1), .int (xs 2)]) (rest := []) ⟨hx, hb, hml, hown, hts⟩ (k_X6_prune_3 l D κ ε qm (um 0) (um 1) (um 6) H.size ((xs 1)) ((xs 2)) c16) (cwV 2 hts gL_law_X6_prune rfl rfl rfl (by decide +kernel) ⟨(Nat.le_of_ble_eq_true rfl), (Nat.le_of_ble_eq_true rfl)⟩) (pre2_V (q0 := 2) (ci := 8) (wc := [(qm, .inr (8, [.int 0, .int 0, .int 2, .ref (um 0), .ref (um 1), .int 0, .int 500, .int 0, .int 0, .int 0, .ref (um 6)]))]) hP hD hK hE9 hS hA [2] (by decide) rfl rfl rfl) rfl rfl hl.1 rfl (lv_room (Nat.le_of_ble_eq_true rfl)) dL_law_856 ⟨(Nat.le_of_ble_eq_true rfl), (Nat.le_of_ble_eq_true rfl)⟩) hS (fun q _ h => hF q h) hF (fun r u18 t H locs ht hvm hw hB hz1 hk1 hS => ?_)
      try dsimp only at hw hB
      obtain ⟨hP1, hD1⟩ := hB
      rw [ht] at hP1
      obtain ⟨hP, hD⟩ := post_j (ws' := [((ux 1), .inl (κ 3, 4, .inr (.inr (.inr (.inr (sel [(ux 3), (ux 9), (ux 15), (ux 21)])))))), ((ux 9), .inr (6, [.ref (ux 10), .ref (ux 11), .int 0])), (qm, .inr (8, u18)), ((um 1), .inl (κ 4, 4, .inr (.inr (.inr (.inr (sel [(um 2), (um 3), (um 4), (um 5)])))))), ((um 3), .inl (κ 0, 196, .inl (fun _ => 0))), (qo, .inl (κ 2, 1, .inr (.inl u15)))]) (wr := [((ux 1), .inl (κ 3, 4, .inr (.inr (.inr (.inr (sel [(ux 3), (ux 9), (ux 15), (ux 21)])))))), ((ux 9), .inr (6, [.ref (ux 10), .ref (ux 11), .int 0])), ((um 1), .inl (κ 4, 4, .inr (.inr (.inr (.inr (sel [(um 2), (um 3), (um 4), (um 5)])))))), ((um 3), .inl (κ 0, 196, .inl (fun _ => 0))), (qo, .inl (κ 2, 1, .inr (.inl u15)))]) (w1 := [(qm, .inr (8, u18))]) hP hD hF [2] rfl [0, 1, 3, 4, 5] rfl (by decide) (by decide) hk1 hP1 hD1 [0, 1, 5, 2, 3, 4] (by decide) rfl
      have hP : va_P D vwCl [((ux 1), .inl (κ 3, 4, .inr (.inr (.inr (.inr (sel [(ux 3), (ux 9), (ux 15), (ux 21)])))))), ((ux 9), .inr (6, [.ref (ux 10), .ref (ux 11), .int 0])), (qm, .inr (8, u18)), ((um 1), .inl (κ 4, 4, .inr (.inr (.inr (.inr (sel [(um 2), (um 3), (um 4), (um 5)])))))), ((um 3), .inl (κ 0, 196, .inl (fun _ => 0))), (qo, .inl (κ 2, 1, .inr (.inl u15)))] H := hP
      have hD : va_D (fun q : Nat => s.heap.size ≤ q) [((ux 1), .inl (κ 3, 4, .inr (.inr (.inr (.inr (sel [(ux 3), (ux 9), (ux 15), (ux 21)])))))), ((ux 9), .inr (6, [.ref (ux 10), .ref (ux 11), .int 0])), (qm, .inr (8, u18)), ((um 1), .inl (κ 4, 4, .inr (.inr (.inr (.inr (sel [(um 2), (um 3), (um 4), (um 5)])))))), ((um 3), .inl (κ 0, 196, .inl (fun _ => 0))), (qo, .inl (κ 2, 1, .inr (.inl u15)))] := hD
      obtain ⟨hu19, rfl⟩ := hw
      refine lv_istore (lv' := [(6, .int 0), (5, .int 1), (0, .ref b), (1, .ref qx), (2, .ref qm), (3, .ref qo), (4, .int 0)]) hx hb dL_law_859 hl (by decide) rfl (fun ls hl => ?_)
      refine lv_aload_n hx hb dL_law_861 rfl (lv_at hl 4 rfl) ?_
      refine vp_callSi (W.runV (As := []) (rest := []) ⟨hx, hb, hml, hown, hts⟩ (k_thrown l D κ qm u18 (1) hu19) (cwV 0 hts gL_law_X6_thrown rfl rfl rfl (by decide +kernel) ⟨(Nat.le_of_ble_eq_true rfl), (Nat.le_of_ble_eq_true rfl)⟩) (pre0_V (q0 := 2) (ci := 8) (wc := [(qm, .inr (8, u18))]) hP hK [2] rfl rfl rfl) rfl rfl hl.1 rfl (lv_room (Nat.le_of_ble_eq_true rfl)) dL_law_862 ⟨(Nat.le_of_ble_eq_true rfl), (Nat.le_of_ble_eq_true rfl)⟩) (fun r hw => ?_)
      subst hw
      refine lv_iload hx hb dL_law_865 (lv_at hl 1 rfl) ?_
      refine lv_icmp_eq (tgt := 872) hx hb dL_law_867 (by decide) (fun _ => ?_) (fun h => absurd (by decide) h)
      refine lv_iload hx hb dL_law_872 (lv_at hl 1 rfl) ?_
      refine lv_if_ne (tgt := 889) hx hb dL_law_874 (by decide) (fun _ => ?_) (fun h => absurd h (by decide))
      refine lv_goto (tgt := 1677) hx hb dL_law_889 (by decide) ?_
      exact law_end C0 (Nat.le_of_ble_eq_true rfl) (Nat.le_of_ble_eq_true rfl) hS (lv_sub hl [2, 6] rfl)
    · skip
      refine lv_istore (lv' := [(5, .int 1), (0, .ref b), (1, .ref qx), (2, .ref qm), (3, .ref qo), (4, .int 0)]) hx hb dL_law_841 hl (by decide) rfl (fun ls hl => ?_)
      refine lv_aload_n hx hb dL_law_843 rfl (lv_at hl 3 rfl) ?_
      refine lv_aload_n hx hb dL_law_844 rfl (lv_at hl 1 rfl) ?_
      refine lv_iload hx hb dL_law_845 (lv_at hl 5 rfl) ?_
      refine lv_iconst (v := 1) hx hb dL_law_847 (by decide) ?_
      refine lv_iadd hx hb dL_law_848 ?_
      refine tpi (v := 1) (by decide) ?_
      refine va_sld hx hb hX hbl hbA hS (vpl (by decide)) dL_law_849 ?_
      refine tpi (v := (xs 1)) rfl ?_
      refine lv_aload_n hx hb dL_law_850 rfl (lv_at hl 1 rfl) ?_
      refine lv_iload hx hb dL_law_851 (lv_at hl 5 rfl) ?_
      refine lv_iconst (v := 2) hx hb dL_law_853 (by decide) ?_
      refine lv_iadd hx hb dL_law_854 ?_
      refine tpi (v := 2) (by decide) ?_
      refine va_sld hx hb hX hbl hbA hS (vpl (by decide)) dL_law_855 ?_
      refine tpi (v := (xs 2)) rfl ?_
      have hF := va_free (wc := [(qm, .inr (8, [.int 0, .int 0, .int 2, .ref (um 0), .ref (um 1), .int 0, .int 500, .int 0, .int 0, .int 0, .ref (um 6)]))]) hD hS hA [2] rfl
      refine va_calli (va_runV (As := [.int (xs 1), .int (xs 2)]) (rest := []) ⟨hx, hb, hml, hown, hts⟩ (k_X6_prune_4 l D κ ε qm (um 0) (um 1) (um 6) H.size ((xs 1)) ((xs 2)) e1 c17) (cwV 2 hts gL_law_X6_prune rfl rfl rfl (by decide +kernel) ⟨(Nat.le_of_ble_eq_true rfl), (Nat.le_of_ble_eq_true rfl)⟩) (pre2_V (q0 := 2) (ci := 8) (wc := [(qm, .inr (8, [.int 0, .int 0, .int 2, .ref (um 0), .ref (um 1), .int 0, .int 500, .int 0, .int 0, .int 0, .ref (um 6)]))]) hP hD hK hE9 hS hA [2] (by decide) rfl rfl rfl) rfl rfl hl.1 rfl (lv_room (Nat.le_of_ble_eq_true rfl)) dL_law_856 ⟨(Nat.le_of_ble_eq_true rfl), (Nat.le_of_ble_eq_true rfl)⟩) hS (fun q _ h => hF q h) hF (fun r u20 t H locs ht hvm hw hB hz1 hk1 hS => ?_)
      try dsimp only at hw hB
      obtain ⟨hP1, hD1⟩ := hB
      rw [ht] at hP1
      obtain ⟨hP, hD⟩ := post_j (ws' := [((ux 1), .inl (κ 3, 4, .inr (.inr (.inr (.inr (sel [(ux 3), (ux 9), (ux 15), (ux 21)])))))), ((ux 9), .inr (6, [.ref (ux 10), .ref (ux 11), .int 0])), (qm, .inr (8, u20)), ((um 1), .inl (κ 4, 4, .inr (.inr (.inr (.inr (sel [(um 2), (um 3), (um 4), (um 5)])))))), ((um 3), .inl (κ 0, 196, .inl (fun _ => 0))), (qo, .inl (κ 2, 1, .inr (.inl u15)))]) (wr := [((ux 1), .inl (κ 3, 4, .inr (.inr (.inr (.inr (sel [(ux 3), (ux 9), (ux 15), (ux 21)])))))), ((ux 9), .inr (6, [.ref (ux 10), .ref (ux 11), .int 0])), ((um 1), .inl (κ 4, 4, .inr (.inr (.inr (.inr (sel [(um 2), (um 3), (um 4), (um 5)])))))), ((um 3), .inl (κ 0, 196, .inl (fun _ => 0))), (qo, .inl (κ 2, 1, .inr (.inl u15)))]) (w1 := [(qm, .inr (8, u20))]) hP hD hF [2] rfl [0, 1, 3, 4, 5] rfl (by decide) (by decide) hk1 hP1 hD1 [0, 1, 5, 2, 3, 4] (by decide) rfl
      have hP : va_P D vwCl [((ux 1), .inl (κ 3, 4, .inr (.inr (.inr (.inr (sel [(ux 3), (ux 9), (ux 15), (ux 21)])))))), ((ux 9), .inr (6, [.ref (ux 10), .ref (ux 11), .int 0])), (qm, .inr (8, u20)), ((um 1), .inl (κ 4, 4, .inr (.inr (.inr (.inr (sel [(um 2), (um 3), (um 4), (um 5)])))))), ((um 3), .inl (κ 0, 196, .inl (fun _ => 0))), (qo, .inl (κ 2, 1, .inr (.inl u15)))] H := hP
      have hD : va_D (fun q : Nat => s.heap.size ≤ q) [((ux 1), .inl (κ 3, 4, .inr (.inr (.inr (.inr (sel [(ux 3), (ux 9), (ux 15), (ux 21)])))))), ((ux 9), .inr (6, [.ref (ux 10), .ref (ux 11), .int 0])), (qm, .inr (8, u20)), ((um 1), .inl (κ 4, 4, .inr (.inr (.inr (.inr (sel [(um 2), (um 3), (um 4), (um 5)])))))), ((um 3), .inl (κ 0, 196, .inl (fun _ => 0))), (qo, .inl (κ 2, 1, .inr (.inl u15)))] := hD
      obtain ⟨hu21, rfl⟩ := hw
      refine lv_istore (lv' := [(6, .int 0), (5, .int 1), (0, .ref b), (1, .ref qx), (2, .ref qm), (3, .ref qo), (4, .int 0)]) hx hb dL_law_859 hl (by decide) rfl (fun ls hl => ?_)
      refine lv_aload_n hx hb dL_law_861 rfl (lv_at hl 4 rfl) ?_
      refine vp_callSi (W.runV (As := []) (rest := []) ⟨hx, hb, hml, hown, hts⟩ (k_thrown l D κ qm u20 (1) hu21) (cwV 0 hts gL_law_X6_thrown rfl rfl rfl (by decide +kernel) ⟨(Nat.le_of_ble_eq_true rfl), (Nat.le_of_ble_eq_true rfl)⟩) (pre0_V (q0 := 2) (ci := 8) (wc := [(qm, .inr (8, u20))]) hP hK [2] rfl rfl rfl) rfl rfl hl.1 rfl (lv_room (Nat.le_of_ble_eq_true rfl)) dL_law_862 ⟨(Nat.le_of_ble_eq_true rfl), (Nat.le_of_ble_eq_true rfl)⟩) (fun r hw => ?_)
      subst hw
      refine lv_iload hx hb dL_law_865 (lv_at hl 1 rfl) ?_
      refine lv_icmp_eq (tgt := 872) hx hb dL_law_867 (by decide) (fun _ => ?_) (fun h => absurd (by decide) h)
      refine lv_iload hx hb dL_law_872 (lv_at hl 1 rfl) ?_
      refine lv_if_ne (tgt := 889) hx hb dL_law_874 (by decide) (fun _ => ?_) (fun h => absurd h (by decide))
      refine lv_goto (tgt := 1677) hx hb dL_law_889 (by decide) ?_
      exact law_end C0 (Nat.le_of_ble_eq_true rfl) (Nat.le_of_ble_eq_true rfl) hS (lv_sub hl [2, 6] rfl)
