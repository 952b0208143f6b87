theorem at1_X5_setOrder_82 : ∀ w ∈ (vx_atS RX5 82 "java/lang/IllegalArgumentException" ["java/lang/RuntimeException", "java/lang/Exception"]).filter goodWord, w ∈ wsX5_setOrder := by decide +kernel

theorem at2_RX5_82 : ∀ w ∈ (vx_atS RX5 82 "java/lang/IllegalArgumentException" ["java/lang/RuntimeException", "java/lang/Exception"]).filter (fun w => !goodWord w), w ∈ ([.castable "java/lang/IllegalArgumentException" "java/lang/IllegalArgumentException", .declares (Bundle.initS "java/lang/RuntimeException"), .declares (Bundle.initS "java/lang/Exception"), .declares (Bundle.initS "java/lang/Throwable")] : List Cond) := by decide +kernel
theorem at2_RX5_82g : ∀ w ∈ Cond.classLink RX5 78 "java/lang/IllegalArgumentException" :: Cond.initialized "java/lang/IllegalArgumentException" :: (vx_atS RX5 82 "java/lang/IllegalArgumentException" ["java/lang/RuntimeException", "java/lang/Exception"]), vx_ot w = true := by decide +kernel

theorem wd140_X5_setOrder : (.classLink RX5 78 "java/lang/IllegalArgumentException" : Cond) ∈ wsX5_setOrder := by decide +kernel

theorem wd141_X5_setOrder : (.initialized "java/lang/IllegalArgumentException" : Cond) ∈ wsX5_setOrder := by decide +kernel

theorem wi_X5_setOrder_RX5 : ∀ w ∈ u_ws RX5 TX5 10, w ∈ wsX5_setOrder := by decide +kernel

theorem wd142_X5_setOrder : (.fieldLink RX5 10 "Canticle" "ledger" "LCanticle$Ledger;" : Cond) ∈ wsX5_setOrder := by decide +kernel

theorem wi_X5_setOrder_RX0 : ∀ w ∈ u_ws RX0 TX0 4, w ∈ wsX5_setOrder := by decide +kernel

theorem wd143_X5_setOrder : (.fieldLink RX5 83 "Canticle$Ledger" "order" "I" : Cond) ∈ wsX5_setOrder := by decide +kernel

set_option maxHeartbeats 4000000 in
set_option maxRecDepth 100000 in
theorem k_X5_setOrder_0 (l : Launch) (hst : l.stackTraces = false) (D : va_G) (κ ε : Nat → Nat) (h0 h1 h2 h3 h4 h5 h6 h7 h8 h9 h10 h11 h12 h13 h14 h15 h16 h17 h18 h19 h20 h21 h22 h23 h24 h25 h26 h27 h28 h29 h30 h31 h32 : Nat) (sz : Nat) (p0 : Int32) : vx_Met l yX5_setOrder wsX5_setOrder ({ frames := 6, cells := 1, slots := 6, locals := 120 }) (va_Pc [.ref h0, .int p0] (Pre2 D κ ε [(h0, .inr (7, [.ref h1, .ref h2, .ref h3, .ref h4, .ref h5, .ref h6, .int 0, .int 0, .int 0, .int 0])), (h1, .inr (2, [.int 0, .int 2, .ref h7, .ref h8])), (h7, .inl (κ 3, 4, .inr (.inr (.inr (.inr (sel [h9, h10, h11, h12])))))), (h8, .inl (κ 3, 4, .inr (.inr (.inr (.inr (sel [h13, h14, h15, h16])))))), (h9, .inr (6, [.ref h17, .ref h18, .int 0])), (h10, .inr (6, [.ref h19, .ref h20, .int 0])), (h11, .inr (6, [.ref h21, .ref h22, .int 0])), (h12, .inr (6, [.ref h23, .ref h24, .int 0])), (h13, .inr (6, [.ref h25, .ref h26, .int 0])), (h14, .inr (6, [.ref h27, .ref h28, .int 0])), (h15, .inr (6, [.ref h29, .ref h30, .int 0])), (h16, .inr (6, [.ref h31, .ref h32, .int 0]))] sz)) (va_Qi (fun r (u : Unit) => (¬ p0 < 1) ∧ (p0 ≤ 4) ∧ (r = 2)) (fun _ _ => True) (va_A [(h0, .inr (7, [.ref h1, .ref h2, .ref h3, .ref h4, .ref h5, .ref h6, .int 0, .int 0, .int 0, .int 0])), (h1, .inr (2, [.int 0, .int 2, .ref h7, .ref h8])), (h7, .inl (κ 3, 4, .inr (.inr (.inr (.inr (sel [h9, h10, h11, h12])))))), (h8, .inl (κ 3, 4, .inr (.inr (.inr (.inr (sel [h13, h14, h15, h16])))))), (h9, .inr (6, [.ref h17, .ref h18, .int 0])), (h10, .inr (6, [.ref h19, .ref h20, .int 0])), (h11, .inr (6, [.ref h21, .ref h22, .int 0])), (h12, .inr (6, [.ref h23, .ref h24, .int 0])), (h13, .inr (6, [.ref h25, .ref h26, .int 0])), (h14, .inr (6, [.ref h27, .ref h28, .int 0])), (h15, .inr (6, [.ref h29, .ref h30, .int 0])), (h16, .inr (6, [.ref h31, .ref h32, .int 0]))] sz)) (vx_X (fun _ : Unit => True) (fun E _ _ => ((p0 < 1) ∧ E = "java/lang/IllegalArgumentException") ∨ ((¬ p0 < 1) ∧ (¬ p0 ≤ 4) ∧ E = "java/lang/IllegalArgumentException")) (va_A [(h0, .inr (7, [.ref h1, .ref h2, .ref h3, .ref h4, .ref h5, .ref h6, .int 0, .int 0, .int 0, .int 0])), (h1, .inr (2, [.int 0, .int 2, .ref h7, .ref h8])), (h7, .inl (κ 3, 4, .inr (.inr (.inr (.inr (sel [h9, h10, h11, h12])))))), (h8, .inl (κ 3, 4, .inr (.inr (.inr (.inr (sel [h13, h14, h15, h16])))))), (h9, .inr (6, [.ref h17, .ref h18, .int 0])), (h10, .inr (6, [.ref h19, .ref h20, .int 0])), (h11, .inr (6, [.ref h21, .ref h22, .int 0])), (h12, .inr (6, [.ref h23, .ref h24, .int 0])), (h13, .inr (6, [.ref h25, .ref h26, .int 0])), (h14, .inr (6, [.ref h27, .ref h28, .int 0])), (h15, .inr (6, [.ref h29, .ref h30, .int 0])), (h16, .inr (6, [.ref h31, .ref h32, .int 0]))] sz)) 1 6 (va_A [(h0, .inr (7, [.ref h1, .ref h2, .ref h3, .ref h4, .ref h5, .ref h6, .int 0, .int 0, .int 0, .int 0])), (h1, .inr (2, [.int 0, .int 2, .ref h7, .ref h8])), (h7, .inl (κ 3, 4, .inr (.inr (.inr (.inr (sel [h9, h10, h11, h12])))))), (h8, .inl (κ 3, 4, .inr (.inr (.inr (.inr (sel [h13, h14, h15, h16])))))), (h9, .inr (6, [.ref h17, .ref h18, .int 0])), (h10, .inr (6, [.ref h19, .ref h20, .int 0])), (h11, .inr (6, [.ref h21, .ref h22, .int 0])), (h12, .inr (6, [.ref h23, .ref h24, .int 0])), (h13, .inr (6, [.ref h25, .ref h26, .int 0])), (h14, .inr (6, [.ref h27, .ref h28, .int 0])), (h15, .inr (6, [.ref h29, .ref h30, .int 0])), (h16, .inr (6, [.ref h31, .ref h32, .int 0]))] sz) := by
  refine vx_ofW (cc := cX5_setOrder) (maxL := 3) (ret := (some .int)) (by decide) rfl ?_
  intro p e s m args below meth c s₁ B hml hnx hv
  obtain ⟨rfl, hsz, hP, hK, hD0, hE9⟩ := hv
  have hx := B.exec
  have hb := B.bytes
  have hr := B.returns
  have hts := atoms_spec (ws := wsX5_setOrder) B.pre
  have hown : s.vm.findClass RX5 = some m.cls := findClass_of_methodNamed B.named
  have hlocks := B.notSynchronized
  subst hsz
  have hD := hD0.self (sz := s.heap.size)
  generalize hAe : va_A [(h0, .inr (7, [.ref h1, .ref h2, .ref h3, .ref h4, .ref h5, .ref h6, .int 0, .int 0, .int 0, .int 0])), (h1, .inr (2, [.int 0, .int 2, .ref h7, .ref h8])), (h7, .inl (κ 3, 4, .inr (.inr (.inr (.inr (sel [h9, h10, h11, h12])))))), (h8, .inl (κ 3, 4, .inr (.inr (.inr (.inr (sel [h13, h14, h15, h16])))))), (h9, .inr (6, [.ref h17, .ref h18, .int 0])), (h10, .inr (6, [.ref h19, .ref h20, .int 0])), (h11, .inr (6, [.ref h21, .ref h22, .int 0])), (h12, .inr (6, [.ref h23, .ref h24, .int 0])), (h13, .inr (6, [.ref h25, .ref h26, .int 0])), (h14, .inr (6, [.ref h27, .ref h28, .int 0])), (h15, .inr (6, [.ref h29, .ref h30, .int 0])), (h16, .inr (6, [.ref h31, .ref h32, .int 0]))] s.heap.size = A at hD hE9 ⊢
  have hE := hE9.1
  have hDc := hE9.2
  have hA : ∀ q : Nat, s.heap.size ≤ q → A q := fun q h => by rw [← hAe]; exact Or.inr h
  have hS : va_S A s.heap s.heap [] := va_S.rf
  have hP : va_P D vwCl [(h0, .inr (7, [.ref h1, .ref h2, .ref h3, .ref h4, .ref h5, .ref h6, .int 0, .int 0, .int 0, .int 0])), (h1, .inr (2, [.int 0, .int 2, .ref h7, .ref h8])), (h7, .inl (κ 3, 4, .inr (.inr (.inr (.inr (sel [h9, h10, h11, h12])))))), (h8, .inl (κ 3, 4, .inr (.inr (.inr (.inr (sel [h13, h14, h15, h16])))))), (h9, .inr (6, [.ref h17, .ref h18, .int 0])), (h10, .inr (6, [.ref h19, .ref h20, .int 0])), (h11, .inr (6, [.ref h21, .ref h22, .int 0])), (h12, .inr (6, [.ref h23, .ref h24, .int 0])), (h13, .inr (6, [.ref h25, .ref h26, .int 0])), (h14, .inr (6, [.ref h27, .ref h28, .int 0])), (h15, .inr (6, [.ref h29, .ref h30, .int 0])), (h16, .inr (6, [.ref h31, .ref h32, .int 0]))] s.heap := hP
  have hl := lv_entry [.ref h0, .int p0] (n := 3) (Nat.le_of_ble_eq_true rfl)
  rw [lg_entry_eq]
  generalize (lg_sl [.ref h0, .int p0] ++ List.replicate (3 - (lg_sl [.ref h0, .int p0]).length) Slot.unset).toArray = ls at hl ⊢
  have hl : lv_has ls 3 [(0, .ref h0), (1, .int p0)] := hl
  refine lv_iload_n hx hb dX5_setOrder_0 rfl (lv_at hl 1 rfl) ?_
  refine lv_iconst (v := 1) hx hb dX5_setOrder_1 (by decide) ?_
  refine lv_icmp_lt (tgt := 10) hx hb dX5_setOrder_2 (by decide) (fun c1 => ?_) (fun c1 => ?_)
  · skip
    exact vx_throwS (names := ["java/lang/RuntimeException", "java/lang/Exception"]) (sa := ε 11) hx hb hst hown (by decide +kernel) (by decide +kernel) (hts _ wd140_X5_setOrder) (hts _ wd141_X5_setOrder) (hE.2.2.2.2.2.2.1 _ (List.mem_of_getElem? (i := 1) rfl)) (vx_hat (B := [.castable "java/lang/IllegalArgumentException" "java/lang/IllegalArgumentException", .declares (Bundle.initS "java/lang/RuntimeException"), .declares (Bundle.initS "java/lang/Exception"), .declares (Bundle.initS "java/lang/Throwable")]) (fun w hw => hts w (at1_X5_setOrder_82 w hw)) at2_RX5_82 (vx_c (va_Nw.use rfl hE.2.2.2.2.2.2.2.2.2.2.2.2.2.2.1) (vx_c (va_Nw.use rfl hDc.1) (vx_c (va_Nw.use rfl hDc.2.1) (vx_c (va_Nw.use rfl hDc.2.2) vx_n))))) at2_RX5_82g hE.1 hE.2.1 hS (by rw [hml]; exact hl.1) dX5_setOrder_10 dX5_setOrder_13 dX5_setOrder_14 dX5_setOrder_16 dX5_setOrder_19 (fun x hx => (hnx x hx).elim) (by decide) (by decide) (Nat.le_of_ble_eq_true rfl) (Nat.le_of_ble_eq_true rfl) hlocks (fun t _ h1 h2 => ⟨(), trivial, (Or.inl ⟨c1, rfl⟩), thF (H0 := s.heap) hS h1 h2⟩) hS.2.2 (Nat.le_of_ble_eq_true rfl) (Nat.le_of_ble_eq_true rfl)
  · skip
    refine lv_iload_n hx hb dX5_setOrder_5 rfl (lv_at hl 1 rfl) ?_
    refine lv_iconst (v := 4) hx hb dX5_setOrder_6 (by decide) ?_
    refine lv_icmp_le (tgt := 20) hx hb dX5_setOrder_7 (by decide) (fun c2 => ?_) (fun c2 => ?_)
    · skip
      refine lv_aload_n hx hb dX5_setOrder_20 rfl (lv_at hl 0 rfl) ?_
      refine va_get (D := D) (ci := 7) (v := .ref h1) (C := RX5) (T := TX5) (N := 10) hx hb hts wi_X5_setOrder_RX5 hown hK hP 0 rfl rfl 0 (by decide) (hts _ wd142_X5_setOrder) (fun _ h9 => h9) rfl dX5_setOrder_21 ?_
      refine va_get (D := D) (ci := 2) (v := .int 2) (C := RX0) (T := TX0) (N := 4) hx hb hts wi_X5_setOrder_RX0 hown hK hP 1 rfl rfl 1 (by decide) (hts _ wd143_X5_setOrder) (fun _ h9 => h9) rfl dX5_setOrder_24 ?_
      refine lv_istore_n (lv' := [(2, .int 2), (0, .ref h0), (1, .int p0)]) hx hb dX5_setOrder_27 rfl hl (by decide) rfl (fun ls hl => ?_)
      refine lv_aload_n hx hb dX5_setOrder_28 rfl (lv_at hl 1 rfl) ?_
      refine va_get (D := D) (ci := 7) (v := .ref h1) (C := RX5) (T := TX5) (N := 10) hx hb hts wi_X5_setOrder_RX5 hown hK hP 0 rfl rfl 0 (by decide) (hts _ wd142_X5_setOrder) (fun _ h9 => h9) rfl dX5_setOrder_29 ?_
      have hF := va_free (wc := [(h1, .inr (2, [.int 0, .int 2, .ref h7, .ref h8])), (h7, .inl (κ 3, 4, .inr (.inr (.inr (.inr (sel [h9, h10, h11, h12])))))), (h8, .inl (κ 3, 4, .inr (.inr (.inr (.inr (sel [h13, h14, h15, h16])))))), (h9, .inr (6, [.ref h17, .ref h18, .int 0])), (h10, .inr (6, [.ref h19, .ref h20, .int 0])), (h11, .inr (6, [.ref h21, .ref h22, .int 0])), (h12, .inr (6, [.ref h23, .ref h24, .int 0])), (h13, .inr (6, [.ref h25, .ref h26, .int 0])), (h14, .inr (6, [.ref h27, .ref h28, .int 0])), (h15, .inr (6, [.ref h29, .ref h30, .int 0])), (h16, .inr (6, [.ref h31, .ref h32, .int 0]))]) hD hS hA [1, 2, 3, 4, 5, 6, 7, 8, 9, 10, 11] rfl
      refine va_callv (va_runV (As := []) (rest := []) ⟨hx, hb, hml, hown, hts⟩ (k_X0_forgetAll_0 l D κ ε h1 h7 h8 h9 h10 h11 h12 h13 h14 h15 h16 h17 h18 h19 h20 h21 h22 h23 h24 h25 h26 h27 h28 h29 h30 h31 h32 s.heap.size (0) (2) (0) (0) (0) (0) (0) (0) (0) (0)) (cwV 0 hts gX5_setOrder_X0_forgetAll rfl rfl rfl (by decide +kernel) ⟨(Nat.le_of_ble_eq_true rfl), (Nat.le_of_ble_eq_true rfl)⟩) (pre2_V (q0 := 1) (ci := 2) (wc := [(h1, .inr (2, [.int 0, .int 2, .ref h7, .ref h8])), (h7, .inl (κ 3, 4, .inr (.inr (.inr (.inr (sel [h9, h10, h11, h12])))))), (h8, .inl (κ 3, 4, .inr (.inr (.inr (.inr (sel [h13, h14, h15, h16])))))), (h9, .inr (6, [.ref h17, .ref h18, .int 0])), (h10, .inr (6, [.ref h19, .ref h20, .int 0])), (h11, .inr (6, [.ref h21, .ref h22, .int 0])), (h12, .inr (6, [.ref h23, .ref h24, .int 0])), (h13, .inr (6, [.ref h25, .ref h26, .int 0])), (h14, .inr (6, [.ref h27, .ref h28, .int 0])), (h15, .inr (6, [.ref h29, .ref h30, .int 0])), (h16, .inr (6, [.ref h31, .ref h32, .int 0]))]) hP hD hK hE9 hS hA [1, 2, 3, 4, 5, 6, 7, 8, 9, 10, 11] (by decide) rfl rfl rfl) rfl rfl hl.1 rfl (lv_room (Nat.le_of_ble_eq_true rfl)) dX5_setOrder_32 ⟨(Nat.le_of_ble_eq_true rfl), (Nat.le_of_ble_eq_true rfl)⟩) hS (fun q _ h => hF q h) hF (fun u3 t H locs ht hvm hw hB hz1 hk1 hS => ?_)
      try dsimp only at hw hB
      obtain ⟨hP1, hD1⟩ := hB
      rw [ht] at hP1
      obtain ⟨hP, hD⟩ := post_j (ws' := [(h0, .inr (7, [.ref h1, .ref h2, .ref h3, .ref h4, .ref h5, .ref h6, .int 0, .int 0, .int 0, .int 0])), (h1, .inr (2, [.int 0, .int 2, .ref h7, .ref h8])), (h7, .inl (κ 3, 4, .inr (.inr (.inr (.inr (sel [h9, h10, h11, h12])))))), (h8, .inl (κ 3, 4, .inr (.inr (.inr (.inr (sel [h13, h14, h15, h16])))))), (h9, .inr (6, [.ref h17, .ref h18, .int 0])), (h10, .inr (6, [.ref h19, .ref h20, .int 0])), (h11, .inr (6, [.ref h21, .ref h22, .int 0])), (h12, .inr (6, [.ref h23, .ref h24, .int 0])), (h13, .inr (6, [.ref h25, .ref h26, .int 0])), (h14, .inr (6, [.ref h27, .ref h28, .int 0])), (h15, .inr (6, [.ref h29, .ref h30, .int 0])), (h16, .inr (6, [.ref h31, .ref h32, .int 0]))]) (wr := [(h0, .inr (7, [.ref h1, .ref h2, .ref h3, .ref h4, .ref h5, .ref h6, .int 0, .int 0, .int 0, .int 0]))]) (w1 := [(h1, .inr (2, [.int 0, .int 2, .ref h7, .ref h8])), (h7, .inl (κ 3, 4, .inr (.inr (.inr (.inr (sel [h9, h10, h11, h12])))))), (h8, .inl (κ 3, 4, .inr (.inr (.inr (.inr (sel [h13, h14, h15, h16])))))), (h9, .inr (6, [.ref h17, .ref h18, .int 0])), (h10, .inr (6, [.ref h19, .ref h20, .int 0])), (h11, .inr (6, [.ref h21, .ref h22, .int 0])), (h12, .inr (6, [.ref h23, .ref h24, .int 0])), (h13, .inr (6, [.ref h25, .ref h26, .int 0])), (h14, .inr (6, [.ref h27, .ref h28, .int 0])), (h15, .inr (6, [.ref h29, .ref h30, .int 0])), (h16, .inr (6, [.ref h31, .ref h32, .int 0]))]) hP hD hF [1, 2, 3, 4, 5, 6, 7, 8, 9, 10, 11] rfl [0] rfl (by decide) (by decide) hk1 hP1 hD1 [0, 1, 2, 3, 4, 5, 6, 7, 8, 9, 10, 11] (by decide) rfl
      have hP : va_P D vwCl [(h0, .inr (7, [.ref h1, .ref h2, .ref h3, .ref h4, .ref h5, .ref h6, .int 0, .int 0, .int 0, .int 0])), (h1, .inr (2, [.int 0, .int 2, .ref h7, .ref h8])), (h7, .inl (κ 3, 4, .inr (.inr (.inr (.inr (sel [h9, h10, h11, h12])))))), (h8, .inl (κ 3, 4, .inr (.inr (.inr (.inr (sel [h13, h14, h15, h16])))))), (h9, .inr (6, [.ref h17, .ref h18, .int 0])), (h10, .inr (6, [.ref h19, .ref h20, .int 0])), (h11, .inr (6, [.ref h21, .ref h22, .int 0])), (h12, .inr (6, [.ref h23, .ref h24, .int 0])), (h13, .inr (6, [.ref h25, .ref h26, .int 0])), (h14, .inr (6, [.ref h27, .ref h28, .int 0])), (h15, .inr (6, [.ref h29, .ref h30, .int 0])), (h16, .inr (6, [.ref h31, .ref h32, .int 0]))] H := hP
      have hD : va_D A [(h0, .inr (7, [.ref h1, .ref h2, .ref h3, .ref h4, .ref h5, .ref h6, .int 0, .int 0, .int 0, .int 0])), (h1, .inr (2, [.int 0, .int 2, .ref h7, .ref h8])), (h7, .inl (κ 3, 4, .inr (.inr (.inr (.inr (sel [h9, h10, h11, h12])))))), (h8, .inl (κ 3, 4, .inr (.inr (.inr (.inr (sel [h13, h14, h15, h16])))))), (h9, .inr (6, [.ref h17, .ref h18, .int 0])), (h10, .inr (6, [.ref h19, .ref h20, .int 0])), (h11, .inr (6, [.ref h21, .ref h22, .int 0])), (h12, .inr (6, [.ref h23, .ref h24, .int 0])), (h13, .inr (6, [.ref h25, .ref h26, .int 0])), (h14, .inr (6, [.ref h27, .ref h28, .int 0])), (h15, .inr (6, [.ref h29, .ref h30, .int 0])), (h16, .inr (6, [.ref h31, .ref h32, .int 0]))] := hD
      refine lv_aload_n hx hb dX5_setOrder_35 rfl (lv_at hl 1 rfl) ?_
      refine va_get (D := D) (ci := 7) (v := .ref h1) (C := RX5) (T := TX5) (N := 10) hx hb hts wi_X5_setOrder_RX5 hown hK hP 0 rfl rfl 0 (by decide) (hts _ wd142_X5_setOrder) (fun _ h9 => h9) rfl dX5_setOrder_36 ?_
      refine lv_iload_n hx hb dX5_setOrder_39 rfl (lv_at hl 2 rfl) ?_
      refine va_put (D := D) (ci := 2) (v := .int p0) (ty := .int) (C := RX0) (T := TX0) (N := 4) hx hb hts wi_X5_setOrder_RX0 tyX0 tyX0_ok nmX0 hown hK hP hD hS 1 rfl rfl 1 (by decide) (hts _ wd143_X5_setOrder) (fun _ h9 => h9) rfl (by decide +kernel) rfl rfl (Nat.le_of_ble_eq_true rfl) dX5_setOrder_40 (fun H locs hP hD hS => ?_)
      have hP : va_P D vwCl [(h0, .inr (7, [.ref h1, .ref h2, .ref h3, .ref h4, .ref h5, .ref h6, .int 0, .int 0, .int 0, .int 0])), (h1, .inr (2, [.int 0, .int p0, .ref h7, .ref h8])), (h7, .inl (κ 3, 4, .inr (.inr (.inr (.inr (sel [h9, h10, h11, h12])))))), (h8, .inl (κ 3, 4, .inr (.inr (.inr (.inr (sel [h13, h14, h15, h16])))))), (h9, .inr (6, [.ref h17, .ref h18, .int 0])), (h10, .inr (6, [.ref h19, .ref h20, .int 0])), (h11, .inr (6, [.ref h21, .ref h22, .int 0])), (h12, .inr (6, [.ref h23, .ref h24, .int 0])), (h13, .inr (6, [.ref h25, .ref h26, .int 0])), (h14, .inr (6, [.ref h27, .ref h28, .int 0])), (h15, .inr (6, [.ref h29, .ref h30, .int 0])), (h16, .inr (6, [.ref h31, .ref h32, .int 0]))] H := hP
      have hD : va_D A [(h0, .inr (7, [.ref h1, .ref h2, .ref h3, .ref h4, .ref h5, .ref h6, .int 0, .int 0, .int 0, .int 0])), (h1, .inr (2, [.int 0, .int p0, .ref h7, .ref h8])), (h7, .inl (κ 3, 4, .inr (.inr (.inr (.inr (sel [h9, h10, h11, h12])))))), (h8, .inl (κ 3, 4, .inr (.inr (.inr (.inr (sel [h13, h14, h15, h16])))))), (h9, .inr (6, [.ref h17, .ref h18, .int 0])), (h10, .inr (6, [.ref h19, .ref h20, .int 0])), (h11, .inr (6, [.ref h21, .ref h22, .int 0])), (h12, .inr (6, [.ref h23, .ref h24, .int 0])), (h13, .inr (6, [.ref h25, .ref h26, .int 0])), (h14, .inr (6, [.ref h27, .ref h28, .int 0])), (h15, .inr (6, [.ref h29, .ref h30, .int 0])), (h16, .inr (6, [.ref h31, .ref h32, .int 0]))] := hD
      refine lv_iload_n hx hb dX5_setOrder_43 rfl (lv_at hl 0 rfl) ?_
      refine W.widen (k := 1) (n := 6) (Nat.le_of_ble_eq_true rfl) (Nat.le_of_ble_eq_true rfl) ?_
      refine vx_ret ?_
      exact W.iret (v := 2) hx hb hr (fun t ht hW => ⟨⟨2, (), rfl, ⟨c1, c2, rfl⟩, trivial⟩, hS.F ht⟩) hS.2.2 dX5_setOrder_44
    · skip
      exact vx_throwS (names := ["java/lang/RuntimeException", "java/lang/Exception"]) (sa := ε 11) hx hb hst hown (by decide +kernel) (by decide +kernel) (hts _ wd140_X5_setOrder) (hts _ wd141_X5_setOrder) (hE.2.2.2.2.2.2.1 _ (List.mem_of_getElem? (i := 1) rfl)) (vx_hat (B := [.castable "java/lang/IllegalArgumentException" "java/lang/IllegalArgumentException", .declares (Bundle.initS "java/lang/RuntimeException"), .declares (Bundle.initS "java/lang/Exception"), .declares (Bundle.initS "java/lang/Throwable")]) (fun w hw => hts w (at1_X5_setOrder_82 w hw)) at2_RX5_82 (vx_c (va_Nw.use rfl hE.2.2.2.2.2.2.2.2.2.2.2.2.2.2.1) (vx_c (va_Nw.use rfl hDc.1) (vx_c (va_Nw.use rfl hDc.2.1) (vx_c (va_Nw.use rfl hDc.2.2) vx_n))))) at2_RX5_82g hE.1 hE.2.1 hS (by rw [hml]; exact hl.1) dX5_setOrder_10 dX5_setOrder_13 dX5_setOrder_14 dX5_setOrder_16 dX5_setOrder_19 (fun x hx => (hnx x hx).elim) (by decide) (by decide) (Nat.le_of_ble_eq_true rfl) (Nat.le_of_ble_eq_true rfl) hlocks (fun t _ h1 h2 => ⟨(), trivial, (Or.inr ⟨c1, c2, rfl⟩), thF (H0 := s.heap) hS h1 h2⟩) hS.2.2 (Nat.le_of_ble_eq_true rfl) (Nat.le_of_ble_eq_true rfl)

theorem wd144_L_setOrder : (.classLink RL 19 "java/lang/IllegalArgumentException" : Cond) ∈ wsL_setOrder := by decide +kernel

set_option maxHeartbeats 4000000 in
set_option maxRecDepth 100000 in
theorem k_L_setOrder_0 (l : Launch) (hst : l.stackTraces = false) (D : va_G) (κ ε : Nat → Nat) (h0 h1 h2 h3 h4 h5 h6 h7 h8 h9 h10 h11 h12 h13 h14 h15 h16 h17 h18 h19 h20 h21 h22 h23 h24 h25 h26 h27 h28 h29 h30 h31 h32 h33 : Nat) (sz : Nat) (p0 : Int32) : Met l yL_setOrder wsL_setOrder ({ frames := 7, cells := 1, slots := 6, locals := 142 }) (va_Pc [.ref h0, .int p0, .ref h1] (Pre2 D κ ε [(h0, .inr (7, [.ref h2, .ref h3, .ref h4, .ref h5, .ref h6, .ref h7, .int 0, .int 0, .int 0, .int 0])), (h1, .inl (κ 2, 1, .inr (.inl (fun _ => 0)))), (h2, .inr (2, [.int 0, .int 2, .ref h8, .ref h9])), (h8, .inl (κ 3, 4, .inr (.inr (.inr (.inr (sel [h10, h11, h12, h13])))))), (h9, .inl (κ 3, 4, .inr (.inr (.inr (.inr (sel [h14, h15, h16, h17])))))), (h10, .inr (6, [.ref h18, .ref h19, .int 0])), (h11, .inr (6, [.ref h20, .ref h21, .int 0])), (h12, .inr (6, [.ref h22, .ref h23, .int 0])), (h13, .inr (6, [.ref h24, .ref h25, .int 0])), (h14, .inr (6, [.ref h26, .ref h27, .int 0])), (h15, .inr (6, [.ref h28, .ref h29, .int 0])), (h16, .inr (6, [.ref h30, .ref h31, .int 0])), (h17, .inr (6, [.ref h32, .ref h33, .int 0]))] sz)) (va_Qi (fun r (u : Nat → Int64) => ((p0 < 1) ∧ (r = 1)) ∨ ((¬ p0 < 1) ∧ (¬ p0 ≤ 4) ∧ (r = 1)) ∨ ((¬ p0 < 1) ∧ (p0 ≤ 4) ∧ (u 0 = 2) ∧ (r = 0))) (fun u t => va_P D vwCl [(h1, .inl (κ 2, 1, .inr (.inl u)))] t.heap ∧ va_D (va_A [(h0, .inr (7, [.ref h2, .ref h3, .ref h4, .ref h5, .ref h6, .ref h7, .int 0, .int 0, .int 0, .int 0])), (h1, .inl (κ 2, 1, .inr (.inl (fun _ => 0)))), (h2, .inr (2, [.int 0, .int 2, .ref h8, .ref h9])), (h8, .inl (κ 3, 4, .inr (.inr (.inr (.inr (sel [h10, h11, h12, h13])))))), (h9, .inl (κ 3, 4, .inr (.inr (.inr (.inr (sel [h14, h15, h16, h17])))))), (h10, .inr (6, [.ref h18, .ref h19, .int 0])), (h11, .inr (6, [.ref h20, .ref h21, .int 0])), (h12, .inr (6, [.ref h22, .ref h23, .int 0])), (h13, .inr (6, [.ref h24, .ref h25, .int 0])), (h14, .inr (6, [.ref h26, .ref h27, .int 0])), (h15, .inr (6, [.ref h28, .ref h29, .int 0])), (h16, .inr (6, [.ref h30, .ref h31, .int 0])), (h17, .inr (6, [.ref h32, .ref h33, .int 0]))] sz) [(h1, .inl (κ 2, 1, .inr (.inl u)))]) (va_A [(h0, .inr (7, [.ref h2, .ref h3, .ref h4, .ref h5, .ref h6, .ref h7, .int 0, .int 0, .int 0, .int 0])), (h1, .inl (κ 2, 1, .inr (.inl (fun _ => 0)))), (h2, .inr (2, [.int 0, .int 2, .ref h8, .ref h9])), (h8, .inl (κ 3, 4, .inr (.inr (.inr (.inr (sel [h10, h11, h12, h13])))))), (h9, .inl (κ 3, 4, .inr (.inr (.inr (.inr (sel [h14, h15, h16, h17])))))), (h10, .inr (6, [.ref h18, .ref h19, .int 0])), (h11, .inr (6, [.ref h20, .ref h21, .int 0])), (h12, .inr (6, [.ref h22, .ref h23, .int 0])), (h13, .inr (6, [.ref h24, .ref h25, .int 0])), (h14, .inr (6, [.ref h26, .ref h27, .int 0])), (h15, .inr (6, [.ref h28, .ref h29, .int 0])), (h16, .inr (6, [.ref h30, .ref h31, .int 0])), (h17, .inr (6, [.ref h32, .ref h33, .int 0]))] sz)) 1 6 (va_A [(h0, .inr (7, [.ref h2, .ref h3, .ref h4, .ref h5, .ref h6, .ref h7, .int 0, .int 0, .int 0, .int 0])), (h1, .inl (κ 2, 1, .inr (.inl (fun _ => 0)))), (h2, .inr (2, [.int 0, .int 2, .ref h8, .ref h9])), (h8, .inl (κ 3, 4, .inr (.inr (.inr (.inr (sel [h10, h11, h12, h13])))))), (h9, .inl (κ 3, 4, .inr (.inr (.inr (.inr (sel [h14, h15, h16, h17])))))), (h10, .inr (6, [.ref h18, .ref h19, .int 0])), (h11, .inr (6, [.ref h20, .ref h21, .int 0])), (h12, .inr (6, [.ref h22, .ref h23, .int 0])), (h13, .inr (6, [.ref h24, .ref h25, .int 0])), (h14, .inr (6, [.ref h26, .ref h27, .int 0])), (h15, .inr (6, [.ref h28, .ref h29, .int 0])), (h16, .inr (6, [.ref h30, .ref h31, .int 0])), (h17, .inr (6, [.ref h32, .ref h33, .int 0]))] sz) := by
  refine va_MetW (cc := cL_setOrder) (maxL := 4) (ret := (some .int)) (hh := [(0, 9, 12, 19)]) (by decide) rfl ?_
  intro p e s m args below meth c s₁ B hml hv
  obtain ⟨rfl, hsz, hP, hK, hD0, hE9⟩ := hv
  have hx := B.exec
  have hb := B.bytes
  have hr := B.returns
  have hts := atoms_spec (ws := wsL_setOrder) B.pre
  have hown : s.vm.findClass RL = some m.cls := findClass_of_methodNamed B.named
  have hlocks := B.notSynchronized
  have htab : c.exceptionTable.toList = tableOf [(0, 9, 12, 19)] := vx_table (x := yL_setOrder) B (hts (.codeWith yL_setOrder cL_setOrder 4 (some .int) [(0, 9, 12, 19)]) List.mem_cons_self)
  subst hsz
  have hD := hD0.self (sz := s.heap.size)
  generalize hAe : va_A [(h0, .inr (7, [.ref h2, .ref h3, .ref h4, .ref h5, .ref h6, .ref h7, .int 0, .int 0, .int 0, .int 0])), (h1, .inl (κ 2, 1, .inr (.inl (fun _ => 0)))), (h2, .inr (2, [.int 0, .int 2, .ref h8, .ref h9])), (h8, .inl (κ 3, 4, .inr (.inr (.inr (.inr (sel [h10, h11, h12, h13])))))), (h9, .inl (κ 3, 4, .inr (.inr (.inr (.inr (sel [h14, h15, h16, h17])))))), (h10, .inr (6, [.ref h18, .ref h19, .int 0])), (h11, .inr (6, [.ref h20, .ref h21, .int 0])), (h12, .inr (6, [.ref h22, .ref h23, .int 0])), (h13, .inr (6, [.ref h24, .ref h25, .int 0])), (h14, .inr (6, [.ref h26, .ref h27, .int 0])), (h15, .inr (6, [.ref h28, .ref h29, .int 0])), (h16, .inr (6, [.ref h30, .ref h31, .int 0])), (h17, .inr (6, [.ref h32, .ref h33, .int 0]))] s.heap.size = A at hD hE9 ⊢
  have hE := hE9.1
  have hDc := hE9.2
  have hA : ∀ q : Nat, s.heap.size ≤ q → A q := fun q h => by rw [← hAe]; exact Or.inr h
  have hS : va_S A s.heap s.heap [] := va_S.rf
  have hP : va_P D vwCl [(h0, .inr (7, [.ref h2, .ref h3, .ref h4, .ref h5, .ref h6, .ref h7, .int 0, .int 0, .int 0, .int 0])), (h1, .inl (κ 2, 1, .inr (.inl (fun _ => 0)))), (h2, .inr (2, [.int 0, .int 2, .ref h8, .ref h9])), (h8, .inl (κ 3, 4, .inr (.inr (.inr (.inr (sel [h10, h11, h12, h13])))))), (h9, .inl (κ 3, 4, .inr (.inr (.inr (.inr (sel [h14, h15, h16, h17])))))), (h10, .inr (6, [.ref h18, .ref h19, .int 0])), (h11, .inr (6, [.ref h20, .ref h21, .int 0])), (h12, .inr (6, [.ref h22, .ref h23, .int 0])), (h13, .inr (6, [.ref h24, .ref h25, .int 0])), (h14, .inr (6, [.ref h26, .ref h27, .int 0])), (h15, .inr (6, [.ref h28, .ref h29, .int 0])), (h16, .inr (6, [.ref h30, .ref h31, .int 0])), (h17, .inr (6, [.ref h32, .ref h33, .int 0]))] s.heap := hP
  have hl := lv_entry [.ref h0, .int p0, .ref h1] (n := 4) (Nat.le_of_ble_eq_true rfl)
  rw [lg_entry_eq]
  generalize (lg_sl [.ref h0, .int p0, .ref h1] ++ List.replicate (4 - (lg_sl [.ref h0, .int p0, .ref h1]).length) Slot.unset).toArray = ls at hl ⊢
  have hl : lv_has ls 4 [(0, .ref h0), (1, .int p0), (2, .ref h1)] := hl
  refine lv_aload_n hx hb dL_setOrder_0 rfl (lv_at hl 2 rfl) ?_
  refine lv_iconst (v := 0) hx hb dL_setOrder_1 (by decide) ?_
  refine lv_aload_n hx hb dL_setOrder_2 rfl (lv_at hl 0 rfl) ?_
  refine lv_iload_n hx hb dL_setOrder_3 rfl (lv_at hl 1 rfl) ?_
  have hF := va_free (wc := [(h0, .inr (7, [.ref h2, .ref h3, .ref h4, .ref h5, .ref h6, .ref h7, .int 0, .int 0, .int 0, .int 0])), (h2, .inr (2, [.int 0, .int 2, .ref h8, .ref h9])), (h8, .inl (κ 3, 4, .inr (.inr (.inr (.inr (sel [h10, h11, h12, h13])))))), (h9, .inl (κ 3, 4, .inr (.inr (.inr (.inr (sel [h14, h15, h16, h17])))))), (h10, .inr (6, [.ref h18, .ref h19, .int 0])), (h11, .inr (6, [.ref h20, .ref h21, .int 0])), (h12, .inr (6, [.ref h22, .ref h23, .int 0])), (h13, .inr (6, [.ref h24, .ref h25, .int 0])), (h14, .inr (6, [.ref h26, .ref h27, .int 0])), (h15, .inr (6, [.ref h28, .ref h29, .int 0])), (h16, .inr (6, [.ref h30, .ref h31, .int 0])), (h17, .inr (6, [.ref h32, .ref h33, .int 0]))]) hD hS hA [0, 2, 3, 4, 5, 6, 7, 8, 9, 10, 11, 12] rfl
  refine vx_calli (vx_runV (As := [.int p0]) (rest := [.int 0, .ref h1]) ⟨hx, hb, hml, hown, hts⟩ (k_X5_setOrder_0 l hst D κ ε h0 h2 h3 h4 h5 h6 h7 h8 h9 h10 h11 h12 h13 h14 h15 h16 h17 h18 h19 h20 h21 h22 h23 h24 h25 h26 h27 h28 h29 h30 h31 h32 h33 s.heap.size (p0)) (cwV 1 hts gL_setOrder_X5_setOrder rfl rfl rfl (by decide +kernel) ⟨(Nat.le_of_ble_eq_true rfl), (Nat.le_of_ble_eq_true rfl)⟩) (pre2_V (q0 := 0) (ci := 7) (wc := [(h0, .inr (7, [.ref h2, .ref h3, .ref h4, .ref h5, .ref h6, .ref h7, .int 0, .int 0, .int 0, .int 0])), (h2, .inr (2, [.int 0, .int 2, .ref h8, .ref h9])), (h8, .inl (κ 3, 4, .inr (.inr (.inr (.inr (sel [h10, h11, h12, h13])))))), (h9, .inl (κ 3, 4, .inr (.inr (.inr (.inr (sel [h14, h15, h16, h17])))))), (h10, .inr (6, [.ref h18, .ref h19, .int 0])), (h11, .inr (6, [.ref h20, .ref h21, .int 0])), (h12, .inr (6, [.ref h22, .ref h23, .int 0])), (h13, .inr (6, [.ref h24, .ref h25, .int 0])), (h14, .inr (6, [.ref h26, .ref h27, .int 0])), (h15, .inr (6, [.ref h28, .ref h29, .int 0])), (h16, .inr (6, [.ref h30, .ref h31, .int 0])), (h17, .inr (6, [.ref h32, .ref h33, .int 0]))]) hP hD hK hE9 hS hA [0, 2, 3, 4, 5, 6, 7, 8, 9, 10, 11, 12] (by decide) rfl rfl rfl) rfl rfl hl.1 rfl (lv_room (Nat.le_of_ble_eq_true rfl)) dL_setOrder_4 ⟨(Nat.le_of_ble_eq_true rfl), (Nat.le_of_ble_eq_true rfl)⟩) hS (fun q _ h => hF q h) hF (fun q _ h => hF q h) (fun E9 ce q9 u t H locs ht hvm hw hB hz1 hk1 hS hce hcv hcl => ?_) (fun r u t H locs ht hvm hw hB hz1 hk1 hS => ?_)
  · try dsimp only at hB
    have hP1 : va_P D vwCl [] H := P_nil
    obtain ⟨hP, hD⟩ := post_j (ws' := [(h1, .inl (κ 2, 1, .inr (.inl (fun _ => 0))))]) (wr := [(h1, .inl (κ 2, 1, .inr (.inl (fun _ => 0))))]) (w1 := []) hP hD hF [0, 2, 3, 4, 5, 6, 7, 8, 9, 10, 11, 12] rfl [1] rfl (by decide) (by decide) hk1 hP1 D_nil [0] (by decide) rfl
    have hP : va_P D vwCl [(h1, .inl (κ 2, 1, .inr (.inl (fun _ => 0))))] H := hP
    have hD : va_D A [(h1, .inl (κ 2, 1, .inr (.inl (fun _ => 0))))] := hD
    rcases hB with ⟨c2, rfl⟩ | ⟨c3, c4, rfl⟩
    · skip
      refine vx_catch (name := "java/lang/IllegalArgumentException") hown [] ⟨0, 9, 12, 19⟩ [] (htab.trans rfl) (fun z hz => nomatch hz) (by decide) (by decide) (hts _ wd144_L_setOrder) (va_Nw.use rfl hE.2.2.2.2.2.2.2.2.2.2.2.2.2.2.1) hce hcv hcl ?_
      refine lv_astore_n (lv' := [(3, .ref q9), (0, .ref h0), (1, .int p0), (2, .ref h1)]) hx hb dL_setOrder_12 rfl hl (by decide) rfl (fun ls hl => ?_)
      refine lv_iconst (v := 1) hx hb dL_setOrder_13 (by decide) ?_
      have hP9 := hP.sub (ws' := [(h1, .inl (κ 2, 1, .inr (.inl (fun _ => 0))))]) [0] rfl
      have hD9 := hD.sub (ws' := [(h1, .inl (κ 2, 1, .inr (.inl (fun _ => 0))))]) [0] (by decide) rfl
      refine W.widen (k := 1) (n := 6) (Nat.le_of_ble_eq_true rfl) (Nat.le_of_ble_eq_true rfl) ?_
      exact W.iret (v := 1) hx hb hr (fun t ht hW => ⟨⟨1, (fun _ => 0), rfl, (Or.inl ⟨c2, rfl⟩), by rw [ht]; exact hP9, hD9⟩, hS.F ht⟩) hS.2.2 dL_setOrder_14
    · skip
      refine vx_catch (name := "java/lang/IllegalArgumentException") hown [] ⟨0, 9, 12, 19⟩ [] (htab.trans rfl) (fun z hz => nomatch hz) (by decide) (by decide) (hts _ wd144_L_setOrder) (va_Nw.use rfl hE.2.2.2.2.2.2.2.2.2.2.2.2.2.2.1) hce hcv hcl ?_
      refine lv_astore_n (lv' := [(3, .ref q9), (0, .ref h0), (1, .int p0), (2, .ref h1)]) hx hb dL_setOrder_12 rfl hl (by decide) rfl (fun ls hl => ?_)
      refine lv_iconst (v := 1) hx hb dL_setOrder_13 (by decide) ?_
      have hP9 := hP.sub (ws' := [(h1, .inl (κ 2, 1, .inr (.inl (fun _ => 0))))]) [0] rfl
      have hD9 := hD.sub (ws' := [(h1, .inl (κ 2, 1, .inr (.inl (fun _ => 0))))]) [0] (by decide) rfl
      refine W.widen (k := 1) (n := 6) (Nat.le_of_ble_eq_true rfl) (Nat.le_of_ble_eq_true rfl) ?_
      exact W.iret (v := 1) hx hb hr (fun t ht hW => ⟨⟨1, (fun _ => 0), rfl, (Or.inr (Or.inl ⟨c3, c4, rfl⟩)), by rw [ht]; exact hP9, hD9⟩, hS.F ht⟩) hS.2.2 dL_setOrder_14
  · try dsimp only at hw hB
    have hP1 : va_P D vwCl [] H := P_nil
    obtain ⟨hP, hD⟩ := post_j (ws' := [(h1, .inl (κ 2, 1, .inr (.inl (fun _ => 0))))]) (wr := [(h1, .inl (κ 2, 1, .inr (.inl (fun _ => 0))))]) (w1 := []) hP hD hF [0, 2, 3, 4, 5, 6, 7, 8, 9, 10, 11, 12] rfl [1] rfl (by decide) (by decide) hk1 hP1 D_nil [0] (by decide) rfl
    have hP : va_P D vwCl [(h1, .inl (κ 2, 1, .inr (.inl (fun _ => 0))))] H := hP
    have hD : va_D A [(h1, .inl (κ 2, 1, .inr (.inl (fun _ => 0))))] := hD
    obtain ⟨c5, c6, rfl⟩ := hw
    refine lv_i2l (v := 2) hx hb dL_setOrder_7 (by decide) ?_
    refine va_last (cA := κ 2) (n := 1) (f := (fun _ => 0)) hx hb hK hP hD hS 0 2 rfl rfl (vpl (by decide)) dL_setOrder_8 (fun H locs hP hD hS => ?_)
    have hP : va_P D vwCl [(h1, .inl (κ 2, 1, .inr (.inl (vp_updL (fun _ => 0) 0 2))))] H := hP
    have hD : va_D A [(h1, .inl (κ 2, 1, .inr (.inl (vp_updL (fun _ => 0) 0 2))))] := hD
    refine lv_goto (tgt := 15) hx hb dL_setOrder_9 (by decide) ?_
    refine lv_iconst (v := 0) hx hb dL_setOrder_15 (by decide) ?_
    have hP9 := hP.sub (ws' := [(h1, .inl (κ 2, 1, .inr (.inl (vp_updL (fun _ => 0) 0 2))))]) [0] rfl
    have hD9 := hD.sub (ws' := [(h1, .inl (κ 2, 1, .inr (.inl (vp_updL (fun _ => 0) 0 2))))]) [0] (by decide) rfl
    refine W.widen (k := 1) (n := 6) (Nat.le_of_ble_eq_true rfl) (Nat.le_of_ble_eq_true rfl) ?_
    exact W.iret (v := 0) hx hb hr (fun t ht hW => ⟨⟨0, (vp_updL (fun _ => 0) 0 2), rfl, (Or.inr (Or.inr ⟨c5, c6, rfl, rfl⟩)), by rw [ht]; exact hP9, hD9⟩, hS.F ht⟩) hS.2.2 dL_setOrder_16

set_option maxHeartbeats 4000000 in
set_option maxRecDepth 100000 in
theorem k_X6_isIn_0 (l : Launch) (D : va_G) (κ ε : Nat → Nat) (p0 : Int32) (hf0 : p0 < 1) : Met l yX6_isIn wsX6_isIn ({ frames := 0, cells := 0, slots := 0, locals := 0 }) (va_Pc [.int p0, .int 1, .int 4] (Pre0 D κ [])) (vp_Si (fun r => (r = 0))) 0 0 (fun _ => False) := by
  refine Met.ofW (cc := cX6_isIn) (maxL := 3) (ret := (some .boolean)) (by decide) rfl ?_
  intro p e s m args below meth c s₁ B hml hv
  obtain ⟨rfl, hP, hK⟩ := hv
  have hx := B.exec
  have hb := B.bytes
  have hr := B.returns
  have hts := atoms_spec (ws := wsX6_isIn) B.pre
  have hown : s.vm.findClass RX6 = some m.cls := findClass_of_methodNamed B.named
  have hlocks := B.notSynchronized
  have hP : va_P D vwCl [] s.heap := hP
  have hl := lv_entry [.int p0, .int 1, .int 4] (n := 3) (Nat.le_of_ble_eq_true rfl)
  rw [lg_entry_eq]
  generalize (lg_sl [.int p0, .int 1, .int 4] ++ List.replicate (3 - (lg_sl [.int p0, .int 1, .int 4]).length) Slot.unset).toArray = ls at hl ⊢
  have hl : lv_has ls 3 [(0, .int p0), (1, .int 1), (2, .int 4)] := hl
  refine lv_iload_n hx hb dX6_isIn_0 rfl (lv_at hl 0 rfl) ?_
  refine lv_iload_n hx hb dX6_isIn_1 rfl (lv_at hl 1 rfl) ?_
  refine lv_icmp_lt (tgt := 14) hx hb dX6_isIn_2 (by decide) (fun _ => ?_) (fun h => absurd hf0 h)
  refine lv_iconst (v := 0) hx hb dX6_isIn_14 (by decide) ?_
  exact W.zret (v := 0) hx hb hr rfl (fun t ht hW => ⟨0, rfl, rfl, ht⟩) (fun q hq => absurd hq List.not_mem_nil) dX6_isIn_15

set_option maxHeartbeats 4000000 in
set_option maxRecDepth 100000 in
theorem k_X6_refuse_1 (l : Launch) (D : va_G) (κ ε : Nat → Nat) (h0 h1 h2 h3 : Nat) (sz : Nat) (p0 : Int32) (p1 : Int32) (p2 : Int32) (p3 : Int32) (p4 : Int32) (p5 : Int32) : Met l yX6_refuse wsX6_refuse ({ frames := 0, cells := 0, slots := 0, locals := 0 }) (va_Pc [.ref h0, .int 1, .int 1] (Pre2 D κ ε [(h0, .inr (8, [.int 0, .int p0, .int p1, .ref h1, .ref h2, .int p2, .int p3, .int p4, .int p5, .int 0, .ref h3]))] sz)) (va_Qi (fun r (u : Unit) => (r = 1)) (fun u t => va_P D vwCl [(h0, .inr (8, [.int 1, .int p0, .int p1, .ref h1, .ref h2, .int p2, .int p3, .int p4, .int p5, .int 0, .ref h3]))] t.heap ∧ va_D (va_A [(h0, .inr (8, [.int 0, .int p0, .int p1, .ref h1, .ref h2, .int p2, .int p3, .int p4, .int p5, .int 0, .ref h3]))] sz) [(h0, .inr (8, [.int 1, .int p0, .int p1, .ref h1, .ref h2, .int p2, .int p3, .int p4, .int p5, .int 0, .ref h3]))]) (va_A [(h0, .inr (8, [.int 0, .int p0, .int p1, .ref h1, .ref h2, .int p2, .int p3, .int p4, .int p5, .int 0, .ref h3]))] sz)) 0 0 (va_A [(h0, .inr (8, [.int 0, .int p0, .int p1, .ref h1, .ref h2, .int p2, .int p3, .int p4, .int p5, .int 0, .ref h3]))] sz) := by
  refine Met.ofW (cc := cX6_refuse) (maxL := 3) (ret := (some .boolean)) (by decide) rfl ?_
  intro p e s m args below meth c s₁ B hml hv
  obtain ⟨rfl, hsz, hP, hK, hD0, hE9⟩ := hv
  have hx := B.exec
  have hb := B.bytes
  have hr := B.returns
  have hts := atoms_spec (ws := wsX6_refuse) B.pre
  have hown : s.vm.findClass RX6 = some m.cls := findClass_of_methodNamed B.named
  have hlocks := B.notSynchronized
  subst hsz
  have hD := hD0.self (sz := s.heap.size)
  generalize hAe : va_A [(h0, .inr (8, [.int 0, .int p0, .int p1, .ref h1, .ref h2, .int p2, .int p3, .int p4, .int p5, .int 0, .ref h3]))] s.heap.size = A at hD hE9 ⊢
  have hE := hE9.1
  have hDc := hE9.2
  have hA : ∀ q : Nat, s.heap.size ≤ q → A q := fun q h => by rw [← hAe]; exact Or.inr h
  have hS : va_S A s.heap s.heap [] := va_S.rf
  have hP : va_P D vwCl [(h0, .inr (8, [.int 0, .int p0, .int p1, .ref h1, .ref h2, .int p2, .int p3, .int p4, .int p5, .int 0, .ref h3]))] s.heap := hP
  have hl := lv_entry [.ref h0, .int 1, .int 1] (n := 3) (Nat.le_of_ble_eq_true rfl)
  rw [lg_entry_eq]
  generalize (lg_sl [.ref h0, .int 1, .int 1] ++ List.replicate (3 - (lg_sl [.ref h0, .int 1, .int 1]).length) Slot.unset).toArray = ls at hl ⊢
  have hl : lv_has ls 3 [(0, .ref h0), (1, .int 1), (2, .int 1)] := hl
  refine lv_iload_n hx hb dX6_refuse_0 rfl (lv_at hl 1 rfl) ?_
  refine lv_if_eq (tgt := 16) hx hb dX6_refuse_1 (by decide) (fun h => absurd h (by decide)) (fun _ => ?_)
  refine lv_aload_n hx hb dX6_refuse_4 rfl (lv_at hl 0 rfl) ?_
  refine va_get (D := D) (ci := 8) (v := .int 0) (C := RX6) (T := TX6) (N := 11) hx hb hts wi_X6_refuse_RX6 hown hK hP 0 rfl rfl 0 (by decide) (hts _ wd129_X6_refuse) (fun _ h9 => h9) rfl dX6_refuse_5 ?_
  refine lv_if_ne (tgt := 16) hx hb dX6_refuse_8 (by decide) (fun h => absurd (by decide) h) (fun _ => ?_)
  refine lv_aload_n hx hb dX6_refuse_11 rfl (lv_at hl 0 rfl) ?_
  refine lv_iload_n hx hb dX6_refuse_12 rfl (lv_at hl 2 rfl) ?_
  refine va_put (D := D) (ci := 8) (v := .int 1) (ty := .int) (C := RX6) (T := TX6) (N := 11) hx hb hts wi_X6_refuse_RX6 tyX6 tyX6_ok nmX6 hown hK hP hD hS 0 rfl rfl 0 (by decide) (hts _ wd129_X6_refuse) (fun _ h9 => h9) rfl (by decide +kernel) rfl rfl (Nat.le_of_ble_eq_true rfl) dX6_refuse_13 (fun H locs hP hD hS => ?_)
  have hP : va_P D vwCl [(h0, .inr (8, [.int 1, .int p0, .int p1, .ref h1, .ref h2, .int p2, .int p3, .int p4, .int p5, .int 0, .ref h3]))] H := hP
  have hD : va_D A [(h0, .inr (8, [.int 1, .int p0, .int p1, .ref h1, .ref h2, .int p2, .int p3, .int p4, .int p5, .int 0, .ref h3]))] := hD
  refine lv_aload_n hx hb dX6_refuse_16 rfl (lv_at hl 0 rfl) ?_
  refine va_get (D := D) (ci := 8) (v := .int 1) (C := RX6) (T := TX6) (N := 11) hx hb hts wi_X6_refuse_RX6 hown hK hP 0 rfl rfl 0 (by decide) (hts _ wd129_X6_refuse) (fun _ h9 => h9) rfl dX6_refuse_17 ?_
  refine lv_if_le (tgt := 27) hx hb dX6_refuse_20 (by decide) (fun h => absurd h (by decide)) (fun _ => ?_)
  refine lv_iconst (v := 1) hx hb dX6_refuse_23 (by decide) ?_
  refine lv_goto (tgt := 28) hx hb dX6_refuse_24 (by decide) ?_
  have hP9 := hP
  have hD9 := hD
  exact W.zret (v := 1) hx hb hr rfl (fun t ht hW => ⟨⟨1, (), rfl, rfl, by rw [ht]; exact hP9, hD9⟩, hS.F ht⟩) hS.2.2 dX6_refuse_28

set_option maxHeartbeats 4000000 in
set_option maxRecDepth 100000 in
theorem k_X6_start_1 (l : Launch) (D : va_G) (κ ε : Nat → Nat) (h0 h1 h2 h3 : Nat) (sz : Nat) (p0 : Int32) (p1 : Int32) (p2 : Int32) (p3 : Int32) (p4 : Int32) (p5 : Int32) : Met l yX6_start wsX6_start ({ frames := 1, cells := 0, slots := 0, locals := 22 }) (va_Pc [.ref h0, .int 1, .int 1] (Pre2 D κ ε [(h0, .inr (8, [.int 0, .int p0, .int p1, .ref h1, .ref h2, .int p2, .int p3, .int p4, .int p5, .int 0, .ref h3]))] sz)) (va_Qi (fun r (u : Unit) => (r = 1)) (fun u t => va_P D vwCl [(h0, .inr (8, [.int 1, .int p0, .int p1, .ref h1, .ref h2, .int p2, .int p3, .int p4, .int p5, .int 0, .ref h3]))] t.heap ∧ va_D (va_A [(h0, .inr (8, [.int 0, .int p0, .int p1, .ref h1, .ref h2, .int p2, .int p3, .int p4, .int p5, .int 0, .ref h3]))] sz) [(h0, .inr (8, [.int 1, .int p0, .int p1, .ref h1, .ref h2, .int p2, .int p3, .int p4, .int p5, .int 0, .ref h3]))]) (va_A [(h0, .inr (8, [.int 0, .int p0, .int p1, .ref h1, .ref h2, .int p2, .int p3, .int p4, .int p5, .int 0, .ref h3]))] sz)) 0 0 (va_A [(h0, .inr (8, [.int 0, .int p0, .int p1, .ref h1, .ref h2, .int p2, .int p3, .int p4, .int p5, .int 0, .ref h3]))] sz) := by
  refine Met.ofW (cc := cX6_start) (maxL := 3) (ret := (some .boolean)) (by decide) rfl ?_
  intro p e s m args below meth c s₁ B hml hv
  obtain ⟨rfl, hsz, hP, hK, hD0, hE9⟩ := hv
  have hx := B.exec
  have hb := B.bytes
  have hr := B.returns
  have hts := atoms_spec (ws := wsX6_start) B.pre
  have hown : s.vm.findClass RX6 = some m.cls := findClass_of_methodNamed B.named
  have hlocks := B.notSynchronized
  subst hsz
  have hD := hD0.self (sz := s.heap.size)
  generalize hAe : va_A [(h0, .inr (8, [.int 0, .int p0, .int p1, .ref h1, .ref h2, .int p2, .int p3, .int p4, .int p5, .int 0, .ref h3]))] s.heap.size = A at hD hE9 ⊢
  have hE := hE9.1
  have hDc := hE9.2
  have hA : ∀ q : Nat, s.heap.size ≤ q → A q := fun q h => by rw [← hAe]; exact Or.inr h
  have hS : va_S A s.heap s.heap [] := va_S.rf
  have hP : va_P D vwCl [(h0, .inr (8, [.int 0, .int p0, .int p1, .ref h1, .ref h2, .int p2, .int p3, .int p4, .int p5, .int 0, .ref h3]))] s.heap := hP
  have hl := lv_entry [.ref h0, .int 1, .int 1] (n := 3) (Nat.le_of_ble_eq_true rfl)
  rw [lg_entry_eq]
  generalize (lg_sl [.ref h0, .int 1, .int 1] ++ List.replicate (3 - (lg_sl [.ref h0, .int 1, .int 1]).length) Slot.unset).toArray = ls at hl ⊢
  have hl : lv_has ls 3 [(0, .ref h0), (1, .int 1), (2, .int 1)] := hl
  refine lv_aload_n hx hb dX6_start_0 rfl (lv_at hl 0 rfl) ?_
  refine lv_iconst (v := 0) hx hb dX6_start_1 (by decide) ?_
  refine va_put (D := D) (ci := 8) (v := .int 0) (ty := .int) (C := RX6) (T := TX6) (N := 11) hx hb hts wi_X6_start_RX6 tyX6 tyX6_ok nmX6 hown hK hP hD hS 0 rfl rfl 0 (by decide) (hts _ wd130_X6_start) (fun _ h9 => h9) rfl (by decide +kernel) rfl rfl (Nat.le_of_ble_eq_true rfl) dX6_start_2 (fun H locs hP hD hS => ?_)
  have hP : va_P D vwCl [(h0, .inr (8, [.int 0, .int p0, .int p1, .ref h1, .ref h2, .int p2, .int p3, .int p4, .int p5, .int 0, .ref h3]))] H := hP
  have hD : va_D A [(h0, .inr (8, [.int 0, .int p0, .int p1, .ref h1, .ref h2, .int p2, .int p3, .int p4, .int p5, .int 0, .ref h3]))] := hD
  refine lv_aload_n hx hb dX6_start_5 rfl (lv_at hl 0 rfl) ?_
  refine lv_iload_n hx hb dX6_start_6 rfl (lv_at hl 1 rfl) ?_
  refine lv_iload_n hx hb dX6_start_7 rfl (lv_at hl 2 rfl) ?_
  have hF := va_free (wc := [(h0, .inr (8, [.int 0, .int p0, .int p1, .ref h1, .ref h2, .int p2, .int p3, .int p4, .int p5, .int 0, .ref h3]))]) hD hS hA [0] rfl
  refine va_calli (va_runV (As := [.int 1, .int 1]) (rest := []) ⟨hx, hb, hml, hown, hts⟩ (k_X6_refuse_1 l D κ ε h0 h1 h2 h3 H.size (p0) (p1) (p2) (p3) (p4) (p5)) (cwV 2 hts gX6_start_X6_refuse rfl rfl rfl (by decide +kernel) ⟨(Nat.le_of_ble_eq_true rfl), (Nat.le_of_ble_eq_true rfl)⟩) (pre2_V (q0 := 0) (ci := 8) (wc := [(h0, .inr (8, [.int 0, .int p0, .int p1, .ref h1, .ref h2, .int p2, .int p3, .int p4, .int p5, .int 0, .ref h3]))]) hP hD hK hE9 hS hA [0] (by decide) rfl rfl rfl) rfl rfl hl.1 rfl (lv_room (Nat.le_of_ble_eq_true rfl)) dX6_start_8 ⟨(Nat.le_of_ble_eq_true rfl), (Nat.le_of_ble_eq_true rfl)⟩) hS (fun q _ h => hF q h) hF (fun r u1 t H locs ht hvm hw hB hz1 hk1 hS => ?_)
  try dsimp only at hw hB
  obtain ⟨hP1, hD1⟩ := hB
  rw [ht] at hP1
  obtain ⟨hP, hD⟩ := post_j (ws' := [(h0, .inr (8, [.int 1, .int p0, .int p1, .ref h1, .ref h2, .int p2, .int p3, .int p4, .int p5, .int 0, .ref h3]))]) (wr := []) (w1 := [(h0, .inr (8, [.int 1, .int p0, .int p1, .ref h1, .ref h2, .int p2, .int p3, .int p4, .int p5, .int 0, .ref h3]))]) hP hD hF [0] rfl [] rfl (by decide) (by decide) hk1 hP1 hD1 [0] (by decide) rfl
  have hP : va_P D vwCl [(h0, .inr (8, [.int 1, .int p0, .int p1, .ref h1, .ref h2, .int p2, .int p3, .int p4, .int p5, .int 0, .ref h3]))] H := hP
  have hD : va_D A [(h0, .inr (8, [.int 1, .int p0, .int p1, .ref h1, .ref h2, .int p2, .int p3, .int p4, .int p5, .int 0, .ref h3]))] := hD
  rw [hw]
  have hP9 := hP
  have hD9 := hD
  exact W.zret (v := 1) hx hb hr rfl (fun t ht hW => ⟨⟨1, (), rfl, rfl, by rw [ht]; exact hP9, hD9⟩, hS.F ht⟩) hS.2.2 dX6_start_11

set_option maxHeartbeats 4000000 in
set_option maxRecDepth 100000 in
theorem k_X6_setOrder_0 (l : Launch) (D : va_G) (κ ε : Nat → Nat) (h0 h1 h2 h3 : Nat) (sz : Nat) (p0 : Int32) (hf0 : p0 < 1) : Met l yX6_setOrder wsX6_setOrder ({ frames := 2, cells := 0, slots := 0, locals := 44 }) (va_Pc [.ref h0, .int p0] (Pre2 D κ ε [(h0, .inr (8, [.int 0, .int 0, .int 2, .ref h1, .ref h2, .int 0, .int 500, .int 0, .int 0, .int 0, .ref h3]))] sz)) (va_Qi (fun r (u : List Value) => (u[0]? = some (.int 1)) ∧ (r = 0)) (fun u t => va_P D vwCl [(h0, .inr (8, u))] t.heap ∧ va_D (va_A [(h0, .inr (8, [.int 0, .int 0, .int 2, .ref h1, .ref h2, .int 0, .int 500, .int 0, .int 0, .int 0, .ref h3]))] sz) [(h0, .inr (8, u))]) (va_A [(h0, .inr (8, [.int 0, .int 0, .int 2, .ref h1, .ref h2, .int 0, .int 500, .int 0, .int 0, .int 0, .ref h3]))] sz)) 0 0 (va_A [(h0, .inr (8, [.int 0, .int 0, .int 2, .ref h1, .ref h2, .int 0, .int 500, .int 0, .int 0, .int 0, .ref h3]))] sz) := by
  refine Met.ofW (cc := cX6_setOrder) (maxL := 3) (ret := (some .int)) (by decide) rfl ?_
  intro p e s m args below meth c s₁ B hml hv
  obtain ⟨rfl, hsz, hP, hK, hD0, hE9⟩ := hv
  have hx := B.exec
  have hb := B.bytes
  have hr := B.returns
  have hts := atoms_spec (ws := wsX6_setOrder) B.pre
  have hown : s.vm.findClass RX6 = some m.cls := findClass_of_methodNamed B.named
  have hlocks := B.notSynchronized
  subst hsz
  have hD := hD0.self (sz := s.heap.size)
  generalize hAe : va_A [(h0, .inr (8, [.int 0, .int 0, .int 2, .ref h1, .ref h2, .int 0, .int 500, .int 0, .int 0, .int 0, .ref h3]))] s.heap.size = A at hD hE9 ⊢
  have hE := hE9.1
  have hDc := hE9.2
  have hA : ∀ q : Nat, s.heap.size ≤ q → A q := fun q h => by rw [← hAe]; exact Or.inr h
  have hS : va_S A s.heap s.heap [] := va_S.rf
  have hP : va_P D vwCl [(h0, .inr (8, [.int 0, .int 0, .int 2, .ref h1, .ref h2, .int 0, .int 500, .int 0, .int 0, .int 0, .ref h3]))] s.heap := hP
  have hl := lv_entry [.ref h0, .int p0] (n := 3) (Nat.le_of_ble_eq_true rfl)
  rw [lg_entry_eq]
  generalize (lg_sl [.ref h0, .int p0] ++ List.replicate (3 - (lg_sl [.ref h0, .int p0]).length) Slot.unset).toArray = ls at hl ⊢
  have hl : lv_has ls 3 [(0, .ref h0), (1, .int p0)] := hl
  refine lv_aload_n hx hb dX6_setOrder_0 rfl (lv_at hl 0 rfl) ?_
  refine lv_iload_n hx hb dX6_setOrder_1 rfl (lv_at hl 1 rfl) ?_
  refine lv_iconst (v := 1) hx hb dX6_setOrder_2 (by decide) ?_
  refine lv_iconst (v := 4) hx hb dX6_setOrder_3 (by decide) ?_
  refine vp_callSi (W.runS (As := [.int p0, .int 1, .int 4]) (rest := [.ref h0]) ⟨hx, hb, hml, hown, hts⟩ (k_X6_isIn_0 l D κ ε (p0) hf0) (va_cwS 3 hts gX6_setOrder_X6_isIn rfl rfl rfl (by decide +kernel) ⟨(Nat.le_of_ble_eq_true rfl), (Nat.le_of_ble_eq_true rfl)⟩) (pre0_S (wc := []) hP hK [] rfl) rfl rfl hl.1 rfl (lv_room (Nat.le_of_ble_eq_true rfl)) dX6_setOrder_4 ⟨(Nat.le_of_ble_eq_true rfl), (Nat.le_of_ble_eq_true rfl)⟩) (fun r hw => ?_)
  rw [hw]
  refine lv_if_ne (tgt := 14) hx hb dX6_setOrder_7 (by decide) (fun h => absurd (by decide) h) (fun _ => ?_)
  refine lv_iconst (v := 1) hx hb dX6_setOrder_10 (by decide) ?_
  refine lv_goto (tgt := 15) hx hb dX6_setOrder_11 (by decide) ?_
  refine lv_iconst (v := 1) hx hb dX6_setOrder_15 (by decide) ?_
  have hF := va_free (wc := [(h0, .inr (8, [.int 0, .int 0, .int 2, .ref h1, .ref h2, .int 0, .int 500, .int 0, .int 0, .int 0, .ref h3]))]) hD hS hA [0] rfl
  refine va_calli (va_runV (As := [.int 1, .int 1]) (rest := []) ⟨hx, hb, hml, hown, hts⟩ (k_X6_start_1 l D κ ε h0 h1 h2 h3 s.heap.size (0) (2) (0) (500) (0) (0)) (cwV 2 hts gX6_setOrder_X6_start rfl rfl rfl (by decide +kernel) ⟨(Nat.le_of_ble_eq_true rfl), (Nat.le_of_ble_eq_true rfl)⟩) (pre2_V (q0 := 0) (ci := 8) (wc := [(h0, .inr (8, [.int 0, .int 0, .int 2, .ref h1, .ref h2, .int 0, .int 500, .int 0, .int 0, .int 0, .ref h3]))]) hP hD hK hE9 hS hA [0] (by decide) rfl rfl rfl) rfl rfl hl.1 rfl (lv_room (Nat.le_of_ble_eq_true rfl)) dX6_setOrder_16 ⟨(Nat.le_of_ble_eq_true rfl), (Nat.le_of_ble_eq_true rfl)⟩) hS (fun q _ h => hF q h) hF (fun r u1 t H locs ht hvm hw hB hz1 hk1 hS => ?_)
  try dsimp only at hw hB
  obtain ⟨hP1, hD1⟩ := hB
  rw [ht] at hP1
  obtain ⟨hP, hD⟩ := post_j (ws' := [(h0, .inr (8, [.int 1, .int 0, .int 2, .ref h1, .ref h2, .int 0, .int 500, .int 0, .int 0, .int 0, .ref h3]))]) (wr := []) (w1 := [(h0, .inr (8, [.int 1, .int 0, .int 2, .ref h1, .ref h2, .int 0, .int 500, .int 0, .int 0, .int 0, .ref h3]))]) hP hD hF [0] rfl [] rfl (by decide) (by decide) hk1 hP1 hD1 [0] (by decide) rfl
  have hP : va_P D vwCl [(h0, .inr (8, [.int 1, .int 0, .int 2, .ref h1, .ref h2, .int 0, .int 500, .int 0, .int 0, .int 0, .ref h3]))] H := hP
  have hD : va_D A [(h0, .inr (8, [.int 1, .int 0, .int 2, .ref h1, .ref h2, .int 0, .int 500, .int 0, .int 0, .int 0, .ref h3]))] := hD
  rw [hw]
  refine lv_if_eq (tgt := 24) hx hb dX6_setOrder_19 (by decide) (fun h => absurd h (by decide)) (fun _ => ?_)
  refine lv_iconst (v := 0) hx hb dX6_setOrder_22 (by decide) ?_
  have hP9 := hP.sub (ws' := [(h0, .inr (8, [.int 1, .int 0, .int 2, .ref h1, .ref h2, .int 0, .int 500, .int 0, .int 0, .int 0, .ref h3]))]) [0] rfl
  have hD9 := hD.sub (ws' := [(h0, .inr (8, [.int 1, .int 0, .int 2, .ref h1, .ref h2, .int 0, .int 500, .int 0, .int 0, .int 0, .ref h3]))]) [0] (by decide) rfl
  exact W.iret (v := 0) hx hb hr (fun t ht hW => ⟨⟨0, [.int 1, .int 0, .int 2, .ref h1, .ref h2, .int 0, .int 500, .int 0, .int 0, .int 0, .ref h3], rfl, ⟨rfl, rfl⟩, by rw [ht]; exact hP9, hD9⟩, hS.F ht⟩) hS.2.2 dX6_setOrder_23

theorem iv0 (x : Int32) (h0 : ¬ x ≤ 4) : 4 < x := by
  have e0 : (4 : Int32).toInt = 4 := by decide
  simp only [Int32.lt_iff_toInt_lt, Int32.le_iff_toInt_le, ← Int32.toInt_inj, e0] at *
  omega

set_option maxHeartbeats 4000000 in
set_option maxRecDepth 100000 in
theorem k_X6_isIn_1 (l : Launch) (D : va_G) (κ ε : Nat → Nat) (p0 : Int32) (hf0 : ¬ p0 < 1) (hf1 : ¬ p0 ≤ 4) : Met l yX6_isIn wsX6_isIn ({ frames := 0, cells := 0, slots := 0, locals := 0 }) (va_Pc [.int p0, .int 1, .int 4] (Pre0 D κ [])) (vp_Si (fun r => (r = 0))) 0 0 (fun _ => False) := by
  refine Met.ofW (cc := cX6_isIn) (maxL := 3) (ret := (some .boolean)) (by decide) rfl ?_
  intro p e s m args below meth c s₁ B hml hv
  obtain ⟨rfl, hP, hK⟩ := hv
  have hx := B.exec
  have hb := B.bytes
  have hr := B.returns
  have hts := atoms_spec (ws := wsX6_isIn) B.pre
  have hown : s.vm.findClass RX6 = some m.cls := findClass_of_methodNamed B.named
  have hlocks := B.notSynchronized
  have hP : va_P D vwCl [] s.heap := hP
  have hl := lv_entry [.int p0, .int 1, .int 4] (n := 3) (Nat.le_of_ble_eq_true rfl)
  rw [lg_entry_eq]
  generalize (lg_sl [.int p0, .int 1, .int 4] ++ List.replicate (3 - (lg_sl [.int p0, .int 1, .int 4]).length) Slot.unset).toArray = ls at hl ⊢
  have hl : lv_has ls 3 [(0, .int p0), (1, .int 1), (2, .int 4)] := hl
  refine lv_iload_n hx hb dX6_isIn_0 rfl (lv_at hl 0 rfl) ?_
  refine lv_iload_n hx hb dX6_isIn_1 rfl (lv_at hl 1 rfl) ?_
  refine lv_icmp_lt (tgt := 14) hx hb dX6_isIn_2 (by decide) (fun h => absurd h hf0) (fun _ => ?_)
  refine lv_iload_n hx hb dX6_isIn_5 rfl (lv_at hl 0 rfl) ?_
  refine lv_iload_n hx hb dX6_isIn_6 rfl (lv_at hl 2 rfl) ?_
  refine lv_icmp_gt (tgt := 14) hx hb dX6_isIn_7 (by decide) (fun _ => ?_) (fun h => absurd (iv0 _ hf1) h)
  refine lv_iconst (v := 0) hx hb dX6_isIn_14 (by decide) ?_
  exact W.zret (v := 0) hx hb hr rfl (fun t ht hW => ⟨0, rfl, rfl, ht⟩) (fun q hq => absurd hq List.not_mem_nil) dX6_isIn_15

set_option maxHeartbeats 4000000 in
set_option maxRecDepth 100000 in
theorem k_X6_setOrder_1 (l : Launch) (D : va_G) (κ ε : Nat → Nat) (h0 h1 h2 h3 : Nat) (sz : Nat) (p0 : Int32) (hf0 : ¬ p0 < 1) (hf1 : ¬ p0 ≤ 4) : Met l yX6_setOrder wsX6_setOrder ({ frames := 2, cells := 0, slots := 0, locals := 44 }) (va_Pc [.ref h0, .int p0] (Pre2 D κ ε [(h0, .inr (8, [.int 0, .int 0, .int 2, .ref h1, .ref h2, .int 0, .int 500, .int 0, .int 0, .int 0, .ref h3]))] sz)) (va_Qi (fun r (u : List Value) => (u[0]? = some (.int 1)) ∧ (r = 0)) (fun u t => va_P D vwCl [(h0, .inr (8, u))] t.heap ∧ va_D (va_A [(h0, .inr (8, [.int 0, .int 0, .int 2, .ref h1, .ref h2, .int 0, .int 500, .int 0, .int 0, .int 0, .ref h3]))] sz) [(h0, .inr (8, u))]) (va_A [(h0, .inr (8, [.int 0, .int 0, .int 2, .ref h1, .ref h2, .int 0, .int 500, .int 0, .int 0, .int 0, .ref h3]))] sz)) 0 0 (va_A [(h0, .inr (8, [.int 0, .int 0, .int 2, .ref h1, .ref h2, .int 0, .int 500, .int 0, .int 0, .int 0, .ref h3]))] sz) := by
  refine Met.ofW (cc := cX6_setOrder) (maxL := 3) (ret := (some .int)) (by decide) rfl ?_
  intro p e s m args below meth c s₁ B hml hv
  obtain ⟨rfl, hsz, hP, hK, hD0, hE9⟩ := hv
  have hx := B.exec
  have hb := B.bytes
  have hr := B.returns
  have hts := atoms_spec (ws := wsX6_setOrder) B.pre
  have hown : s.vm.findClass RX6 = some m.cls := findClass_of_methodNamed B.named
  have hlocks := B.notSynchronized
  subst hsz
  have hD := hD0.self (sz := s.heap.size)
  generalize hAe : va_A [(h0, .inr (8, [.int 0, .int 0, .int 2, .ref h1, .ref h2, .int 0, .int 500, .int 0, .int 0, .int 0, .ref h3]))] s.heap.size = A at hD hE9 ⊢
  have hE := hE9.1
  have hDc := hE9.2
  have hA : ∀ q : Nat, s.heap.size ≤ q → A q := fun q h => by rw [← hAe]; exact Or.inr h
  have hS : va_S A s.heap s.heap [] := va_S.rf
  have hP : va_P D vwCl [(h0, .inr (8, [.int 0, .int 0, .int 2, .ref h1, .ref h2, .int 0, .int 500, .int 0, .int 0, .int 0, .ref h3]))] s.heap := hP
  have hl := lv_entry [.ref h0, .int p0] (n := 3) (Nat.le_of_ble_eq_true rfl)
  rw [lg_entry_eq]
  generalize (lg_sl [.ref h0, .int p0] ++ List.replicate (3 - (lg_sl [.ref h0, .int p0]).length) Slot.unset).toArray = ls at hl ⊢
  have hl : lv_has ls 3 [(0, .ref h0), (1, .int p0)] := hl
  refine lv_aload_n hx hb dX6_setOrder_0 rfl (lv_at hl 0 rfl) ?_
  refine lv_iload_n hx hb dX6_setOrder_1 rfl (lv_at hl 1 rfl) ?_
  refine lv_iconst (v := 1) hx hb dX6_setOrder_2 (by decide) ?_
  refine lv_iconst (v := 4) hx hb dX6_setOrder_3 (by decide) ?_
  refine vp_callSi (W.runS (As := [.int p0, .int 1, .int 4]) (rest := [.ref h0]) ⟨hx, hb, hml, hown, hts⟩ (k_X6_isIn_1 l D κ ε (p0) hf0 hf1) (va_cwS 3 hts gX6_setOrder_X6_isIn rfl rfl rfl (by decide +kernel) ⟨(Nat.le_of_ble_eq_true rfl), (Nat.le_of_ble_eq_true rfl)⟩) (pre0_S (wc := []) hP hK [] rfl) rfl rfl hl.1 rfl (lv_room (Nat.le_of_ble_eq_true rfl)) dX6_setOrder_4 ⟨(Nat.le_of_ble_eq_true rfl), (Nat.le_of_ble_eq_true rfl)⟩) (fun r hw => ?_)
  rw [hw]
  refine lv_if_ne (tgt := 14) hx hb dX6_setOrder_7 (by decide) (fun h => absurd (by decide) h) (fun _ => ?_)
  refine lv_iconst (v := 1) hx hb dX6_setOrder_10 (by decide) ?_
  refine lv_goto (tgt := 15) hx hb dX6_setOrder_11 (by decide) ?_
  refine lv_iconst (v := 1) hx hb dX6_setOrder_15 (by decide) ?_
  have hF := va_free (wc := [(h0, .inr (8, [.int 0, .int 0, .int 2, .ref h1, .ref h2, .int 0, .int 500, .int 0, .int 0, .int 0, .ref h3]))]) hD hS hA [0] rfl
  refine va_calli (va_runV (As := [.int 1, .int 1]) (rest := []) ⟨hx, hb, hml, hown, hts⟩ (k_X6_start_1 l D κ ε h0 h1 h2 h3 s.heap.size (0) (2) (0) (500) (0) (0)) (cwV 2 hts gX6_setOrder_X6_start rfl rfl rfl (by decide +kernel) ⟨(Nat.le_of_ble_eq_true rfl), (Nat.le_of_ble_eq_true rfl)⟩) (pre2_V (q0 := 0) (ci := 8) (wc := [(h0, .inr (8, [.int 0, .int 0, .int 2, .ref h1, .ref h2, .int 0, .int 500, .int 0, .int 0, .int 0, .ref h3]))]) hP hD hK hE9 hS hA [0] (by decide) rfl rfl rfl) rfl rfl hl.1 rfl (lv_room (Nat.le_of_ble_eq_true rfl)) dX6_setOrder_16 ⟨(Nat.le_of_ble_eq_true rfl), (Nat.le_of_ble_eq_true rfl)⟩) hS (fun q _ h => hF q h) hF (fun r u1 t H locs ht hvm hw hB hz1 hk1 hS => ?_)
  try dsimp only at hw hB
  obtain ⟨hP1, hD1⟩ := hB
  rw [ht] at hP1
  obtain ⟨hP, hD⟩ := post_j (ws' := [(h0, .inr (8, [.int 1, .int 0, .int 2, .ref h1, .ref h2, .int 0, .int 500, .int 0, .int 0, .int 0, .ref h3]))]) (wr := []) (w1 := [(h0, .inr (8, [.int 1, .int 0, .int 2, .ref h1, .ref h2, .int 0, .int 500, .int 0, .int 0, .int 0, .ref h3]))]) hP hD hF [0] rfl [] rfl (by decide) (by decide) hk1 hP1 hD1 [0] (by decide) rfl
  have hP : va_P D vwCl [(h0, .inr (8, [.int 1, .int 0, .int 2, .ref h1, .ref h2, .int 0, .int 500, .int 0, .int 0, .int 0, .ref h3]))] H := hP
  have hD : va_D A [(h0, .inr (8, [.int 1, .int 0, .int 2, .ref h1, .ref h2, .int 0, .int 500, .int 0, .int 0, .int 0, .ref h3]))] := hD
  rw [hw]
  refine lv_if_eq (tgt := 24) hx hb dX6_setOrder_19 (by decide) (fun h => absurd h (by decide)) (fun _ => ?_)
  refine lv_iconst (v := 0) hx hb dX6_setOrder_22 (by decide) ?_
  have hP9 := hP.sub (ws' := [(h0, .inr (8, [.int 1, .int 0, .int 2, .ref h1, .ref h2, .int 0, .int 500, .int 0, .int 0, .int 0, .ref h3]))]) [0] rfl
  have hD9 := hD.sub (ws' := [(h0, .inr (8, [.int 1, .int 0, .int 2, .ref h1, .ref h2, .int 0, .int 500, .int 0, .int 0, .int 0, .ref h3]))]) [0] (by decide) rfl
  exact W.iret (v := 0) hx hb hr (fun t ht hW => ⟨⟨0, [.int 1, .int 0, .int 2, .ref h1, .ref h2, .int 0, .int 500, .int 0, .int 0, .int 0, .ref h3], rfl, ⟨rfl, rfl⟩, by rw [ht]; exact hP9, hD9⟩, hS.F ht⟩) hS.2.2 dX6_setOrder_23

theorem iv1 (x : Int32) (h0 : x ≤ 4) : ¬ 4 < x := by
  have e0 : (4 : Int32).toInt = 4 := by decide
  simp only [Int32.lt_iff_toInt_lt, Int32.le_iff_toInt_le, ← Int32.toInt_inj, e0] at *
  omega

set_option maxHeartbeats 4000000 in
set_option maxRecDepth 100000 in
theorem k_X6_isIn_2 (l : Launch) (D : va_G) (κ ε : Nat → Nat) (p0 : Int32) (hf0 : ¬ p0 < 1) (hf1 : p0 ≤ 4) : Met l yX6_isIn wsX6_isIn ({ frames := 0, cells := 0, slots := 0, locals := 0 }) (va_Pc [.int p0, .int 1, .int 4] (Pre0 D κ [])) (vp_Si (fun r => (r = 1))) 0 0 (fun _ => False) := by
  refine Met.ofW (cc := cX6_isIn) (maxL := 3) (ret := (some .boolean)) (by decide) rfl ?_
  intro p e s m args below meth c s₁ B hml hv
  obtain ⟨rfl, hP, hK⟩ := hv
  have hx := B.exec
  have hb := B.bytes
  have hr := B.returns
  have hts := atoms_spec (ws := wsX6_isIn) B.pre
  have hown : s.vm.findClass RX6 = some m.cls := findClass_of_methodNamed B.named
  have hlocks := B.notSynchronized
  have hP : va_P D vwCl [] s.heap := hP
  have hl := lv_entry [.int p0, .int 1, .int 4] (n := 3) (Nat.le_of_ble_eq_true rfl)
  rw [lg_entry_eq]
  generalize (lg_sl [.int p0, .int 1, .int 4] ++ List.replicate (3 - (lg_sl [.int p0, .int 1, .int 4]).length) Slot.unset).toArray = ls at hl ⊢
  have hl : lv_has ls 3 [(0, .int p0), (1, .int 1), (2, .int 4)] := hl
  refine lv_iload_n hx hb dX6_isIn_0 rfl (lv_at hl 0 rfl) ?_
  refine lv_iload_n hx hb dX6_isIn_1 rfl (lv_at hl 1 rfl) ?_
  refine lv_icmp_lt (tgt := 14) hx hb dX6_isIn_2 (by decide) (fun h => absurd h hf0) (fun _ => ?_)
  refine lv_iload_n hx hb dX6_isIn_5 rfl (lv_at hl 0 rfl) ?_
  refine lv_iload_n hx hb dX6_isIn_6 rfl (lv_at hl 2 rfl) ?_
  refine lv_icmp_gt (tgt := 14) hx hb dX6_isIn_7 (by decide) (fun h => absurd h (iv1 _ hf1)) (fun _ => ?_)
  refine lv_iconst (v := 1) hx hb dX6_isIn_10 (by decide) ?_
  refine lv_goto (tgt := 15) hx hb dX6_isIn_11 (by decide) ?_
  exact W.zret (v := 1) hx hb hr rfl (fun t ht hW => ⟨1, rfl, rfl, ht⟩) (fun q hq => absurd hq List.not_mem_nil) dX6_isIn_15

theorem wi_X6_setOrder_RX6 : ∀ w ∈ u_ws RX6 TX6 11, w ∈ wsX6_setOrder := by decide +kernel

theorem wd145_X6_setOrder : (.fieldLink RX6 7 "CanticleModel" "order" "I" : Cond) ∈ wsX6_setOrder := by decide +kernel

theorem wd146_X6_setOrder : (.fieldLink RX6 24 "CanticleModel" "counts" "[[I" : Cond) ∈ wsX6_setOrder := by decide +kernel

set_option maxHeartbeats 4000000 in
set_option maxRecDepth 100000 in
theorem k_X6_setOrder_2 (l : Launch) (D : va_G) (κ ε : Nat → Nat) (h0 h1 h2 h3 : Nat) (sz : Nat) (p0 : Int32) (hf0 : ¬ p0 < 1) (hf1 : p0 ≤ 4) : Met l yX6_setOrder wsX6_setOrder ({ frames := 2, cells := 5, slots := 41374, locals := 44 }) (va_Pc [.ref h0, .int p0] (Pre2 D κ ε [(h0, .inr (8, [.int 0, .int 0, .int 2, .ref h1, .ref h2, .int 0, .int 500, .int 0, .int 0, .int 0, .ref h3]))] sz)) (va_Qi (fun r (u : List Value) => (u[0]? = some (.int 0)) ∧ (r = 2)) (fun u t => va_P D vwCl [(h0, .inr (8, u))] t.heap ∧ va_D (va_A [(h0, .inr (8, [.int 0, .int 0, .int 2, .ref h1, .ref h2, .int 0, .int 500, .int 0, .int 0, .int 0, .ref h3]))] sz) [(h0, .inr (8, u))]) (va_A [(h0, .inr (8, [.int 0, .int 0, .int 2, .ref h1, .ref h2, .int 0, .int 500, .int 0, .int 0, .int 0, .ref h3]))] sz)) 5 41374 (va_A [(h0, .inr (8, [.int 0, .int 0, .int 2, .ref h1, .ref h2, .int 0, .int 500, .int 0, .int 0, .int 0, .ref h3]))] sz) := by
  refine Met.ofW (cc := cX6_setOrder) (maxL := 3) (ret := (some .int)) (by decide) rfl ?_
  intro p e s m args below meth c s₁ B hml hv
  obtain ⟨rfl, hsz, hP, hK, hD0, hE9⟩ := hv
  have hx := B.exec
  have hb := B.bytes
  have hr := B.returns
  have hts := atoms_spec (ws := wsX6_setOrder) B.pre
  have hown : s.vm.findClass RX6 = some m.cls := findClass_of_methodNamed B.named
  have hlocks := B.notSynchronized
  subst hsz
  have hD := hD0.self (sz := s.heap.size)
  generalize hAe : va_A [(h0, .inr (8, [.int 0, .int 0, .int 2, .ref h1, .ref h2, .int 0, .int 500, .int 0, .int 0, .int 0, .ref h3]))] s.heap.size = A at hD hE9 ⊢
  have hE := hE9.1
  have hDc := hE9.2
  have hA : ∀ q : Nat, s.heap.size ≤ q → A q := fun q h => by rw [← hAe]; exact Or.inr h
  have hS : va_S A s.heap s.heap [] := va_S.rf
  have hP : va_P D vwCl [(h0, .inr (8, [.int 0, .int 0, .int 2, .ref h1, .ref h2, .int 0, .int 500, .int 0, .int 0, .int 0, .ref h3]))] s.heap := hP
  have hl := lv_entry [.ref h0, .int p0] (n := 3) (Nat.le_of_ble_eq_true rfl)
  rw [lg_entry_eq]
  generalize (lg_sl [.ref h0, .int p0] ++ List.replicate (3 - (lg_sl [.ref h0, .int p0]).length) Slot.unset).toArray = ls at hl ⊢
  have hl : lv_has ls 3 [(0, .ref h0), (1, .int p0)] := hl
  refine lv_aload_n hx hb dX6_setOrder_0 rfl (lv_at hl 0 rfl) ?_
  refine lv_iload_n hx hb dX6_setOrder_1 rfl (lv_at hl 1 rfl) ?_
  refine lv_iconst (v := 1) hx hb dX6_setOrder_2 (by decide) ?_
  refine lv_iconst (v := 4) hx hb dX6_setOrder_3 (by decide) ?_
  refine vp_callSi (W.runS (As := [.int p0, .int 1, .int 4]) (rest := [.ref h0]) ⟨hx, hb, hml, hown, hts⟩ (k_X6_isIn_2 l D κ ε (p0) hf0 hf1) (va_cwS 3 hts gX6_setOrder_X6_isIn rfl rfl rfl (by decide +kernel) ⟨(Nat.le_of_ble_eq_true rfl), (Nat.le_of_ble_eq_true rfl)⟩) (pre0_S (wc := []) hP hK [] rfl) rfl rfl hl.1 rfl (lv_room (Nat.le_of_ble_eq_true rfl)) dX6_setOrder_4 ⟨(Nat.le_of_ble_eq_true rfl), (Nat.le_of_ble_eq_true rfl)⟩) (fun r hw => ?_)
  rw [hw]
  refine lv_if_ne (tgt := 14) hx hb dX6_setOrder_7 (by decide) (fun _ => ?_) (fun h => absurd h (by decide))
  refine lv_iconst (v := 0) hx hb dX6_setOrder_14 (by decide) ?_
  refine lv_iconst (v := 1) hx hb dX6_setOrder_15 (by decide) ?_
  have hF := va_free (wc := [(h0, .inr (8, [.int 0, .int 0, .int 2, .ref h1, .ref h2, .int 0, .int 500, .int 0, .int 0, .int 0, .ref h3]))]) hD hS hA [0] rfl
  refine va_calli (va_runV (As := [.int 0, .int 1]) (rest := []) ⟨hx, hb, hml, hown, hts⟩ (k_X6_start_0 l D κ ε h0 h1 h2 h3 s.heap.size (0) (2) (0) (500) (0) (0)) (cwV 2 hts gX6_setOrder_X6_start rfl rfl rfl (by decide +kernel) ⟨(Nat.le_of_ble_eq_true rfl), (Nat.le_of_ble_eq_true rfl)⟩) (pre2_V (q0 := 0) (ci := 8) (wc := [(h0, .inr (8, [.int 0, .int 0, .int 2, .ref h1, .ref h2, .int 0, .int 500, .int 0, .int 0, .int 0, .ref h3]))]) hP hD hK hE9 hS hA [0] (by decide) rfl rfl rfl) rfl rfl hl.1 rfl (lv_room (Nat.le_of_ble_eq_true rfl)) dX6_setOrder_16 ⟨(Nat.le_of_ble_eq_true rfl), (Nat.le_of_ble_eq_true rfl)⟩) hS (fun q _ h => hF q h) hF (fun r u1 t H locs ht hvm hw hB hz1 hk1 hS => ?_)
  try dsimp only at hw hB
  obtain ⟨hP1, hD1⟩ := hB
  rw [ht] at hP1
  obtain ⟨hP, hD⟩ := post_j (ws' := [(h0, .inr (8, [.int 0, .int 0, .int 2, .ref h1, .ref h2, .int 0, .int 500, .int 0, .int 0, .int 0, .ref h3]))]) (wr := []) (w1 := [(h0, .inr (8, [.int 0, .int 0, .int 2, .ref h1, .ref h2, .int 0, .int 500, .int 0, .int 0, .int 0, .ref h3]))]) hP hD hF [0] rfl [] rfl (by decide) (by decide) hk1 hP1 hD1 [0] (by decide) rfl
  have hP : va_P D vwCl [(h0, .inr (8, [.int 0, .int 0, .int 2, .ref h1, .ref h2, .int 0, .int 500, .int 0, .int 0, .int 0, .ref h3]))] H := hP
  have hD : va_D A [(h0, .inr (8, [.int 0, .int 0, .int 2, .ref h1, .ref h2, .int 0, .int 500, .int 0, .int 0, .int 0, .ref h3]))] := hD
  rw [hw]
  refine lv_if_eq (tgt := 24) hx hb dX6_setOrder_19 (by decide) (fun _ => ?_) (fun h => absurd (by decide) h)
  refine lv_aload_n hx hb dX6_setOrder_24 rfl (lv_at hl 0 rfl) ?_
  refine va_get (D := D) (ci := 8) (v := .int 2) (C := RX6) (T := TX6) (N := 11) hx hb hts wi_X6_setOrder_RX6 hown hK hP 0 rfl rfl 2 (by decide) (hts _ wd145_X6_setOrder) (fun _ h9 => h9) rfl dX6_setOrder_25 ?_
  refine lv_istore_n (lv' := [(2, .int 2), (0, .ref h0), (1, .int p0)]) hx hb dX6_setOrder_28 rfl hl (by decide) rfl (fun ls hl => ?_)
  refine lv_aload_n hx hb dX6_setOrder_29 rfl (lv_at hl 1 rfl) ?_
  refine lv_iload_n hx hb dX6_setOrder_30 rfl (lv_at hl 2 rfl) ?_
  refine va_put (D := D) (ci := 8) (v := .int p0) (ty := .int) (C := RX6) (T := TX6) (N := 11) hx hb hts wi_X6_setOrder_RX6 tyX6 tyX6_ok nmX6 hown hK hP hD hS 0 rfl rfl 2 (by decide) (hts _ wd145_X6_setOrder) (fun _ h9 => h9) rfl (by decide +kernel) rfl rfl (Nat.le_of_ble_eq_true rfl) dX6_setOrder_31 (fun H locs hP hD hS => ?_)
  have hP : va_P D vwCl [(h0, .inr (8, [.int 0, .int 0, .int p0, .ref h1, .ref h2, .int 0, .int 500, .int 0, .int 0, .int 0, .ref h3]))] H := hP
  have hD : va_D A [(h0, .inr (8, [.int 0, .int 0, .int p0, .ref h1, .ref h2, .int 0, .int 500, .int 0, .int 0, .int 0, .ref h3]))] := hD
  refine lv_aload_n hx hb dX6_setOrder_34 rfl (lv_at hl 1 rfl) ?_
  have hF := va_free (wc := []) hD hS hA [] rfl
  refine va_callr (va_runS (As := []) (rest := [.ref h0]) ⟨hx, hb, hml, hown, hts⟩ (k_X6_tables_0 l D κ ε H.size) (va_cwS 0 hts gX6_setOrder_X6_tables rfl rfl rfl (by decide +kernel) ⟨(Nat.le_of_ble_eq_true rfl), (Nat.le_of_ble_eq_true rfl)⟩) (pre2_S (wc := []) hP hD hK hE9 hS hA [] (by decide) rfl) rfl rfl hl.1 rfl (lv_room (Nat.le_of_ble_eq_true rfl)) dX6_setOrder_35 ⟨(Nat.le_of_ble_eq_true rfl), (Nat.le_of_ble_eq_true rfl)⟩) hS (fun q _ h => hF q h) hF (fun u2 ra t H locs ht hvm hw hB hz1 hk1 hS => ?_)
  try dsimp only at hw hB
  obtain ⟨rfl, hB⟩ := hB
  obtain ⟨hP1, hD1⟩ := hB
  rw [ht] at hP1
  obtain ⟨hP, hD⟩ := post_j (ws' := [(h0, .inr (8, [.int 0, .int 0, .int p0, .ref h1, .ref h2, .int 0, .int 500, .int 0, .int 0, .int 0, .ref h3])), ((u2 0), .inl (κ 4, 4, .inr (.inr (.inr (.inr (sel [(u2 1), (u2 2), (u2 3), (u2 4)])))))), ((u2 1), .inl (κ 0, 14, .inl (fun _ => 0))), ((u2 2), .inl (κ 0, 196, .inl (fun _ => 0))), ((u2 3), .inl (κ 0, 2744, .inl (fun _ => 0))), ((u2 4), .inl (κ 0, 38416, .inl (fun _ => 0)))]) (wr := [(h0, .inr (8, [.int 0, .int 0, .int p0, .ref h1, .ref h2, .int 0, .int 500, .int 0, .int 0, .int 0, .ref h3]))]) (w1 := [((u2 0), .inl (κ 4, 4, .inr (.inr (.inr (.inr (sel [(u2 1), (u2 2), (u2 3), (u2 4)])))))), ((u2 1), .inl (κ 0, 14, .inl (fun _ => 0))), ((u2 2), .inl (κ 0, 196, .inl (fun _ => 0))), ((u2 3), .inl (κ 0, 2744, .inl (fun _ => 0))), ((u2 4), .inl (κ 0, 38416, .inl (fun _ => 0)))]) hP hD hF [] rfl [0] rfl (by decide) (by decide) hk1 hP1 hD1 [0, 1, 2, 3, 4, 5] (by decide) rfl
  have hP : va_P D vwCl [(h0, .inr (8, [.int 0, .int 0, .int p0, .ref h1, .ref h2, .int 0, .int 500, .int 0, .int 0, .int 0, .ref h3])), ((u2 0), .inl (κ 4, 4, .inr (.inr (.inr (.inr (sel [(u2 1), (u2 2), (u2 3), (u2 4)])))))), ((u2 1), .inl (κ 0, 14, .inl (fun _ => 0))), ((u2 2), .inl (κ 0, 196, .inl (fun _ => 0))), ((u2 3), .inl (κ 0, 2744, .inl (fun _ => 0))), ((u2 4), .inl (κ 0, 38416, .inl (fun _ => 0)))] H := hP
  have hD : va_D A [(h0, .inr (8, [.int 0, .int 0, .int p0, .ref h1, .ref h2, .int 0, .int 500, .int 0, .int 0, .int 0, .ref h3])), ((u2 0), .inl (κ 4, 4, .inr (.inr (.inr (.inr (sel [(u2 1), (u2 2), (u2 3), (u2 4)])))))), ((u2 1), .inl (κ 0, 14, .inl (fun _ => 0))), ((u2 2), .inl (κ 0, 196, .inl (fun _ => 0))), ((u2 3), .inl (κ 0, 2744, .inl (fun _ => 0))), ((u2 4), .inl (κ 0, 38416, .inl (fun _ => 0)))] := hD
  refine va_put (D := D) (ci := 8) (v := .ref (u2 0)) (ty := (tyX6 4)) (C := RX6) (T := TX6) (N := 11) hx hb hts wi_X6_setOrder_RX6 tyX6 tyX6_ok nmX6 hown hK hP hD hS 0 rfl rfl 4 (by decide) (hts _ wd146_X6_setOrder) (fun _ h9 => h9) rfl (by decide +kernel) rfl rfl (Nat.le_of_ble_eq_true rfl) dX6_setOrder_38 (fun H locs hP hD hS => ?_)
  have hP : va_P D vwCl [(h0, .inr (8, [.int 0, .int 0, .int p0, .ref h1, .ref (u2 0), .int 0, .int 500, .int 0, .int 0, .int 0, .ref h3])), ((u2 0), .inl (κ 4, 4, .inr (.inr (.inr (.inr (sel [(u2 1), (u2 2), (u2 3), (u2 4)])))))), ((u2 1), .inl (κ 0, 14, .inl (fun _ => 0))), ((u2 2), .inl (κ 0, 196, .inl (fun _ => 0))), ((u2 3), .inl (κ 0, 2744, .inl (fun _ => 0))), ((u2 4), .inl (κ 0, 38416, .inl (fun _ => 0)))] H := hP
  have hD : va_D A [(h0, .inr (8, [.int 0, .int 0, .int p0, .ref h1, .ref (u2 0), .int 0, .int 500, .int 0, .int 0, .int 0, .ref h3])), ((u2 0), .inl (κ 4, 4, .inr (.inr (.inr (.inr (sel [(u2 1), (u2 2), (u2 3), (u2 4)])))))), ((u2 1), .inl (κ 0, 14, .inl (fun _ => 0))), ((u2 2), .inl (κ 0, 196, .inl (fun _ => 0))), ((u2 3), .inl (κ 0, 2744, .inl (fun _ => 0))), ((u2 4), .inl (κ 0, 38416, .inl (fun _ => 0)))] := hD
  refine lv_iload_n hx hb dX6_setOrder_41 rfl (lv_at hl 0 rfl) ?_
  have hP9 := hP.sub (ws' := [(h0, .inr (8, [.int 0, .int 0, .int p0, .ref h1, .ref (u2 0), .int 0, .int 500, .int 0, .int 0, .int 0, .ref h3]))]) [0] rfl
  have hD9 := hD.sub (ws' := [(h0, .inr (8, [.int 0, .int 0, .int p0, .ref h1, .ref (u2 0), .int 0, .int 500, .int 0, .int 0, .int 0, .ref h3]))]) [0] (by decide) rfl
  refine W.widen (k := 5) (n := 41374) (Nat.le_of_ble_eq_true rfl) (Nat.le_of_ble_eq_true rfl) ?_
  exact W.iret (v := 2) hx hb hr (fun t ht hW => ⟨⟨2, [.int 0, .int 0, .int p0, .ref h1, .ref (u2 0), .int 0, .int 500, .int 0, .int 0, .int 0, .ref h3], rfl, ⟨rfl, rfl⟩, by rw [ht]; exact hP9, hD9⟩, hS.F ht⟩) hS.2.2 dX6_setOrder_42

set_option maxHeartbeats 4000000 in
set_option maxRecDepth 100000 in
theorem case_1 {p : Program} {e : Env} {s : State} {m : MethodId} {below : List Frame} {meth : Method} {c : Code} (l : Launch) (hst : l.stackTraces = false) {b : Nat} {xs : Nat → Int32} (C0 : lw_At p s m meth c b 4 xs) (D : va_G) (κ ε : Nat → Nat) (hK : va_K D vwCl (tys κ) s) (hE9 : En2 ε (fun q : Nat => s.heap.size ≤ q) s s.heap) (qx qm qo : Nat) (ux um : Nat → Nat) {H : Heap} {locs : List Loc} (hP : va_P D vwCl [(qx, .inr (7, [.ref (ux 0), .ref (ux 27), .ref (ux 30), .ref (ux 31), .ref (ux 35), .ref (ux 36), .int 0, .int 0, .int 0, .int 0])), ((ux 0), .inr (2, [.int 0, .int 2, .ref (ux 1), .ref (ux 2)])), ((ux 1), .inl (κ 3, 4, .inr (.inr (.inr (.inr (sel [(ux 3), (ux 9), (ux 15), (ux 21)])))))), ((ux 2), .inl (κ 3, 4, .inr (.inr (.inr (.inr (sel [(ux 6), (ux 12), (ux 18), (ux 24)])))))), ((ux 3), .inr (6, [.ref (ux 4), .ref (ux 5), .int 0])), ((ux 6), .inr (6, [.ref (ux 7), .ref (ux 8), .int 0])), ((ux 9), .inr (6, [.ref (ux 10), .ref (ux 11), .int 0])), ((ux 12), .inr (6, [.ref (ux 13), .ref (ux 14), .int 0])), ((ux 15), .inr (6, [.ref (ux 16), .ref (ux 17), .int 0])), ((ux 18), .inr (6, [.ref (ux 19), .ref (ux 20), .int 0])), ((ux 21), .inr (6, [.ref (ux 22), .ref (ux 23), .int 0])), ((ux 24), .inr (6, [.ref (ux 25), .ref (ux 26), .int 0])), (qm, .inr (8, [.int 0, .int 0, .int 2, .ref (um 0), .ref (um 1), .int 0, .int 500, .int 0, .int 0, .int 0, .ref (um 6)])), (qo, .inl (κ 2, 1, .inr (.inl (fun _ => 0))))] H) (hD : va_D (fun q : Nat => s.heap.size ≤ q) [(qx, .inr (7, [.ref (ux 0), .ref (ux 27), .ref (ux 30), .ref (ux 31), .ref (ux 35), .ref (ux 36), .int 0, .int 0, .int 0, .int 0])), ((ux 0), .inr (2, [.int 0, .int 2, .ref (ux 1), .ref (ux 2)])), ((ux 1), .inl (κ 3, 4, .inr (.inr (.inr (.inr (sel [(ux 3), (ux 9), (ux 15), (ux 21)])))))), ((ux 2), .inl (κ 3, 4, .inr (.inr (.inr (.inr (sel [(ux 6), (ux 12), (ux 18), (ux 24)])))))), ((ux 3), .inr (6, [.ref (ux 4), .ref (ux 5), .int 0])), ((ux 6), .inr (6, [.ref (ux 7), .ref (ux 8), .int 0])), ((ux 9), .inr (6, [.ref (ux 10), .ref (ux 11), .int 0])), ((ux 12), .inr (6, [.ref (ux 13), .ref (ux 14), .int 0])), ((ux 15), .inr (6, [.ref (ux 16), .ref (ux 17), .int 0])), ((ux 18), .inr (6, [.ref (ux 19), .ref (ux 20), .int 0])), ((ux 21), .inr (6, [.ref (ux 22), .ref (ux 23), .int 0])), ((ux 24), .inr (6, [.ref (ux 25), .ref (ux 26), .int 0])), (qm, .inr (8, [.int 0, .int 0, .int 2, .ref (um 0), .ref (um 1), .int 0, .int 500, .int 0, .int 0, .int 0, .ref (um 6)])), (qo, .inl (κ 2, 1, .inr (.inl (fun _ => 0))))]) (hS : va_S (fun q : Nat => s.heap.size ≤ q) s.heap H locs) {ls : Array Slot} (hl : lv_has ls 9 [(0, .ref b), (1, .ref qx), (2, .ref qm), (3, .ref qo), (4, .int 0)]) : W p l e room_1 s m #[Value.ref b] below meth c H locs 100 120000 (lw_Z below #[Value.ref b] s) (F0 m 232 ls []) := by
  obtain ⟨hx, hb, hr, hml, hown0, hts0, hX, hbl, hlocks, hgv⟩ := id C0
  have hts : ∀ w ∈ wsL_law, w.before #[Value.ref b] s = true := fun w h => hts0 w (wsL_law_in w h)
  have hown : s.vm.findClass RL = some m.cls := hown0
  have hE := hE9.1
  have hDc := hE9.2
  have hA : ∀ q : Nat, s.heap.size ≤ q → (fun q : Nat => s.heap.size ≤ q) q := fun _ h => h
  have hbA : ¬ (fun q : Nat => s.heap.size ≤ q) b := Nat.not_le.mpr hbl
  refine lv_aload_n hx hb dL_law_232 rfl (lv_at hl 1 rfl) ?_
  refine lv_aload_n hx hb dL_law_233 rfl (lv_at hl 0 rfl) ?_
  refine lv_iload hx hb dL_law_234 (lv_at hl 4 rfl) ?_
  refine lv_iconst (v := 1) hx hb dL_law_236 (by decide) ?_
  refine lv_iadd hx hb dL_law_237 ?_
  refine tpi (v := 1) (by decide) ?_
  refine va_sld hx hb hX hbl hbA hS (vpl (by decide)) dL_law_238 ?_
  refine tpi (v := (xs 1)) rfl ?_
  refine lv_aload_n hx hb dL_law_239 rfl (lv_at hl 3 rfl) ?_
  have hF := va_free (wc := [(qx, .inr (7, [.ref (ux 0), .ref (ux 27), .ref (ux 30), .ref (ux 31), .ref (ux 35), .ref (ux 36), .int 0, .int 0, .int 0, .int 0])), (qo, .inl (κ 2, 1, .inr (.inl (fun _ => 0)))), ((ux 0), .inr (2, [.int 0, .int 2, .ref (ux 1), .ref (ux 2)])), ((ux 1), .inl (κ 3, 4, .inr (.inr (.inr (.inr (sel [(ux 3), (ux 9), (ux 15), (ux 21)])))))), ((ux 2), .inl (κ 3, 4, .inr (.inr (.inr (.inr (sel [(ux 6), (ux 12), (ux 18), (ux 24)])))))), ((ux 3), .inr (6, [.ref (ux 4), .ref (ux 5), .int 0])), ((ux 9), .inr (6, [.ref (ux 10), .ref (ux 11), .int 0])), ((ux 15), .inr (6, [.ref (ux 16), .ref (ux 17), .int 0])), ((ux 21), .inr (6, [.ref (ux 22), .ref (ux 23), .int 0])), ((ux 6), .inr (6, [.ref (ux 7), .ref (ux 8), .int 0])), ((ux 12), .inr (6, [.ref (ux 13), .ref (ux 14), .int 0])), ((ux 18), .inr (6, [.ref (ux 19), .ref (ux 20), .int 0])), ((ux 24), .inr (6, [.ref (ux 25), .ref (ux 26), .int 0]))]) hD hS hA [0, 13, 1, 2, 3, 4, 6, 8, 10, 5, 7, 9, 11] rfl
  refine va_calli (vx_runSW (As := [.ref qx, .int (xs 1), .ref qo]) (rest := []) ⟨hx, hb, hml, hown, hts⟩ (k_L_setOrder_0 l hst D κ ε qx qo (ux 0) (ux 27) (ux 30) (ux 31) (ux 35) (ux 36) (ux 1) (ux 2) (ux 3) (ux 9) (ux 15) (ux 21) (ux 6) (ux 12) (ux 18) (ux 24) (ux 4) (ux 5) (ux 10) (ux 11) (ux 16) (ux 17) (ux 22) (ux 23) (ux 7) (ux 8) (ux 13) (ux 14) (ux 19) (ux 20) (ux 25) (ux 26) H.size ((xs 1))) (vx_cwSW 3 hts gL_law_L_setOrder rfl rfl rfl (by decide +kernel) ⟨(Nat.le_of_ble_eq_true rfl), (Nat.le_of_ble_eq_true rfl)⟩) (pre2_S (wc := [(qx, .inr (7, [.ref (ux 0), .ref (ux 27), .ref (ux 30), .ref (ux 31), .ref (ux 35), .ref (ux 36), .int 0, .int 0, .int 0, .int 0])), (qo, .inl (κ 2, 1, .inr (.inl (fun _ => 0)))), ((ux 0), .inr (2, [.int 0, .int 2, .ref (ux 1), .ref (ux 2)])), ((ux 1), .inl (κ 3, 4, .inr (.inr (.inr (.inr (sel [(ux 3), (ux 9), (ux 15), (ux 21)])))))), ((ux 2), .inl (κ 3, 4, .inr (.inr (.inr (.inr (sel [(ux 6), (ux 12), (ux 18), (ux 24)])))))), ((ux 3), .inr (6, [.ref (ux 4), .ref (ux 5), .int 0])), ((ux 9), .inr (6, [.ref (ux 10), .ref (ux 11), .int 0])), ((ux 15), .inr (6, [.ref (ux 16), .ref (ux 17), .int 0])), ((ux 21), .inr (6, [.ref (ux 22), .ref (ux 23), .int 0])), ((ux 6), .inr (6, [.ref (ux 7), .ref (ux 8), .int 0])), ((ux 12), .inr (6, [.ref (ux 13), .ref (ux 14), .int 0])), ((ux 18), .inr (6, [.ref (ux 19), .ref (ux 20), .int 0])), ((ux 24), .inr (6, [.ref (ux 25), .ref (ux 26), .int 0]))]) hP hD hK hE9 hS hA [0, 13, 1, 2, 3, 4, 6, 8, 10, 5, 7, 9, 11] (by decide) rfl) rfl rfl hl.1 rfl (lv_room (Nat.le_of_ble_eq_true rfl)) dL_law_240 ⟨(Nat.le_of_ble_eq_true rfl), (Nat.le_of_ble_eq_true rfl)⟩) hS (fun q _ h => hF q h) hF (fun r u1 t H locs ht hvm hw hB hz1 hk1 hS => ?_)
  try dsimp only at hw hB
  obtain ⟨hP1, hD1⟩ := hB
  rw [ht] at hP1
  obtain ⟨hP, hD⟩ := post_j (ws' := [(qm, .inr (8, [.int 0, .int 0, .int 2, .ref (um 0), .ref (um 1), .int 0, .int 500, .int 0, .int 0, .int 0, .ref (um 6)])), (qo, .inl (κ 2, 1, .inr (.inl u1)))]) (wr := [(qm, .inr (8, [.int 0, .int 0, .int 2, .ref (um 0), .ref (um 1), .int 0, .int 500, .int 0, .int 0, .int 0, .ref (um 6)]))]) (w1 := [(qo, .inl (κ 2, 1, .inr (.inl u1)))]) hP hD hF [0, 13, 1, 2, 3, 4, 6, 8, 10, 5, 7, 9, 11] rfl [12] rfl (by decide) (by decide) hk1 hP1 hD1 [0, 1] (by decide) rfl
  have hP : va_P D vwCl [(qm, .inr (8, [.int 0, .int 0, .int 2, .ref (um 0), .ref (um 1), .int 0, .int 500, .int 0, .int 0, .int 0, .ref (um 6)])), (qo, .inl (κ 2, 1, .inr (.inl u1)))] H := hP
  have hD : va_D (fun q : Nat => s.heap.size ≤ q) [(qm, .inr (8, [.int 0, .int 0, .int 2, .ref (um 0), .ref (um 1), .int 0, .int 500, .int 0, .int 0, .int 0, .ref (um 6)])), (qo, .inl (κ 2, 1, .inr (.inl u1)))] := hD
  rcases hw with ⟨c2, rfl⟩ | ⟨c3, c4, rfl⟩ | ⟨c5, c6, hu7, rfl⟩
  · skip
    refine lv_istore (lv' := [(5, .int 1), (0, .ref b), (1, .ref qx), (2, .ref qm), (3, .ref qo), (4, .int 0)]) hx hb dL_law_243 hl (by decide) rfl (fun ls hl => ?_)
    refine lv_aload_n hx hb dL_law_245 rfl (lv_at hl 3 rfl) ?_
    refine lv_aload_n hx hb dL_law_246 rfl (lv_at hl 1 rfl) ?_
    refine lv_iload hx hb dL_law_247 (lv_at hl 5 rfl) ?_
    refine lv_iconst (v := 1) hx hb dL_law_249 (by decide) ?_
    refine lv_iadd hx hb dL_law_250 ?_
    refine tpi (v := 1) (by decide) ?_
    refine va_sld hx hb hX hbl hbA hS (vpl (by decide)) dL_law_251 ?_
    refine tpi (v := (xs 1)) rfl ?_
    have hF := va_free (wc := [(qm, .inr (8, [.int 0, .int 0, .int 2, .ref (um 0), .ref (um 1), .int 0, .int 500, .int 0, .int 0, .int 0, .ref (um 6)]))]) hD hS hA [0] rfl
    refine va_calli (va_runV (As := [.int (xs 1)]) (rest := []) ⟨hx, hb, hml, hown, hts⟩ (k_X6_setOrder_0 l D κ ε qm (um 0) (um 1) (um 6) H.size ((xs 1)) c2) (cwV 1 hts gL_law_X6_setOrder rfl rfl rfl (by decide +kernel) ⟨(Nat.le_of_ble_eq_true rfl), (Nat.le_of_ble_eq_true rfl)⟩) (pre2_V (q0 := 0) (ci := 8) (wc := [(qm, .inr (8, [.int 0, .int 0, .int 2, .ref (um 0), .ref (um 1), .int 0, .int 500, .int 0, .int 0, .int 0, .ref (um 6)]))]) hP hD hK hE9 hS hA [0] (by decide) rfl rfl rfl) rfl rfl hl.1 rfl (lv_room (Nat.le_of_ble_eq_true rfl)) dL_law_252 ⟨(Nat.le_of_ble_eq_true rfl), (Nat.le_of_ble_eq_true rfl)⟩) hS (fun q _ h => hF q h) hF (fun r u8 t H locs ht hvm hw hB hz1 hk1 hS => ?_)
    try dsimp only at hw hB
    obtain ⟨hP1, hD1⟩ := hB
    rw [ht] at hP1
    obtain ⟨hP, hD⟩ := post_j (ws' := [(qm, .inr (8, u8)), (qo, .inl (κ 2, 1, .inr (.inl u1)))]) (wr := [(qo, .inl (κ 2, 1, .inr (.inl u1)))]) (w1 := [(qm, .inr (8, u8))]) hP hD hF [0] rfl [1] rfl (by decide) (by decide) hk1 hP1 hD1 [1, 0] (by decide) rfl
    have hP : va_P D vwCl [(qm, .inr (8, u8)), (qo, .inl (κ 2, 1, .inr (.inl u1)))] H := hP
    have hD : va_D (fun q : Nat => s.heap.size ≤ q) [(qm, .inr (8, u8)), (qo, .inl (κ 2, 1, .inr (.inl u1)))] := hD
    obtain ⟨hu9, rfl⟩ := hw
    refine lv_istore (lv' := [(6, .int 0), (5, .int 1), (0, .ref b), (1, .ref qx), (2, .ref qm), (3, .ref qo), (4, .int 0)]) hx hb dL_law_255 hl (by decide) rfl (fun ls hl => ?_)
    refine lv_aload_n hx hb dL_law_257 rfl (lv_at hl 4 rfl) ?_
    refine vp_callSi (W.runV (As := []) (rest := []) ⟨hx, hb, hml, hown, hts⟩ (k_thrown l D κ qm u8 (1) hu9) (cwV 0 hts gL_law_X6_thrown rfl rfl rfl (by decide +kernel) ⟨(Nat.le_of_ble_eq_true rfl), (Nat.le_of_ble_eq_true rfl)⟩) (pre0_V (q0 := 0) (ci := 8) (wc := [(qm, .inr (8, u8))]) hP hK [0] rfl rfl rfl) rfl rfl hl.1 rfl (lv_room (Nat.le_of_ble_eq_true rfl)) dL_law_258 ⟨(Nat.le_of_ble_eq_true rfl), (Nat.le_of_ble_eq_true rfl)⟩) (fun r hw => ?_)
    subst hw
    refine lv_iload hx hb dL_law_261 (lv_at hl 1 rfl) ?_
    refine lv_icmp_eq (tgt := 268) hx hb dL_law_263 (by decide) (fun _ => ?_) (fun h => absurd (by decide) h)
    refine lv_iload hx hb dL_law_268 (lv_at hl 1 rfl) ?_
    refine lv_if_ne (tgt := 285) hx hb dL_law_270 (by decide) (fun _ => ?_) (fun h => absurd h (by decide))
    refine lv_goto (tgt := 1677) hx hb dL_law_285 (by decide) ?_
    exact law_end C0 (Nat.le_of_ble_eq_true rfl) (Nat.le_of_ble_eq_true rfl) hS (lv_sub hl [2, 6] rfl)
  · skip
    refine lv_istore (lv' := [(5, .int 1), (0, .ref b), (1, .ref qx), (2, .ref qm), (3, .ref qo), (4, .int 0)]) hx hb dL_law_243 hl (by decide) rfl (fun ls hl => ?_)
    refine lv_aload_n hx hb dL_law_245 rfl (lv_at hl 3 rfl) ?_
    refine lv_aload_n hx hb dL_law_246 rfl (lv_at hl 1 rfl) ?_
    refine lv_iload hx hb dL_law_247 (lv_at hl 5 rfl) ?_
    refine lv_iconst (v := 1) hx hb dL_law_249 (by decide) ?_
    refine lv_iadd hx hb dL_law_250 ?_
    refine tpi (v := 1) (by decide) ?_
    refine va_sld hx hb hX hbl hbA hS (vpl (by decide)) dL_law_251 ?_
    refine tpi (v := (xs 1)) rfl ?_
    have hF := va_free (wc := [(qm, .inr (8, [.int 0, .int 0, .int 2, .ref (um 0), .ref (um 1), .int 0, .int 500, .int 0, .int 0, .int 0, .ref (um 6)]))]) hD hS hA [0] rfl
    refine va_calli (va_runV (As := [.int (xs 1)]) (rest := []) ⟨hx, hb, hml, hown, hts⟩ (k_X6_setOrder_1 l D κ ε qm (um 0) (um 1) (um 6) H.size ((xs 1)) c3 c4) (cwV 1 hts gL_law_X6_setOrder rfl rfl rfl (by decide +kernel) ⟨(Nat.le_of_ble_eq_true rfl), (Nat.le_of_ble_eq_true rfl)⟩) (pre2_V (q0 := 0) (ci := 8) (wc := [(qm, .inr (8, [.int 0, .int 0, .int 2, .ref (um 0), .ref (um 1), .int 0, .int 500, .int 0, .int 0, .int 0, .ref (um 6)]))]) hP hD hK hE9 hS hA [0] (by decide) rfl rfl rfl) rfl rfl hl.1 rfl (lv_room (Nat.le_of_ble_eq_true rfl)) dL_law_252 ⟨(Nat.le_of_ble_eq_true rfl), (Nat.le_of_ble_eq_true rfl)⟩) hS (fun q _ h => hF q h) hF (fun r u10 t H locs ht hvm hw hB hz1 hk1 hS => ?_)
    try dsimp only at hw hB
    obtain ⟨hP1, hD1⟩ := hB
    rw [ht] at hP1
    obtain ⟨hP, hD⟩ := post_j (ws' := [(qm, .inr (8, u10)), (qo, .inl (κ 2, 1, .inr (.inl u1)))]) (wr := [(qo, .inl (κ 2, 1, .inr (.inl u1)))]) (w1 := [(qm, .inr (8, u10))]) hP hD hF [0] rfl [1] rfl (by decide) (by decide) hk1 hP1 hD1 [1, 0] (by decide) rfl
    have hP : va_P D vwCl [(qm, .inr (8, u10)), (qo, .inl (κ 2, 1, .inr (.inl u1)))] H := hP
    have hD : va_D (fun q : Nat => s.heap.size ≤ q) [(qm, .inr (8, u10)), (qo, .inl (κ 2, 1, .inr (.inl u1)))] := hD
    obtain ⟨hu11, rfl⟩ := hw
    refine lv_istore (lv' := [(6, .int 0), (5, .int 1), (0, .ref b), (1, .ref qx), (2, .ref qm), (3, .ref qo), (4, .int 0)]) hx hb dL_law_255 hl (by decide) rfl (fun ls hl => ?_)
    refine lv_aload_n hx hb dL_law_257 rfl (lv_at hl 4 rfl) ?_
    refine vp_callSi (W.runV (As := []) (rest := []) ⟨hx, hb, hml, hown, hts⟩ (k_thrown l D κ qm u10 (1) hu11) (cwV 0 hts gL_law_X6_thrown rfl rfl rfl (by decide +kernel) ⟨(Nat.le_of_ble_eq_true rfl), (Nat.le_of_ble_eq_true rfl)⟩) (pre0_V (q0 := 0) (ci := 8) (wc := [(qm, .inr (8, u10))]) hP hK [0] rfl rfl rfl) rfl rfl hl.1 rfl (lv_room (Nat.le_of_ble_eq_true rfl)) dL_law_258 ⟨(Nat.le_of_ble_eq_true rfl), (Nat.le_of_ble_eq_true rfl)⟩) (fun r hw => ?_)
    subst hw
    refine lv_iload hx hb dL_law_261 (lv_at hl 1 rfl) ?_
    refine lv_icmp_eq (tgt := 268) hx hb dL_law_263 (by decide) (fun _ => ?_) (fun h => absurd (by decide) h)
    refine lv_iload hx hb dL_law_268 (lv_at hl 1 rfl) ?_
    refine lv_if_ne (tgt := 285) hx hb dL_law_270 (by decide) (fun _ => ?_) (fun h => absurd h (by decide))
    refine lv_goto (tgt := 1677) hx hb dL_law_285 (by decide) ?_
    exact law_end C0 (Nat.le_of_ble_eq_true rfl) (Nat.le_of_ble_eq_true rfl) hS (lv_sub hl [2, 6] rfl)
  · skip
    refine lv_istore (lv' := [(5, .int 0), (0, .ref b), (1, .ref qx), (2, .ref qm), (3, .ref qo), (4, .int 0)]) hx hb dL_law_243 hl (by decide) rfl (fun ls hl => ?_)
    refine lv_aload_n hx hb dL_law_245 rfl (lv_at hl 3 rfl) ?_
    refine lv_aload_n hx hb dL_law_246 rfl (lv_at hl 1 rfl) ?_
    refine lv_iload hx hb dL_law_247 (lv_at hl 5 rfl) ?_
    refine lv_iconst (v := 1) hx hb dL_law_249 (by decide) ?_
    refine lv_iadd hx hb dL_law_250 ?_
    refine tpi (v := 1) (by decide) ?_
    refine va_sld hx hb hX hbl hbA hS (vpl (by decide)) dL_law_251 ?_
    refine tpi (v := (xs 1)) rfl ?_
    have hF := va_free (wc := [(qm, .inr (8, [.int 0, .int 0, .int 2, .ref (um 0), .ref (um 1), .int 0, .int 500, .int 0, .int 0, .int 0, .ref (um 6)]))]) hD hS hA [0] rfl
    refine va_calli (va_runV (As := [.int (xs 1)]) (rest := []) ⟨hx, hb, hml, hown, hts⟩ (k_X6_setOrder_2 l D κ ε qm (um 0) (um 1) (um 6) H.size ((xs 1)) c5 c6) (cwV 1 hts gL_law_X6_setOrder rfl rfl rfl (by decide +kernel) ⟨(Nat.le_of_ble_eq_true rfl), (Nat.le_of_ble_eq_true rfl)⟩) (pre2_V (q0 := 0) (ci := 8) (wc := [(qm, .inr (8, [.int 0, .int 0, .int 2, .ref (um 0), .ref (um 1), .int 0, .int 500, .int 0, .int 0, .int 0, .ref (um 6)]))]) hP hD hK hE9 hS hA [0] (by decide) rfl rfl rfl) rfl rfl hl.1 rfl (lv_room (Nat.le_of_ble_eq_true rfl)) dL_law_252 ⟨(Nat.le_of_ble_eq_true rfl), (Nat.le_of_ble_eq_true rfl)⟩) hS (fun q _ h => hF q h) hF (fun r u12 t H locs ht hvm hw hB hz1 hk1 hS => ?_)
    try dsimp only at hw hB
    obtain ⟨hP1, hD1⟩ := hB
    rw [ht] at hP1
    obtain ⟨hP, hD⟩ := post_j (ws' := [(qm, .inr (8, u12)), (qo, .inl (κ 2, 1, .inr (.inl u1)))]) (wr := [(qo, .inl (κ 2, 1, .inr (.inl u1)))]) (w1 := [(qm, .inr (8, u12))]) hP hD hF [0] rfl [1] rfl (by decide) (by decide) hk1 hP1 hD1 [1, 0] (by decide) rfl
    have hP : va_P D vwCl [(qm, .inr (8, u12)), (qo, .inl (κ 2, 1, .inr (.inl u1)))] H := hP
    have hD : va_D (fun q : Nat => s.heap.size ≤ q) [(qm, .inr (8, u12)), (qo, .inl (κ 2, 1, .inr (.inl u1)))] := hD
    obtain ⟨hu13, rfl⟩ := hw
    refine lv_istore (lv' := [(6, .int 2), (5, .int 0), (0, .ref b), (1, .ref qx), (2, .ref qm), (3, .ref qo), (4, .int 0)]) hx hb dL_law_255 hl (by decide) rfl (fun ls hl => ?_)
    refine lv_aload_n hx hb dL_law_257 rfl (lv_at hl 4 rfl) ?_
    refine vp_callSi (W.runV (As := []) (rest := []) ⟨hx, hb, hml, hown, hts⟩ (k_thrown l D κ qm u12 (0) hu13) (cwV 0 hts gL_law_X6_thrown rfl rfl rfl (by decide +kernel) ⟨(Nat.le_of_ble_eq_true rfl), (Nat.le_of_ble_eq_true rfl)⟩) (pre0_V (q0 := 0) (ci := 8) (wc := [(qm, .inr (8, u12))]) hP hK [0] rfl rfl rfl) rfl rfl hl.1 rfl (lv_room (Nat.le_of_ble_eq_true rfl)) dL_law_258 ⟨(Nat.le_of_ble_eq_true rfl), (Nat.le_of_ble_eq_true rfl)⟩) (fun r hw => ?_)
    subst hw
    refine lv_iload hx hb dL_law_261 (lv_at hl 1 rfl) ?_
    refine lv_icmp_eq (tgt := 268) hx hb dL_law_263 (by decide) (fun _ => ?_) (fun h => absurd (by decide) h)
    refine lv_iload hx hb dL_law_268 (lv_at hl 1 rfl) ?_
    refine lv_if_ne (tgt := 285) hx hb dL_law_270 (by decide) (fun h => absurd (by decide) h) (fun _ => ?_)
    refine lv_aload_n hx hb dL_law_273 rfl (lv_at hl 5 rfl) ?_
    refine lv_iconst (v := 0) hx hb dL_law_274 (by decide) ?_
    refine va_lald (cA := κ 2) (n := 1) (f := u1) hx hb hK hP 1 2 rfl rfl (vpl (by decide)) dL_law_275 ?_
    refine tpl (v := 2) hu7 ?_
    refine lv_iload hx hb dL_law_276 (lv_at hl 0 rfl) ?_
    refine lv_i2l (v := 2) hx hb dL_law_278 (by decide) ?_
    refine W.lcmp hx hb dL_law_279 ?_
    refine tpi (v := 0) (by decide) ?_
    refine lv_if_eq (tgt := 285) hx hb dL_law_280 (by decide) (fun _ => ?_) (fun h => absurd (by decide) h)
    refine lv_goto (tgt := 1677) hx hb dL_law_285 (by decide) ?_
    exact law_end C0 (Nat.le_of_ble_eq_true rfl) (Nat.le_of_ble_eq_true rfl) hS (lv_sub hl [2, 6] rfl)
