theorem wi_X5_digitAt_RX5 : ∀ w ∈ u_ws RX5 TX5 10, w ∈ wsX5_digitAt := by decide +kernel

theorem wd171_X5_digitAt : (.fieldLink RX5 51 "Canticle" "length" "I" : Cond) ∈ wsX5_digitAt := by decide +kernel

theorem wd172_X5_digitAt : (.fieldLink RX5 10 "Canticle" "ledger" "LCanticle$Ledger;" : Cond) ∈ wsX5_digitAt := by decide +kernel

theorem wi_X5_digitAt_RX0 : ∀ w ∈ u_ws RX0 TX0 4, w ∈ wsX5_digitAt := by decide +kernel

theorem wd173_X5_digitAt : (.fieldLink RX5 65 "Canticle$Ledger" "words" "I" : Cond) ∈ wsX5_digitAt := by decide +kernel

set_option maxHeartbeats 4000000 in
set_option maxRecDepth 100000 in
theorem k_X5_digitAt_0 (l : Launch) (D : va_G) (κ ε : Nat → Nat) (h0 h1 h2 h3 h4 h5 h6 h7 h8 : Nat) (p0 : Int32) (p1 : Int32) (p2 : Int32) : Met l yX5_digitAt wsX5_digitAt ({ frames := 0, cells := 0, slots := 0, locals := 0 }) (va_Pc [.ref h0, .int 0] (Pre0 D κ [(h0, .inr (7, [.ref h1, .ref h2, .ref h3, .ref h4, .ref h5, .ref h6, .int 0, .int p0, .int p1, .int 0])), (h1, .inr (2, [.int 0, .int p2, .ref h7, .ref h8]))])) (vp_Si (fun r => (r = 1))) 0 0 (fun _ => False) := by
  refine Met.ofW (cc := cX5_digitAt) (maxL := 2) (ret := (some .int)) (by decide) rfl ?_
  intro p e s m args below meth c s₁ B hml hv
  obtain ⟨rfl, hP, hK⟩ := hv
  have hx := B.exec
  have hb := B.bytes
  have hr := B.returns
  have hts := atoms_spec (ws := wsX5_digitAt) B.pre
  have hown : s.vm.findClass RX5 = some m.cls := findClass_of_methodNamed B.named
  have hlocks := B.notSynchronized
  have hP : va_P D vwCl [(h0, .inr (7, [.ref h1, .ref h2, .ref h3, .ref h4, .ref h5, .ref h6, .int 0, .int p0, .int p1, .int 0])), (h1, .inr (2, [.int 0, .int p2, .ref h7, .ref h8]))] s.heap := hP
  have hl := lv_entry [.ref h0, .int 0] (n := 2) (Nat.le_of_ble_eq_true rfl)
  rw [lg_entry_eq]
  generalize (lg_sl [.ref h0, .int 0] ++ List.replicate (2 - (lg_sl [.ref h0, .int 0]).length) Slot.unset).toArray = ls at hl ⊢
  have hl : lv_has ls 2 [(0, .ref h0), (1, .int 0)] := hl
  refine lv_iload_n hx hb dX5_digitAt_0 rfl (lv_at hl 1 rfl) ?_
  refine lv_if_ge (tgt := 6) hx hb dX5_digitAt_1 (by decide) (fun _ => ?_) (fun h => absurd (by decide) h)
  refine lv_iload_n hx hb dX5_digitAt_6 rfl (lv_at hl 1 rfl) ?_
  refine lv_aload_n hx hb dX5_digitAt_7 rfl (lv_at hl 0 rfl) ?_
  refine va_get (D := D) (ci := 7) (v := .int 0) (C := RX5) (T := TX5) (N := 10) hx hb hts wi_X5_digitAt_RX5 hown hK hP 0 rfl rfl 6 (by decide) (hts _ wd171_X5_digitAt) (fun _ h9 => h9) rfl dX5_digitAt_8 ?_
  refine lv_icmp_ge (tgt := 25) hx hb dX5_digitAt_11 (by decide) (fun _ => ?_) (fun h => absurd (by decide) h)
  refine lv_aload_n hx hb dX5_digitAt_25 rfl (lv_at hl 0 rfl) ?_
  refine va_get (D := D) (ci := 7) (v := .ref h1) (C := RX5) (T := TX5) (N := 10) hx hb hts wi_X5_digitAt_RX5 hown hK hP 0 rfl rfl 0 (by decide) (hts _ wd172_X5_digitAt) (fun _ h9 => h9) rfl dX5_digitAt_26 ?_
  refine va_get (D := D) (ci := 2) (v := .int 0) (C := RX0) (T := TX0) (N := 4) hx hb hts wi_X5_digitAt_RX0 hown hK hP 1 rfl rfl 0 (by decide) (hts _ wd173_X5_digitAt) (fun _ h9 => h9) rfl dX5_digitAt_29 ?_
  refine lv_iconst (v := 1) hx hb dX5_digitAt_32 (by decide) ?_
  refine lv_iadd hx hb dX5_digitAt_33 ?_
  refine tpi (v := 1) (by decide) ?_
  exact W.iret (v := 1) hx hb hr (fun t ht hW => ⟨1, rfl, rfl, ht⟩) (fun q hq => absurd hq List.not_mem_nil) dX5_digitAt_34

set_option maxHeartbeats 4000000 in
set_option maxRecDepth 100000 in
theorem k_X5_keyUpTo_0 (l : Launch) (D : va_G) (κ ε : Nat → Nat) (h0 h1 h2 h3 h4 h5 h6 h7 h8 : Nat) (p0 : Int32) (p1 : Int32) (p2 : Int32) : Met l yX5_keyUpTo wsX5_keyUpTo ({ frames := 1, cells := 0, slots := 0, locals := 21 }) (va_Pc [.ref h0, .int 0, .int 1] (Pre0 D κ [(h0, .inr (7, [.ref h1, .ref h2, .ref h3, .ref h4, .ref h5, .ref h6, .int 0, .int p0, .int p1, .int 0])), (h1, .inr (2, [.int 0, .int p2, .ref h7, .ref h8]))])) (vp_Si (fun r => (r = 1))) 0 0 (fun _ => False) := by
  refine Met.ofW (cc := cX5_keyUpTo) (maxL := 5) (ret := (some .int)) (by decide) rfl ?_
  intro p e s m args below meth c s₁ B hml hv
  obtain ⟨rfl, hP, hK⟩ := hv
  have hx := B.exec
  have hb := B.bytes
  have hr := B.returns
  have hts := atoms_spec (ws := wsX5_keyUpTo) B.pre
  have hown : s.vm.findClass RX5 = some m.cls := findClass_of_methodNamed B.named
  have hlocks := B.notSynchronized
  have hP : va_P D vwCl [(h0, .inr (7, [.ref h1, .ref h2, .ref h3, .ref h4, .ref h5, .ref h6, .int 0, .int p0, .int p1, .int 0])), (h1, .inr (2, [.int 0, .int p2, .ref h7, .ref h8]))] s.heap := hP
  have hl := lv_entry [.ref h0, .int 0, .int 1] (n := 5) (Nat.le_of_ble_eq_true rfl)
  rw [lg_entry_eq]
  generalize (lg_sl [.ref h0, .int 0, .int 1] ++ List.replicate (5 - (lg_sl [.ref h0, .int 0, .int 1]).length) Slot.unset).toArray = ls at hl ⊢
  have hl : lv_has ls 5 [(0, .ref h0), (1, .int 0), (2, .int 1)] := hl
  refine lv_iconst (v := 0) hx hb dX5_keyUpTo_0 (by decide) ?_
  refine lv_istore_n (lv' := [(3, .int 0), (0, .ref h0), (1, .int 0), (2, .int 1)]) hx hb dX5_keyUpTo_1 rfl hl (by decide) rfl (fun ls hl => ?_)
  refine lv_iload_n hx hb dX5_keyUpTo_2 rfl (lv_at hl 2 rfl) ?_
  refine lv_iload_n hx hb dX5_keyUpTo_3 rfl (lv_at hl 3 rfl) ?_
  refine lv_isub hx hb dX5_keyUpTo_4 ?_
  refine tpi (v := (-1)) (by decide) ?_
  refine lv_iconst (v := 1) hx hb dX5_keyUpTo_5 (by decide) ?_
  refine lv_iadd hx hb dX5_keyUpTo_6 ?_
  refine tpi (v := 0) (by decide) ?_
  refine lv_istore (lv' := [(4, .int 0), (3, .int 0), (0, .ref h0), (1, .int 0), (2, .int 1)]) hx hb dX5_keyUpTo_7 hl (by decide) rfl (fun ls hl => ?_)
  refine lv_iload hx hb dX5_keyUpTo_9 (lv_at hl 0 rfl) ?_
  refine lv_iload_n hx hb dX5_keyUpTo_11 rfl (lv_at hl 3 rfl) ?_
  refine lv_icmp_gt (tgt := 33) hx hb dX5_keyUpTo_12 (by decide) (fun h => absurd h (by decide)) (fun _ => ?_)
  refine lv_iload_n hx hb dX5_keyUpTo_15 rfl (lv_at hl 1 rfl) ?_
  refine lv_bipush (v := 14) hx hb dX5_keyUpTo_16 (by decide) ?_
  refine lv_imul hx hb dX5_keyUpTo_18 ?_
  refine tpi (v := 0) (by decide) ?_
  refine lv_aload_n hx hb dX5_keyUpTo_19 rfl (lv_at hl 2 rfl) ?_
  refine lv_iload hx hb dX5_keyUpTo_20 (lv_at hl 0 rfl) ?_
  refine vp_callSi (W.runV (As := [.int 0]) (rest := [.int 0]) ⟨hx, hb, hml, hown, hts⟩ (k_X5_digitAt_0 l D κ ε h0 h1 h2 h3 h4 h5 h6 h7 h8 (p0) (p1) (p2)) (cwV 1 hts gX5_keyUpTo_X5_digitAt rfl rfl rfl (by decide +kernel) ⟨(Nat.le_of_ble_eq_true rfl), (Nat.le_of_ble_eq_true rfl)⟩) (pre0_V (q0 := 0) (ci := 7) (wc := [(h0, .inr (7, [.ref h1, .ref h2, .ref h3, .ref h4, .ref h5, .ref h6, .int 0, .int p0, .int p1, .int 0])), (h1, .inr (2, [.int 0, .int p2, .ref h7, .ref h8]))]) hP hK [0, 1] rfl rfl rfl) rfl rfl hl.1 rfl (lv_room (Nat.le_of_ble_eq_true rfl)) dX5_keyUpTo_22 ⟨(Nat.le_of_ble_eq_true rfl), (Nat.le_of_ble_eq_true rfl)⟩) (fun r hw => ?_)
  rw [hw]
  refine lv_iadd hx hb dX5_keyUpTo_25 ?_
  refine tpi (v := 1) (by decide) ?_
  refine lv_istore_n (lv' := [(3, .int 1), (4, .int 0), (0, .ref h0), (1, .int 0), (2, .int 1)]) hx hb dX5_keyUpTo_26 rfl hl (by decide) rfl (fun ls hl => ?_)
  refine lv_iinc (v := 1) (lv' := [(4, .int 1), (3, .int 1), (0, .ref h0), (1, .int 0), (2, .int 1)]) hx hb dX5_keyUpTo_27 hl (k := 1) rfl (by decide) (by decide) rfl (fun ls hl => ?_)
  refine lv_goto (tgt := 9) hx hb dX5_keyUpTo_30 (by decide) ?_
  refine lv_iload hx hb dX5_keyUpTo_9 (lv_at hl 0 rfl) ?_
  refine lv_iload_n hx hb dX5_keyUpTo_11 rfl (lv_at hl 3 rfl) ?_
  refine lv_icmp_gt (tgt := 33) hx hb dX5_keyUpTo_12 (by decide) (fun _ => ?_) (fun h => absurd (by decide) h)
  refine lv_iload_n hx hb dX5_keyUpTo_33 rfl (lv_at hl 1 rfl) ?_
  exact W.iret (v := 1) hx hb hr (fun t ht hW => ⟨1, rfl, rfl, ht⟩) (fun q hq => absurd hq List.not_mem_nil) dX5_keyUpTo_34

theorem wi_X4_keysBelow_RX4 : ∀ w ∈ u_ws RX4 TX4 3, w ∈ wsX4_keysBelow := by decide +kernel

theorem wd174_X4_keysBelow : (.fieldLink RX4 16 "Canticle$Tally" "size" "I" : Cond) ∈ wsX4_keysBelow := by decide +kernel

set_option maxHeartbeats 4000000 in
set_option maxRecDepth 100000 in
theorem k_X4_keysBelow_0 (l : Launch) (D : va_G) (κ ε : Nat → Nat) (h0 h1 h2 : Nat) : Met l yX4_keysBelow wsX4_keysBelow ({ frames := 0, cells := 0, slots := 0, locals := 0 }) (va_Pc [.ref h0, .int 1] (Pre0 D κ [(h0, .inr (6, [.ref h1, .ref h2, .int 0]))])) (vp_Si (fun r => (r = 0))) 0 0 (fun _ => False) := by
  refine Met.ofW (cc := cX4_keysBelow) (maxL := 4) (ret := (some .int)) (by decide) rfl ?_
  intro p e s m args below meth c s₁ B hml hv
  obtain ⟨rfl, hP, hK⟩ := hv
  have hx := B.exec
  have hb := B.bytes
  have hr := B.returns
  have hts := atoms_spec (ws := wsX4_keysBelow) B.pre
  have hown : s.vm.findClass RX4 = some m.cls := findClass_of_methodNamed B.named
  have hlocks := B.notSynchronized
  have hP : va_P D vwCl [(h0, .inr (6, [.ref h1, .ref h2, .int 0]))] s.heap := hP
  have hl := lv_entry [.ref h0, .int 1] (n := 4) (Nat.le_of_ble_eq_true rfl)
  rw [lg_entry_eq]
  generalize (lg_sl [.ref h0, .int 1] ++ List.replicate (4 - (lg_sl [.ref h0, .int 1]).length) Slot.unset).toArray = ls at hl ⊢
  have hl : lv_has ls 4 [(0, .ref h0), (1, .int 1)] := hl
  refine lv_iconst (v := 0) hx hb dX4_keysBelow_0 (by decide) ?_
  refine lv_istore_n (lv' := [(2, .int 0), (0, .ref h0), (1, .int 1)]) hx hb dX4_keysBelow_1 rfl hl (by decide) rfl (fun ls hl => ?_)
  refine lv_sipush (v := 512) hx hb dX4_keysBelow_2 (by decide) ?_
  refine lv_istore_n (lv' := [(3, .int 512), (2, .int 0), (0, .ref h0), (1, .int 1)]) hx hb dX4_keysBelow_5 rfl hl (by decide) rfl (fun ls hl => ?_)
  refine lv_iload_n hx hb dX4_keysBelow_6 rfl (lv_at hl 0 rfl) ?_
  refine lv_if_le (tgt := 45) hx hb dX4_keysBelow_7 (by decide) (fun h => absurd h (by decide)) (fun _ => ?_)
  refine lv_iload_n hx hb dX4_keysBelow_10 rfl (lv_at hl 1 rfl) ?_
  refine lv_iload_n hx hb dX4_keysBelow_11 rfl (lv_at hl 0 rfl) ?_
  refine lv_iadd hx hb dX4_keysBelow_12 ?_
  refine tpi (v := 512) (by decide) ?_
  refine lv_aload_n hx hb dX4_keysBelow_13 rfl (lv_at hl 2 rfl) ?_
  refine va_get (D := D) (ci := 6) (v := .int 0) (C := RX4) (T := TX4) (N := 3) hx hb hts wi_X4_keysBelow_RX4 hown hK hP 0 rfl rfl 2 (by decide) (hts _ wd174_X4_keysBelow) (fun _ h9 => h9) rfl dX4_keysBelow_14 ?_
  refine lv_icmp_gt (tgt := 38) hx hb dX4_keysBelow_17 (by decide) (fun _ => ?_) (fun h => absurd (by decide) h)
  refine lv_iload_n hx hb dX4_keysBelow_38 rfl (lv_at hl 0 rfl) ?_
  refine lv_iconst (v := 2) hx hb dX4_keysBelow_39 (by decide) ?_
  refine lv_idiv hx hb dX4_keysBelow_40 (by decide) ?_
  refine tpi (v := 256) (by decide) ?_
  refine lv_istore_n (lv' := [(3, .int 256), (2, .int 0), (0, .ref h0), (1, .int 1)]) hx hb dX4_keysBelow_41 rfl hl (by decide) rfl (fun ls hl => ?_)
  refine lv_goto (tgt := 6) hx hb dX4_keysBelow_42 (by decide) ?_
  refine lv_iload_n hx hb dX4_keysBelow_6 rfl (lv_at hl 0 rfl) ?_
  refine lv_if_le (tgt := 45) hx hb dX4_keysBelow_7 (by decide) (fun h => absurd h (by decide)) (fun _ => ?_)
  refine lv_iload_n hx hb dX4_keysBelow_10 rfl (lv_at hl 1 rfl) ?_
  refine lv_iload_n hx hb dX4_keysBelow_11 rfl (lv_at hl 0 rfl) ?_
  refine lv_iadd hx hb dX4_keysBelow_12 ?_
  refine tpi (v := 256) (by decide) ?_
  refine lv_aload_n hx hb dX4_keysBelow_13 rfl (lv_at hl 2 rfl) ?_
  refine va_get (D := D) (ci := 6) (v := .int 0) (C := RX4) (T := TX4) (N := 3) hx hb hts wi_X4_keysBelow_RX4 hown hK hP 0 rfl rfl 2 (by decide) (hts _ wd174_X4_keysBelow) (fun _ h9 => h9) rfl dX4_keysBelow_14 ?_
  refine lv_icmp_gt (tgt := 38) hx hb dX4_keysBelow_17 (by decide) (fun _ => ?_) (fun h => absurd (by decide) h)
  refine lv_iload_n hx hb dX4_keysBelow_38 rfl (lv_at hl 0 rfl) ?_
  refine lv_iconst (v := 2) hx hb dX4_keysBelow_39 (by decide) ?_
  refine lv_idiv hx hb dX4_keysBelow_40 (by decide) ?_
  refine tpi (v := 128) (by decide) ?_
  refine lv_istore_n (lv' := [(3, .int 128), (2, .int 0), (0, .ref h0), (1, .int 1)]) hx hb dX4_keysBelow_41 rfl hl (by decide) rfl (fun ls hl => ?_)
  refine lv_goto (tgt := 6) hx hb dX4_keysBelow_42 (by decide) ?_
  refine lv_iload_n hx hb dX4_keysBelow_6 rfl (lv_at hl 0 rfl) ?_
  refine lv_if_le (tgt := 45) hx hb dX4_keysBelow_7 (by decide) (fun h => absurd h (by decide)) (fun _ => ?_)
  refine lv_iload_n hx hb dX4_keysBelow_10 rfl (lv_at hl 1 rfl) ?_
  refine lv_iload_n hx hb dX4_keysBelow_11 rfl (lv_at hl 0 rfl) ?_
  refine lv_iadd hx hb dX4_keysBelow_12 ?_
  refine tpi (v := 128) (by decide) ?_
  refine lv_aload_n hx hb dX4_keysBelow_13 rfl (lv_at hl 2 rfl) ?_
  refine va_get (D := D) (ci := 6) (v := .int 0) (C := RX4) (T := TX4) (N := 3) hx hb hts wi_X4_keysBelow_RX4 hown hK hP 0 rfl rfl 2 (by decide) (hts _ wd174_X4_keysBelow) (fun _ h9 => h9) rfl dX4_keysBelow_14 ?_
  refine lv_icmp_gt (tgt := 38) hx hb dX4_keysBelow_17 (by decide) (fun _ => ?_) (fun h => absurd (by decide) h)
  refine lv_iload_n hx hb dX4_keysBelow_38 rfl (lv_at hl 0 rfl) ?_
  refine lv_iconst (v := 2) hx hb dX4_keysBelow_39 (by decide) ?_
  refine lv_idiv hx hb dX4_keysBelow_40 (by decide) ?_
  refine tpi (v := 64) (by decide) ?_
  refine lv_istore_n (lv' := [(3, .int 64), (2, .int 0), (0, .ref h0), (1, .int 1)]) hx hb dX4_keysBelow_41 rfl hl (by decide) rfl (fun ls hl => ?_)
  refine lv_goto (tgt := 6) hx hb dX4_keysBelow_42 (by decide) ?_
  refine lv_iload_n hx hb dX4_keysBelow_6 rfl (lv_at hl 0 rfl) ?_
  refine lv_if_le (tgt := 45) hx hb dX4_keysBelow_7 (by decide) (fun h => absurd h (by decide)) (fun _ => ?_)
  refine lv_iload_n hx hb dX4_keysBelow_10 rfl (lv_at hl 1 rfl) ?_
  refine lv_iload_n hx hb dX4_keysBelow_11 rfl (lv_at hl 0 rfl) ?_
  refine lv_iadd hx hb dX4_keysBelow_12 ?_
  refine tpi (v := 64) (by decide) ?_
  refine lv_aload_n hx hb dX4_keysBelow_13 rfl (lv_at hl 2 rfl) ?_
  refine va_get (D := D) (ci := 6) (v := .int 0) (C := RX4) (T := TX4) (N := 3) hx hb hts wi_X4_keysBelow_RX4 hown hK hP 0 rfl rfl 2 (by decide) (hts _ wd174_X4_keysBelow) (fun _ h9 => h9) rfl dX4_keysBelow_14 ?_
  refine lv_icmp_gt (tgt := 38) hx hb dX4_keysBelow_17 (by decide) (fun _ => ?_) (fun h => absurd (by decide) h)
  refine lv_iload_n hx hb dX4_keysBelow_38 rfl (lv_at hl 0 rfl) ?_
  refine lv_iconst (v := 2) hx hb dX4_keysBelow_39 (by decide) ?_
  refine lv_idiv hx hb dX4_keysBelow_40 (by decide) ?_
  refine tpi (v := 32) (by decide) ?_
  refine lv_istore_n (lv' := [(3, .int 32), (2, .int 0), (0, .ref h0), (1, .int 1)]) hx hb dX4_keysBelow_41 rfl hl (by decide) rfl (fun ls hl => ?_)
  refine lv_goto (tgt := 6) hx hb dX4_keysBelow_42 (by decide) ?_
  refine lv_iload_n hx hb dX4_keysBelow_6 rfl (lv_at hl 0 rfl) ?_
  refine lv_if_le (tgt := 45) hx hb dX4_keysBelow_7 (by decide) (fun h => absurd h (by decide)) (fun _ => ?_)
  refine lv_iload_n hx hb dX4_keysBelow_10 rfl (lv_at hl 1 rfl) ?_
  refine lv_iload_n hx hb dX4_keysBelow_11 rfl (lv_at hl 0 rfl) ?_
  refine lv_iadd hx hb dX4_keysBelow_12 ?_
  refine tpi (v := 32) (by decide) ?_
  refine lv_aload_n hx hb dX4_keysBelow_13 rfl (lv_at hl 2 rfl) ?_
  refine va_get (D := D) (ci := 6) (v := .int 0) (C := RX4) (T := TX4) (N := 3) hx hb hts wi_X4_keysBelow_RX4 hown hK hP 0 rfl rfl 2 (by decide) (hts _ wd174_X4_keysBelow) (fun _ h9 => h9) rfl dX4_keysBelow_14 ?_
  refine lv_icmp_gt (tgt := 38) hx hb dX4_keysBelow_17 (by decide) (fun _ => ?_) (fun h => absurd (by decide) h)
  refine lv_iload_n hx hb dX4_keysBelow_38 rfl (lv_at hl 0 rfl) ?_
  refine lv_iconst (v := 2) hx hb dX4_keysBelow_39 (by decide) ?_
  refine lv_idiv hx hb dX4_keysBelow_40 (by decide) ?_
  refine tpi (v := 16) (by decide) ?_
  refine lv_istore_n (lv' := [(3, .int 16), (2, .int 0), (0, .ref h0), (1, .int 1)]) hx hb dX4_keysBelow_41 rfl hl (by decide) rfl (fun ls hl => ?_)
  refine lv_goto (tgt := 6) hx hb dX4_keysBelow_42 (by decide) ?_
  refine lv_iload_n hx hb dX4_keysBelow_6 rfl (lv_at hl 0 rfl) ?_
  refine lv_if_le (tgt := 45) hx hb dX4_keysBelow_7 (by decide) (fun h => absurd h (by decide)) (fun _ => ?_)
  refine lv_iload_n hx hb dX4_keysBelow_10 rfl (lv_at hl 1 rfl) ?_
  refine lv_iload_n hx hb dX4_keysBelow_11 rfl (lv_at hl 0 rfl) ?_
  refine lv_iadd hx hb dX4_keysBelow_12 ?_
  refine tpi (v := 16) (by decide) ?_
  refine lv_aload_n hx hb dX4_keysBelow_13 rfl (lv_at hl 2 rfl) ?_
  refine va_get (D := D) (ci := 6) (v := .int 0) (C := RX4) (T := TX4) (N := 3) hx hb hts wi_X4_keysBelow_RX4 hown hK hP 0 rfl rfl 2 (by decide) (hts _ wd174_X4_keysBelow) (fun _ h9 => h9) rfl dX4_keysBelow_14 ?_
  refine lv_icmp_gt (tgt := 38) hx hb dX4_keysBelow_17 (by decide) (fun _ => ?_) (fun h => absurd (by decide) h)
  refine lv_iload_n hx hb dX4_keysBelow_38 rfl (lv_at hl 0 rfl) ?_
  refine lv_iconst (v := 2) hx hb dX4_keysBelow_39 (by decide) ?_
  refine lv_idiv hx hb dX4_keysBelow_40 (by decide) ?_
  refine tpi (v := 8) (by decide) ?_
  refine lv_istore_n (lv' := [(3, .int 8), (2, .int 0), (0, .ref h0), (1, .int 1)]) hx hb dX4_keysBelow_41 rfl hl (by decide) rfl (fun ls hl => ?_)
  refine lv_goto (tgt := 6) hx hb dX4_keysBelow_42 (by decide) ?_
  refine lv_iload_n hx hb dX4_keysBelow_6 rfl (lv_at hl 0 rfl) ?_
  refine lv_if_le (tgt := 45) hx hb dX4_keysBelow_7 (by decide) (fun h => absurd h (by decide)) (fun _ => ?_)
  refine lv_iload_n hx hb dX4_keysBelow_10 rfl (lv_at hl 1 rfl) ?_
  refine lv_iload_n hx hb dX4_keysBelow_11 rfl (lv_at hl 0 rfl) ?_
  refine lv_iadd hx hb dX4_keysBelow_12 ?_
  refine tpi (v := 8) (by decide) ?_
  refine lv_aload_n hx hb dX4_keysBelow_13 rfl (lv_at hl 2 rfl) ?_
  refine va_get (D := D) (ci := 6) (v := .int 0) (C := RX4) (T := TX4) (N := 3) hx hb hts wi_X4_keysBelow_RX4 hown hK hP 0 rfl rfl 2 (by decide) (hts _ wd174_X4_keysBelow) (fun _ h9 => h9) rfl dX4_keysBelow_14 ?_
  refine lv_icmp_gt (tgt := 38) hx hb dX4_keysBelow_17 (by decide) (fun _ => ?_) (fun h => absurd (by decide) h)
  refine lv_iload_n hx hb dX4_keysBelow_38 rfl (lv_at hl 0 rfl) ?_
  refine lv_iconst (v := 2) hx hb dX4_keysBelow_39 (by decide) ?_
  refine lv_idiv hx hb dX4_keysBelow_40 (by decide) ?_
  refine tpi (v := 4) (by decide) ?_
  refine lv_istore_n (lv' := [(3, .int 4), (2, .int 0), (0, .ref h0), (1, .int 1)]) hx hb dX4_keysBelow_41 rfl hl (by decide) rfl (fun ls hl => ?_)
  refine lv_goto (tgt := 6) hx hb dX4_keysBelow_42 (by decide) ?_
  refine lv_iload_n hx hb dX4_keysBelow_6 rfl (lv_at hl 0 rfl) ?_
  refine lv_if_le (tgt := 45) hx hb dX4_keysBelow_7 (by decide) (fun h => absurd h (by decide)) (fun _ => ?_)
  refine lv_iload_n hx hb dX4_keysBelow_10 rfl (lv_at hl 1 rfl) ?_
  refine lv_iload_n hx hb dX4_keysBelow_11 rfl (lv_at hl 0 rfl) ?_
  refine lv_iadd hx hb dX4_keysBelow_12 ?_
  refine tpi (v := 4) (by decide) ?_
  refine lv_aload_n hx hb dX4_keysBelow_13 rfl (lv_at hl 2 rfl) ?_
  refine va_get (D := D) (ci := 6) (v := .int 0) (C := RX4) (T := TX4) (N := 3) hx hb hts wi_X4_keysBelow_RX4 hown hK hP 0 rfl rfl 2 (by decide) (hts _ wd174_X4_keysBelow) (fun _ h9 => h9) rfl dX4_keysBelow_14 ?_
  refine lv_icmp_gt (tgt := 38) hx hb dX4_keysBelow_17 (by decide) (fun _ => ?_) (fun h => absurd (by decide) h)
  refine lv_iload_n hx hb dX4_keysBelow_38 rfl (lv_at hl 0 rfl) ?_
  refine lv_iconst (v := 2) hx hb dX4_keysBelow_39 (by decide) ?_
  refine lv_idiv hx hb dX4_keysBelow_40 (by decide) ?_
  refine tpi (v := 2) (by decide) ?_
  refine lv_istore_n (lv' := [(3, .int 2), (2, .int 0), (0, .ref h0), (1, .int 1)]) hx hb dX4_keysBelow_41 rfl hl (by decide) rfl (fun ls hl => ?_)
  refine lv_goto (tgt := 6) hx hb dX4_keysBelow_42 (by decide) ?_
  refine lv_iload_n hx hb dX4_keysBelow_6 rfl (lv_at hl 0 rfl) ?_
  refine lv_if_le (tgt := 45) hx hb dX4_keysBelow_7 (by decide) (fun h => absurd h (by decide)) (fun _ => ?_)
  refine lv_iload_n hx hb dX4_keysBelow_10 rfl (lv_at hl 1 rfl) ?_
  refine lv_iload_n hx hb dX4_keysBelow_11 rfl (lv_at hl 0 rfl) ?_
  refine lv_iadd hx hb dX4_keysBelow_12 ?_
  refine tpi (v := 2) (by decide) ?_
  refine lv_aload_n hx hb dX4_keysBelow_13 rfl (lv_at hl 2 rfl) ?_
  refine va_get (D := D) (ci := 6) (v := .int 0) (C := RX4) (T := TX4) (N := 3) hx hb hts wi_X4_keysBelow_RX4 hown hK hP 0 rfl rfl 2 (by decide) (hts _ wd174_X4_keysBelow) (fun _ h9 => h9) rfl dX4_keysBelow_14 ?_
  refine lv_icmp_gt (tgt := 38) hx hb dX4_keysBelow_17 (by decide) (fun _ => ?_) (fun h => absurd (by decide) h)
  refine lv_iload_n hx hb dX4_keysBelow_38 rfl (lv_at hl 0 rfl) ?_
  refine lv_iconst (v := 2) hx hb dX4_keysBelow_39 (by decide) ?_
  refine lv_idiv hx hb dX4_keysBelow_40 (by decide) ?_
  refine tpi (v := 1) (by decide) ?_
  refine lv_istore_n (lv' := [(3, .int 1), (2, .int 0), (0, .ref h0), (1, .int 1)]) hx hb dX4_keysBelow_41 rfl hl (by decide) rfl (fun ls hl => ?_)
  refine lv_goto (tgt := 6) hx hb dX4_keysBelow_42 (by decide) ?_
  refine lv_iload_n hx hb dX4_keysBelow_6 rfl (lv_at hl 0 rfl) ?_
  refine lv_if_le (tgt := 45) hx hb dX4_keysBelow_7 (by decide) (fun h => absurd h (by decide)) (fun _ => ?_)
  refine lv_iload_n hx hb dX4_keysBelow_10 rfl (lv_at hl 1 rfl) ?_
  refine lv_iload_n hx hb dX4_keysBelow_11 rfl (lv_at hl 0 rfl) ?_
  refine lv_iadd hx hb dX4_keysBelow_12 ?_
  refine tpi (v := 1) (by decide) ?_
  refine lv_aload_n hx hb dX4_keysBelow_13 rfl (lv_at hl 2 rfl) ?_
  refine va_get (D := D) (ci := 6) (v := .int 0) (C := RX4) (T := TX4) (N := 3) hx hb hts wi_X4_keysBelow_RX4 hown hK hP 0 rfl rfl 2 (by decide) (hts _ wd174_X4_keysBelow) (fun _ h9 => h9) rfl dX4_keysBelow_14 ?_
  refine lv_icmp_gt (tgt := 38) hx hb dX4_keysBelow_17 (by decide) (fun _ => ?_) (fun h => absurd (by decide) h)
  refine lv_iload_n hx hb dX4_keysBelow_38 rfl (lv_at hl 0 rfl) ?_
  refine lv_iconst (v := 2) hx hb dX4_keysBelow_39 (by decide) ?_
  refine lv_idiv hx hb dX4_keysBelow_40 (by decide) ?_
  refine tpi (v := 0) (by decide) ?_
  refine lv_istore_n (lv' := [(3, .int 0), (2, .int 0), (0, .ref h0), (1, .int 1)]) hx hb dX4_keysBelow_41 rfl hl (by decide) rfl (fun ls hl => ?_)
  refine lv_goto (tgt := 6) hx hb dX4_keysBelow_42 (by decide) ?_
  refine lv_iload_n hx hb dX4_keysBelow_6 rfl (lv_at hl 0 rfl) ?_
  refine lv_if_le (tgt := 45) hx hb dX4_keysBelow_7 (by decide) (fun _ => ?_) (fun h => absurd (by decide) h)
  refine lv_iload_n hx hb dX4_keysBelow_45 rfl (lv_at hl 1 rfl) ?_
  exact W.iret (v := 0) hx hb hr (fun t ht hW => ⟨0, rfl, rfl, ht⟩) (fun q hq => absurd hq List.not_mem_nil) dX4_keysBelow_46

theorem wi_X4_standsAt_RX4 : ∀ w ∈ u_ws RX4 TX4 3, w ∈ wsX4_standsAt := by decide +kernel

theorem wd175_X4_standsAt : (.fieldLink RX4 16 "Canticle$Tally" "size" "I" : Cond) ∈ wsX4_standsAt := by decide +kernel

set_option maxHeartbeats 4000000 in
set_option maxRecDepth 100000 in
theorem k_X4_standsAt_0 (l : Launch) (D : va_G) (κ ε : Nat → Nat) (h0 h1 h2 : Nat) : Met l yX4_standsAt wsX4_standsAt ({ frames := 0, cells := 0, slots := 0, locals := 0 }) (va_Pc [.ref h0, .int 0, .int 1] (Pre0 D κ [(h0, .inr (6, [.ref h1, .ref h2, .int 0]))])) (vp_Si (fun r => (r = 0))) 0 0 (fun _ => False) := by
  refine Met.ofW (cc := cX4_standsAt) (maxL := 3) (ret := (some .boolean)) (by decide) rfl ?_
  intro p e s m args below meth c s₁ B hml hv
  obtain ⟨rfl, hP, hK⟩ := hv
  have hx := B.exec
  have hb := B.bytes
  have hr := B.returns
  have hts := atoms_spec (ws := wsX4_standsAt) B.pre
  have hown : s.vm.findClass RX4 = some m.cls := findClass_of_methodNamed B.named
  have hlocks := B.notSynchronized
  have hP : va_P D vwCl [(h0, .inr (6, [.ref h1, .ref h2, .int 0]))] s.heap := hP
  have hl := lv_entry [.ref h0, .int 0, .int 1] (n := 3) (Nat.le_of_ble_eq_true rfl)
  rw [lg_entry_eq]
  generalize (lg_sl [.ref h0, .int 0, .int 1] ++ List.replicate (3 - (lg_sl [.ref h0, .int 0, .int 1]).length) Slot.unset).toArray = ls at hl ⊢
  have hl : lv_has ls 3 [(0, .ref h0), (1, .int 0), (2, .int 1)] := hl
  refine lv_iload_n hx hb dX4_standsAt_0 rfl (lv_at hl 1 rfl) ?_
  refine lv_aload_n hx hb dX4_standsAt_1 rfl (lv_at hl 0 rfl) ?_
  refine va_get (D := D) (ci := 6) (v := .int 0) (C := RX4) (T := TX4) (N := 3) hx hb hts wi_X4_standsAt_RX4 hown hK hP 0 rfl rfl 2 (by decide) (hts _ wd175_X4_standsAt) (fun _ h9 => h9) rfl dX4_standsAt_2 ?_
  refine lv_icmp_ge (tgt := 22) hx hb dX4_standsAt_5 (by decide) (fun _ => ?_) (fun h => absurd (by decide) h)
  refine lv_iconst (v := 0) hx hb dX4_standsAt_22 (by decide) ?_
  exact W.zret (v := 0) hx hb hr rfl (fun t ht hW => ⟨0, rfl, rfl, ht⟩) (fun q hq => absurd hq List.not_mem_nil) dX4_standsAt_23

set_option maxHeartbeats 4000000 in
set_option maxRecDepth 100000 in
theorem k_X4_numberOf_0 (l : Launch) (D : va_G) (κ ε : Nat → Nat) (h0 h1 h2 : Nat) : Met l yX4_numberOf wsX4_numberOf ({ frames := 1, cells := 0, slots := 0, locals := 23 }) (va_Pc [.ref h0, .int 1] (Pre0 D κ [(h0, .inr (6, [.ref h1, .ref h2, .int 0]))])) (vp_Si (fun r => (r = 0))) 0 0 (fun _ => False) := by
  refine Met.ofW (cc := cX4_numberOf) (maxL := 3) (ret := (some .int)) (by decide) rfl ?_
  intro p e s m args below meth c s₁ B hml hv
  obtain ⟨rfl, hP, hK⟩ := hv
  have hx := B.exec
  have hb := B.bytes
  have hr := B.returns
  have hts := atoms_spec (ws := wsX4_numberOf) B.pre
  have hown : s.vm.findClass RX4 = some m.cls := findClass_of_methodNamed B.named
  have hlocks := B.notSynchronized
  have hP : va_P D vwCl [(h0, .inr (6, [.ref h1, .ref h2, .int 0]))] s.heap := hP
  have hl := lv_entry [.ref h0, .int 1] (n := 3) (Nat.le_of_ble_eq_true rfl)
  rw [lg_entry_eq]
  generalize (lg_sl [.ref h0, .int 1] ++ List.replicate (3 - (lg_sl [.ref h0, .int 1]).length) Slot.unset).toArray = ls at hl ⊢
  have hl : lv_has ls 3 [(0, .ref h0), (1, .int 1)] := hl
  refine lv_aload_n hx hb dX4_numberOf_0 rfl (lv_at hl 0 rfl) ?_
  refine lv_iload_n hx hb dX4_numberOf_1 rfl (lv_at hl 1 rfl) ?_
  refine vp_callSi (W.runV (As := [.int 1]) (rest := []) ⟨hx, hb, hml, hown, hts⟩ (k_X4_keysBelow_0 l D κ ε h0 h1 h2) (cwV 1 hts gX4_numberOf_X4_keysBelow rfl rfl rfl (by decide +kernel) ⟨(Nat.le_of_ble_eq_true rfl), (Nat.le_of_ble_eq_true rfl)⟩) (pre0_V (q0 := 0) (ci := 6) (wc := [(h0, .inr (6, [.ref h1, .ref h2, .int 0]))]) hP hK [0] rfl rfl rfl) rfl rfl hl.1 rfl (lv_room (Nat.le_of_ble_eq_true rfl)) dX4_numberOf_2 ⟨(Nat.le_of_ble_eq_true rfl), (Nat.le_of_ble_eq_true rfl)⟩) (fun r hw => ?_)
  rw [hw]
  refine lv_istore_n (lv' := [(2, .int 0), (0, .ref h0), (1, .int 1)]) hx hb dX4_numberOf_5 rfl hl (by decide) rfl (fun ls hl => ?_)
  refine lv_aload_n hx hb dX4_numberOf_6 rfl (lv_at hl 1 rfl) ?_
  refine lv_iload_n hx hb dX4_numberOf_7 rfl (lv_at hl 0 rfl) ?_
  refine lv_iload_n hx hb dX4_numberOf_8 rfl (lv_at hl 2 rfl) ?_
  refine vp_callSi (W.runV (As := [.int 0, .int 1]) (rest := []) ⟨hx, hb, hml, hown, hts⟩ (k_X4_standsAt_0 l D κ ε h0 h1 h2) (cwV 2 hts gX4_numberOf_X4_standsAt rfl rfl rfl (by decide +kernel) ⟨(Nat.le_of_ble_eq_true rfl), (Nat.le_of_ble_eq_true rfl)⟩) (pre0_V (q0 := 0) (ci := 6) (wc := [(h0, .inr (6, [.ref h1, .ref h2, .int 0]))]) hP hK [0] rfl rfl rfl) rfl rfl hl.1 rfl (lv_room (Nat.le_of_ble_eq_true rfl)) dX4_numberOf_9 ⟨(Nat.le_of_ble_eq_true rfl), (Nat.le_of_ble_eq_true rfl)⟩) (fun r hw => ?_)
  rw [hw]
  refine lv_if_eq (tgt := 24) hx hb dX4_numberOf_12 (by decide) (fun _ => ?_) (fun h => absurd (by decide) h)
  refine lv_iconst (v := 0) hx hb dX4_numberOf_24 (by decide) ?_
  exact W.iret (v := 0) hx hb hr (fun t ht hW => ⟨0, rfl, rfl, ht⟩) (fun q hq => absurd hq List.not_mem_nil) dX4_numberOf_25

theorem wi_X5_timesInSentence_RX5 : ∀ w ∈ u_ws RX5 TX5 10, w ∈ wsX5_timesInSentence := by decide +kernel

theorem wd176_X5_timesInSentence : (.fieldLink RX5 51 "Canticle" "length" "I" : Cond) ∈ wsX5_timesInSentence := by decide +kernel

set_option maxHeartbeats 4000000 in
set_option maxRecDepth 100000 in
theorem k_X5_timesInSentence_0 (l : Launch) (D : va_G) (κ ε : Nat → Nat) (h0 h1 h2 h3 h4 h5 h6 h7 h8 : Nat) (p0 : Int32) (p1 : Int32) (p2 : Int32) : Met l yX5_timesInSentence wsX5_timesInSentence ({ frames := 2, cells := 0, slots := 0, locals := 45 }) (va_Pc [.ref h0, .int 1, .int 1] (Pre0 D κ [(h0, .inr (7, [.ref h1, .ref h2, .ref h3, .ref h4, .ref h5, .ref h6, .int 0, .int p0, .int p1, .int 0])), (h1, .inr (2, [.int 0, .int p2, .ref h7, .ref h8]))])) (vp_Si (fun r => (r = 1))) 0 0 (fun _ => False) := by
  refine Met.ofW (cc := cX5_timesInSentence) (maxL := 5) (ret := (some .int)) (by decide) rfl ?_
  intro p e s m args below meth c s₁ B hml hv
  obtain ⟨rfl, hP, hK⟩ := hv
  have hx := B.exec
  have hb := B.bytes
  have hr := B.returns
  have hts := atoms_spec (ws := wsX5_timesInSentence) B.pre
  have hown : s.vm.findClass RX5 = some m.cls := findClass_of_methodNamed B.named
  have hlocks := B.notSynchronized
  have hP : va_P D vwCl [(h0, .inr (7, [.ref h1, .ref h2, .ref h3, .ref h4, .ref h5, .ref h6, .int 0, .int p0, .int p1, .int 0])), (h1, .inr (2, [.int 0, .int p2, .ref h7, .ref h8]))] s.heap := hP
  have hl := lv_entry [.ref h0, .int 1, .int 1] (n := 5) (Nat.le_of_ble_eq_true rfl)
  rw [lg_entry_eq]
  generalize (lg_sl [.ref h0, .int 1, .int 1] ++ List.replicate (5 - (lg_sl [.ref h0, .int 1, .int 1]).length) Slot.unset).toArray = ls at hl ⊢
  have hl : lv_has ls 5 [(0, .ref h0), (1, .int 1), (2, .int 1)] := hl
  refine lv_iconst (v := 0) hx hb dX5_timesInSentence_0 (by decide) ?_
  refine lv_istore_n (lv' := [(3, .int 0), (0, .ref h0), (1, .int 1), (2, .int 1)]) hx hb dX5_timesInSentence_1 rfl hl (by decide) rfl (fun ls hl => ?_)
  refine lv_iconst (v := 0) hx hb dX5_timesInSentence_2 (by decide) ?_
  refine lv_istore (lv' := [(4, .int 0), (3, .int 0), (0, .ref h0), (1, .int 1), (2, .int 1)]) hx hb dX5_timesInSentence_3 hl (by decide) rfl (fun ls hl => ?_)
  refine lv_iload hx hb dX5_timesInSentence_5 (lv_at hl 0 rfl) ?_
  refine lv_aload_n hx hb dX5_timesInSentence_7 rfl (lv_at hl 2 rfl) ?_
  refine va_get (D := D) (ci := 7) (v := .int 0) (C := RX5) (T := TX5) (N := 10) hx hb hts wi_X5_timesInSentence_RX5 hown hK hP 0 rfl rfl 6 (by decide) (hts _ wd176_X5_timesInSentence) (fun _ h9 => h9) rfl dX5_timesInSentence_8 ?_
  refine lv_icmp_gt (tgt := 34) hx hb dX5_timesInSentence_11 (by decide) (fun h => absurd h (by decide)) (fun _ => ?_)
  refine lv_aload_n hx hb dX5_timesInSentence_14 rfl (lv_at hl 2 rfl) ?_
  refine lv_iload hx hb dX5_timesInSentence_15 (lv_at hl 0 rfl) ?_
  refine lv_iload_n hx hb dX5_timesInSentence_17 rfl (lv_at hl 4 rfl) ?_
  refine vp_callSi (W.runV (As := [.int 0, .int 1]) (rest := []) ⟨hx, hb, hml, hown, hts⟩ (k_X5_keyUpTo_0 l D κ ε h0 h1 h2 h3 h4 h5 h6 h7 h8 (p0) (p1) (p2)) (cwV 2 hts gX5_timesInSentence_X5_keyUpTo rfl rfl rfl (by decide +kernel) ⟨(Nat.le_of_ble_eq_true rfl), (Nat.le_of_ble_eq_true rfl)⟩) (pre0_V (q0 := 0) (ci := 7) (wc := [(h0, .inr (7, [.ref h1, .ref h2, .ref h3, .ref h4, .ref h5, .ref h6, .int 0, .int p0, .int p1, .int 0])), (h1, .inr (2, [.int 0, .int p2, .ref h7, .ref h8]))]) hP hK [0, 1] rfl rfl rfl) rfl rfl hl.1 rfl (lv_room (Nat.le_of_ble_eq_true rfl)) dX5_timesInSentence_18 ⟨(Nat.le_of_ble_eq_true rfl), (Nat.le_of_ble_eq_true rfl)⟩) (fun r hw => ?_)
  rw [hw]
  refine lv_iload_n hx hb dX5_timesInSentence_21 rfl (lv_at hl 3 rfl) ?_
  refine lv_icmp_ne (tgt := 28) hx hb dX5_timesInSentence_22 (by decide) (fun h => absurd (by decide) h) (fun _ => ?_)
  refine lv_iinc (v := 1) (lv' := [(3, .int 1), (4, .int 0), (0, .ref h0), (1, .int 1), (2, .int 1)]) hx hb dX5_timesInSentence_25 hl (k := 1) rfl (by decide) (by decide) rfl (fun ls hl => ?_)
  refine lv_iinc (v := 1) (lv' := [(4, .int 1), (3, .int 1), (0, .ref h0), (1, .int 1), (2, .int 1)]) hx hb dX5_timesInSentence_28 hl (k := 1) rfl (by decide) (by decide) rfl (fun ls hl => ?_)
  refine lv_goto (tgt := 5) hx hb dX5_timesInSentence_31 (by decide) ?_
  refine lv_iload hx hb dX5_timesInSentence_5 (lv_at hl 0 rfl) ?_
  refine lv_aload_n hx hb dX5_timesInSentence_7 rfl (lv_at hl 2 rfl) ?_
  refine va_get (D := D) (ci := 7) (v := .int 0) (C := RX5) (T := TX5) (N := 10) hx hb hts wi_X5_timesInSentence_RX5 hown hK hP 0 rfl rfl 6 (by decide) (hts _ wd176_X5_timesInSentence) (fun _ h9 => h9) rfl dX5_timesInSentence_8 ?_
  refine lv_icmp_gt (tgt := 34) hx hb dX5_timesInSentence_11 (by decide) (fun _ => ?_) (fun h => absurd (by decide) h)
  refine lv_iload_n hx hb dX5_timesInSentence_34 rfl (lv_at hl 1 rfl) ?_
  exact W.iret (v := 1) hx hb hr (fun t ht hW => ⟨1, rfl, rfl, ht⟩) (fun q hq => absurd hq List.not_mem_nil) dX5_timesInSentence_35

theorem wi_X5_canTakeSentence_RX5 : ∀ w ∈ u_ws RX5 TX5 10, w ∈ wsX5_canTakeSentence := by decide +kernel

theorem wd177_X5_canTakeSentence : (.fieldLink RX5 10 "Canticle" "ledger" "LCanticle$Ledger;" : Cond) ∈ wsX5_canTakeSentence := by decide +kernel

theorem wi_X5_canTakeSentence_RX0 : ∀ w ∈ u_ws RX0 TX0 4, w ∈ wsX5_canTakeSentence := by decide +kernel

theorem wd178_X5_canTakeSentence : (.fieldLink RX5 83 "Canticle$Ledger" "order" "I" : Cond) ∈ wsX5_canTakeSentence := by decide +kernel

theorem wd179_X5_canTakeSentence : (.fieldLink RX5 51 "Canticle" "length" "I" : Cond) ∈ wsX5_canTakeSentence := by decide +kernel

set_option maxHeartbeats 4000000 in
set_option maxRecDepth 100000 in
theorem k_X5_canTakeSentence_0 (l : Launch) (D : va_G) (κ ε : Nat → Nat) (h0 h1 h2 h3 h4 h5 h6 h7 h8 h9 h10 h11 h12 h13 h14 : Nat) (p0 : Int32) (p1 : Int32) : Met l yX5_canTakeSentence wsX5_canTakeSentence ({ frames := 3, cells := 0, slots := 0, locals := 69 }) (va_Pc [.ref h0] (Pre0 D κ [(h0, .inr (7, [.ref h1, .ref h2, .ref h3, .ref h4, .ref h5, .ref h6, .int 0, .int p0, .int p1, .int 0])), (h1, .inr (2, [.int 0, .int 2, .ref h7, .ref h8])), (h7, .inl (κ 3, 4, .inr (.inr (.inr (.inr (sel [h9, h10, h11, h12])))))), (h9, .inr (6, [.ref h13, .ref h14, .int 0]))])) (vp_Si (fun r => (r = 0))) 0 0 (fun _ => False) := by
  refine Met.ofW (cc := cX5_canTakeSentence) (maxL := 4) (ret := (some .boolean)) (by decide) rfl ?_
  intro p e s m args below meth c s₁ B hml hv
  obtain ⟨rfl, hP, hK⟩ := hv
  have hx := B.exec
  have hb := B.bytes
  have hr := B.returns
  have hts := atoms_spec (ws := wsX5_canTakeSentence) B.pre
  have hown : s.vm.findClass RX5 = some m.cls := findClass_of_methodNamed B.named
  have hlocks := B.notSynchronized
  have hP : va_P D vwCl [(h0, .inr (7, [.ref h1, .ref h2, .ref h3, .ref h4, .ref h5, .ref h6, .int 0, .int p0, .int p1, .int 0])), (h1, .inr (2, [.int 0, .int 2, .ref h7, .ref h8])), (h7, .inl (κ 3, 4, .inr (.inr (.inr (.inr (sel [h9, h10, h11, h12])))))), (h9, .inr (6, [.ref h13, .ref h14, .int 0]))] s.heap := hP
  have hl := lv_entry [.ref h0] (n := 4) (Nat.le_of_ble_eq_true rfl)
  rw [lg_entry_eq]
  generalize (lg_sl [.ref h0] ++ List.replicate (4 - (lg_sl [.ref h0]).length) Slot.unset).toArray = ls at hl ⊢
  have hl : lv_has ls 4 [(0, .ref h0)] := hl
  refine lv_iconst (v := 1) hx hb dX5_canTakeSentence_0 (by decide) ?_
  refine lv_istore_n (lv' := [(1, .int 1), (0, .ref h0)]) hx hb dX5_canTakeSentence_1 rfl hl (by decide) rfl (fun ls hl => ?_)
  refine lv_iload_n hx hb dX5_canTakeSentence_2 rfl (lv_at hl 0 rfl) ?_
  refine lv_aload_n hx hb dX5_canTakeSentence_3 rfl (lv_at hl 1 rfl) ?_
  refine va_get (D := D) (ci := 7) (v := .ref h1) (C := RX5) (T := TX5) (N := 10) hx hb hts wi_X5_canTakeSentence_RX5 hown hK hP 0 rfl rfl 0 (by decide) (hts _ wd177_X5_canTakeSentence) (fun _ h9 => h9) rfl dX5_canTakeSentence_4 ?_
  refine va_get (D := D) (ci := 2) (v := .int 2) (C := RX0) (T := TX0) (N := 4) hx hb hts wi_X5_canTakeSentence_RX0 hown hK hP 1 rfl rfl 1 (by decide) (hts _ wd178_X5_canTakeSentence) (fun _ h9 => h9) rfl dX5_canTakeSentence_7 ?_
  refine lv_icmp_gt (tgt := 65) hx hb dX5_canTakeSentence_10 (by decide) (fun h => absurd h (by decide)) (fun _ => ?_)
  refine lv_iconst (v := 0) hx hb dX5_canTakeSentence_13 (by decide) ?_
  refine lv_istore_n (lv' := [(2, .int 0), (1, .int 1), (0, .ref h0)]) hx hb dX5_canTakeSentence_14 rfl hl (by decide) rfl (fun ls hl => ?_)
  refine lv_iload_n hx hb dX5_canTakeSentence_15 rfl (lv_at hl 0 rfl) ?_
  refine lv_aload_n hx hb dX5_canTakeSentence_16 rfl (lv_at hl 2 rfl) ?_
  refine va_get (D := D) (ci := 7) (v := .int 0) (C := RX5) (T := TX5) (N := 10) hx hb hts wi_X5_canTakeSentence_RX5 hown hK hP 0 rfl rfl 6 (by decide) (hts _ wd179_X5_canTakeSentence) (fun _ h9 => h9) rfl dX5_canTakeSentence_17 ?_
  refine lv_icmp_gt (tgt := 59) hx hb dX5_canTakeSentence_20 (by decide) (fun h => absurd h (by decide)) (fun _ => ?_)
  refine lv_aload_n hx hb dX5_canTakeSentence_23 rfl (lv_at hl 2 rfl) ?_
  refine lv_iload_n hx hb dX5_canTakeSentence_24 rfl (lv_at hl 0 rfl) ?_
  refine lv_iload_n hx hb dX5_canTakeSentence_25 rfl (lv_at hl 1 rfl) ?_
  refine vp_callSi (W.runV (As := [.int 0, .int 1]) (rest := []) ⟨hx, hb, hml, hown, hts⟩ (k_X5_keyUpTo_0 l D κ ε h0 h1 h2 h3 h4 h5 h6 h7 h8 (p0) (p1) (2)) (cwV 2 hts gX5_canTakeSentence_X5_keyUpTo rfl rfl rfl (by decide +kernel) ⟨(Nat.le_of_ble_eq_true rfl), (Nat.le_of_ble_eq_true rfl)⟩) (pre0_V (q0 := 0) (ci := 7) (wc := [(h0, .inr (7, [.ref h1, .ref h2, .ref h3, .ref h4, .ref h5, .ref h6, .int 0, .int p0, .int p1, .int 0])), (h1, .inr (2, [.int 0, .int 2, .ref h7, .ref h8]))]) hP hK [0, 1] rfl rfl rfl) rfl rfl hl.1 rfl (lv_room (Nat.le_of_ble_eq_true rfl)) dX5_canTakeSentence_26 ⟨(Nat.le_of_ble_eq_true rfl), (Nat.le_of_ble_eq_true rfl)⟩) (fun r hw => ?_)
  rw [hw]
  refine lv_istore_n (lv' := [(3, .int 1), (2, .int 0), (1, .int 1), (0, .ref h0)]) hx hb dX5_canTakeSentence_29 rfl hl (by decide) rfl (fun ls hl => ?_)
  refine lv_aload_n hx hb dX5_canTakeSentence_30 rfl (lv_at hl 3 rfl) ?_
  refine va_get (D := D) (ci := 7) (v := .ref h1) (C := RX5) (T := TX5) (N := 10) hx hb hts wi_X5_canTakeSentence_RX5 hown hK hP 0 rfl rfl 0 (by decide) (hts _ wd177_X5_canTakeSentence) (fun _ h9 => h9) rfl dX5_canTakeSentence_31 ?_
  refine lv_iload_n hx hb dX5_canTakeSentence_34 rfl (lv_at hl 2 rfl) ?_
  refine va_csr (W.runV (As := [.int 1]) (rest := []) ⟨hx, hb, hml, hown, hts⟩ (k_X0_countsOf_0 l D κ ε h1 h7 h8 h9 h10 h11 h12 (0) (2)) (cwV 1 hts gX5_canTakeSentence_X0_countsOf rfl rfl rfl (by decide +kernel) ⟨(Nat.le_of_ble_eq_true rfl), (Nat.le_of_ble_eq_true rfl)⟩) (pre0_V (q0 := 1) (ci := 2) (wc := [(h1, .inr (2, [.int 0, .int 2, .ref h7, .ref h8])), (h7, .inl (κ 3, 4, .inr (.inr (.inr (.inr (sel [h9, h10, h11, h12]))))))]) hP hK [1, 2] rfl rfl rfl) rfl rfl hl.1 rfl (lv_room (Nat.le_of_ble_eq_true rfl)) dX5_canTakeSentence_35 ⟨(Nat.le_of_ble_eq_true rfl), (Nat.le_of_ble_eq_true rfl)⟩) (fun r hw => ?_)
  rw [hw]
  refine lv_iload_n hx hb dX5_canTakeSentence_38 rfl (lv_at hl 0 rfl) ?_
  refine vp_callSi (W.runV (As := [.int 1]) (rest := []) ⟨hx, hb, hml, hown, hts⟩ (k_X4_numberOf_0 l D κ ε h9 h13 h14) (cwV 1 hts gX5_canTakeSentence_X4_numberOf rfl rfl rfl (by decide +kernel) ⟨(Nat.le_of_ble_eq_true rfl), (Nat.le_of_ble_eq_true rfl)⟩) (pre0_V (q0 := 3) (ci := 6) (wc := [(h9, .inr (6, [.ref h13, .ref h14, .int 0]))]) hP hK [3] rfl rfl rfl) rfl rfl hl.1 rfl (lv_room (Nat.le_of_ble_eq_true rfl)) dX5_canTakeSentence_39 ⟨(Nat.le_of_ble_eq_true rfl), (Nat.le_of_ble_eq_true rfl)⟩) (fun r hw => ?_)
  rw [hw]
  refine lv_aload_n hx hb dX5_canTakeSentence_42 rfl (lv_at hl 3 rfl) ?_
  refine lv_iload_n hx hb dX5_canTakeSentence_43 rfl (lv_at hl 0 rfl) ?_
  refine lv_iload_n hx hb dX5_canTakeSentence_44 rfl (lv_at hl 2 rfl) ?_
  refine vp_callSi (W.runV (As := [.int 1, .int 1]) (rest := [.int 0]) ⟨hx, hb, hml, hown, hts⟩ (k_X5_timesInSentence_0 l D κ ε h0 h1 h2 h3 h4 h5 h6 h7 h8 (p0) (p1) (2)) (cwV 2 hts gX5_canTakeSentence_X5_timesInSentence rfl rfl rfl (by decide +kernel) ⟨(Nat.le_of_ble_eq_true rfl), (Nat.le_of_ble_eq_true rfl)⟩) (pre0_V (q0 := 0) (ci := 7) (wc := [(h0, .inr (7, [.ref h1, .ref h2, .ref h3, .ref h4, .ref h5, .ref h6, .int 0, .int p0, .int p1, .int 0])), (h1, .inr (2, [.int 0, .int 2, .ref h7, .ref h8]))]) hP hK [0, 1] rfl rfl rfl) rfl rfl hl.1 rfl (lv_room (Nat.le_of_ble_eq_true rfl)) dX5_canTakeSentence_45 ⟨(Nat.le_of_ble_eq_true rfl), (Nat.le_of_ble_eq_true rfl)⟩) (fun r hw => ?_)
  rw [hw]
  refine lv_icmp_ge (tgt := 53) hx hb dX5_canTakeSentence_48 (by decide) (fun h => absurd h (by decide)) (fun _ => ?_)
  refine lv_iconst (v := 0) hx hb dX5_canTakeSentence_51 (by decide) ?_
  exact W.zret (v := 0) hx hb hr rfl (fun t ht hW => ⟨0, rfl, rfl, ht⟩) (fun q hq => absurd hq List.not_mem_nil) dX5_canTakeSentence_52

theorem at1_X5_unlearn_72 : ∀ w ∈ (vx_atS RX5 72 "java/lang/IllegalStateException" ["java/lang/RuntimeException", "java/lang/Exception"]).filter goodWord, w ∈ wsX5_unlearn := by decide +kernel

theorem wd180_X5_unlearn : (.classLink RX5 68 "java/lang/IllegalStateException" : Cond) ∈ wsX5_unlearn := by decide +kernel

theorem wd181_X5_unlearn : (.initialized "java/lang/IllegalStateException" : Cond) ∈ wsX5_unlearn := by decide +kernel

set_option maxHeartbeats 4000000 in
set_option maxRecDepth 100000 in
theorem k_X5_unlearn_0 (l : Launch) (hst : l.stackTraces = false) (D : va_G) (κ ε : Nat → Nat) (h0 h1 h2 h3 h4 h5 h6 h7 h8 h9 h10 h11 h12 h13 h14 : Nat) (sz : Nat) : vx_Met l yX5_unlearn wsX5_unlearn ({ frames := 6, cells := 1, slots := 6, locals := 120 }) (va_Pc [.ref h0] (Pre2 D κ ε [(h0, .inr (7, [.ref h1, .ref h2, .ref h3, .ref h4, .ref h5, .ref h6, .int 0, .int 0, .int 0, .int 0])), (h1, .inr (2, [.int 0, .int 2, .ref h7, .ref h8])), (h7, .inl (κ 3, 4, .inr (.inr (.inr (.inr (sel [h9, h10, h11, h12])))))), (h9, .inr (6, [.ref h13, .ref h14, .int 0]))] sz)) (va_Qi (fun r (u : Unit) => False) (fun _ _ => True) (va_A [(h0, .inr (7, [.ref h1, .ref h2, .ref h3, .ref h4, .ref h5, .ref h6, .int 0, .int 0, .int 0, .int 0])), (h1, .inr (2, [.int 0, .int 2, .ref h7, .ref h8])), (h7, .inl (κ 3, 4, .inr (.inr (.inr (.inr (sel [h9, h10, h11, h12])))))), (h9, .inr (6, [.ref h13, .ref h14, .int 0]))] sz)) (vx_X (fun _ : Unit => True) (fun E _ _ => E = "java/lang/IllegalStateException") (va_A [(h0, .inr (7, [.ref h1, .ref h2, .ref h3, .ref h4, .ref h5, .ref h6, .int 0, .int 0, .int 0, .int 0])), (h1, .inr (2, [.int 0, .int 2, .ref h7, .ref h8])), (h7, .inl (κ 3, 4, .inr (.inr (.inr (.inr (sel [h9, h10, h11, h12])))))), (h9, .inr (6, [.ref h13, .ref h14, .int 0]))] sz)) 1 6 (va_A [(h0, .inr (7, [.ref h1, .ref h2, .ref h3, .ref h4, .ref h5, .ref h6, .int 0, .int 0, .int 0, .int 0])), (h1, .inr (2, [.int 0, .int 2, .ref h7, .ref h8])), (h7, .inl (κ 3, 4, .inr (.inr (.inr (.inr (sel [h9, h10, h11, h12])))))), (h9, .inr (6, [.ref h13, .ref h14, .int 0]))] sz) := by
  refine vx_ofW (cc := cX5_unlearn) (maxL := 1) (ret := (some .int)) (by decide) rfl ?_
  intro p e s m args below meth c s₁ B hml hnx hv
  obtain ⟨rfl, hsz, hP, hK, hD0, hE9⟩ := hv
  have hx := B.exec
  have hb := B.bytes
  have hr := B.returns
  have hts := atoms_spec (ws := wsX5_unlearn) B.pre
  have hown : s.vm.findClass RX5 = some m.cls := findClass_of_methodNamed B.named
  have hlocks := B.notSynchronized
  subst hsz
  have hD := hD0.self (sz := s.heap.size)
  generalize hAe : va_A [(h0, .inr (7, [.ref h1, .ref h2, .ref h3, .ref h4, .ref h5, .ref h6, .int 0, .int 0, .int 0, .int 0])), (h1, .inr (2, [.int 0, .int 2, .ref h7, .ref h8])), (h7, .inl (κ 3, 4, .inr (.inr (.inr (.inr (sel [h9, h10, h11, h12])))))), (h9, .inr (6, [.ref h13, .ref h14, .int 0]))] s.heap.size = A at hD hE9 ⊢
  have hE := hE9.1
  have hDc := hE9.2
  have hA : ∀ q : Nat, s.heap.size ≤ q → A q := fun q h => by rw [← hAe]; exact Or.inr h
  have hS : va_S A s.heap s.heap [] := va_S.rf
  have hP : va_P D vwCl [(h0, .inr (7, [.ref h1, .ref h2, .ref h3, .ref h4, .ref h5, .ref h6, .int 0, .int 0, .int 0, .int 0])), (h1, .inr (2, [.int 0, .int 2, .ref h7, .ref h8])), (h7, .inl (κ 3, 4, .inr (.inr (.inr (.inr (sel [h9, h10, h11, h12])))))), (h9, .inr (6, [.ref h13, .ref h14, .int 0]))] s.heap := hP
  have hl := lv_entry [.ref h0] (n := 1) (Nat.le_of_ble_eq_true rfl)
  rw [lg_entry_eq]
  generalize (lg_sl [.ref h0] ++ List.replicate (1 - (lg_sl [.ref h0]).length) Slot.unset).toArray = ls at hl ⊢
  have hl : lv_has ls 1 [(0, .ref h0)] := hl
  refine lv_aload_n hx hb dX5_unlearn_0 rfl (lv_at hl 0 rfl) ?_
  refine vp_callSi (W.runV (As := []) (rest := []) ⟨hx, hb, hml, hown, hts⟩ (k_X5_canTakeSentence_0 l D κ ε h0 h1 h2 h3 h4 h5 h6 h7 h8 h9 h10 h11 h12 h13 h14 (0) (0)) (cwV 0 hts gX5_unlearn_X5_canTakeSentence rfl rfl rfl (by decide +kernel) ⟨(Nat.le_of_ble_eq_true rfl), (Nat.le_of_ble_eq_true rfl)⟩) (pre0_V (q0 := 0) (ci := 7) (wc := [(h0, .inr (7, [.ref h1, .ref h2, .ref h3, .ref h4, .ref h5, .ref h6, .int 0, .int 0, .int 0, .int 0])), (h1, .inr (2, [.int 0, .int 2, .ref h7, .ref h8])), (h7, .inl (κ 3, 4, .inr (.inr (.inr (.inr (sel [h9, h10, h11, h12])))))), (h9, .inr (6, [.ref h13, .ref h14, .int 0]))]) hP hK [0, 1, 2, 3] rfl rfl rfl) rfl rfl hl.1 rfl (lv_room (Nat.le_of_ble_eq_true rfl)) dX5_unlearn_1 ⟨(Nat.le_of_ble_eq_true rfl), (Nat.le_of_ble_eq_true rfl)⟩) (fun r hw => ?_)
  rw [hw]
  refine lv_if_ne (tgt := 17) hx hb dX5_unlearn_4 (by decide) (fun h => absurd (by decide) h) (fun _ => ?_)
  exact vx_throwS (names := ["java/lang/RuntimeException", "java/lang/Exception"]) (sa := ε 17) hx hb hst hown (by decide +kernel) (by decide +kernel) (hts _ wd180_X5_unlearn) (hts _ wd181_X5_unlearn) (hE.2.2.2.2.2.2.1 _ (List.mem_of_getElem? (i := 7) rfl)) (vx_hat (B := [.castable "java/lang/IllegalStateException" "java/lang/IllegalStateException", .declares (Bundle.initS "java/lang/RuntimeException"), .declares (Bundle.initS "java/lang/Exception"), .declares (Bundle.initS "java/lang/Throwable")]) (fun w hw => hts w (at1_X5_unlearn_72 w hw)) at2_RX5_72 (vx_c (va_Nw.use rfl hE.2.2.2.2.2.2.2.2.2.2.2.2.2.1) (vx_c (va_Nw.use rfl hDc.1) (vx_c (va_Nw.use rfl hDc.2.1) (vx_c (va_Nw.use rfl hDc.2.2) vx_n))))) at2_RX5_72g hE.1 hE.2.1 hS (by rw [hml]; exact hl.1) dX5_unlearn_7 dX5_unlearn_10 dX5_unlearn_11 dX5_unlearn_13 dX5_unlearn_16 (fun x hx => (hnx x hx).elim) (by decide) (by decide) (Nat.le_of_ble_eq_true rfl) (Nat.le_of_ble_eq_true rfl) hlocks (fun t _ h1 h2 => ⟨(), trivial, rfl, thF (H0 := s.heap) hS h1 h2⟩) hS.2.2 (Nat.le_of_ble_eq_true rfl) (Nat.le_of_ble_eq_true rfl)

theorem wd182_L_unlearn : (.classLink RL 13 "java/lang/IllegalStateException" : Cond) ∈ wsL_unlearn := by decide +kernel

set_option maxHeartbeats 4000000 in
set_option maxRecDepth 100000 in
theorem k_L_unlearn_0 (l : Launch) (hst : l.stackTraces = false) (D : va_G) (κ ε : Nat → Nat) (h0 h1 h2 h3 h4 h5 h6 h7 h8 h9 h10 h11 h12 h13 h14 h15 : Nat) (sz : Nat) : Met l yL_unlearn wsL_unlearn ({ frames := 7, cells := 1, slots := 6, locals := 140 }) (va_Pc [.ref h0, .ref h1] (Pre2 D κ ε [(h0, .inr (7, [.ref h2, .ref h3, .ref h4, .ref h5, .ref h6, .ref h7, .int 0, .int 0, .int 0, .int 0])), (h1, .inl (κ 2, 1, .inr (.inl (fun _ => 0)))), (h2, .inr (2, [.int 0, .int 2, .ref h8, .ref h9])), (h8, .inl (κ 3, 4, .inr (.inr (.inr (.inr (sel [h10, h11, h12, h13])))))), (h10, .inr (6, [.ref h14, .ref h15, .int 0]))] sz)) (va_Qi (fun r (u : Nat → Int64) => (r = 1)) (fun u t => va_P D vwCl [(h1, .inl (κ 2, 1, .inr (.inl u)))] t.heap ∧ va_D (va_A [(h0, .inr (7, [.ref h2, .ref h3, .ref h4, .ref h5, .ref h6, .ref h7, .int 0, .int 0, .int 0, .int 0])), (h1, .inl (κ 2, 1, .inr (.inl (fun _ => 0)))), (h2, .inr (2, [.int 0, .int 2, .ref h8, .ref h9])), (h8, .inl (κ 3, 4, .inr (.inr (.inr (.inr (sel [h10, h11, h12, h13])))))), (h10, .inr (6, [.ref h14, .ref h15, .int 0]))] sz) [(h1, .inl (κ 2, 1, .inr (.inl u)))]) (va_A [(h0, .inr (7, [.ref h2, .ref h3, .ref h4, .ref h5, .ref h6, .ref h7, .int 0, .int 0, .int 0, .int 0])), (h1, .inl (κ 2, 1, .inr (.inl (fun _ => 0)))), (h2, .inr (2, [.int 0, .int 2, .ref h8, .ref h9])), (h8, .inl (κ 3, 4, .inr (.inr (.inr (.inr (sel [h10, h11, h12, h13])))))), (h10, .inr (6, [.ref h14, .ref h15, .int 0]))] sz)) 1 6 (va_A [(h0, .inr (7, [.ref h2, .ref h3, .ref h4, .ref h5, .ref h6, .ref h7, .int 0, .int 0, .int 0, .int 0])), (h1, .inl (κ 2, 1, .inr (.inl (fun _ => 0)))), (h2, .inr (2, [.int 0, .int 2, .ref h8, .ref h9])), (h8, .inl (κ 3, 4, .inr (.inr (.inr (.inr (sel [h10, h11, h12, h13])))))), (h10, .inr (6, [.ref h14, .ref h15, .int 0]))] sz) := by
  refine va_MetW (cc := cL_unlearn) (maxL := 3) (ret := (some .int)) (hh := [(0, 8, 11, 13)]) (by decide) rfl ?_
  intro p e s m args below meth c s₁ B hml hv
  obtain ⟨rfl, hsz, hP, hK, hD0, hE9⟩ := hv
  have hx := B.exec
  have hb := B.bytes
  have hr := B.returns
  have hts := atoms_spec (ws := wsL_unlearn) B.pre
  have hown : s.vm.findClass RL = some m.cls := findClass_of_methodNamed B.named
  have hlocks := B.notSynchronized
  have htab : c.exceptionTable.toList = tableOf [(0, 8, 11, 13)] := vx_table (x := yL_unlearn) B (hts (.codeWith yL_unlearn cL_unlearn 3 (some .int) [(0, 8, 11, 13)]) List.mem_cons_self)
  subst hsz
  have hD := hD0.self (sz := s.heap.size)
  generalize hAe : va_A [(h0, .inr (7, [.ref h2, .ref h3, .ref h4, .ref h5, .ref h6, .ref h7, .int 0, .int 0, .int 0, .int 0])), (h1, .inl (κ 2, 1, .inr (.inl (fun _ => 0)))), (h2, .inr (2, [.int 0, .int 2, .ref h8, .ref h9])), (h8, .inl (κ 3, 4, .inr (.inr (.inr (.inr (sel [h10, h11, h12, h13])))))), (h10, .inr (6, [.ref h14, .ref h15, .int 0]))] s.heap.size = A at hD hE9 ⊢
  have hE := hE9.1
  have hDc := hE9.2
  have hA : ∀ q : Nat, s.heap.size ≤ q → A q := fun q h => by rw [← hAe]; exact Or.inr h
  have hS : va_S A s.heap s.heap [] := va_S.rf
  have hP : va_P D vwCl [(h0, .inr (7, [.ref h2, .ref h3, .ref h4, .ref h5, .ref h6, .ref h7, .int 0, .int 0, .int 0, .int 0])), (h1, .inl (κ 2, 1, .inr (.inl (fun _ => 0)))), (h2, .inr (2, [.int 0, .int 2, .ref h8, .ref h9])), (h8, .inl (κ 3, 4, .inr (.inr (.inr (.inr (sel [h10, h11, h12, h13])))))), (h10, .inr (6, [.ref h14, .ref h15, .int 0]))] s.heap := hP
  have hl := lv_entry [.ref h0, .ref h1] (n := 3) (Nat.le_of_ble_eq_true rfl)
  rw [lg_entry_eq]
  generalize (lg_sl [.ref h0, .ref h1] ++ List.replicate (3 - (lg_sl [.ref h0, .ref h1]).length) Slot.unset).toArray = ls at hl ⊢
  have hl : lv_has ls 3 [(0, .ref h0), (1, .ref h1)] := hl
  refine lv_aload_n hx hb dL_unlearn_0 rfl (lv_at hl 1 rfl) ?_
  refine lv_iconst (v := 0) hx hb dL_unlearn_1 (by decide) ?_
  refine lv_aload_n hx hb dL_unlearn_2 rfl (lv_at hl 0 rfl) ?_
  have hF := va_free (wc := [(h0, .inr (7, [.ref h2, .ref h3, .ref h4, .ref h5, .ref h6, .ref h7, .int 0, .int 0, .int 0, .int 0])), (h2, .inr (2, [.int 0, .int 2, .ref h8, .ref h9])), (h8, .inl (κ 3, 4, .inr (.inr (.inr (.inr (sel [h10, h11, h12, h13])))))), (h10, .inr (6, [.ref h14, .ref h15, .int 0]))]) hD hS hA [0, 2, 3, 4] rfl
  refine vx_calli (vx_runV (As := []) (rest := [.int 0, .ref h1]) ⟨hx, hb, hml, hown, hts⟩ (k_X5_unlearn_0 l hst D κ ε h0 h2 h3 h4 h5 h6 h7 h8 h9 h10 h11 h12 h13 h14 h15 s.heap.size) (cwV 0 hts gL_unlearn_X5_unlearn rfl rfl rfl (by decide +kernel) ⟨(Nat.le_of_ble_eq_true rfl), (Nat.le_of_ble_eq_true rfl)⟩) (pre2_V (q0 := 0) (ci := 7) (wc := [(h0, .inr (7, [.ref h2, .ref h3, .ref h4, .ref h5, .ref h6, .ref h7, .int 0, .int 0, .int 0, .int 0])), (h2, .inr (2, [.int 0, .int 2, .ref h8, .ref h9])), (h8, .inl (κ 3, 4, .inr (.inr (.inr (.inr (sel [h10, h11, h12, h13])))))), (h10, .inr (6, [.ref h14, .ref h15, .int 0]))]) hP hD hK hE9 hS hA [0, 2, 3, 4] (by decide) rfl rfl rfl) rfl rfl hl.1 rfl (lv_room (Nat.le_of_ble_eq_true rfl)) dL_unlearn_3 ⟨(Nat.le_of_ble_eq_true rfl), (Nat.le_of_ble_eq_true rfl)⟩) hS (fun q _ h => hF q h) hF (fun q _ h => hF q h) (fun E9 ce q9 u t H locs ht hvm hw hB hz1 hk1 hS hce hcv hcl => ?_) (fun r u t H locs ht hvm hw hB hz1 hk1 hS => ?_)
  · try dsimp only at hB
    have hP1 : va_P D vwCl [] H := P_nil
    obtain ⟨hP, hD⟩ := post_j (ws' := [(h1, .inl (κ 2, 1, .inr (.inl (fun _ => 0))))]) (wr := [(h1, .inl (κ 2, 1, .inr (.inl (fun _ => 0))))]) (w1 := []) hP hD hF [0, 2, 3, 4] rfl [1] rfl (by decide) (by decide) hk1 hP1 D_nil [0] (by decide) rfl
    have hP : va_P D vwCl [(h1, .inl (κ 2, 1, .inr (.inl (fun _ => 0))))] H := hP
    have hD : va_D A [(h1, .inl (κ 2, 1, .inr (.inl (fun _ => 0))))] := hD
    obtain rfl := hB
    refine vx_catch (name := "java/lang/IllegalStateException") hown [] ⟨0, 8, 11, 13⟩ [] (htab.trans rfl) (fun z hz => nomatch hz) (by decide) (by decide) (hts _ wd182_L_unlearn) (va_Nw.use rfl hE.2.2.2.2.2.2.2.2.2.2.2.2.2.1) hce hcv hcl ?_
    refine lv_astore_n (lv' := [(2, .ref q9), (0, .ref h0), (1, .ref h1)]) hx hb dL_unlearn_11 rfl hl (by decide) rfl (fun ls hl => ?_)
    refine lv_iconst (v := 1) hx hb dL_unlearn_12 (by decide) ?_
    have hP9 := hP.sub (ws' := [(h1, .inl (κ 2, 1, .inr (.inl (fun _ => 0))))]) [0] rfl
    have hD9 := hD.sub (ws' := [(h1, .inl (κ 2, 1, .inr (.inl (fun _ => 0))))]) [0] (by decide) rfl
    refine W.widen (k := 1) (n := 6) (Nat.le_of_ble_eq_true rfl) (Nat.le_of_ble_eq_true rfl) ?_
    exact W.iret (v := 1) hx hb hr (fun t ht hW => ⟨⟨1, (fun _ => 0), rfl, rfl, by rw [ht]; exact hP9, hD9⟩, hS.F ht⟩) hS.2.2 dL_unlearn_13
  · exact False.elim hw

theorem wd183_X6_copy : (.methodLink RX6 71 arraycopyName : Cond) ∈ wsX6_copy := by decide +kernel

theorem wd184_X6_copy : (.native arraycopyName : Cond) ∈ wsX6_copy := by decide +kernel

theorem wd185_X6_copy : (.static arraycopyName : Cond) ∈ wsX6_copy := by decide +kernel

theorem wd186_X6_copy : (.initialized "java/lang/System" : Cond) ∈ wsX6_copy := by decide +kernel

set_option maxHeartbeats 4000000 in
set_option maxRecDepth 100000 in
theorem k_X6_copy_0 (l : Launch) (D : va_G) (κ ε : Nat → Nat) (h0 h1 h2 h3 h4 : Nat) (sz : Nat) : Met l yX6_copy wsX6_copy ({ frames := 1, cells := 5, slots := 41374, locals := 60 }) (va_Pc [.ref h0] (Pre2 D κ ε [(h0, .inl (κ 4, 4, .inr (.inr (.inr (.inr (sel [h1, h2, h3, h4])))))), (h1, .inl (κ 0, 14, .inl (fun _ => 0))), (h2, .inl (κ 0, 196, .inl (fun _ => 0))), (h3, .inl (κ 0, 2744, .inl (fun _ => 0))), (h4, .inl (κ 0, 38416, .inl (fun _ => 0)))] sz)) (va_Qr (fun u : Nat → Nat => True) (fun u a t => a = (u 0) ∧ (fun u t => va_P D vwCl [(h0, .inl (κ 4, 4, .inr (.inr (.inr (.inr (sel [h1, h2, h3, h4])))))), (h1, .inl (κ 0, 14, .inl (fun _ => 0))), (h2, .inl (κ 0, 196, .inl (fun _ => 0))), (h3, .inl (κ 0, 2744, .inl (fun _ => 0))), (h4, .inl (κ 0, 38416, .inl (fun _ => 0))), ((u 0), .inl (κ 4, 4, .inr (.inr (.inr (.inr (sel [(u 1), (u 2), (u 3), (u 4)])))))), ((u 1), .inl (κ 0, 14, .inl (fun _ => 0))), ((u 2), .inl (κ 0, 196, .inl (fun _ => 0))), ((u 3), .inl (κ 0, 2744, .inl (fun _ => 0))), ((u 4), .inl (κ 0, 38416, .inl (fun _ => 0)))] t.heap ∧ va_D (va_A [(h0, .inl (κ 4, 4, .inr (.inr (.inr (.inr (sel [h1, h2, h3, h4])))))), (h1, .inl (κ 0, 14, .inl (fun _ => 0))), (h2, .inl (κ 0, 196, .inl (fun _ => 0))), (h3, .inl (κ 0, 2744, .inl (fun _ => 0))), (h4, .inl (κ 0, 38416, .inl (fun _ => 0)))] sz) [(h0, .inl (κ 4, 4, .inr (.inr (.inr (.inr (sel [h1, h2, h3, h4])))))), (h1, .inl (κ 0, 14, .inl (fun _ => 0))), (h2, .inl (κ 0, 196, .inl (fun _ => 0))), (h3, .inl (κ 0, 2744, .inl (fun _ => 0))), (h4, .inl (κ 0, 38416, .inl (fun _ => 0))), ((u 0), .inl (κ 4, 4, .inr (.inr (.inr (.inr (sel [(u 1), (u 2), (u 3), (u 4)])))))), ((u 1), .inl (κ 0, 14, .inl (fun _ => 0))), ((u 2), .inl (κ 0, 196, .inl (fun _ => 0))), ((u 3), .inl (κ 0, 2744, .inl (fun _ => 0))), ((u 4), .inl (κ 0, 38416, .inl (fun _ => 0)))]) u t) (va_A [(h0, .inl (κ 4, 4, .inr (.inr (.inr (.inr (sel [h1, h2, h3, h4])))))), (h1, .inl (κ 0, 14, .inl (fun _ => 0))), (h2, .inl (κ 0, 196, .inl (fun _ => 0))), (h3, .inl (κ 0, 2744, .inl (fun _ => 0))), (h4, .inl (κ 0, 38416, .inl (fun _ => 0)))] sz)) 5 41374 (va_A [(h0, .inl (κ 4, 4, .inr (.inr (.inr (.inr (sel [h1, h2, h3, h4])))))), (h1, .inl (κ 0, 14, .inl (fun _ => 0))), (h2, .inl (κ 0, 196, .inl (fun _ => 0))), (h3, .inl (κ 0, 2744, .inl (fun _ => 0))), (h4, .inl (κ 0, 38416, .inl (fun _ => 0)))] sz) := by
  refine Met.ofW (cc := cX6_copy) (maxL := 3) (ret := (some (.array (.array .int)))) (by decide) rfl ?_
  intro p e s m args below meth c s₁ B hml hv
  obtain ⟨rfl, hsz, hP, hK, hD0, hE9⟩ := hv
  have hx := B.exec
  have hb := B.bytes
  have hr := B.returns
  have hts := atoms_spec (ws := wsX6_copy) B.pre
  have hown : s.vm.findClass RX6 = some m.cls := findClass_of_methodNamed B.named
  have hlocks := B.notSynchronized
  subst hsz
  have hD := hD0.self (sz := s.heap.size)
  generalize hAe : va_A [(h0, .inl (κ 4, 4, .inr (.inr (.inr (.inr (sel [h1, h2, h3, h4])))))), (h1, .inl (κ 0, 14, .inl (fun _ => 0))), (h2, .inl (κ 0, 196, .inl (fun _ => 0))), (h3, .inl (κ 0, 2744, .inl (fun _ => 0))), (h4, .inl (κ 0, 38416, .inl (fun _ => 0)))] s.heap.size = A at hD hE9 ⊢
  have hE := hE9.1
  have hDc := hE9.2
  have hA : ∀ q : Nat, s.heap.size ≤ q → A q := fun q h => by rw [← hAe]; exact Or.inr h
  have hS : va_S A s.heap s.heap [] := va_S.rf
  have hP : va_P D vwCl [(h0, .inl (κ 4, 4, .inr (.inr (.inr (.inr (sel [h1, h2, h3, h4])))))), (h1, .inl (κ 0, 14, .inl (fun _ => 0))), (h2, .inl (κ 0, 196, .inl (fun _ => 0))), (h3, .inl (κ 0, 2744, .inl (fun _ => 0))), (h4, .inl (κ 0, 38416, .inl (fun _ => 0)))] s.heap := hP
  have hl := lv_entry [.ref h0] (n := 3) (Nat.le_of_ble_eq_true rfl)
  rw [lg_entry_eq]
  generalize (lg_sl [.ref h0] ++ List.replicate (3 - (lg_sl [.ref h0]).length) Slot.unset).toArray = ls at hl ⊢
  have hl : lv_has ls 3 [(0, .ref h0)] := hl
  have hF := va_free (wc := []) hD hS hA [] rfl
  refine va_callr (va_runS (As := []) (rest := []) ⟨hx, hb, hml, hown, hts⟩ (k_X6_tables_0 l D κ ε s.heap.size) (va_cwS 0 hts gX6_copy_X6_tables rfl rfl rfl (by decide +kernel) ⟨(Nat.le_of_ble_eq_true rfl), (Nat.le_of_ble_eq_true rfl)⟩) (pre2_S (wc := []) hP hD hK hE9 hS hA [] (by decide) rfl) rfl rfl hl.1 rfl (lv_room (Nat.le_of_ble_eq_true rfl)) dX6_copy_0 ⟨(Nat.le_of_ble_eq_true rfl), (Nat.le_of_ble_eq_true rfl)⟩) hS (fun q _ h => hF q h) hF (fun u1 ra t H locs ht hvm hw hB hz1 hk1 hS => ?_)
  try dsimp only at hw hB
  obtain ⟨rfl, hB⟩ := hB
  obtain ⟨hP1, hD1⟩ := hB
  rw [ht] at hP1
  obtain ⟨hP, hD⟩ := post_j (ws' := [(h0, .inl (κ 4, 4, .inr (.inr (.inr (.inr (sel [h1, h2, h3, h4])))))), (h1, .inl (κ 0, 14, .inl (fun _ => 0))), (h2, .inl (κ 0, 196, .inl (fun _ => 0))), (h3, .inl (κ 0, 2744, .inl (fun _ => 0))), (h4, .inl (κ 0, 38416, .inl (fun _ => 0))), ((u1 0), .inl (κ 4, 4, .inr (.inr (.inr (.inr (sel [(u1 1), (u1 2), (u1 3), (u1 4)])))))), ((u1 1), .inl (κ 0, 14, .inl (fun _ => 0))), ((u1 2), .inl (κ 0, 196, .inl (fun _ => 0))), ((u1 3), .inl (κ 0, 2744, .inl (fun _ => 0))), ((u1 4), .inl (κ 0, 38416, .inl (fun _ => 0)))]) (wr := [(h0, .inl (κ 4, 4, .inr (.inr (.inr (.inr (sel [h1, h2, h3, h4])))))), (h1, .inl (κ 0, 14, .inl (fun _ => 0))), (h2, .inl (κ 0, 196, .inl (fun _ => 0))), (h3, .inl (κ 0, 2744, .inl (fun _ => 0))), (h4, .inl (κ 0, 38416, .inl (fun _ => 0)))]) (w1 := [((u1 0), .inl (κ 4, 4, .inr (.inr (.inr (.inr (sel [(u1 1), (u1 2), (u1 3), (u1 4)])))))), ((u1 1), .inl (κ 0, 14, .inl (fun _ => 0))), ((u1 2), .inl (κ 0, 196, .inl (fun _ => 0))), ((u1 3), .inl (κ 0, 2744, .inl (fun _ => 0))), ((u1 4), .inl (κ 0, 38416, .inl (fun _ => 0)))]) hP hD hF [] rfl [0, 1, 2, 3, 4] rfl (by decide) (by decide) hk1 hP1 hD1 [0, 1, 2, 3, 4, 5, 6, 7, 8, 9] (by decide) rfl
  have hP : va_P D vwCl [(h0, .inl (κ 4, 4, .inr (.inr (.inr (.inr (sel [h1, h2, h3, h4])))))), (h1, .inl (κ 0, 14, .inl (fun _ => 0))), (h2, .inl (κ 0, 196, .inl (fun _ => 0))), (h3, .inl (κ 0, 2744, .inl (fun _ => 0))), (h4, .inl (κ 0, 38416, .inl (fun _ => 0))), ((u1 0), .inl (κ 4, 4, .inr (.inr (.inr (.inr (sel [(u1 1), (u1 2), (u1 3), (u1 4)])))))), ((u1 1), .inl (κ 0, 14, .inl (fun _ => 0))), ((u1 2), .inl (κ 0, 196, .inl (fun _ => 0))), ((u1 3), .inl (κ 0, 2744, .inl (fun _ => 0))), ((u1 4), .inl (κ 0, 38416, .inl (fun _ => 0)))] H := hP
  have hD : va_D A [(h0, .inl (κ 4, 4, .inr (.inr (.inr (.inr (sel [h1, h2, h3, h4])))))), (h1, .inl (κ 0, 14, .inl (fun _ => 0))), (h2, .inl (κ 0, 196, .inl (fun _ => 0))), (h3, .inl (κ 0, 2744, .inl (fun _ => 0))), (h4, .inl (κ 0, 38416, .inl (fun _ => 0))), ((u1 0), .inl (κ 4, 4, .inr (.inr (.inr (.inr (sel [(u1 1), (u1 2), (u1 3), (u1 4)])))))), ((u1 1), .inl (κ 0, 14, .inl (fun _ => 0))), ((u1 2), .inl (κ 0, 196, .inl (fun _ => 0))), ((u1 3), .inl (κ 0, 2744, .inl (fun _ => 0))), ((u1 4), .inl (κ 0, 38416, .inl (fun _ => 0)))] := hD
  refine lv_astore_n (lv' := [(1, .ref (u1 0)), (0, .ref h0)]) hx hb dX6_copy_3 rfl hl (by decide) rfl (fun ls hl => ?_)
  refine lv_iconst (v := 0) hx hb dX6_copy_4 (by decide) ?_
  refine lv_istore_n (lv' := [(2, .int 0), (1, .ref (u1 0)), (0, .ref h0)]) hx hb dX6_copy_5 rfl hl (by decide) rfl (fun ls hl => ?_)
  refine lv_iload_n hx hb dX6_copy_6 rfl (lv_at hl 0 rfl) ?_
  refine lv_iconst (v := 4) hx hb dX6_copy_7 (by decide) ?_
  refine lv_icmp_ge (tgt := 32) hx hb dX6_copy_8 (by decide) (fun h => absurd h (by decide)) (fun _ => ?_)
  refine lv_aload_n hx hb dX6_copy_11 rfl (lv_at hl 2 rfl) ?_
  refine lv_iload_n hx hb dX6_copy_12 rfl (lv_at hl 0 rfl) ?_
  refine ya_ld2 hx hb hK hP 0 rfl (vpl (by decide)) (v := .ref h1) rfl dX6_copy_13 ?_
  refine lv_iconst (v := 0) hx hb dX6_copy_14 (by decide) ?_
  refine lv_aload_n hx hb dX6_copy_15 rfl (lv_at hl 1 rfl) ?_
  refine lv_iload_n hx hb dX6_copy_16 rfl (lv_at hl 0 rfl) ?_
  refine ya_ld2 hx hb hK hP 5 rfl (vpl (by decide)) (v := .ref (u1 1)) rfl dX6_copy_17 ?_
  refine lv_iconst (v := 0) hx hb dX6_copy_18 (by decide) ?_
  refine lv_aload_n hx hb dX6_copy_19 rfl (lv_at hl 2 rfl) ?_
  refine lv_iload_n hx hb dX6_copy_20 rfl (lv_at hl 0 rfl) ?_
  refine ya_ld2 hx hb hK hP 0 rfl (vpl (by decide)) (v := .ref h1) rfl dX6_copy_21 ?_
  refine va_alen hx hb hK hP 1 0 rfl rfl (v := 14) (by decide) dX6_copy_22 ?_
  refine va_copyi (f := (fun _ => 0)) (g := (fun _ => 0)) (n0 := 14) (n1 := 14) (c0 := κ 0) (c1 := κ 0) hx hb (by rw [hml]; exact hl.1.symm) hown (hts _ wd183_X6_copy) (hts _ wd184_X6_copy) (hts _ wd185_X6_copy) (hts _ wd186_X6_copy) hK hP hD hS 1 6 0 0 rfl rfl rfl rfl rfl (by decide) (by decide) (by decide) (by decide) (by decide) (fun _ _ => rfl) (Nat.le_of_ble_eq_true rfl) (by decide) dX6_copy_23 (fun H locs hP hD hS => ?_)
  have hP : va_P D vwCl _ H := P_cg (ws' := _) (y := (14, .inl (fun _ => 0))) 6 hP rfl (cell_cg (fun j _ => by show va_cpy _ _ _ _ _ j = _; unfold va_cpy; split <;> rfl)) rfl
  have hD : va_D A _ := D_cg (ws' := _) (y := .inl (κ 0, 14, .inl (fun _ => 0))) 6 hD rfl rfl
  have hP : va_P D vwCl [(h0, .inl (κ 4, 4, .inr (.inr (.inr (.inr (sel [h1, h2, h3, h4])))))), (h1, .inl (κ 0, 14, .inl (fun _ => 0))), (h2, .inl (κ 0, 196, .inl (fun _ => 0))), (h3, .inl (κ 0, 2744, .inl (fun _ => 0))), (h4, .inl (κ 0, 38416, .inl (fun _ => 0))), ((u1 0), .inl (κ 4, 4, .inr (.inr (.inr (.inr (sel [(u1 1), (u1 2), (u1 3), (u1 4)])))))), ((u1 1), .inl (κ 0, 14, .inl (fun _ => 0))), ((u1 2), .inl (κ 0, 196, .inl (fun _ => 0))), ((u1 3), .inl (κ 0, 2744, .inl (fun _ => 0))), ((u1 4), .inl (κ 0, 38416, .inl (fun _ => 0)))] H := hP
  have hD : va_D A [(h0, .inl (κ 4, 4, .inr (.inr (.inr (.inr (sel [h1, h2, h3, h4])))))), (h1, .inl (κ 0, 14, .inl (fun _ => 0))), (h2, .inl (κ 0, 196, .inl (fun _ => 0))), (h3, .inl (κ 0, 2744, .inl (fun _ => 0))), (h4, .inl (κ 0, 38416, .inl (fun _ => 0))), ((u1 0), .inl (κ 4, 4, .inr (.inr (.inr (.inr (sel [(u1 1), (u1 2), (u1 3), (u1 4)])))))), ((u1 1), .inl (κ 0, 14, .inl (fun _ => 0))), ((u1 2), .inl (κ 0, 196, .inl (fun _ => 0))), ((u1 3), .inl (κ 0, 2744, .inl (fun _ => 0))), ((u1 4), .inl (κ 0, 38416, .inl (fun _ => 0)))] := hD
  refine lv_iinc (v := 1) (lv' := [(2, .int 1), (1, .ref (u1 0)), (0, .ref h0)]) hx hb dX6_copy_26 hl (k := 0) rfl (by decide) (by decide) rfl (fun ls hl => ?_)
  refine lv_goto (tgt := 6) hx hb dX6_copy_29 (by decide) ?_
  refine lv_iload_n hx hb dX6_copy_6 rfl (lv_at hl 0 rfl) ?_
  refine lv_iconst (v := 4) hx hb dX6_copy_7 (by decide) ?_
  refine lv_icmp_ge (tgt := 32) hx hb dX6_copy_8 (by decide) (fun h => absurd h (by decide)) (fun _ => ?_)
  refine lv_aload_n hx hb dX6_copy_11 rfl (lv_at hl 2 rfl) ?_
  refine lv_iload_n hx hb dX6_copy_12 rfl (lv_at hl 0 rfl) ?_
  refine ya_ld2 hx hb hK hP 0 rfl (vpl (by decide)) (v := .ref h2) rfl dX6_copy_13 ?_
  refine lv_iconst (v := 0) hx hb dX6_copy_14 (by decide) ?_
  refine lv_aload_n hx hb dX6_copy_15 rfl (lv_at hl 1 rfl) ?_
  refine lv_iload_n hx hb dX6_copy_16 rfl (lv_at hl 0 rfl) ?_
  refine ya_ld2 hx hb hK hP 5 rfl (vpl (by decide)) (v := .ref (u1 2)) rfl dX6_copy_17 ?_
  refine lv_iconst (v := 0) hx hb dX6_copy_18 (by decide) ?_
  refine lv_aload_n hx hb dX6_copy_19 rfl (lv_at hl 2 rfl) ?_
  refine lv_iload_n hx hb dX6_copy_20 rfl (lv_at hl 0 rfl) ?_
  refine ya_ld2 hx hb hK hP 0 rfl (vpl (by decide)) (v := .ref h2) rfl dX6_copy_21 ?_
  refine va_alen hx hb hK hP 2 0 rfl rfl (v := 196) (by decide) dX6_copy_22 ?_
  refine va_copyi (f := (fun _ => 0)) (g := (fun _ => 0)) (n0 := 196) (n1 := 196) (c0 := κ 0) (c1 := κ 0) hx hb (by rw [hml]; exact hl.1.symm) hown (hts _ wd183_X6_copy) (hts _ wd184_X6_copy) (hts _ wd185_X6_copy) (hts _ wd186_X6_copy) hK hP hD hS 2 7 0 0 rfl rfl rfl rfl rfl (by decide) (by decide) (by decide) (by decide) (by decide) (fun _ _ => rfl) (Nat.le_of_ble_eq_true rfl) (by decide) dX6_copy_23 (fun H locs hP hD hS => ?_)
  have hP : va_P D vwCl _ H := P_cg (ws' := _) (y := (196, .inl (fun _ => 0))) 7 hP rfl (cell_cg (fun j _ => by show va_cpy _ _ _ _ _ j = _; unfold va_cpy; split <;> rfl)) rfl
  have hD : va_D A _ := D_cg (ws' := _) (y := .inl (κ 0, 196, .inl (fun _ => 0))) 7 hD rfl rfl
  have hP : va_P D vwCl [(h0, .inl (κ 4, 4, .inr (.inr (.inr (.inr (sel [h1, h2, h3, h4])))))), (h1, .inl (κ 0, 14, .inl (fun _ => 0))), (h2, .inl (κ 0, 196, .inl (fun _ => 0))), (h3, .inl (κ 0, 2744, .inl (fun _ => 0))), (h4, .inl (κ 0, 38416, .inl (fun _ => 0))), ((u1 0), .inl (κ 4, 4, .inr (.inr (.inr (.inr (sel [(u1 1), (u1 2), (u1 3), (u1 4)])))))), ((u1 1), .inl (κ 0, 14, .inl (fun _ => 0))), ((u1 2), .inl (κ 0, 196, .inl (fun _ => 0))), ((u1 3), .inl (κ 0, 2744, .inl (fun _ => 0))), ((u1 4), .inl (κ 0, 38416, .inl (fun _ => 0)))] H := hP
  have hD : va_D A [(h0, .inl (κ 4, 4, .inr (.inr (.inr (.inr (sel [h1, h2, h3, h4])))))), (h1, .inl (κ 0, 14, .inl (fun _ => 0))), (h2, .inl (κ 0, 196, .inl (fun _ => 0))), (h3, .inl (κ 0, 2744, .inl (fun _ => 0))), (h4, .inl (κ 0, 38416, .inl (fun _ => 0))), ((u1 0), .inl (κ 4, 4, .inr (.inr (.inr (.inr (sel [(u1 1), (u1 2), (u1 3), (u1 4)])))))), ((u1 1), .inl (κ 0, 14, .inl (fun _ => 0))), ((u1 2), .inl (κ 0, 196, .inl (fun _ => 0))), ((u1 3), .inl (κ 0, 2744, .inl (fun _ => 0))), ((u1 4), .inl (κ 0, 38416, .inl (fun _ => 0)))] := hD
  refine lv_iinc (v := 2) (lv' := [(2, .int 2), (1, .ref (u1 0)), (0, .ref h0)]) hx hb dX6_copy_26 hl (k := 0) rfl (by decide) (by decide) rfl (fun ls hl => ?_)
  refine lv_goto (tgt := 6) hx hb dX6_copy_29 (by decide) ?_
  refine lv_iload_n hx hb dX6_copy_6 rfl (lv_at hl 0 rfl) ?_
  refine lv_iconst (v := 4) hx hb dX6_copy_7 (by decide) ?_
  refine lv_icmp_ge (tgt := 32) hx hb dX6_copy_8 (by decide) (fun h => absurd h (by decide)) (fun _ => ?_)
  refine lv_aload_n hx hb dX6_copy_11 rfl (lv_at hl 2 rfl) ?_
  refine lv_iload_n hx hb dX6_copy_12 rfl (lv_at hl 0 rfl) ?_
  refine ya_ld2 hx hb hK hP 0 rfl (vpl (by decide)) (v := .ref h3) rfl dX6_copy_13 ?_
  refine lv_iconst (v := 0) hx hb dX6_copy_14 (by decide) ?_
  refine lv_aload_n hx hb dX6_copy_15 rfl (lv_at hl 1 rfl) ?_
  refine lv_iload_n hx hb dX6_copy_16 rfl (lv_at hl 0 rfl) ?_
  refine ya_ld2 hx hb hK hP 5 rfl (vpl (by decide)) (v := .ref (u1 3)) rfl dX6_copy_17 ?_
  refine lv_iconst (v := 0) hx hb dX6_copy_18 (by decide) ?_
  refine lv_aload_n hx hb dX6_copy_19 rfl (lv_at hl 2 rfl) ?_
  refine lv_iload_n hx hb dX6_copy_20 rfl (lv_at hl 0 rfl) ?_
  refine ya_ld2 hx hb hK hP 0 rfl (vpl (by decide)) (v := .ref h3) rfl dX6_copy_21 ?_
  refine va_alen hx hb hK hP 3 0 rfl rfl (v := 2744) (by decide) dX6_copy_22 ?_
  refine va_copyi (f := (fun _ => 0)) (g := (fun _ => 0)) (n0 := 2744) (n1 := 2744) (c0 := κ 0) (c1 := κ 0) hx hb (by rw [hml]; exact hl.1.symm) hown (hts _ wd183_X6_copy) (hts _ wd184_X6_copy) (hts _ wd185_X6_copy) (hts _ wd186_X6_copy) hK hP hD hS 3 8 0 0 rfl rfl rfl rfl rfl (by decide) (by decide) (by decide) (by decide) (by decide) (fun _ _ => rfl) (Nat.le_of_ble_eq_true rfl) (by decide) dX6_copy_23 (fun H locs hP hD hS => ?_)
  have hP : va_P D vwCl _ H := P_cg (ws' := _) (y := (2744, .inl (fun _ => 0))) 8 hP rfl (cell_cg (fun j _ => by show va_cpy _ _ _ _ _ j = _; unfold va_cpy; split <;> rfl)) rfl
  have hD : va_D A _ := D_cg (ws' := _) (y := .inl (κ 0, 2744, .inl (fun _ => 0))) 8 hD rfl rfl
  have hP : va_P D vwCl [(h0, .inl (κ 4, 4, .inr (.inr (.inr (.inr (sel [h1, h2, h3, h4])))))), (h1, .inl (κ 0, 14, .inl (fun _ => 0))), (h2, .inl (κ 0, 196, .inl (fun _ => 0))), (h3, .inl (κ 0, 2744, .inl (fun _ => 0))), (h4, .inl (κ 0, 38416, .inl (fun _ => 0))), ((u1 0), .inl (κ 4, 4, .inr (.inr (.inr (.inr (sel [(u1 1), (u1 2), (u1 3), (u1 4)])))))), ((u1 1), .inl (κ 0, 14, .inl (fun _ => 0))), ((u1 2), .inl (κ 0, 196, .inl (fun _ => 0))), ((u1 3), .inl (κ 0, 2744, .inl (fun _ => 0))), ((u1 4), .inl (κ 0, 38416, .inl (fun _ => 0)))] H := hP
  have hD : va_D A [(h0, .inl (κ 4, 4, .inr (.inr (.inr (.inr (sel [h1, h2, h3, h4])))))), (h1, .inl (κ 0, 14, .inl (fun _ => 0))), (h2, .inl (κ 0, 196, .inl (fun _ => 0))), (h3, .inl (κ 0, 2744, .inl (fun _ => 0))), (h4, .inl (κ 0, 38416, .inl (fun _ => 0))), ((u1 0), .inl (κ 4, 4, .inr (.inr (.inr (.inr (sel [(u1 1), (u1 2), (u1 3), (u1 4)])))))), ((u1 1), .inl (κ 0, 14, .inl (fun _ => 0))), ((u1 2), .inl (κ 0, 196, .inl (fun _ => 0))), ((u1 3), .inl (κ 0, 2744, .inl (fun _ => 0))), ((u1 4), .inl (κ 0, 38416, .inl (fun _ => 0)))] := hD
  refine lv_iinc (v := 3) (lv' := [(2, .int 3), (1, .ref (u1 0)), (0, .ref h0)]) hx hb dX6_copy_26 hl (k := 0) rfl (by decide) (by decide) rfl (fun ls hl => ?_)
  refine lv_goto (tgt := 6) hx hb dX6_copy_29 (by decide) ?_
  refine lv_iload_n hx hb dX6_copy_6 rfl (lv_at hl 0 rfl) ?_
  refine lv_iconst (v := 4) hx hb dX6_copy_7 (by decide) ?_
  refine lv_icmp_ge (tgt := 32) hx hb dX6_copy_8 (by decide) (fun h => absurd h (by decide)) (fun _ => ?_)
  refine lv_aload_n hx hb dX6_copy_11 rfl (lv_at hl 2 rfl) ?_
  refine lv_iload_n hx hb dX6_copy_12 rfl (lv_at hl 0 rfl) ?_
  refine ya_ld2 hx hb hK hP 0 rfl (vpl (by decide)) (v := .ref h4) rfl dX6_copy_13 ?_
  refine lv_iconst (v := 0) hx hb dX6_copy_14 (by decide) ?_
  refine lv_aload_n hx hb dX6_copy_15 rfl (lv_at hl 1 rfl) ?_
  refine lv_iload_n hx hb dX6_copy_16 rfl (lv_at hl 0 rfl) ?_
  refine ya_ld2 hx hb hK hP 5 rfl (vpl (by decide)) (v := .ref (u1 4)) rfl dX6_copy_17 ?_
  refine lv_iconst (v := 0) hx hb dX6_copy_18 (by decide) ?_
  refine lv_aload_n hx hb dX6_copy_19 rfl (lv_at hl 2 rfl) ?_
  refine lv_iload_n hx hb dX6_copy_20 rfl (lv_at hl 0 rfl) ?_
  refine ya_ld2 hx hb hK hP 0 rfl (vpl (by decide)) (v := .ref h4) rfl dX6_copy_21 ?_
  refine va_alen hx hb hK hP 4 0 rfl rfl (v := 38416) (by decide) dX6_copy_22 ?_
  refine va_copyi (f := (fun _ => 0)) (g := (fun _ => 0)) (n0 := 38416) (n1 := 38416) (c0 := κ 0) (c1 := κ 0) hx hb (by rw [hml]; exact hl.1.symm) hown (hts _ wd183_X6_copy) (hts _ wd184_X6_copy) (hts _ wd185_X6_copy) (hts _ wd186_X6_copy) hK hP hD hS 4 9 0 0 rfl rfl rfl rfl rfl (by decide) (by decide) (by decide) (by decide) (by decide) (fun _ _ => rfl) (Nat.le_of_ble_eq_true rfl) (by decide) dX6_copy_23 (fun H locs hP hD hS => ?_)
  have hP : va_P D vwCl _ H := P_cg (ws' := _) (y := (38416, .inl (fun _ => 0))) 9 hP rfl (cell_cg (fun j _ => by show va_cpy _ _ _ _ _ j = _; unfold va_cpy; split <;> rfl)) rfl
  have hD : va_D A _ := D_cg (ws' := _) (y := .inl (κ 0, 38416, .inl (fun _ => 0))) 9 hD rfl rfl
  have hP : va_P D vwCl [(h0, .inl (κ 4, 4, .inr (.inr (.inr (.inr (sel [h1, h2, h3, h4])))))), (h1, .inl (κ 0, 14, .inl (fun _ => 0))), (h2, .inl (κ 0, 196, .inl (fun _ => 0))), (h3, .inl (κ 0, 2744, .inl (fun _ => 0))), (h4, .inl (κ 0, 38416, .inl (fun _ => 0))), ((u1 0), .inl (κ 4, 4, .inr (.inr (.inr (.inr (sel [(u1 1), (u1 2), (u1 3), (u1 4)])))))), ((u1 1), .inl (κ 0, 14, .inl (fun _ => 0))), ((u1 2), .inl (κ 0, 196, .inl (fun _ => 0))), ((u1 3), .inl (κ 0, 2744, .inl (fun _ => 0))), ((u1 4), .inl (κ 0, 38416, .inl (fun _ => 0)))] H := hP
  have hD : va_D A [(h0, .inl (κ 4, 4, .inr (.inr (.inr (.inr (sel [h1, h2, h3, h4])))))), (h1, .inl (κ 0, 14, .inl (fun _ => 0))), (h2, .inl (κ 0, 196, .inl (fun _ => 0))), (h3, .inl (κ 0, 2744, .inl (fun _ => 0))), (h4, .inl (κ 0, 38416, .inl (fun _ => 0))), ((u1 0), .inl (κ 4, 4, .inr (.inr (.inr (.inr (sel [(u1 1), (u1 2), (u1 3), (u1 4)])))))), ((u1 1), .inl (κ 0, 14, .inl (fun _ => 0))), ((u1 2), .inl (κ 0, 196, .inl (fun _ => 0))), ((u1 3), .inl (κ 0, 2744, .inl (fun _ => 0))), ((u1 4), .inl (κ 0, 38416, .inl (fun _ => 0)))] := hD
  refine lv_iinc (v := 4) (lv' := [(2, .int 4), (1, .ref (u1 0)), (0, .ref h0)]) hx hb dX6_copy_26 hl (k := 0) rfl (by decide) (by decide) rfl (fun ls hl => ?_)
  refine lv_goto (tgt := 6) hx hb dX6_copy_29 (by decide) ?_
  refine lv_iload_n hx hb dX6_copy_6 rfl (lv_at hl 0 rfl) ?_
  refine lv_iconst (v := 4) hx hb dX6_copy_7 (by decide) ?_
  refine lv_icmp_ge (tgt := 32) hx hb dX6_copy_8 (by decide) (fun _ => ?_) (fun h => absurd (by decide) h)
  refine lv_aload_n hx hb dX6_copy_32 rfl (lv_at hl 1 rfl) ?_
  have hP9 := hP
  have hD9 := hD
  refine W.widen (k := 5) (n := 41374) (Nat.le_of_ble_eq_true rfl) (Nat.le_of_ble_eq_true rfl) ?_
  exact W.aret (v := .ref (u1 0)) hx hb hr (Or.inr ⟨_, rfl⟩) (Or.inr ⟨_, rfl⟩) (fun t ht hW => ⟨⟨(fun i => [(u1 0), (u1 1), (u1 2), (u1 3), (u1 4)].getD i 0), (u1 0), rfl, trivial, rfl, by rw [ht]; exact hP9, hD9⟩, hS.F ht⟩) hS.2.2 dX6_copy_33

set_option maxHeartbeats 4000000 in
set_option maxRecDepth 100000 in
theorem k_X6_ahead_0 (l : Launch) (D : va_G) (κ ε : Nat → Nat) (h0 : Nat) : Met l yX6_ahead wsX6_ahead ({ frames := 0, cells := 0, slots := 0, locals := 0 }) (va_Pc [.ref h0, .int 0, .int 0] (Pre0 D κ [])) (vp_Si (fun r => (r = 0))) 0 0 (fun _ => False) := by
  refine Met.ofW (cc := cX6_ahead) (maxL := 5) (ret := (some .int)) (by decide) rfl ?_
  intro p e s m args below meth c s₁ B hml hv
  obtain ⟨rfl, hP, hK⟩ := hv
  have hx := B.exec
  have hb := B.bytes
  have hr := B.returns
  have hts := atoms_spec (ws := wsX6_ahead) B.pre
  have hown : s.vm.findClass RX6 = some m.cls := findClass_of_methodNamed B.named
  have hlocks := B.notSynchronized
  have hP : va_P D vwCl [] s.heap := hP
  have hl := lv_entry [.ref h0, .int 0, .int 0] (n := 5) (Nat.le_of_ble_eq_true rfl)
  rw [lg_entry_eq]
  generalize (lg_sl [.ref h0, .int 0, .int 0] ++ List.replicate (5 - (lg_sl [.ref h0, .int 0, .int 0]).length) Slot.unset).toArray = ls at hl ⊢
  have hl : lv_has ls 5 [(0, .ref h0), (1, .int 0), (2, .int 0)] := hl
  refine lv_iconst (v := 0) hx hb dX6_ahead_0 (by decide) ?_
  refine lv_istore_n (lv' := [(3, .int 0), (0, .ref h0), (1, .int 0), (2, .int 0)]) hx hb dX6_ahead_1 rfl hl (by decide) rfl (fun ls hl => ?_)
  refine lv_iload_n hx hb dX6_ahead_2 rfl (lv_at hl 2 rfl) ?_
  refine lv_iload_n hx hb dX6_ahead_3 rfl (lv_at hl 3 rfl) ?_
  refine lv_isub hx hb dX6_ahead_4 ?_
  refine tpi (v := 0) (by decide) ?_
  refine lv_istore (lv' := [(4, .int 0), (3, .int 0), (0, .ref h0), (1, .int 0), (2, .int 0)]) hx hb dX6_ahead_5 hl (by decide) rfl (fun ls hl => ?_)
  refine lv_iload hx hb dX6_ahead_7 (lv_at hl 0 rfl) ?_
  refine lv_iload_n hx hb dX6_ahead_9 rfl (lv_at hl 3 rfl) ?_
  refine lv_icmp_ge (tgt := 48) hx hb dX6_ahead_10 (by decide) (fun _ => ?_) (fun h => absurd (by decide) h)
  refine lv_iload_n hx hb dX6_ahead_48 rfl (lv_at hl 1 rfl) ?_
  exact W.iret (v := 0) hx hb hr (fun t ht hW => ⟨0, rfl, rfl, ht⟩) (fun q hq => absurd hq List.not_mem_nil) dX6_ahead_49

theorem wi_X6_at_RX6 : ∀ w ∈ u_ws RX6 TX6 11, w ∈ wsX6_at := by decide +kernel

theorem wd187_X6_at : (.fieldLink RX6 56 "CanticleModel" "words" "I" : Cond) ∈ wsX6_at := by decide +kernel

set_option maxHeartbeats 4000000 in
set_option maxRecDepth 100000 in
theorem k_X6_at_0 (l : Launch) (D : va_G) (κ ε : Nat → Nat) (h0 h1 h2 h3 : Nat) (p0 : Int32) (p1 : Int32) (p2 : Int32) (p3 : Int32) (p4 : Int32) (p5 : Int32) (p6 : Int32) : Met l yX6_at wsX6_at ({ frames := 1, cells := 0, slots := 0, locals := 20 }) (va_Pc [.ref h0, .ref h1, .int 0] (Pre0 D κ [(h0, .inr (8, [.int p0, .int 0, .int p1, .ref h1, .ref h2, .int p2, .int p3, .int p4, .int p5, .int 0, .ref h3])), (h1, .inr (1, [.int p6, .ref (ε 1), .int 0]))])) (vp_Si (fun r => (r = 0))) 0 0 (fun _ => False) := by
  refine Met.ofW (cc := cX6_at) (maxL := 3) (ret := (some .int)) (by decide) rfl ?_
  intro p e s m args below meth c s₁ B hml hv
  obtain ⟨rfl, hP, hK⟩ := hv
  have hx := B.exec
  have hb := B.bytes
  have hr := B.returns
  have hts := atoms_spec (ws := wsX6_at) B.pre
  have hown : s.vm.findClass RX6 = some m.cls := findClass_of_methodNamed B.named
  have hlocks := B.notSynchronized
  have hP : va_P D vwCl [(h0, .inr (8, [.int p0, .int 0, .int p1, .ref h1, .ref h2, .int p2, .int p3, .int p4, .int p5, .int 0, .ref h3])), (h1, .inr (1, [.int p6, .ref (ε 1), .int 0]))] s.heap := hP
  have hl := lv_entry [.ref h0, .ref h1, .int 0] (n := 3) (Nat.le_of_ble_eq_true rfl)
  rw [lg_entry_eq]
  generalize (lg_sl [.ref h0, .ref h1, .int 0] ++ List.replicate (3 - (lg_sl [.ref h0, .ref h1, .int 0]).length) Slot.unset).toArray = ls at hl ⊢
  have hl : lv_has ls 3 [(0, .ref h0), (1, .ref h1), (2, .int 0)] := hl
  refine lv_iload_n hx hb dX6_at_0 rfl (lv_at hl 2 rfl) ?_
  refine lv_aload_n hx hb dX6_at_1 rfl (lv_at hl 1 rfl) ?_
  refine vp_callSi (W.runV (As := []) (rest := [.int 0]) ⟨hx, hb, hml, hown, hts⟩ (k_Jx4a65c_size_8abf5_0 l D κ ε h1 (p6)) (cwV 0 hts gX6_at_Jx4a65c_size_8abf5 rfl rfl rfl (by decide +kernel) ⟨(Nat.le_of_ble_eq_true rfl), (Nat.le_of_ble_eq_true rfl)⟩) (pre0_V (q0 := 1) (ci := 1) (wc := [(h1, .inr (1, [.int p6, .ref (ε 1), .int 0]))]) hP hK [1] rfl rfl rfl) rfl rfl hl.1 rfl (lv_room (Nat.le_of_ble_eq_true rfl)) dX6_at_2 ⟨(Nat.le_of_ble_eq_true rfl), (Nat.le_of_ble_eq_true rfl)⟩) (fun r hw => ?_)
  rw [hw]
  refine lv_icmp_ge (tgt := 22) hx hb dX6_at_5 (by decide) (fun _ => ?_) (fun h => absurd (by decide) h)
  refine lv_aload_n hx hb dX6_at_22 rfl (lv_at hl 0 rfl) ?_
  refine va_get (D := D) (ci := 8) (v := .int 0) (C := RX6) (T := TX6) (N := 11) hx hb hts wi_X6_at_RX6 hown hK hP 0 rfl rfl 1 (by decide) (hts _ wd187_X6_at) (fun _ h9 => h9) rfl dX6_at_23 ?_
  exact W.iret (v := 0) hx hb hr (fun t ht hW => ⟨0, rfl, rfl, ht⟩) (fun q hq => absurd hq List.not_mem_nil) dX6_at_26

set_option maxHeartbeats 4000000 in
set_option maxRecDepth 100000 in
theorem k_X6_ahead_1 (l : Launch) (D : va_G) (κ ε : Nat → Nat) (h0 : Nat) : Met l yX6_ahead wsX6_ahead ({ frames := 0, cells := 0, slots := 0, locals := 0 }) (va_Pc [.ref h0, .int 0, .int 1] (Pre0 D κ [])) (vp_Si (fun r => (r = 0))) 0 0 (fun _ => False) := by
  refine Met.ofW (cc := cX6_ahead) (maxL := 5) (ret := (some .int)) (by decide) rfl ?_
  intro p e s m args below meth c s₁ B hml hv
  obtain ⟨rfl, hP, hK⟩ := hv
  have hx := B.exec
  have hb := B.bytes
  have hr := B.returns
  have hts := atoms_spec (ws := wsX6_ahead) B.pre
  have hown : s.vm.findClass RX6 = some m.cls := findClass_of_methodNamed B.named
  have hlocks := B.notSynchronized
  have hP : va_P D vwCl [] s.heap := hP
  have hl := lv_entry [.ref h0, .int 0, .int 1] (n := 5) (Nat.le_of_ble_eq_true rfl)
  rw [lg_entry_eq]
  generalize (lg_sl [.ref h0, .int 0, .int 1] ++ List.replicate (5 - (lg_sl [.ref h0, .int 0, .int 1]).length) Slot.unset).toArray = ls at hl ⊢
  have hl : lv_has ls 5 [(0, .ref h0), (1, .int 0), (2, .int 1)] := hl
  refine lv_iconst (v := 0) hx hb dX6_ahead_0 (by decide) ?_
  refine lv_istore_n (lv' := [(3, .int 0), (0, .ref h0), (1, .int 0), (2, .int 1)]) hx hb dX6_ahead_1 rfl hl (by decide) rfl (fun ls hl => ?_)
  refine lv_iload_n hx hb dX6_ahead_2 rfl (lv_at hl 2 rfl) ?_
  refine lv_iload_n hx hb dX6_ahead_3 rfl (lv_at hl 3 rfl) ?_
  refine lv_isub hx hb dX6_ahead_4 ?_
  refine tpi (v := (-1)) (by decide) ?_
  refine lv_istore (lv' := [(4, .int (-1)), (3, .int 0), (0, .ref h0), (1, .int 0), (2, .int 1)]) hx hb dX6_ahead_5 hl (by decide) rfl (fun ls hl => ?_)
  refine lv_iload hx hb dX6_ahead_7 (lv_at hl 0 rfl) ?_
  refine lv_iload_n hx hb dX6_ahead_9 rfl (lv_at hl 3 rfl) ?_
  refine lv_icmp_ge (tgt := 48) hx hb dX6_ahead_10 (by decide) (fun h => absurd h (by decide)) (fun _ => ?_)
  refine lv_iload_n hx hb dX6_ahead_13 rfl (lv_at hl 1 rfl) ?_
  refine lv_bipush (v := 14) hx hb dX6_ahead_14 (by decide) ?_
  refine lv_imul hx hb dX6_ahead_16 ?_
  refine tpi (v := 0) (by decide) ?_
  refine lv_iload hx hb dX6_ahead_17 (lv_at hl 0 rfl) ?_
  refine lv_if_ge (tgt := 26) hx hb dX6_ahead_19 (by decide) (fun h => absurd h (by decide)) (fun _ => ?_)
  refine lv_iconst (v := 0) hx hb dX6_ahead_22 (by decide) ?_
  refine lv_goto (tgt := 40) hx hb dX6_ahead_23 (by decide) ?_
  refine lv_iadd hx hb dX6_ahead_40 ?_
  refine tpi (v := 0) (by decide) ?_
  refine lv_istore_n (lv' := [(3, .int 0), (4, .int (-1)), (0, .ref h0), (1, .int 0), (2, .int 1)]) hx hb dX6_ahead_41 rfl hl (by decide) rfl (fun ls hl => ?_)
  refine lv_iinc (v := 0) (lv' := [(4, .int 0), (3, .int 0), (0, .ref h0), (1, .int 0), (2, .int 1)]) hx hb dX6_ahead_42 hl (k := 1) rfl (by decide) (by decide) rfl (fun ls hl => ?_)
  refine lv_goto (tgt := 7) hx hb dX6_ahead_45 (by decide) ?_
  refine lv_iload hx hb dX6_ahead_7 (lv_at hl 0 rfl) ?_
  refine lv_iload_n hx hb dX6_ahead_9 rfl (lv_at hl 3 rfl) ?_
  refine lv_icmp_ge (tgt := 48) hx hb dX6_ahead_10 (by decide) (fun _ => ?_) (fun h => absurd (by decide) h)
  refine lv_iload_n hx hb dX6_ahead_48 rfl (lv_at hl 1 rfl) ?_
  exact W.iret (v := 0) hx hb hr (fun t ht hW => ⟨0, rfl, rfl, ht⟩) (fun q hq => absurd hq List.not_mem_nil) dX6_ahead_49

theorem wi_X6_add_RX6 : ∀ w ∈ u_ws RX6 TX6 11, w ∈ wsX6_add := by decide +kernel

theorem wd188_X6_add : (.fieldLink RX6 7 "CanticleModel" "order" "I" : Cond) ∈ wsX6_add := by decide +kernel

set_option maxHeartbeats 4000000 in
set_option maxRecDepth 100000 in
theorem k_X6_add_0 (l : Launch) (D : va_G) (κ ε : Nat → Nat) (h0 h1 h2 h3 h4 h5 h6 h7 h8 : Nat) (sz : Nat) (p0 : Int32) (p1 : Int32) (p2 : Int32) (p3 : Int32) (p4 : Int32) (p5 : Int32) : Met l yX6_add wsX6_add ({ frames := 2, cells := 0, slots := 0, locals := 42 }) (va_Pc [.ref h0, .ref h1, .ref h2, .int (-1)] (Pre2 D κ ε [(h0, .inr (8, [.int p0, .int 0, .int 2, .ref h2, .ref h3, .int p1, .int p2, .int p3, .int p4, .int 0, .ref h4])), (h1, .inl (κ 4, 4, .inr (.inr (.inr (.inr (sel [h5, h6, h7, h8])))))), (h2, .inr (1, [.int p5, .ref (ε 1), .int 0])), (h5, .inl (κ 0, 14, .inl (fun _ => 0))), (h6, .inl (κ 0, 196, .inl (fun _ => 0)))] sz)) (va_Qv (fun u : Unit => True) (fun u t => va_P D vwCl [(h0, .inr (8, [.int p0, .int 0, .int 2, .ref h2, .ref h3, .int p1, .int p2, .int p3, .int p4, .int 0, .ref h4])), (h1, .inl (κ 4, 4, .inr (.inr (.inr (.inr (sel [h5, h6, h7, h8])))))), (h2, .inr (1, [.int p5, .ref (ε 1), .int 0])), (h5, .inl (κ 0, 14, .inl (upd (fun _ => 0) 1 (-1)))), (h6, .inl (κ 0, 196, .inl (upd (fun _ => 0) 1 (-1))))] t.heap ∧ va_D (va_A [(h0, .inr (8, [.int p0, .int 0, .int 2, .ref h2, .ref h3, .int p1, .int p2, .int p3, .int p4, .int 0, .ref h4])), (h1, .inl (κ 4, 4, .inr (.inr (.inr (.inr (sel [h5, h6, h7, h8])))))), (h2, .inr (1, [.int p5, .ref (ε 1), .int 0])), (h5, .inl (κ 0, 14, .inl (fun _ => 0))), (h6, .inl (κ 0, 196, .inl (fun _ => 0)))] sz) [(h0, .inr (8, [.int p0, .int 0, .int 2, .ref h2, .ref h3, .int p1, .int p2, .int p3, .int p4, .int 0, .ref h4])), (h1, .inl (κ 4, 4, .inr (.inr (.inr (.inr (sel [h5, h6, h7, h8])))))), (h2, .inr (1, [.int p5, .ref (ε 1), .int 0])), (h5, .inl (κ 0, 14, .inl (upd (fun _ => 0) 1 (-1)))), (h6, .inl (κ 0, 196, .inl (upd (fun _ => 0) 1 (-1))))]) (va_A [(h0, .inr (8, [.int p0, .int 0, .int 2, .ref h2, .ref h3, .int p1, .int p2, .int p3, .int p4, .int 0, .ref h4])), (h1, .inl (κ 4, 4, .inr (.inr (.inr (.inr (sel [h5, h6, h7, h8])))))), (h2, .inr (1, [.int p5, .ref (ε 1), .int 0])), (h5, .inl (κ 0, 14, .inl (fun _ => 0))), (h6, .inl (κ 0, 196, .inl (fun _ => 0)))] sz)) 0 0 (va_A [(h0, .inr (8, [.int p0, .int 0, .int 2, .ref h2, .ref h3, .int p1, .int p2, .int p3, .int p4, .int 0, .ref h4])), (h1, .inl (κ 4, 4, .inr (.inr (.inr (.inr (sel [h5, h6, h7, h8])))))), (h2, .inr (1, [.int p5, .ref (ε 1), .int 0])), (h5, .inl (κ 0, 14, .inl (fun _ => 0))), (h6, .inl (κ 0, 196, .inl (fun _ => 0)))] sz) := by
  refine Met.ofW (cc := cX6_add) (maxL := 6) (ret := none) (by decide) rfl ?_
  intro p e s m args below meth c s₁ B hml hv
  obtain ⟨rfl, hsz, hP, hK, hD0, hE9⟩ := hv
  have hx := B.exec
  have hb := B.bytes
  have hr := B.returns
  have hts := atoms_spec (ws := wsX6_add) B.pre
  have hown : s.vm.findClass RX6 = some m.cls := findClass_of_methodNamed B.named
  have hlocks := B.notSynchronized
  subst hsz
  have hD := hD0.self (sz := s.heap.size)
  generalize hAe : va_A [(h0, .inr (8, [.int p0, .int 0, .int 2, .ref h2, .ref h3, .int p1, .int p2, .int p3, .int p4, .int 0, .ref h4])), (h1, .inl (κ 4, 4, .inr (.inr (.inr (.inr (sel [h5, h6, h7, h8])))))), (h2, .inr (1, [.int p5, .ref (ε 1), .int 0])), (h5, .inl (κ 0, 14, .inl (fun _ => 0))), (h6, .inl (κ 0, 196, .inl (fun _ => 0)))] s.heap.size = A at hD hE9 ⊢
  have hE := hE9.1
  have hDc := hE9.2
  have hA : ∀ q : Nat, s.heap.size ≤ q → A q := fun q h => by rw [← hAe]; exact Or.inr h
  have hS : va_S A s.heap s.heap [] := va_S.rf
  have hP : va_P D vwCl [(h0, .inr (8, [.int p0, .int 0, .int 2, .ref h2, .ref h3, .int p1, .int p2, .int p3, .int p4, .int 0, .ref h4])), (h1, .inl (κ 4, 4, .inr (.inr (.inr (.inr (sel [h5, h6, h7, h8])))))), (h2, .inr (1, [.int p5, .ref (ε 1), .int 0])), (h5, .inl (κ 0, 14, .inl (fun _ => 0))), (h6, .inl (κ 0, 196, .inl (fun _ => 0)))] s.heap := hP
  have hl := lv_entry [.ref h0, .ref h1, .ref h2, .int (-1)] (n := 6) (Nat.le_of_ble_eq_true rfl)
  rw [lg_entry_eq]
  generalize (lg_sl [.ref h0, .ref h1, .ref h2, .int (-1)] ++ List.replicate (6 - (lg_sl [.ref h0, .ref h1, .ref h2, .int (-1)]).length) Slot.unset).toArray = ls at hl ⊢
  have hl : lv_has ls 6 [(0, .ref h0), (1, .ref h1), (2, .ref h2), (3, .int (-1))] := hl
  refine lv_iconst (v := 1) hx hb dX6_add_0 (by decide) ?_
  refine lv_istore (lv' := [(4, .int 1), (0, .ref h0), (1, .ref h1), (2, .ref h2), (3, .int (-1))]) hx hb dX6_add_1 hl (by decide) rfl (fun ls hl => ?_)
  refine lv_iload hx hb dX6_add_3 (lv_at hl 0 rfl) ?_
  refine lv_aload_n hx hb dX6_add_5 rfl (lv_at hl 1 rfl) ?_
  refine va_get (D := D) (ci := 8) (v := .int 2) (C := RX6) (T := TX6) (N := 11) hx hb hts wi_X6_add_RX6 hown hK hP 0 rfl rfl 2 (by decide) (hts _ wd188_X6_add) (fun _ h9 => h9) rfl dX6_add_6 ?_
  refine lv_icmp_gt (tgt := 70) hx hb dX6_add_9 (by decide) (fun h => absurd h (by decide)) (fun _ => ?_)
  refine lv_iconst (v := 0) hx hb dX6_add_12 (by decide) ?_
  refine lv_istore (lv' := [(5, .int 0), (4, .int 1), (0, .ref h0), (1, .ref h1), (2, .ref h2), (3, .int (-1))]) hx hb dX6_add_13 hl (by decide) rfl (fun ls hl => ?_)
  refine lv_iload hx hb dX6_add_15 (lv_at hl 0 rfl) ?_
  refine lv_aload_n hx hb dX6_add_17 rfl (lv_at hl 4 rfl) ?_
  refine vp_callSi (W.runV (As := []) (rest := [.int 0]) ⟨hx, hb, hml, hown, hts⟩ (k_Jx4a65c_size_8abf5_0 l D κ ε h2 (p5)) (cwV 0 hts gX6_add_Jx4a65c_size_8abf5 rfl rfl rfl (by decide +kernel) ⟨(Nat.le_of_ble_eq_true rfl), (Nat.le_of_ble_eq_true rfl)⟩) (pre0_V (q0 := 2) (ci := 1) (wc := [(h2, .inr (1, [.int p5, .ref (ε 1), .int 0]))]) hP hK [2] rfl rfl rfl) rfl rfl hl.1 rfl (lv_room (Nat.le_of_ble_eq_true rfl)) dX6_add_18 ⟨(Nat.le_of_ble_eq_true rfl), (Nat.le_of_ble_eq_true rfl)⟩) (fun r hw => ?_)
  rw [hw]
  refine lv_icmp_gt (tgt := 64) hx hb dX6_add_21 (by decide) (fun h => absurd h (by decide)) (fun _ => ?_)
  refine lv_aload_n hx hb dX6_add_24 rfl (lv_at hl 3 rfl) ?_
  refine lv_iload hx hb dX6_add_25 (lv_at hl 1 rfl) ?_
  refine lv_iconst (v := 1) hx hb dX6_add_27 (by decide) ?_
  refine lv_isub hx hb dX6_add_28 ?_
  refine tpi (v := 0) (by decide) ?_
  refine ya_ld2 hx hb hK hP 1 rfl (vpl (by decide)) (v := .ref h5) rfl dX6_add_29 ?_
  refine lv_aload_n hx hb dX6_add_30 rfl (lv_at hl 4 rfl) ?_
  refine lv_iload hx hb dX6_add_31 (lv_at hl 0 rfl) ?_
  refine lv_iload hx hb dX6_add_33 (lv_at hl 1 rfl) ?_
  refine lv_iconst (v := 1) hx hb dX6_add_35 (by decide) ?_
  refine lv_isub hx hb dX6_add_36 ?_
  refine tpi (v := 0) (by decide) ?_
  refine vp_callSi (W.runS (As := [.ref h2, .int 0, .int 0]) (rest := [.ref h5]) ⟨hx, hb, hml, hown, hts⟩ (k_X6_ahead_0 l D κ ε h2) (va_cwS 3 hts gX6_add_X6_ahead rfl rfl rfl (by decide +kernel) ⟨(Nat.le_of_ble_eq_true rfl), (Nat.le_of_ble_eq_true rfl)⟩) (pre0_S (wc := []) hP hK [] rfl) rfl rfl hl.1 rfl (lv_room (Nat.le_of_ble_eq_true rfl)) dX6_add_37 ⟨(Nat.le_of_ble_eq_true rfl), (Nat.le_of_ble_eq_true rfl)⟩) (fun r hw => ?_)
  rw [hw]
  refine lv_bipush (v := 14) hx hb dX6_add_40 (by decide) ?_
  refine lv_imul hx hb dX6_add_42 ?_
  refine tpi (v := 0) (by decide) ?_
  refine lv_aload_n hx hb dX6_add_43 rfl (lv_at hl 2 rfl) ?_
  refine lv_aload_n hx hb dX6_add_44 rfl (lv_at hl 4 rfl) ?_
  refine lv_iload hx hb dX6_add_45 (lv_at hl 0 rfl) ?_
  refine vp_callSi (W.runV (As := [.ref h2, .int 0]) (rest := [.int 0, .ref h5]) ⟨hx, hb, hml, hown, hts⟩ (k_X6_at_0 l D κ ε h0 h2 h3 h4 (p0) (2) (p1) (p2) (p3) (p4) (p5)) (cwV 2 hts gX6_add_X6_at rfl rfl rfl (by decide +kernel) ⟨(Nat.le_of_ble_eq_true rfl), (Nat.le_of_ble_eq_true rfl)⟩) (pre0_V (q0 := 0) (ci := 8) (wc := [(h0, .inr (8, [.int p0, .int 0, .int 2, .ref h2, .ref h3, .int p1, .int p2, .int p3, .int p4, .int 0, .ref h4])), (h2, .inr (1, [.int p5, .ref (ε 1), .int 0]))]) hP hK [0, 2] rfl rfl rfl) rfl rfl hl.1 rfl (lv_room (Nat.le_of_ble_eq_true rfl)) dX6_add_47 ⟨(Nat.le_of_ble_eq_true rfl), (Nat.le_of_ble_eq_true rfl)⟩) (fun r hw => ?_)
  rw [hw]
  refine lv_iadd hx hb dX6_add_50 ?_
  refine tpi (v := 0) (by decide) ?_
  refine lv_iconst (v := 1) hx hb dX6_add_51 (by decide) ?_
  refine lv_iadd hx hb dX6_add_52 ?_
  refine tpi (v := 1) (by decide) ?_
  refine lv_dup2_11 hx hb dX6_add_53 rfl rfl ?_
  refine va_iald (cA := κ 0) (n := 14) (f := (fun _ => 0)) hx hb hK hP 3 0 rfl rfl (vpl (by decide)) dX6_add_54 ?_
  refine tpi (v := 0) (by decide) ?_
  refine lv_iload_n hx hb dX6_add_55 rfl (lv_at hl 5 rfl) ?_
  refine lv_iadd hx hb dX6_add_56 ?_
  refine tpi (v := (-1)) (by decide) ?_
  refine va_iast (cA := κ 0) (n := 14) (f := (fun _ => 0)) hx hb hK hP hD hS 3 0 rfl rfl (vpl (by decide)) dX6_add_57 (fun H locs hP hD hS => ?_)
  have hP : va_P D vwCl [(h0, .inr (8, [.int p0, .int 0, .int 2, .ref h2, .ref h3, .int p1, .int p2, .int p3, .int p4, .int 0, .ref h4])), (h1, .inl (κ 4, 4, .inr (.inr (.inr (.inr (sel [h5, h6, h7, h8])))))), (h2, .inr (1, [.int p5, .ref (ε 1), .int 0])), (h5, .inl (κ 0, 14, .inl (upd (fun _ => 0) 1 (-1)))), (h6, .inl (κ 0, 196, .inl (fun _ => 0)))] H := hP
  have hD : va_D A [(h0, .inr (8, [.int p0, .int 0, .int 2, .ref h2, .ref h3, .int p1, .int p2, .int p3, .int p4, .int 0, .ref h4])), (h1, .inl (κ 4, 4, .inr (.inr (.inr (.inr (sel [h5, h6, h7, h8])))))), (h2, .inr (1, [.int p5, .ref (ε 1), .int 0])), (h5, .inl (κ 0, 14, .inl (upd (fun _ => 0) 1 (-1)))), (h6, .inl (κ 0, 196, .inl (fun _ => 0)))] := hD
  refine lv_iinc (v := 1) (lv' := [(5, .int 1), (4, .int 1), (0, .ref h0), (1, .ref h1), (2, .ref h2), (3, .int (-1))]) hx hb dX6_add_58 hl (k := 0) rfl (by decide) (by decide) rfl (fun ls hl => ?_)
  refine lv_goto (tgt := 15) hx hb dX6_add_61 (by decide) ?_
  refine lv_iload hx hb dX6_add_15 (lv_at hl 0 rfl) ?_
  refine lv_aload_n hx hb dX6_add_17 rfl (lv_at hl 4 rfl) ?_
  refine vp_callSi (W.runV (As := []) (rest := [.int 1]) ⟨hx, hb, hml, hown, hts⟩ (k_Jx4a65c_size_8abf5_0 l D κ ε h2 (p5)) (cwV 0 hts gX6_add_Jx4a65c_size_8abf5 rfl rfl rfl (by decide +kernel) ⟨(Nat.le_of_ble_eq_true rfl), (Nat.le_of_ble_eq_true rfl)⟩) (pre0_V (q0 := 2) (ci := 1) (wc := [(h2, .inr (1, [.int p5, .ref (ε 1), .int 0]))]) hP hK [2] rfl rfl rfl) rfl rfl hl.1 rfl (lv_room (Nat.le_of_ble_eq_true rfl)) dX6_add_18 ⟨(Nat.le_of_ble_eq_true rfl), (Nat.le_of_ble_eq_true rfl)⟩) (fun r hw => ?_)
  rw [hw]
  refine lv_icmp_gt (tgt := 64) hx hb dX6_add_21 (by decide) (fun _ => ?_) (fun h => absurd (by decide) h)
  refine lv_iinc (v := 2) (lv' := [(4, .int 2), (5, .int 1), (0, .ref h0), (1, .ref h1), (2, .ref h2), (3, .int (-1))]) hx hb dX6_add_64 hl (k := 1) rfl (by decide) (by decide) rfl (fun ls hl => ?_)
  refine lv_goto (tgt := 3) hx hb dX6_add_67 (by decide) ?_
  refine lv_iload hx hb dX6_add_3 (lv_at hl 0 rfl) ?_
  refine lv_aload_n hx hb dX6_add_5 rfl (lv_at hl 2 rfl) ?_
  refine va_get (D := D) (ci := 8) (v := .int 2) (C := RX6) (T := TX6) (N := 11) hx hb hts wi_X6_add_RX6 hown hK hP 0 rfl rfl 2 (by decide) (hts _ wd188_X6_add) (fun _ h9 => h9) rfl dX6_add_6 ?_
  refine lv_icmp_gt (tgt := 70) hx hb dX6_add_9 (by decide) (fun h => absurd h (by decide)) (fun _ => ?_)
  refine lv_iconst (v := 0) hx hb dX6_add_12 (by decide) ?_
  refine lv_istore (lv' := [(5, .int 0), (4, .int 2), (0, .ref h0), (1, .ref h1), (2, .ref h2), (3, .int (-1))]) hx hb dX6_add_13 hl (by decide) rfl (fun ls hl => ?_)
  refine lv_iload hx hb dX6_add_15 (lv_at hl 0 rfl) ?_
  refine lv_aload_n hx hb dX6_add_17 rfl (lv_at hl 4 rfl) ?_
  refine vp_callSi (W.runV (As := []) (rest := [.int 0]) ⟨hx, hb, hml, hown, hts⟩ (k_Jx4a65c_size_8abf5_0 l D κ ε h2 (p5)) (cwV 0 hts gX6_add_Jx4a65c_size_8abf5 rfl rfl rfl (by decide +kernel) ⟨(Nat.le_of_ble_eq_true rfl), (Nat.le_of_ble_eq_true rfl)⟩) (pre0_V (q0 := 2) (ci := 1) (wc := [(h2, .inr (1, [.int p5, .ref (ε 1), .int 0]))]) hP hK [2] rfl rfl rfl) rfl rfl hl.1 rfl (lv_room (Nat.le_of_ble_eq_true rfl)) dX6_add_18 ⟨(Nat.le_of_ble_eq_true rfl), (Nat.le_of_ble_eq_true rfl)⟩) (fun r hw => ?_)
  rw [hw]
  refine lv_icmp_gt (tgt := 64) hx hb dX6_add_21 (by decide) (fun h => absurd h (by decide)) (fun _ => ?_)
  refine lv_aload_n hx hb dX6_add_24 rfl (lv_at hl 3 rfl) ?_
  refine lv_iload hx hb dX6_add_25 (lv_at hl 1 rfl) ?_
  refine lv_iconst (v := 1) hx hb dX6_add_27 (by decide) ?_
  refine lv_isub hx hb dX6_add_28 ?_
  refine tpi (v := 1) (by decide) ?_
  refine ya_ld2 hx hb hK hP 1 rfl (vpl (by decide)) (v := .ref h6) rfl dX6_add_29 ?_
  refine lv_aload_n hx hb dX6_add_30 rfl (lv_at hl 4 rfl) ?_
  refine lv_iload hx hb dX6_add_31 (lv_at hl 0 rfl) ?_
  refine lv_iload hx hb dX6_add_33 (lv_at hl 1 rfl) ?_
  refine lv_iconst (v := 1) hx hb dX6_add_35 (by decide) ?_
  refine lv_isub hx hb dX6_add_36 ?_
  refine tpi (v := 1) (by decide) ?_
  refine vp_callSi (W.runS (As := [.ref h2, .int 0, .int 1]) (rest := [.ref h6]) ⟨hx, hb, hml, hown, hts⟩ (k_X6_ahead_1 l D κ ε h2) (va_cwS 3 hts gX6_add_X6_ahead rfl rfl rfl (by decide +kernel) ⟨(Nat.le_of_ble_eq_true rfl), (Nat.le_of_ble_eq_true rfl)⟩) (pre0_S (wc := []) hP hK [] rfl) rfl rfl hl.1 rfl (lv_room (Nat.le_of_ble_eq_true rfl)) dX6_add_37 ⟨(Nat.le_of_ble_eq_true rfl), (Nat.le_of_ble_eq_true rfl)⟩) (fun r hw => ?_)
  rw [hw]
  refine lv_bipush (v := 14) hx hb dX6_add_40 (by decide) ?_
  refine lv_imul hx hb dX6_add_42 ?_
  refine tpi (v := 0) (by decide) ?_
  refine lv_aload_n hx hb dX6_add_43 rfl (lv_at hl 2 rfl) ?_
  refine lv_aload_n hx hb dX6_add_44 rfl (lv_at hl 4 rfl) ?_
  refine lv_iload hx hb dX6_add_45 (lv_at hl 0 rfl) ?_
  refine vp_callSi (W.runV (As := [.ref h2, .int 0]) (rest := [.int 0, .ref h6]) ⟨hx, hb, hml, hown, hts⟩ (k_X6_at_0 l D κ ε h0 h2 h3 h4 (p0) (2) (p1) (p2) (p3) (p4) (p5)) (cwV 2 hts gX6_add_X6_at rfl rfl rfl (by decide +kernel) ⟨(Nat.le_of_ble_eq_true rfl), (Nat.le_of_ble_eq_true rfl)⟩) (pre0_V (q0 := 0) (ci := 8) (wc := [(h0, .inr (8, [.int p0, .int 0, .int 2, .ref h2, .ref h3, .int p1, .int p2, .int p3, .int p4, .int 0, .ref h4])), (h2, .inr (1, [.int p5, .ref (ε 1), .int 0]))]) hP hK [0, 2] rfl rfl rfl) rfl rfl hl.1 rfl (lv_room (Nat.le_of_ble_eq_true rfl)) dX6_add_47 ⟨(Nat.le_of_ble_eq_true rfl), (Nat.le_of_ble_eq_true rfl)⟩) (fun r hw => ?_)
  rw [hw]
  refine lv_iadd hx hb dX6_add_50 ?_
  refine tpi (v := 0) (by decide) ?_
  refine lv_iconst (v := 1) hx hb dX6_add_51 (by decide) ?_
  refine lv_iadd hx hb dX6_add_52 ?_
  refine tpi (v := 1) (by decide) ?_
  refine lv_dup2_11 hx hb dX6_add_53 rfl rfl ?_
  refine va_iald (cA := κ 0) (n := 196) (f := (fun _ => 0)) hx hb hK hP 4 0 rfl rfl (vpl (by decide)) dX6_add_54 ?_
  refine tpi (v := 0) (by decide) ?_
  refine lv_iload_n hx hb dX6_add_55 rfl (lv_at hl 5 rfl) ?_
  refine lv_iadd hx hb dX6_add_56 ?_
  refine tpi (v := (-1)) (by decide) ?_
  refine va_iast (cA := κ 0) (n := 196) (f := (fun _ => 0)) hx hb hK hP hD hS 4 0 rfl rfl (vpl (by decide)) dX6_add_57 (fun H locs hP hD hS => ?_)
  have hP : va_P D vwCl [(h0, .inr (8, [.int p0, .int 0, .int 2, .ref h2, .ref h3, .int p1, .int p2, .int p3, .int p4, .int 0, .ref h4])), (h1, .inl (κ 4, 4, .inr (.inr (.inr (.inr (sel [h5, h6, h7, h8])))))), (h2, .inr (1, [.int p5, .ref (ε 1), .int 0])), (h5, .inl (κ 0, 14, .inl (upd (fun _ => 0) 1 (-1)))), (h6, .inl (κ 0, 196, .inl (upd (fun _ => 0) 1 (-1))))] H := hP
  have hD : va_D A [(h0, .inr (8, [.int p0, .int 0, .int 2, .ref h2, .ref h3, .int p1, .int p2, .int p3, .int p4, .int 0, .ref h4])), (h1, .inl (κ 4, 4, .inr (.inr (.inr (.inr (sel [h5, h6, h7, h8])))))), (h2, .inr (1, [.int p5, .ref (ε 1), .int 0])), (h5, .inl (κ 0, 14, .inl (upd (fun _ => 0) 1 (-1)))), (h6, .inl (κ 0, 196, .inl (upd (fun _ => 0) 1 (-1))))] := hD
  refine lv_iinc (v := 1) (lv' := [(5, .int 1), (4, .int 2), (0, .ref h0), (1, .ref h1), (2, .ref h2), (3, .int (-1))]) hx hb dX6_add_58 hl (k := 0) rfl (by decide) (by decide) rfl (fun ls hl => ?_)
  refine lv_goto (tgt := 15) hx hb dX6_add_61 (by decide) ?_
  refine lv_iload hx hb dX6_add_15 (lv_at hl 0 rfl) ?_
  refine lv_aload_n hx hb dX6_add_17 rfl (lv_at hl 4 rfl) ?_
  refine vp_callSi (W.runV (As := []) (rest := [.int 1]) ⟨hx, hb, hml, hown, hts⟩ (k_Jx4a65c_size_8abf5_0 l D κ ε h2 (p5)) (cwV 0 hts gX6_add_Jx4a65c_size_8abf5 rfl rfl rfl (by decide +kernel) ⟨(Nat.le_of_ble_eq_true rfl), (Nat.le_of_ble_eq_true rfl)⟩) (pre0_V (q0 := 2) (ci := 1) (wc := [(h2, .inr (1, [.int p5, .ref (ε 1), .int 0]))]) hP hK [2] rfl rfl rfl) rfl rfl hl.1 rfl (lv_room (Nat.le_of_ble_eq_true rfl)) dX6_add_18 ⟨(Nat.le_of_ble_eq_true rfl), (Nat.le_of_ble_eq_true rfl)⟩) (fun r hw => ?_)
  rw [hw]
  refine lv_icmp_gt (tgt := 64) hx hb dX6_add_21 (by decide) (fun _ => ?_) (fun h => absurd (by decide) h)
  refine lv_iinc (v := 3) (lv' := [(4, .int 3), (5, .int 1), (0, .ref h0), (1, .ref h1), (2, .ref h2), (3, .int (-1))]) hx hb dX6_add_64 hl (k := 1) rfl (by decide) (by decide) rfl (fun ls hl => ?_)
  refine lv_goto (tgt := 3) hx hb dX6_add_67 (by decide) ?_
  refine lv_iload hx hb dX6_add_3 (lv_at hl 0 rfl) ?_
  refine lv_aload_n hx hb dX6_add_5 rfl (lv_at hl 2 rfl) ?_
  refine va_get (D := D) (ci := 8) (v := .int 2) (C := RX6) (T := TX6) (N := 11) hx hb hts wi_X6_add_RX6 hown hK hP 0 rfl rfl 2 (by decide) (hts _ wd188_X6_add) (fun _ h9 => h9) rfl dX6_add_6 ?_
  refine lv_icmp_gt (tgt := 70) hx hb dX6_add_9 (by decide) (fun _ => ?_) (fun h => absurd (by decide) h)
  have hP9 := hP
  have hD9 := hD
  exact W.vret hx hb hr (fun t ht hW => ⟨⟨(), rfl, trivial, by rw [ht]; exact hP9, hD9⟩, hS.F ht⟩) hS.2.2 dX6_add_70

theorem wi_X6_unlearn_RX6 : ∀ w ∈ u_ws RX6 TX6 11, w ∈ wsX6_unlearn := by decide +kernel

theorem wd189_X6_unlearn : (.fieldLink RX6 24 "CanticleModel" "counts" "[[I" : Cond) ∈ wsX6_unlearn := by decide +kernel

theorem wd190_X6_unlearn : (.fieldLink RX6 16 "CanticleModel" "sentence" "Ljava/util/ArrayList;" : Cond) ∈ wsX6_unlearn := by decide +kernel

set_option maxHeartbeats 4000000 in
set_option maxRecDepth 100000 in
theorem k_X6_unlearn_0 (l : Launch) (D : va_G) (κ ε : Nat → Nat) (h0 h1 h2 h3 h4 h5 h6 h7 : Nat) (sz : Nat) : Met l yX6_unlearn wsX6_unlearn ({ frames := 3, cells := 5, slots := 41374, locals := 82 }) (va_Pc [.ref h0] (Pre2 D κ ε [(h0, .inr (8, [.int 0, .int 0, .int 2, .ref h1, .ref h2, .int 0, .int 500, .int 0, .int 0, .int 0, .ref h3])), (h1, .inr (1, [.int 0, .ref (ε 1), .int 0])), (h2, .inl (κ 4, 4, .inr (.inr (.inr (.inr (sel [h4, h5, h6, h7])))))), (h4, .inl (κ 0, 14, .inl (fun _ => 0))), (h5, .inl (κ 0, 196, .inl (fun _ => 0))), (h6, .inl (κ 0, 2744, .inl (fun _ => 0))), (h7, .inl (κ 0, 38416, .inl (fun _ => 0)))] sz)) (va_Qi (fun r (u : List Value) => (u[0]? = some (.int 1)) ∧ (r = 0)) (fun u t => va_P D vwCl [(h0, .inr (8, u))] t.heap ∧ va_D (va_A [(h0, .inr (8, [.int 0, .int 0, .int 2, .ref h1, .ref h2, .int 0, .int 500, .int 0, .int 0, .int 0, .ref h3])), (h1, .inr (1, [.int 0, .ref (ε 1), .int 0])), (h2, .inl (κ 4, 4, .inr (.inr (.inr (.inr (sel [h4, h5, h6, h7])))))), (h4, .inl (κ 0, 14, .inl (fun _ => 0))), (h5, .inl (κ 0, 196, .inl (fun _ => 0))), (h6, .inl (κ 0, 2744, .inl (fun _ => 0))), (h7, .inl (κ 0, 38416, .inl (fun _ => 0)))] sz) [(h0, .inr (8, u))]) (va_A [(h0, .inr (8, [.int 0, .int 0, .int 2, .ref h1, .ref h2, .int 0, .int 500, .int 0, .int 0, .int 0, .ref h3])), (h1, .inr (1, [.int 0, .ref (ε 1), .int 0])), (h2, .inl (κ 4, 4, .inr (.inr (.inr (.inr (sel [h4, h5, h6, h7])))))), (h4, .inl (κ 0, 14, .inl (fun _ => 0))), (h5, .inl (κ 0, 196, .inl (fun _ => 0))), (h6, .inl (κ 0, 2744, .inl (fun _ => 0))), (h7, .inl (κ 0, 38416, .inl (fun _ => 0)))] sz)) 5 41374 (va_A [(h0, .inr (8, [.int 0, .int 0, .int 2, .ref h1, .ref h2, .int 0, .int 500, .int 0, .int 0, .int 0, .ref h3])), (h1, .inr (1, [.int 0, .ref (ε 1), .int 0])), (h2, .inl (κ 4, 4, .inr (.inr (.inr (.inr (sel [h4, h5, h6, h7])))))), (h4, .inl (κ 0, 14, .inl (fun _ => 0))), (h5, .inl (κ 0, 196, .inl (fun _ => 0))), (h6, .inl (κ 0, 2744, .inl (fun _ => 0))), (h7, .inl (κ 0, 38416, .inl (fun _ => 0)))] sz) := by
  refine Met.ofW (cc := cX6_unlearn) (maxL := 5) (ret := (some .int)) (by decide) rfl ?_
  intro p e s m args below meth c s₁ B hml hv
  obtain ⟨rfl, hsz, hP, hK, hD0, hE9⟩ := hv
  have hx := B.exec
  have hb := B.bytes
  have hr := B.returns
  have hts := atoms_spec (ws := wsX6_unlearn) B.pre
  have hown : s.vm.findClass RX6 = some m.cls := findClass_of_methodNamed B.named
  have hlocks := B.notSynchronized
  subst hsz
  have hD := hD0.self (sz := s.heap.size)
  generalize hAe : va_A [(h0, .inr (8, [.int 0, .int 0, .int 2, .ref h1, .ref h2, .int 0, .int 500, .int 0, .int 0, .int 0, .ref h3])), (h1, .inr (1, [.int 0, .ref (ε 1), .int 0])), (h2, .inl (κ 4, 4, .inr (.inr (.inr (.inr (sel [h4, h5, h6, h7])))))), (h4, .inl (κ 0, 14, .inl (fun _ => 0))), (h5, .inl (κ 0, 196, .inl (fun _ => 0))), (h6, .inl (κ 0, 2744, .inl (fun _ => 0))), (h7, .inl (κ 0, 38416, .inl (fun _ => 0)))] s.heap.size = A at hD hE9 ⊢
  have hE := hE9.1
  have hDc := hE9.2
  have hA : ∀ q : Nat, s.heap.size ≤ q → A q := fun q h => by rw [← hAe]; exact Or.inr h
  have hS : va_S A s.heap s.heap [] := va_S.rf
  have hP : va_P D vwCl [(h0, .inr (8, [.int 0, .int 0, .int 2, .ref h1, .ref h2, .int 0, .int 500, .int 0, .int 0, .int 0, .ref h3])), (h1, .inr (1, [.int 0, .ref (ε 1), .int 0])), (h2, .inl (κ 4, 4, .inr (.inr (.inr (.inr (sel [h4, h5, h6, h7])))))), (h4, .inl (κ 0, 14, .inl (fun _ => 0))), (h5, .inl (κ 0, 196, .inl (fun _ => 0))), (h6, .inl (κ 0, 2744, .inl (fun _ => 0))), (h7, .inl (κ 0, 38416, .inl (fun _ => 0)))] s.heap := hP
  have hl := lv_entry [.ref h0] (n := 5) (Nat.le_of_ble_eq_true rfl)
  rw [lg_entry_eq]
  generalize (lg_sl [.ref h0] ++ List.replicate (5 - (lg_sl [.ref h0]).length) Slot.unset).toArray = ls at hl ⊢
  have hl : lv_has ls 5 [(0, .ref h0)] := hl
  refine lv_aload_n hx hb dX6_unlearn_0 rfl (lv_at hl 0 rfl) ?_
  refine va_get (D := D) (ci := 8) (v := .ref h2) (C := RX6) (T := TX6) (N := 11) hx hb hts wi_X6_unlearn_RX6 hown hK hP 0 rfl rfl 4 (by decide) (hts _ wd189_X6_unlearn) (fun _ h9 => h9) rfl dX6_unlearn_1 ?_
  have hF := va_free (wc := [(h2, .inl (κ 4, 4, .inr (.inr (.inr (.inr (sel [h4, h5, h6, h7])))))), (h4, .inl (κ 0, 14, .inl (fun _ => 0))), (h5, .inl (κ 0, 196, .inl (fun _ => 0))), (h6, .inl (κ 0, 2744, .inl (fun _ => 0))), (h7, .inl (κ 0, 38416, .inl (fun _ => 0)))]) hD hS hA [2, 3, 4, 5, 6] rfl
  refine va_callr (va_runS (As := [.ref h2]) (rest := []) ⟨hx, hb, hml, hown, hts⟩ (k_X6_copy_0 l D κ ε h2 h4 h5 h6 h7 s.heap.size) (va_cwS 1 hts gX6_unlearn_X6_copy rfl rfl rfl (by decide +kernel) ⟨(Nat.le_of_ble_eq_true rfl), (Nat.le_of_ble_eq_true rfl)⟩) (pre2_S (wc := [(h2, .inl (κ 4, 4, .inr (.inr (.inr (.inr (sel [h4, h5, h6, h7])))))), (h4, .inl (κ 0, 14, .inl (fun _ => 0))), (h5, .inl (κ 0, 196, .inl (fun _ => 0))), (h6, .inl (κ 0, 2744, .inl (fun _ => 0))), (h7, .inl (κ 0, 38416, .inl (fun _ => 0)))]) hP hD hK hE9 hS hA [2, 3, 4, 5, 6] (by decide) rfl) rfl rfl hl.1 rfl (lv_room (Nat.le_of_ble_eq_true rfl)) dX6_unlearn_4 ⟨(Nat.le_of_ble_eq_true rfl), (Nat.le_of_ble_eq_true rfl)⟩) hS (fun q _ h => hF q h) hF (fun u1 ra t H locs ht hvm hw hB hz1 hk1 hS => ?_)
  try dsimp only at hw hB
  obtain ⟨rfl, hB⟩ := hB
  obtain ⟨hP1, hD1⟩ := hB
  rw [ht] at hP1
  obtain ⟨hP, hD⟩ := post_j (ws' := [(h0, .inr (8, [.int 0, .int 0, .int 2, .ref h1, .ref h2, .int 0, .int 500, .int 0, .int 0, .int 0, .ref h3])), (h1, .inr (1, [.int 0, .ref (ε 1), .int 0])), (h2, .inl (κ 4, 4, .inr (.inr (.inr (.inr (sel [h4, h5, h6, h7])))))), (h4, .inl (κ 0, 14, .inl (fun _ => 0))), (h5, .inl (κ 0, 196, .inl (fun _ => 0))), (h6, .inl (κ 0, 2744, .inl (fun _ => 0))), (h7, .inl (κ 0, 38416, .inl (fun _ => 0))), ((u1 0), .inl (κ 4, 4, .inr (.inr (.inr (.inr (sel [(u1 1), (u1 2), (u1 3), (u1 4)])))))), ((u1 1), .inl (κ 0, 14, .inl (fun _ => 0))), ((u1 2), .inl (κ 0, 196, .inl (fun _ => 0))), ((u1 3), .inl (κ 0, 2744, .inl (fun _ => 0))), ((u1 4), .inl (κ 0, 38416, .inl (fun _ => 0)))]) (wr := [(h0, .inr (8, [.int 0, .int 0, .int 2, .ref h1, .ref h2, .int 0, .int 500, .int 0, .int 0, .int 0, .ref h3])), (h1, .inr (1, [.int 0, .ref (ε 1), .int 0]))]) (w1 := [(h2, .inl (κ 4, 4, .inr (.inr (.inr (.inr (sel [h4, h5, h6, h7])))))), (h4, .inl (κ 0, 14, .inl (fun _ => 0))), (h5, .inl (κ 0, 196, .inl (fun _ => 0))), (h6, .inl (κ 0, 2744, .inl (fun _ => 0))), (h7, .inl (κ 0, 38416, .inl (fun _ => 0))), ((u1 0), .inl (κ 4, 4, .inr (.inr (.inr (.inr (sel [(u1 1), (u1 2), (u1 3), (u1 4)])))))), ((u1 1), .inl (κ 0, 14, .inl (fun _ => 0))), ((u1 2), .inl (κ 0, 196, .inl (fun _ => 0))), ((u1 3), .inl (κ 0, 2744, .inl (fun _ => 0))), ((u1 4), .inl (κ 0, 38416, .inl (fun _ => 0)))]) hP hD hF [2, 3, 4, 5, 6] rfl [0, 1] rfl (by decide) (by decide) hk1 hP1 hD1 [0, 1, 2, 3, 4, 5, 6, 7, 8, 9, 10, 11] (by decide) rfl
  have hP : va_P D vwCl [(h0, .inr (8, [.int 0, .int 0, .int 2, .ref h1, .ref h2, .int 0, .int 500, .int 0, .int 0, .int 0, .ref h3])), (h1, .inr (1, [.int 0, .ref (ε 1), .int 0])), (h2, .inl (κ 4, 4, .inr (.inr (.inr (.inr (sel [h4, h5, h6, h7])))))), (h4, .inl (κ 0, 14, .inl (fun _ => 0))), (h5, .inl (κ 0, 196, .inl (fun _ => 0))), (h6, .inl (κ 0, 2744, .inl (fun _ => 0))), (h7, .inl (κ 0, 38416, .inl (fun _ => 0))), ((u1 0), .inl (κ 4, 4, .inr (.inr (.inr (.inr (sel [(u1 1), (u1 2), (u1 3), (u1 4)])))))), ((u1 1), .inl (κ 0, 14, .inl (fun _ => 0))), ((u1 2), .inl (κ 0, 196, .inl (fun _ => 0))), ((u1 3), .inl (κ 0, 2744, .inl (fun _ => 0))), ((u1 4), .inl (κ 0, 38416, .inl (fun _ => 0)))] H := hP
  have hD : va_D A [(h0, .inr (8, [.int 0, .int 0, .int 2, .ref h1, .ref h2, .int 0, .int 500, .int 0, .int 0, .int 0, .ref h3])), (h1, .inr (1, [.int 0, .ref (ε 1), .int 0])), (h2, .inl (κ 4, 4, .inr (.inr (.inr (.inr (sel [h4, h5, h6, h7])))))), (h4, .inl (κ 0, 14, .inl (fun _ => 0))), (h5, .inl (κ 0, 196, .inl (fun _ => 0))), (h6, .inl (κ 0, 2744, .inl (fun _ => 0))), (h7, .inl (κ 0, 38416, .inl (fun _ => 0))), ((u1 0), .inl (κ 4, 4, .inr (.inr (.inr (.inr (sel [(u1 1), (u1 2), (u1 3), (u1 4)])))))), ((u1 1), .inl (κ 0, 14, .inl (fun _ => 0))), ((u1 2), .inl (κ 0, 196, .inl (fun _ => 0))), ((u1 3), .inl (κ 0, 2744, .inl (fun _ => 0))), ((u1 4), .inl (κ 0, 38416, .inl (fun _ => 0)))] := hD
  refine lv_astore_n (lv' := [(1, .ref (u1 0)), (0, .ref h0)]) hx hb dX6_unlearn_7 rfl hl (by decide) rfl (fun ls hl => ?_)
  refine lv_aload_n hx hb dX6_unlearn_8 rfl (lv_at hl 1 rfl) ?_
  refine lv_aload_n hx hb dX6_unlearn_9 rfl (lv_at hl 0 rfl) ?_
  refine lv_aload_n hx hb dX6_unlearn_10 rfl (lv_at hl 1 rfl) ?_
  refine va_get (D := D) (ci := 8) (v := .ref h1) (C := RX6) (T := TX6) (N := 11) hx hb hts wi_X6_unlearn_RX6 hown hK hP 0 rfl rfl 3 (by decide) (hts _ wd190_X6_unlearn) (fun _ h9 => h9) rfl dX6_unlearn_11 ?_
  refine lv_iconst (v := (-1)) hx hb dX6_unlearn_14 (by decide) ?_
  have hF := va_free (wc := [(h0, .inr (8, [.int 0, .int 0, .int 2, .ref h1, .ref h2, .int 0, .int 500, .int 0, .int 0, .int 0, .ref h3])), ((u1 0), .inl (κ 4, 4, .inr (.inr (.inr (.inr (sel [(u1 1), (u1 2), (u1 3), (u1 4)])))))), (h1, .inr (1, [.int 0, .ref (ε 1), .int 0])), ((u1 1), .inl (κ 0, 14, .inl (fun _ => 0))), ((u1 2), .inl (κ 0, 196, .inl (fun _ => 0)))]) hD hS hA [0, 7, 1, 8, 9] rfl
  refine va_callv (va_runV (As := [.ref (u1 0), .ref h1, .int (-1)]) (rest := []) ⟨hx, hb, hml, hown, hts⟩ (k_X6_add_0 l D κ ε h0 (u1 0) h1 h2 h3 (u1 1) (u1 2) (u1 3) (u1 4) H.size (0) (0) (500) (0) (0) (0)) (cwV 3 hts gX6_unlearn_X6_add rfl rfl rfl (by decide +kernel) ⟨(Nat.le_of_ble_eq_true rfl), (Nat.le_of_ble_eq_true rfl)⟩) (pre2_V (q0 := 0) (ci := 8) (wc := [(h0, .inr (8, [.int 0, .int 0, .int 2, .ref h1, .ref h2, .int 0, .int 500, .int 0, .int 0, .int 0, .ref h3])), ((u1 0), .inl (κ 4, 4, .inr (.inr (.inr (.inr (sel [(u1 1), (u1 2), (u1 3), (u1 4)])))))), (h1, .inr (1, [.int 0, .ref (ε 1), .int 0])), ((u1 1), .inl (κ 0, 14, .inl (fun _ => 0))), ((u1 2), .inl (κ 0, 196, .inl (fun _ => 0)))]) hP hD hK hE9 hS hA [0, 7, 1, 8, 9] (by decide) rfl rfl rfl) rfl rfl hl.1 rfl (lv_room (Nat.le_of_ble_eq_true rfl)) dX6_unlearn_15 ⟨(Nat.le_of_ble_eq_true rfl), (Nat.le_of_ble_eq_true rfl)⟩) hS (fun q _ h => hF q h) hF (fun u2 t H locs ht hvm hw hB hz1 hk1 hS => ?_)
  try dsimp only at hw hB
  obtain ⟨hP1, hD1⟩ := hB
  rw [ht] at hP1
  obtain ⟨hP, hD⟩ := post_j (ws' := [(h0, .inr (8, [.int 0, .int 0, .int 2, .ref h1, .ref h2, .int 0, .int 500, .int 0, .int 0, .int 0, .ref h3])), (h1, .inr (1, [.int 0, .ref (ε 1), .int 0])), (h2, .inl (κ 4, 4, .inr (.inr (.inr (.inr (sel [h4, h5, h6, h7])))))), (h4, .inl (κ 0, 14, .inl (fun _ => 0))), (h5, .inl (κ 0, 196, .inl (fun _ => 0))), (h6, .inl (κ 0, 2744, .inl (fun _ => 0))), (h7, .inl (κ 0, 38416, .inl (fun _ => 0))), ((u1 0), .inl (κ 4, 4, .inr (.inr (.inr (.inr (sel [(u1 1), (u1 2), (u1 3), (u1 4)])))))), ((u1 1), .inl (κ 0, 14, .inl (upd (fun _ => 0) 1 (-1)))), ((u1 2), .inl (κ 0, 196, .inl (upd (fun _ => 0) 1 (-1)))), ((u1 3), .inl (κ 0, 2744, .inl (fun _ => 0))), ((u1 4), .inl (κ 0, 38416, .inl (fun _ => 0)))]) (wr := [(h2, .inl (κ 4, 4, .inr (.inr (.inr (.inr (sel [h4, h5, h6, h7])))))), (h4, .inl (κ 0, 14, .inl (fun _ => 0))), (h5, .inl (κ 0, 196, .inl (fun _ => 0))), (h6, .inl (κ 0, 2744, .inl (fun _ => 0))), (h7, .inl (κ 0, 38416, .inl (fun _ => 0))), ((u1 3), .inl (κ 0, 2744, .inl (fun _ => 0))), ((u1 4), .inl (κ 0, 38416, .inl (fun _ => 0)))]) (w1 := [(h0, .inr (8, [.int 0, .int 0, .int 2, .ref h1, .ref h2, .int 0, .int 500, .int 0, .int 0, .int 0, .ref h3])), ((u1 0), .inl (κ 4, 4, .inr (.inr (.inr (.inr (sel [(u1 1), (u1 2), (u1 3), (u1 4)])))))), (h1, .inr (1, [.int 0, .ref (ε 1), .int 0])), ((u1 1), .inl (κ 0, 14, .inl (upd (fun _ => 0) 1 (-1)))), ((u1 2), .inl (κ 0, 196, .inl (upd (fun _ => 0) 1 (-1))))]) hP hD hF [0, 7, 1, 8, 9] rfl [2, 3, 4, 5, 6, 10, 11] rfl (by decide) (by decide) hk1 hP1 hD1 [7, 9, 0, 1, 2, 3, 4, 8, 10, 11, 5, 6] (by decide) rfl
  have hP : va_P D vwCl [(h0, .inr (8, [.int 0, .int 0, .int 2, .ref h1, .ref h2, .int 0, .int 500, .int 0, .int 0, .int 0, .ref h3])), (h1, .inr (1, [.int 0, .ref (ε 1), .int 0])), (h2, .inl (κ 4, 4, .inr (.inr (.inr (.inr (sel [h4, h5, h6, h7])))))), (h4, .inl (κ 0, 14, .inl (fun _ => 0))), (h5, .inl (κ 0, 196, .inl (fun _ => 0))), (h6, .inl (κ 0, 2744, .inl (fun _ => 0))), (h7, .inl (κ 0, 38416, .inl (fun _ => 0))), ((u1 0), .inl (κ 4, 4, .inr (.inr (.inr (.inr (sel [(u1 1), (u1 2), (u1 3), (u1 4)])))))), ((u1 1), .inl (κ 0, 14, .inl (upd (fun _ => 0) 1 (-1)))), ((u1 2), .inl (κ 0, 196, .inl (upd (fun _ => 0) 1 (-1)))), ((u1 3), .inl (κ 0, 2744, .inl (fun _ => 0))), ((u1 4), .inl (κ 0, 38416, .inl (fun _ => 0)))] H := hP
  have hD : va_D A [(h0, .inr (8, [.int 0, .int 0, .int 2, .ref h1, .ref h2, .int 0, .int 500, .int 0, .int 0, .int 0, .ref h3])), (h1, .inr (1, [.int 0, .ref (ε 1), .int 0])), (h2, .inl (κ 4, 4, .inr (.inr (.inr (.inr (sel [h4, h5, h6, h7])))))), (h4, .inl (κ 0, 14, .inl (fun _ => 0))), (h5, .inl (κ 0, 196, .inl (fun _ => 0))), (h6, .inl (κ 0, 2744, .inl (fun _ => 0))), (h7, .inl (κ 0, 38416, .inl (fun _ => 0))), ((u1 0), .inl (κ 4, 4, .inr (.inr (.inr (.inr (sel [(u1 1), (u1 2), (u1 3), (u1 4)])))))), ((u1 1), .inl (κ 0, 14, .inl (upd (fun _ => 0) 1 (-1)))), ((u1 2), .inl (κ 0, 196, .inl (upd (fun _ => 0) 1 (-1)))), ((u1 3), .inl (κ 0, 2744, .inl (fun _ => 0))), ((u1 4), .inl (κ 0, 38416, .inl (fun _ => 0)))] := hD
  refine lv_iconst (v := 0) hx hb dX6_unlearn_18 (by decide) ?_
  refine lv_istore_n (lv' := [(2, .int 0), (1, .ref (u1 0)), (0, .ref h0)]) hx hb dX6_unlearn_19 rfl hl (by decide) rfl (fun ls hl => ?_)
  refine lv_iconst (v := 0) hx hb dX6_unlearn_20 (by decide) ?_
  refine lv_istore_n (lv' := [(3, .int 0), (2, .int 0), (1, .ref (u1 0)), (0, .ref h0)]) hx hb dX6_unlearn_21 rfl hl (by decide) rfl (fun ls hl => ?_)
  refine lv_iload_n hx hb dX6_unlearn_22 rfl (lv_at hl 0 rfl) ?_
  refine lv_iconst (v := 4) hx hb dX6_unlearn_23 (by decide) ?_
  refine lv_icmp_ge (tgt := 68) hx hb dX6_unlearn_24 (by decide) (fun h => absurd h (by decide)) (fun _ => ?_)
  refine lv_iconst (v := 0) hx hb dX6_unlearn_27 (by decide) ?_
  refine lv_istore (lv' := [(4, .int 0), (3, .int 0), (2, .int 0), (1, .ref (u1 0)), (0, .ref h0)]) hx hb dX6_unlearn_28 hl (by decide) rfl (fun ls hl => ?_)
  refine lv_iload hx hb dX6_unlearn_30 (lv_at hl 0 rfl) ?_
  refine lv_aload_n hx hb dX6_unlearn_32 rfl (lv_at hl 3 rfl) ?_
  refine lv_iload_n hx hb dX6_unlearn_33 rfl (lv_at hl 1 rfl) ?_
  refine ya_ld2 hx hb hK hP 7 rfl (vpl (by decide)) (v := .ref (u1 1)) rfl dX6_unlearn_34 ?_
  refine va_alen hx hb hK hP 8 0 rfl rfl (v := 14) (by decide) dX6_unlearn_35 ?_
  refine lv_icmp_ge (tgt := 62) hx hb dX6_unlearn_36 (by decide) (fun h => absurd h (by decide)) (fun _ => ?_)
  refine lv_iload_n hx hb dX6_unlearn_39 rfl (lv_at hl 2 rfl) ?_
  refine lv_aload_n hx hb dX6_unlearn_40 rfl (lv_at hl 3 rfl) ?_
  refine lv_iload_n hx hb dX6_unlearn_41 rfl (lv_at hl 1 rfl) ?_
  refine ya_ld2 hx hb hK hP 7 rfl (vpl (by decide)) (v := .ref (u1 1)) rfl dX6_unlearn_42 ?_
  refine lv_iload hx hb dX6_unlearn_43 (lv_at hl 0 rfl) ?_
  refine va_iald (cA := κ 0) (n := 14) (f := (upd (fun _ => 0) 1 (-1))) hx hb hK hP 8 0 rfl rfl (vpl (by decide)) dX6_unlearn_45 ?_
  refine tpi (v := 0) (by decide) ?_
  refine lv_if_ge (tgt := 53) hx hb dX6_unlearn_46 (by decide) (fun _ => ?_) (fun h => absurd (by decide) h)
  refine lv_iconst (v := 0) hx hb dX6_unlearn_53 (by decide) ?_
  refine lv_ior hx hb dX6_unlearn_54 ?_
  refine tpi (v := 0) (by decide) ?_
  refine lv_istore_n (lv' := [(2, .int 0), (4, .int 0), (3, .int 0), (1, .ref (u1 0)), (0, .ref h0)]) hx hb dX6_unlearn_55 rfl hl (by decide) rfl (fun ls hl => ?_)
  refine lv_iinc (v := 1) (lv' := [(4, .int 1), (2, .int 0), (3, .int 0), (1, .ref (u1 0)), (0, .ref h0)]) hx hb dX6_unlearn_56 hl (k := 1) rfl (by decide) (by decide) rfl (fun ls hl => ?_)
  refine lv_goto (tgt := 30) hx hb dX6_unlearn_59 (by decide) ?_
  refine lv_iload hx hb dX6_unlearn_30 (lv_at hl 0 rfl) ?_
  refine lv_aload_n hx hb dX6_unlearn_32 rfl (lv_at hl 3 rfl) ?_
  refine lv_iload_n hx hb dX6_unlearn_33 rfl (lv_at hl 2 rfl) ?_
  refine ya_ld2 hx hb hK hP 7 rfl (vpl (by decide)) (v := .ref (u1 1)) rfl dX6_unlearn_34 ?_
  refine va_alen hx hb hK hP 8 0 rfl rfl (v := 14) (by decide) dX6_unlearn_35 ?_
  refine lv_icmp_ge (tgt := 62) hx hb dX6_unlearn_36 (by decide) (fun h => absurd h (by decide)) (fun _ => ?_)
  refine lv_iload_n hx hb dX6_unlearn_39 rfl (lv_at hl 1 rfl) ?_
  refine lv_aload_n hx hb dX6_unlearn_40 rfl (lv_at hl 3 rfl) ?_
  refine lv_iload_n hx hb dX6_unlearn_41 rfl (lv_at hl 2 rfl) ?_
  refine ya_ld2 hx hb hK hP 7 rfl (vpl (by decide)) (v := .ref (u1 1)) rfl dX6_unlearn_42 ?_
  refine lv_iload hx hb dX6_unlearn_43 (lv_at hl 0 rfl) ?_
  refine va_iald (cA := κ 0) (n := 14) (f := (upd (fun _ => 0) 1 (-1))) hx hb hK hP 8 0 rfl rfl (vpl (by decide)) dX6_unlearn_45 ?_
  refine tpi (v := (-1)) (by decide) ?_
  refine lv_if_ge (tgt := 53) hx hb dX6_unlearn_46 (by decide) (fun h => absurd h (by decide)) (fun _ => ?_)
  refine lv_iconst (v := 1) hx hb dX6_unlearn_49 (by decide) ?_
  refine lv_goto (tgt := 54) hx hb dX6_unlearn_50 (by decide) ?_
  refine lv_ior hx hb dX6_unlearn_54 ?_
  refine tpi (v := 1) (by decide) ?_
  refine lv_istore_n (lv' := [(2, .int 1), (4, .int 1), (3, .int 0), (1, .ref (u1 0)), (0, .ref h0)]) hx hb dX6_unlearn_55 rfl hl (by decide) rfl (fun ls hl => ?_)
  refine lv_iinc (v := 2) (lv' := [(4, .int 2), (2, .int 1), (3, .int 0), (1, .ref (u1 0)), (0, .ref h0)]) hx hb dX6_unlearn_56 hl (k := 1) rfl (by decide) (by decide) rfl (fun ls hl => ?_)
  refine lv_goto (tgt := 30) hx hb dX6_unlearn_59 (by decide) ?_
  refine loop_up (Wp := fun ls => W p l e _ s m _ below meth c H _ _ _ _ (F0 m 30 ls [])) (N := 14) (lv := fun i => [(0, .ref h0), (1, .ref (u1 0)), (2, .int 1), (3, .int 0), (4, .int (nI i))]) 2 (by decide) ?_ ?_ ls (lv_sub hl [4, 3, 1, 2, 0] rfl)
  · intro ls hl
    have hl : lv_has ls 5 [(0, .ref h0), (1, .ref (u1 0)), (2, .int 1), (3, .int 0), (4, .int 14)] := hl
    refine lv_iload hx hb dX6_unlearn_30 (lv_at hl 4 rfl) ?_
    refine lv_aload_n hx hb dX6_unlearn_32 rfl (lv_at hl 1 rfl) ?_
    refine lv_iload_n hx hb dX6_unlearn_33 rfl (lv_at hl 3 rfl) ?_
    refine ya_ld2 hx hb hK hP 7 rfl (vpl (by decide)) (v := .ref (u1 1)) rfl dX6_unlearn_34 ?_
    refine va_alen hx hb hK hP 8 0 rfl rfl (v := 14) (by decide) dX6_unlearn_35 ?_
    refine lv_icmp_ge (tgt := 62) hx hb dX6_unlearn_36 (by decide) (fun _ => ?_) (fun h => absurd (by decide) h)
    refine lv_iinc (v := 1) (lv' := [(3, .int 1), (0, .ref h0), (1, .ref (u1 0)), (2, .int 1), (4, .int 14)]) hx hb dX6_unlearn_62 hl (k := 3) rfl (by decide) (by decide) rfl (fun ls hl => ?_)
    refine lv_goto (tgt := 22) hx hb dX6_unlearn_65 (by decide) ?_
    refine lv_iload_n hx hb dX6_unlearn_22 rfl (lv_at hl 0 rfl) ?_
    refine lv_iconst (v := 4) hx hb dX6_unlearn_23 (by decide) ?_
    refine lv_icmp_ge (tgt := 68) hx hb dX6_unlearn_24 (by decide) (fun h => absurd h (by decide)) (fun _ => ?_)
    refine lv_iconst (v := 0) hx hb dX6_unlearn_27 (by decide) ?_
    refine lv_istore (lv' := [(4, .int 0), (3, .int 1), (0, .ref h0), (1, .ref (u1 0)), (2, .int 1)]) hx hb dX6_unlearn_28 hl (by decide) rfl (fun ls hl => ?_)
    refine lv_iload hx hb dX6_unlearn_30 (lv_at hl 0 rfl) ?_
    refine lv_aload_n hx hb dX6_unlearn_32 rfl (lv_at hl 3 rfl) ?_
    refine lv_iload_n hx hb dX6_unlearn_33 rfl (lv_at hl 1 rfl) ?_
    refine ya_ld2 hx hb hK hP 7 rfl (vpl (by decide)) (v := .ref (u1 2)) rfl dX6_unlearn_34 ?_
    refine va_alen hx hb hK hP 9 0 rfl rfl (v := 196) (by decide) dX6_unlearn_35 ?_
    refine lv_icmp_ge (tgt := 62) hx hb dX6_unlearn_36 (by decide) (fun h => absurd h (by decide)) (fun _ => ?_)
    refine lv_iload_n hx hb dX6_unlearn_39 rfl (lv_at hl 4 rfl) ?_
    refine lv_aload_n hx hb dX6_unlearn_40 rfl (lv_at hl 3 rfl) ?_
    refine lv_iload_n hx hb dX6_unlearn_41 rfl (lv_at hl 1 rfl) ?_
    refine ya_ld2 hx hb hK hP 7 rfl (vpl (by decide)) (v := .ref (u1 2)) rfl dX6_unlearn_42 ?_
    refine lv_iload hx hb dX6_unlearn_43 (lv_at hl 0 rfl) ?_
    refine va_iald (cA := κ 0) (n := 196) (f := (upd (fun _ => 0) 1 (-1))) hx hb hK hP 9 0 rfl rfl (vpl (by decide)) dX6_unlearn_45 ?_
    refine tpi (v := 0) (by decide) ?_
    refine lv_if_ge (tgt := 53) hx hb dX6_unlearn_46 (by decide) (fun _ => ?_) (fun h => absurd (by decide) h)
    refine lv_iconst (v := 0) hx hb dX6_unlearn_53 (by decide) ?_
    refine lv_ior hx hb dX6_unlearn_54 ?_
    refine tpi (v := 1) (by decide) ?_
    refine lv_istore_n (lv' := [(2, .int 1), (4, .int 0), (3, .int 1), (0, .ref h0), (1, .ref (u1 0))]) hx hb dX6_unlearn_55 rfl hl (by decide) rfl (fun ls hl => ?_)
    refine lv_iinc (v := 1) (lv' := [(4, .int 1), (2, .int 1), (3, .int 1), (0, .ref h0), (1, .ref (u1 0))]) hx hb dX6_unlearn_56 hl (k := 1) rfl (by decide) (by decide) rfl (fun ls hl => ?_)
    refine lv_goto (tgt := 30) hx hb dX6_unlearn_59 (by decide) ?_
    refine lv_iload hx hb dX6_unlearn_30 (lv_at hl 0 rfl) ?_
    refine lv_aload_n hx hb dX6_unlearn_32 rfl (lv_at hl 4 rfl) ?_
    refine lv_iload_n hx hb dX6_unlearn_33 rfl (lv_at hl 2 rfl) ?_
    refine ya_ld2 hx hb hK hP 7 rfl (vpl (by decide)) (v := .ref (u1 2)) rfl dX6_unlearn_34 ?_
    refine va_alen hx hb hK hP 9 0 rfl rfl (v := 196) (by decide) dX6_unlearn_35 ?_
    refine lv_icmp_ge (tgt := 62) hx hb dX6_unlearn_36 (by decide) (fun h => absurd h (by decide)) (fun _ => ?_)
    refine lv_iload_n hx hb dX6_unlearn_39 rfl (lv_at hl 1 rfl) ?_
    refine lv_aload_n hx hb dX6_unlearn_40 rfl (lv_at hl 4 rfl) ?_
    refine lv_iload_n hx hb dX6_unlearn_41 rfl (lv_at hl 2 rfl) ?_
    refine ya_ld2 hx hb hK hP 7 rfl (vpl (by decide)) (v := .ref (u1 2)) rfl dX6_unlearn_42 ?_
    refine lv_iload hx hb dX6_unlearn_43 (lv_at hl 0 rfl) ?_
    refine va_iald (cA := κ 0) (n := 196) (f := (upd (fun _ => 0) 1 (-1))) hx hb hK hP 9 0 rfl rfl (vpl (by decide)) dX6_unlearn_45 ?_
    refine tpi (v := (-1)) (by decide) ?_
    refine lv_if_ge (tgt := 53) hx hb dX6_unlearn_46 (by decide) (fun h => absurd h (by decide)) (fun _ => ?_)
    refine lv_iconst (v := 1) hx hb dX6_unlearn_49 (by decide) ?_
    refine lv_goto (tgt := 54) hx hb dX6_unlearn_50 (by decide) ?_
    refine lv_ior hx hb dX6_unlearn_54 ?_
    refine tpi (v := 1) (by decide) ?_
    refine lv_istore_n (lv' := [(2, .int 1), (4, .int 1), (3, .int 1), (0, .ref h0), (1, .ref (u1 0))]) hx hb dX6_unlearn_55 rfl hl (by decide) rfl (fun ls hl => ?_)
    refine lv_iinc (v := 2) (lv' := [(4, .int 2), (2, .int 1), (3, .int 1), (0, .ref h0), (1, .ref (u1 0))]) hx hb dX6_unlearn_56 hl (k := 1) rfl (by decide) (by decide) rfl (fun ls hl => ?_)
    refine lv_goto (tgt := 30) hx hb dX6_unlearn_59 (by decide) ?_
    refine loop_up (Wp := fun ls => W p l e _ s m _ below meth c H _ _ _ _ (F0 m 30 ls [])) (N := 196) (lv := fun i => [(0, .ref h0), (1, .ref (u1 0)), (2, .int 1), (3, .int 1), (4, .int (nI i))]) 2 (by decide) ?_ ?_ ls (lv_sub hl [3, 4, 1, 2, 0] rfl)
    · intro ls hl
      have hl : lv_has ls 5 [(0, .ref h0), (1, .ref (u1 0)), (2, .int 1), (3, .int 1), (4, .int 196)] := hl
      refine lv_iload hx hb dX6_unlearn_30 (lv_at hl 4 rfl) ?_
      refine lv_aload_n hx hb dX6_unlearn_32 rfl (lv_at hl 1 rfl) ?_
      refine lv_iload_n hx hb dX6_unlearn_33 rfl (lv_at hl 3 rfl) ?_
      refine ya_ld2 hx hb hK hP 7 rfl (vpl (by decide)) (v := .ref (u1 2)) rfl dX6_unlearn_34 ?_
      refine va_alen hx hb hK hP 9 0 rfl rfl (v := 196) (by decide) dX6_unlearn_35 ?_
      refine lv_icmp_ge (tgt := 62) hx hb dX6_unlearn_36 (by decide) (fun _ => ?_) (fun h => absurd (by decide) h)
      refine lv_iinc (v := 2) (lv' := [(3, .int 2), (0, .ref h0), (1, .ref (u1 0)), (2, .int 1), (4, .int 196)]) hx hb dX6_unlearn_62 hl (k := 3) rfl (by decide) (by decide) rfl (fun ls hl => ?_)
      refine lv_goto (tgt := 22) hx hb dX6_unlearn_65 (by decide) ?_
      refine lv_iload_n hx hb dX6_unlearn_22 rfl (lv_at hl 0 rfl) ?_
      refine lv_iconst (v := 4) hx hb dX6_unlearn_23 (by decide) ?_
      refine lv_icmp_ge (tgt := 68) hx hb dX6_unlearn_24 (by decide) (fun h => absurd h (by decide)) (fun _ => ?_)
      refine lv_iconst (v := 0) hx hb dX6_unlearn_27 (by decide) ?_
      refine lv_istore (lv' := [(4, .int 0), (3, .int 2), (0, .ref h0), (1, .ref (u1 0)), (2, .int 1)]) hx hb dX6_unlearn_28 hl (by decide) rfl (fun ls hl => ?_)
      refine loop_up (Wp := fun ls => W p l e _ s m _ below meth c H _ _ _ _ (F0 m 30 ls [])) (N := 2744) (lv := fun i => [(0, .ref h0), (1, .ref (u1 0)), (2, .int 1), (3, .int 2), (4, .int (nI i))]) 0 (by decide) ?_ ?_ ls (lv_sub hl [2, 3, 4, 1, 0] rfl)
      · intro ls hl
        have hl : lv_has ls 5 [(0, .ref h0), (1, .ref (u1 0)), (2, .int 1), (3, .int 2), (4, .int 2744)] := hl
        refine lv_iload hx hb dX6_unlearn_30 (lv_at hl 4 rfl) ?_
        refine lv_aload_n hx hb dX6_unlearn_32 rfl (lv_at hl 1 rfl) ?_
        refine lv_iload_n hx hb dX6_unlearn_33 rfl (lv_at hl 3 rfl) ?_
        refine ya_ld2 hx hb hK hP 7 rfl (vpl (by decide)) (v := .ref (u1 3)) rfl dX6_unlearn_34 ?_
        refine va_alen hx hb hK hP 10 0 rfl rfl (v := 2744) (by decide) dX6_unlearn_35 ?_
        refine lv_icmp_ge (tgt := 62) hx hb dX6_unlearn_36 (by decide) (fun _ => ?_) (fun h => absurd (by decide) h)
        refine lv_iinc (v := 3) (lv' := [(3, .int 3), (0, .ref h0), (1, .ref (u1 0)), (2, .int 1), (4, .int 2744)]) hx hb dX6_unlearn_62 hl (k := 3) rfl (by decide) (by decide) rfl (fun ls hl => ?_)
        refine lv_goto (tgt := 22) hx hb dX6_unlearn_65 (by decide) ?_
        refine lv_iload_n hx hb dX6_unlearn_22 rfl (lv_at hl 0 rfl) ?_
        refine lv_iconst (v := 4) hx hb dX6_unlearn_23 (by decide) ?_
        refine lv_icmp_ge (tgt := 68) hx hb dX6_unlearn_24 (by decide) (fun h => absurd h (by decide)) (fun _ => ?_)
        refine lv_iconst (v := 0) hx hb dX6_unlearn_27 (by decide) ?_
        refine lv_istore (lv' := [(4, .int 0), (3, .int 3), (0, .ref h0), (1, .ref (u1 0)), (2, .int 1)]) hx hb dX6_unlearn_28 hl (by decide) rfl (fun ls hl => ?_)
        refine loop_up (Wp := fun ls => W p l e _ s m _ below meth c H _ _ _ _ (F0 m 30 ls [])) (N := 38416) (lv := fun i => [(0, .ref h0), (1, .ref (u1 0)), (2, .int 1), (3, .int 3), (4, .int (nI i))]) 0 (by decide) ?_ ?_ ls (lv_sub hl [2, 3, 4, 1, 0] rfl)
        · intro ls hl
          have hl : lv_has ls 5 [(0, .ref h0), (1, .ref (u1 0)), (2, .int 1), (3, .int 3), (4, .int 38416)] := hl
          refine lv_iload hx hb dX6_unlearn_30 (lv_at hl 4 rfl) ?_
          refine lv_aload_n hx hb dX6_unlearn_32 rfl (lv_at hl 1 rfl) ?_
          refine lv_iload_n hx hb dX6_unlearn_33 rfl (lv_at hl 3 rfl) ?_
          refine ya_ld2 hx hb hK hP 7 rfl (vpl (by decide)) (v := .ref (u1 4)) rfl dX6_unlearn_34 ?_
          refine va_alen hx hb hK hP 11 0 rfl rfl (v := 38416) (by decide) dX6_unlearn_35 ?_
          refine lv_icmp_ge (tgt := 62) hx hb dX6_unlearn_36 (by decide) (fun _ => ?_) (fun h => absurd (by decide) h)
          refine lv_iinc (v := 4) (lv' := [(3, .int 4), (0, .ref h0), (1, .ref (u1 0)), (2, .int 1), (4, .int 38416)]) hx hb dX6_unlearn_62 hl (k := 3) rfl (by decide) (by decide) rfl (fun ls hl => ?_)
          refine lv_goto (tgt := 22) hx hb dX6_unlearn_65 (by decide) ?_
          refine lv_iload_n hx hb dX6_unlearn_22 rfl (lv_at hl 0 rfl) ?_
          refine lv_iconst (v := 4) hx hb dX6_unlearn_23 (by decide) ?_
          refine lv_icmp_ge (tgt := 68) hx hb dX6_unlearn_24 (by decide) (fun _ => ?_) (fun h => absurd (by decide) h)
          refine lv_aload_n hx hb dX6_unlearn_68 rfl (lv_at hl 1 rfl) ?_
          refine lv_iload_n hx hb dX6_unlearn_69 rfl (lv_at hl 3 rfl) ?_
          refine lv_iconst (v := 1) hx hb dX6_unlearn_70 (by decide) ?_
          have hF := va_free (wc := [(h0, .inr (8, [.int 0, .int 0, .int 2, .ref h1, .ref h2, .int 0, .int 500, .int 0, .int 0, .int 0, .ref h3]))]) hD hS hA [0] rfl
          refine va_calli (va_runV (As := [.int 1, .int 1]) (rest := []) ⟨hx, hb, hml, hown, hts⟩ (k_X6_start_1 l D κ ε h0 h1 h2 h3 H.size (0) (2) (0) (500) (0) (0)) (cwV 2 hts gX6_unlearn_X6_start rfl rfl rfl (by decide +kernel) ⟨(Nat.le_of_ble_eq_true rfl), (Nat.le_of_ble_eq_true rfl)⟩) (pre2_V (q0 := 0) (ci := 8) (wc := [(h0, .inr (8, [.int 0, .int 0, .int 2, .ref h1, .ref h2, .int 0, .int 500, .int 0, .int 0, .int 0, .ref h3]))]) hP hD hK hE9 hS hA [0] (by decide) rfl rfl rfl) rfl rfl hl.1 rfl (lv_room (Nat.le_of_ble_eq_true rfl)) dX6_unlearn_71 ⟨(Nat.le_of_ble_eq_true rfl), (Nat.le_of_ble_eq_true rfl)⟩) hS (fun q _ h => hF q h) hF (fun r u7 t H locs ht hvm hw hB hz1 hk1 hS => ?_)
          try dsimp only at hw hB
          obtain ⟨hP1, hD1⟩ := hB
          rw [ht] at hP1
          obtain ⟨hP, hD⟩ := post_j (ws' := [(h0, .inr (8, [.int 1, .int 0, .int 2, .ref h1, .ref h2, .int 0, .int 500, .int 0, .int 0, .int 0, .ref h3])), (h1, .inr (1, [.int 0, .ref (ε 1), .int 0])), (h2, .inl (κ 4, 4, .inr (.inr (.inr (.inr (sel [h4, h5, h6, h7])))))), (h4, .inl (κ 0, 14, .inl (fun _ => 0))), (h5, .inl (κ 0, 196, .inl (fun _ => 0))), (h6, .inl (κ 0, 2744, .inl (fun _ => 0))), (h7, .inl (κ 0, 38416, .inl (fun _ => 0))), ((u1 0), .inl (κ 4, 4, .inr (.inr (.inr (.inr (sel [(u1 1), (u1 2), (u1 3), (u1 4)])))))), ((u1 1), .inl (κ 0, 14, .inl (upd (fun _ => 0) 1 (-1)))), ((u1 2), .inl (κ 0, 196, .inl (upd (fun _ => 0) 1 (-1)))), ((u1 3), .inl (κ 0, 2744, .inl (fun _ => 0))), ((u1 4), .inl (κ 0, 38416, .inl (fun _ => 0)))]) (wr := [(h1, .inr (1, [.int 0, .ref (ε 1), .int 0])), (h2, .inl (κ 4, 4, .inr (.inr (.inr (.inr (sel [h4, h5, h6, h7])))))), (h4, .inl (κ 0, 14, .inl (fun _ => 0))), (h5, .inl (κ 0, 196, .inl (fun _ => 0))), (h6, .inl (κ 0, 2744, .inl (fun _ => 0))), (h7, .inl (κ 0, 38416, .inl (fun _ => 0))), ((u1 0), .inl (κ 4, 4, .inr (.inr (.inr (.inr (sel [(u1 1), (u1 2), (u1 3), (u1 4)])))))), ((u1 1), .inl (κ 0, 14, .inl (upd (fun _ => 0) 1 (-1)))), ((u1 2), .inl (κ 0, 196, .inl (upd (fun _ => 0) 1 (-1)))), ((u1 3), .inl (κ 0, 2744, .inl (fun _ => 0))), ((u1 4), .inl (κ 0, 38416, .inl (fun _ => 0)))]) (w1 := [(h0, .inr (8, [.int 1, .int 0, .int 2, .ref h1, .ref h2, .int 0, .int 500, .int 0, .int 0, .int 0, .ref h3]))]) hP hD hF [0] rfl [1, 2, 3, 4, 5, 6, 7, 8, 9, 10, 11] rfl (by decide) (by decide) hk1 hP1 hD1 [11, 0, 1, 2, 3, 4, 5, 6, 7, 8, 9, 10] (by decide) rfl
          have hP : va_P D vwCl [(h0, .inr (8, [.int 1, .int 0, .int 2, .ref h1, .ref h2, .int 0, .int 500, .int 0, .int 0, .int 0, .ref h3])), (h1, .inr (1, [.int 0, .ref (ε 1), .int 0])), (h2, .inl (κ 4, 4, .inr (.inr (.inr (.inr (sel [h4, h5, h6, h7])))))), (h4, .inl (κ 0, 14, .inl (fun _ => 0))), (h5, .inl (κ 0, 196, .inl (fun _ => 0))), (h6, .inl (κ 0, 2744, .inl (fun _ => 0))), (h7, .inl (κ 0, 38416, .inl (fun _ => 0))), ((u1 0), .inl (κ 4, 4, .inr (.inr (.inr (.inr (sel [(u1 1), (u1 2), (u1 3), (u1 4)])))))), ((u1 1), .inl (κ 0, 14, .inl (upd (fun _ => 0) 1 (-1)))), ((u1 2), .inl (κ 0, 196, .inl (upd (fun _ => 0) 1 (-1)))), ((u1 3), .inl (κ 0, 2744, .inl (fun _ => 0))), ((u1 4), .inl (κ 0, 38416, .inl (fun _ => 0)))] H := hP
          have hD : va_D A [(h0, .inr (8, [.int 1, .int 0, .int 2, .ref h1, .ref h2, .int 0, .int 500, .int 0, .int 0, .int 0, .ref h3])), (h1, .inr (1, [.int 0, .ref (ε 1), .int 0])), (h2, .inl (κ 4, 4, .inr (.inr (.inr (.inr (sel [h4, h5, h6, h7])))))), (h4, .inl (κ 0, 14, .inl (fun _ => 0))), (h5, .inl (κ 0, 196, .inl (fun _ => 0))), (h6, .inl (κ 0, 2744, .inl (fun _ => 0))), (h7, .inl (κ 0, 38416, .inl (fun _ => 0))), ((u1 0), .inl (κ 4, 4, .inr (.inr (.inr (.inr (sel [(u1 1), (u1 2), (u1 3), (u1 4)])))))), ((u1 1), .inl (κ 0, 14, .inl (upd (fun _ => 0) 1 (-1)))), ((u1 2), .inl (κ 0, 196, .inl (upd (fun _ => 0) 1 (-1)))), ((u1 3), .inl (κ 0, 2744, .inl (fun _ => 0))), ((u1 4), .inl (κ 0, 38416, .inl (fun _ => 0)))] := hD
          rw [hw]
          refine lv_if_eq (tgt := 79) hx hb dX6_unlearn_74 (by decide) (fun h => absurd h (by decide)) (fun _ => ?_)
          refine lv_iconst (v := 0) hx hb dX6_unlearn_77 (by decide) ?_
          have hP9 := hP.sub (ws' := [(h0, .inr (8, [.int 1, .int 0, .int 2, .ref h1, .ref h2, .int 0, .int 500, .int 0, .int 0, .int 0, .ref h3]))]) [0] rfl
          have hD9 := hD.sub (ws' := [(h0, .inr (8, [.int 1, .int 0, .int 2, .ref h1, .ref h2, .int 0, .int 500, .int 0, .int 0, .int 0, .ref h3]))]) [0] (by decide) rfl
          refine W.widen (k := 5) (n := 41374) (Nat.le_of_ble_eq_true rfl) (Nat.le_of_ble_eq_true rfl) ?_
          exact W.iret (v := 0) hx hb hr (fun t ht hW => ⟨⟨0, [.int 1, .int 0, .int 2, .ref h1, .ref h2, .int 0, .int 500, .int 0, .int 0, .int 0, .ref h3], rfl, ⟨rfl, rfl⟩, by rw [ht]; exact hP9, hD9⟩, hS.F ht⟩) hS.2.2 dX6_unlearn_78
        · intro i6 hji6 hii6 ihi6 ls hl
          have hl : lv_has ls 5 [(0, .ref h0), (1, .ref (u1 0)), (2, .int 1), (3, .int 3), (4, .int (nI i6))] := hl
          refine lv_iload hx hb dX6_unlearn_30 (lv_at hl 4 rfl) ?_
          refine lv_aload_n hx hb dX6_unlearn_32 rfl (lv_at hl 1 rfl) ?_
          refine lv_iload_n hx hb dX6_unlearn_33 rfl (lv_at hl 3 rfl) ?_
          refine ya_ld2 hx hb hK hP 7 rfl (vpl (by decide)) (v := .ref (u1 4)) rfl dX6_unlearn_34 ?_
          refine va_alen hx hb hK hP 11 0 rfl rfl (v := 38416) (by decide) dX6_unlearn_35 ?_
          refine lv_icmp_ge (tgt := 62) hx hb dX6_unlearn_36 (by decide) (fun h => absurd h (lp_nge (N := 38416) rfl hii6 (by decide))) (fun _ => ?_)
          refine lv_iload_n hx hb dX6_unlearn_39 rfl (lv_at hl 2 rfl) ?_
          refine lv_aload_n hx hb dX6_unlearn_40 rfl (lv_at hl 1 rfl) ?_
          refine lv_iload_n hx hb dX6_unlearn_41 rfl (lv_at hl 3 rfl) ?_
          refine ya_ld2 hx hb hK hP 7 rfl (vpl (by decide)) (v := .ref (u1 4)) rfl dX6_unlearn_42 ?_
          refine lv_iload hx hb dX6_unlearn_43 (lv_at hl 4 rfl) ?_
          refine va_iald (cA := κ 0) (n := 38416) (f := (fun _ => 0)) hx hb hK hP 11 0 rfl rfl (vp_in_nI (Nat.lt_of_lt_of_le hii6 (by decide)) (by decide)) dX6_unlearn_45 ?_
          refine tpi (v := 0) rfl ?_
          refine lv_if_ge (tgt := 53) hx hb dX6_unlearn_46 (by decide) (fun _ => ?_) (fun h => absurd (by decide) h)
          refine lv_iconst (v := 0) hx hb dX6_unlearn_53 (by decide) ?_
          refine lv_ior hx hb dX6_unlearn_54 ?_
          refine tpi (v := 1) (by decide) ?_
          refine lv_istore_n (lv' := [(2, .int 1), (0, .ref h0), (1, .ref (u1 0)), (3, .int 3), (4, .int (nI i6))]) hx hb dX6_unlearn_55 rfl hl (by decide) rfl (fun ls hl => ?_)
          refine lv_iinc (v := (nI (i6 + 1))) (lv' := [(4, .int (nI (i6 + 1))), (2, .int 1), (0, .ref h0), (1, .ref (u1 0)), (3, .int 3)]) hx hb dX6_unlearn_56 hl (k := 4) rfl (nI_inc _) (by decide) rfl (fun ls hl => ?_)
          refine lv_goto (tgt := 30) hx hb dX6_unlearn_59 (by decide) ?_
          exact ihi6 _ (lv_sub hl [2, 3, 1, 4, 0] rfl)
      · intro i5 hji5 hii5 ihi5 ls hl
        have hl : lv_has ls 5 [(0, .ref h0), (1, .ref (u1 0)), (2, .int 1), (3, .int 2), (4, .int (nI i5))] := hl
        refine lv_iload hx hb dX6_unlearn_30 (lv_at hl 4 rfl) ?_
        refine lv_aload_n hx hb dX6_unlearn_32 rfl (lv_at hl 1 rfl) ?_
        refine lv_iload_n hx hb dX6_unlearn_33 rfl (lv_at hl 3 rfl) ?_
        refine ya_ld2 hx hb hK hP 7 rfl (vpl (by decide)) (v := .ref (u1 3)) rfl dX6_unlearn_34 ?_
        refine va_alen hx hb hK hP 10 0 rfl rfl (v := 2744) (by decide) dX6_unlearn_35 ?_
        refine lv_icmp_ge (tgt := 62) hx hb dX6_unlearn_36 (by decide) (fun h => absurd h (lp_nge (N := 2744) rfl hii5 (by decide))) (fun _ => ?_)
        refine lv_iload_n hx hb dX6_unlearn_39 rfl (lv_at hl 2 rfl) ?_
        refine lv_aload_n hx hb dX6_unlearn_40 rfl (lv_at hl 1 rfl) ?_
        refine lv_iload_n hx hb dX6_unlearn_41 rfl (lv_at hl 3 rfl) ?_
        refine ya_ld2 hx hb hK hP 7 rfl (vpl (by decide)) (v := .ref (u1 3)) rfl dX6_unlearn_42 ?_
        refine lv_iload hx hb dX6_unlearn_43 (lv_at hl 4 rfl) ?_
        refine va_iald (cA := κ 0) (n := 2744) (f := (fun _ => 0)) hx hb hK hP 10 0 rfl rfl (vp_in_nI (Nat.lt_of_lt_of_le hii5 (by decide)) (by decide)) dX6_unlearn_45 ?_
        refine tpi (v := 0) rfl ?_
        refine lv_if_ge (tgt := 53) hx hb dX6_unlearn_46 (by decide) (fun _ => ?_) (fun h => absurd (by decide) h)
        refine lv_iconst (v := 0) hx hb dX6_unlearn_53 (by decide) ?_
        refine lv_ior hx hb dX6_unlearn_54 ?_
        refine tpi (v := 1) (by decide) ?_
        refine lv_istore_n (lv' := [(2, .int 1), (0, .ref h0), (1, .ref (u1 0)), (3, .int 2), (4, .int (nI i5))]) hx hb dX6_unlearn_55 rfl hl (by decide) rfl (fun ls hl => ?_)
        refine lv_iinc (v := (nI (i5 + 1))) (lv' := [(4, .int (nI (i5 + 1))), (2, .int 1), (0, .ref h0), (1, .ref (u1 0)), (3, .int 2)]) hx hb dX6_unlearn_56 hl (k := 4) rfl (nI_inc _) (by decide) rfl (fun ls hl => ?_)
        refine lv_goto (tgt := 30) hx hb dX6_unlearn_59 (by decide) ?_
        exact ihi5 _ (lv_sub hl [2, 3, 1, 4, 0] rfl)
    · intro i4 hji4 hii4 ihi4 ls hl
      have hl : lv_has ls 5 [(0, .ref h0), (1, .ref (u1 0)), (2, .int 1), (3, .int 1), (4, .int (nI i4))] := hl
      refine lv_iload hx hb dX6_unlearn_30 (lv_at hl 4 rfl) ?_
      refine lv_aload_n hx hb dX6_unlearn_32 rfl (lv_at hl 1 rfl) ?_
      refine lv_iload_n hx hb dX6_unlearn_33 rfl (lv_at hl 3 rfl) ?_
      refine ya_ld2 hx hb hK hP 7 rfl (vpl (by decide)) (v := .ref (u1 2)) rfl dX6_unlearn_34 ?_
      refine va_alen hx hb hK hP 9 0 rfl rfl (v := 196) (by decide) dX6_unlearn_35 ?_
      refine lv_icmp_ge (tgt := 62) hx hb dX6_unlearn_36 (by decide) (fun h => absurd h (lp_nge (N := 196) rfl hii4 (by decide))) (fun _ => ?_)
      refine lv_iload_n hx hb dX6_unlearn_39 rfl (lv_at hl 2 rfl) ?_
      refine lv_aload_n hx hb dX6_unlearn_40 rfl (lv_at hl 1 rfl) ?_
      refine lv_iload_n hx hb dX6_unlearn_41 rfl (lv_at hl 3 rfl) ?_
      refine ya_ld2 hx hb hK hP 7 rfl (vpl (by decide)) (v := .ref (u1 2)) rfl dX6_unlearn_42 ?_
      refine lv_iload hx hb dX6_unlearn_43 (lv_at hl 4 rfl) ?_
      refine va_iald (cA := κ 0) (n := 196) (f := (upd (fun _ => 0) 1 (-1))) hx hb hK hP 9 0 rfl rfl (vp_in_nI (Nat.lt_of_lt_of_le hii4 (by decide)) (by decide)) dX6_unlearn_45 ?_
      refine tpi (v := 0) (by rw [nI_clamp (by omega)]; exact if_neg (by omega)) ?_
      refine lv_if_ge (tgt := 53) hx hb dX6_unlearn_46 (by decide) (fun _ => ?_) (fun h => absurd (by decide) h)
      refine lv_iconst (v := 0) hx hb dX6_unlearn_53 (by decide) ?_
      refine lv_ior hx hb dX6_unlearn_54 ?_
      refine tpi (v := 1) (by decide) ?_
      refine lv_istore_n (lv' := [(2, .int 1), (0, .ref h0), (1, .ref (u1 0)), (3, .int 1), (4, .int (nI i4))]) hx hb dX6_unlearn_55 rfl hl (by decide) rfl (fun ls hl => ?_)
      refine lv_iinc (v := (nI (i4 + 1))) (lv' := [(4, .int (nI (i4 + 1))), (2, .int 1), (0, .ref h0), (1, .ref (u1 0)), (3, .int 1)]) hx hb dX6_unlearn_56 hl (k := 4) rfl (nI_inc _) (by decide) rfl (fun ls hl => ?_)
      refine lv_goto (tgt := 30) hx hb dX6_unlearn_59 (by decide) ?_
      exact ihi4 _ (lv_sub hl [2, 3, 1, 4, 0] rfl)
  · intro i3 hji3 hii3 ihi3 ls hl
    have hl : lv_has ls 5 [(0, .ref h0), (1, .ref (u1 0)), (2, .int 1), (3, .int 0), (4, .int (nI i3))] := hl
    refine lv_iload hx hb dX6_unlearn_30 (lv_at hl 4 rfl) ?_
    refine lv_aload_n hx hb dX6_unlearn_32 rfl (lv_at hl 1 rfl) ?_
    refine lv_iload_n hx hb dX6_unlearn_33 rfl (lv_at hl 3 rfl) ?_
    refine ya_ld2 hx hb hK hP 7 rfl (vpl (by decide)) (v := .ref (u1 1)) rfl dX6_unlearn_34 ?_
    refine va_alen hx hb hK hP 8 0 rfl rfl (v := 14) (by decide) dX6_unlearn_35 ?_
    refine lv_icmp_ge (tgt := 62) hx hb dX6_unlearn_36 (by decide) (fun h => absurd h (lp_nge (N := 14) rfl hii3 (by decide))) (fun _ => ?_)
    refine lv_iload_n hx hb dX6_unlearn_39 rfl (lv_at hl 2 rfl) ?_
    refine lv_aload_n hx hb dX6_unlearn_40 rfl (lv_at hl 1 rfl) ?_
    refine lv_iload_n hx hb dX6_unlearn_41 rfl (lv_at hl 3 rfl) ?_
    refine ya_ld2 hx hb hK hP 7 rfl (vpl (by decide)) (v := .ref (u1 1)) rfl dX6_unlearn_42 ?_
    refine lv_iload hx hb dX6_unlearn_43 (lv_at hl 4 rfl) ?_
    refine va_iald (cA := κ 0) (n := 14) (f := (upd (fun _ => 0) 1 (-1))) hx hb hK hP 8 0 rfl rfl (vp_in_nI (Nat.lt_of_lt_of_le hii3 (by decide)) (by decide)) dX6_unlearn_45 ?_
    refine tpi (v := 0) (by rw [nI_clamp (by omega)]; exact if_neg (by omega)) ?_
    refine lv_if_ge (tgt := 53) hx hb dX6_unlearn_46 (by decide) (fun _ => ?_) (fun h => absurd (by decide) h)
    refine lv_iconst (v := 0) hx hb dX6_unlearn_53 (by decide) ?_
    refine lv_ior hx hb dX6_unlearn_54 ?_
    refine tpi (v := 1) (by decide) ?_
    refine lv_istore_n (lv' := [(2, .int 1), (0, .ref h0), (1, .ref (u1 0)), (3, .int 0), (4, .int (nI i3))]) hx hb dX6_unlearn_55 rfl hl (by decide) rfl (fun ls hl => ?_)
    refine lv_iinc (v := (nI (i3 + 1))) (lv' := [(4, .int (nI (i3 + 1))), (2, .int 1), (0, .ref h0), (1, .ref (u1 0)), (3, .int 0)]) hx hb dX6_unlearn_56 hl (k := 4) rfl (nI_inc _) (by decide) rfl (fun ls hl => ?_)
    refine lv_goto (tgt := 30) hx hb dX6_unlearn_59 (by decide) ?_
    exact ihi3 _ (lv_sub hl [2, 3, 1, 4, 0] rfl)

set_option maxHeartbeats 4000000 in
set_option maxRecDepth 100000 in
theorem case_5 {p : Program} {e : Env} {s : State} {m : MethodId} {below : List Frame} {meth : Method} {c : Code} (l : Launch) (hst : l.stackTraces = false) {b : Nat} {xs : Nat → Int32} (C0 : lw_At p s m meth c b 4 xs) (D : va_G) (κ ε : Nat → Nat) (hK : va_K D vwCl (tys κ) s) (hE9 : En2 ε (fun q : Nat => s.heap.size ≤ q) s s.heap) (qx qm qo : Nat) (ux um : Nat → Nat) {H : Heap} {locs : List Loc} (hP : va_P D vwCl [(qx, .inr (7, [.ref (ux 0), .ref (ux 27), .ref (ux 30), .ref (ux 31), .ref (ux 35), .ref (ux 36), .int 0, .int 0, .int 0, .int 0])), ((ux 0), .inr (2, [.int 0, .int 2, .ref (ux 1), .ref (ux 2)])), ((ux 1), .inl (κ 3, 4, .inr (.inr (.inr (.inr (sel [(ux 3), (ux 9), (ux 15), (ux 21)])))))), ((ux 3), .inr (6, [.ref (ux 4), .ref (ux 5), .int 0])), (qm, .inr (8, [.int 0, .int 0, .int 2, .ref (um 0), .ref (um 1), .int 0, .int 500, .int 0, .int 0, .int 0, .ref (um 6)])), ((um 0), .inr (1, [.int 0, .ref (ε 1), .int 0])), ((um 1), .inl (κ 4, 4, .inr (.inr (.inr (.inr (sel [(um 2), (um 3), (um 4), (um 5)])))))), ((um 2), .inl (κ 0, 14, .inl (fun _ => 0))), ((um 3), .inl (κ 0, 196, .inl (fun _ => 0))), ((um 4), .inl (κ 0, 2744, .inl (fun _ => 0))), ((um 5), .inl (κ 0, 38416, .inl (fun _ => 0))), (qo, .inl (κ 2, 1, .inr (.inl (fun _ => 0))))] H) (hD : va_D (fun q : Nat => s.heap.size ≤ q) [(qx, .inr (7, [.ref (ux 0), .ref (ux 27), .ref (ux 30), .ref (ux 31), .ref (ux 35), .ref (ux 36), .int 0, .int 0, .int 0, .int 0])), ((ux 0), .inr (2, [.int 0, .int 2, .ref (ux 1), .ref (ux 2)])), ((ux 1), .inl (κ 3, 4, .inr (.inr (.inr (.inr (sel [(ux 3), (ux 9), (ux 15), (ux 21)])))))), ((ux 3), .inr (6, [.ref (ux 4), .ref (ux 5), .int 0])), (qm, .inr (8, [.int 0, .int 0, .int 2, .ref (um 0), .ref (um 1), .int 0, .int 500, .int 0, .int 0, .int 0, .ref (um 6)])), ((um 0), .inr (1, [.int 0, .ref (ε 1), .int 0])), ((um 1), .inl (κ 4, 4, .inr (.inr (.inr (.inr (sel [(um 2), (um 3), (um 4), (um 5)])))))), ((um 2), .inl (κ 0, 14, .inl (fun _ => 0))), ((um 3), .inl (κ 0, 196, .inl (fun _ => 0))), ((um 4), .inl (κ 0, 2744, .inl (fun _ => 0))), ((um 5), .inl (κ 0, 38416, .inl (fun _ => 0))), (qo, .inl (κ 2, 1, .inr (.inl (fun _ => 0))))]) (hS : va_S (fun q : Nat => s.heap.size ≤ q) s.heap H locs) {ls : Array Slot} (hl : lv_has ls 9 [(0, .ref b), (1, .ref qx), (2, .ref qm), (3, .ref qo), (4, .int 0)]) : W p l e room_1 s m #[Value.ref b] below meth c H locs 100 120000 (lw_Z below #[Value.ref b] s) (F0 m 413 ls []) := by
  obtain ⟨hx, hb, hr, hml, hown0, hts0, hX, hbl, hlocks, hgv⟩ := id C0
  have hts : ∀ w ∈ wsL_law, w.before #[Value.ref b] s = true := fun w h => hts0 w (wsL_law_in w h)
  have hown : s.vm.findClass RL = some m.cls := hown0
  have hE := hE9.1
  have hDc := hE9.2
  have hA : ∀ q : Nat, s.heap.size ≤ q → (fun q : Nat => s.heap.size ≤ q) q := fun _ h => h
  have hbA : ¬ (fun q : Nat => s.heap.size ≤ q) b := Nat.not_le.mpr hbl
  refine lv_aload_n hx hb dL_law_413 rfl (lv_at hl 1 rfl) ?_
  refine lv_aload_n hx hb dL_law_414 rfl (lv_at hl 3 rfl) ?_
  have hF := va_free (wc := [(qx, .inr (7, [.ref (ux 0), .ref (ux 27), .ref (ux 30), .ref (ux 31), .ref (ux 35), .ref (ux 36), .int 0, .int 0, .int 0, .int 0])), (qo, .inl (κ 2, 1, .inr (.inl (fun _ => 0)))), ((ux 0), .inr (2, [.int 0, .int 2, .ref (ux 1), .ref (ux 2)])), ((ux 1), .inl (κ 3, 4, .inr (.inr (.inr (.inr (sel [(ux 3), (ux 9), (ux 15), (ux 21)])))))), ((ux 3), .inr (6, [.ref (ux 4), .ref (ux 5), .int 0]))]) hD hS hA [0, 11, 1, 2, 3] rfl
  refine va_calli (vx_runSW (As := [.ref qx, .ref qo]) (rest := []) ⟨hx, hb, hml, hown, hts⟩ (k_L_unlearn_0 l hst D κ ε qx qo (ux 0) (ux 27) (ux 30) (ux 31) (ux 35) (ux 36) (ux 1) (ux 2) (ux 3) (ux 9) (ux 15) (ux 21) (ux 4) (ux 5) H.size) (vx_cwSW 2 hts gL_law_L_unlearn rfl rfl rfl (by decide +kernel) ⟨(Nat.le_of_ble_eq_true rfl), (Nat.le_of_ble_eq_true rfl)⟩) (pre2_S (wc := [(qx, .inr (7, [.ref (ux 0), .ref (ux 27), .ref (ux 30), .ref (ux 31), .ref (ux 35), .ref (ux 36), .int 0, .int 0, .int 0, .int 0])), (qo, .inl (κ 2, 1, .inr (.inl (fun _ => 0)))), ((ux 0), .inr (2, [.int 0, .int 2, .ref (ux 1), .ref (ux 2)])), ((ux 1), .inl (κ 3, 4, .inr (.inr (.inr (.inr (sel [(ux 3), (ux 9), (ux 15), (ux 21)])))))), ((ux 3), .inr (6, [.ref (ux 4), .ref (ux 5), .int 0]))]) hP hD hK hE9 hS hA [0, 11, 1, 2, 3] (by decide) rfl) rfl rfl hl.1 rfl (lv_room (Nat.le_of_ble_eq_true rfl)) dL_law_415 ⟨(Nat.le_of_ble_eq_true rfl), (Nat.le_of_ble_eq_true rfl)⟩) hS (fun q _ h => hF q h) hF (fun r u1 t H locs ht hvm hw hB hz1 hk1 hS => ?_)
  try dsimp only at hw hB
  obtain ⟨hP1, hD1⟩ := hB
  rw [ht] at hP1
  obtain ⟨hP, hD⟩ := post_j (ws' := [(qm, .inr (8, [.int 0, .int 0, .int 2, .ref (um 0), .ref (um 1), .int 0, .int 500, .int 0, .int 0, .int 0, .ref (um 6)])), ((um 0), .inr (1, [.int 0, .ref (ε 1), .int 0])), ((um 1), .inl (κ 4, 4, .inr (.inr (.inr (.inr (sel [(um 2), (um 3), (um 4), (um 5)])))))), ((um 2), .inl (κ 0, 14, .inl (fun _ => 0))), ((um 3), .inl (κ 0, 196, .inl (fun _ => 0))), ((um 4), .inl (κ 0, 2744, .inl (fun _ => 0))), ((um 5), .inl (κ 0, 38416, .inl (fun _ => 0))), (qo, .inl (κ 2, 1, .inr (.inl u1)))]) (wr := [(qm, .inr (8, [.int 0, .int 0, .int 2, .ref (um 0), .ref (um 1), .int 0, .int 500, .int 0, .int 0, .int 0, .ref (um 6)])), ((um 0), .inr (1, [.int 0, .ref (ε 1), .int 0])), ((um 1), .inl (κ 4, 4, .inr (.inr (.inr (.inr (sel [(um 2), (um 3), (um 4), (um 5)])))))), ((um 2), .inl (κ 0, 14, .inl (fun _ => 0))), ((um 3), .inl (κ 0, 196, .inl (fun _ => 0))), ((um 4), .inl (κ 0, 2744, .inl (fun _ => 0))), ((um 5), .inl (κ 0, 38416, .inl (fun _ => 0)))]) (w1 := [(qo, .inl (κ 2, 1, .inr (.inl u1)))]) hP hD hF [0, 11, 1, 2, 3] rfl [4, 5, 6, 7, 8, 9, 10] rfl (by decide) (by decide) hk1 hP1 hD1 [0, 1, 2, 3, 4, 5, 6, 7] (by decide) rfl
  have hP : va_P D vwCl [(qm, .inr (8, [.int 0, .int 0, .int 2, .ref (um 0), .ref (um 1), .int 0, .int 500, .int 0, .int 0, .int 0, .ref (um 6)])), ((um 0), .inr (1, [.int 0, .ref (ε 1), .int 0])), ((um 1), .inl (κ 4, 4, .inr (.inr (.inr (.inr (sel [(um 2), (um 3), (um 4), (um 5)])))))), ((um 2), .inl (κ 0, 14, .inl (fun _ => 0))), ((um 3), .inl (κ 0, 196, .inl (fun _ => 0))), ((um 4), .inl (κ 0, 2744, .inl (fun _ => 0))), ((um 5), .inl (κ 0, 38416, .inl (fun _ => 0))), (qo, .inl (κ 2, 1, .inr (.inl u1)))] H := hP
  have hD : va_D (fun q : Nat => s.heap.size ≤ q) [(qm, .inr (8, [.int 0, .int 0, .int 2, .ref (um 0), .ref (um 1), .int 0, .int 500, .int 0, .int 0, .int 0, .ref (um 6)])), ((um 0), .inr (1, [.int 0, .ref (ε 1), .int 0])), ((um 1), .inl (κ 4, 4, .inr (.inr (.inr (.inr (sel [(um 2), (um 3), (um 4), (um 5)])))))), ((um 2), .inl (κ 0, 14, .inl (fun _ => 0))), ((um 3), .inl (κ 0, 196, .inl (fun _ => 0))), ((um 4), .inl (κ 0, 2744, .inl (fun _ => 0))), ((um 5), .inl (κ 0, 38416, .inl (fun _ => 0))), (qo, .inl (κ 2, 1, .inr (.inl u1)))] := hD
  obtain rfl := hw
  refine lv_istore (lv' := [(5, .int 1), (0, .ref b), (1, .ref qx), (2, .ref qm), (3, .ref qo), (4, .int 0)]) hx hb dL_law_418 hl (by decide) rfl (fun ls hl => ?_)
  refine lv_aload_n hx hb dL_law_420 rfl (lv_at hl 3 rfl) ?_
  have hF := va_free (wc := [(qm, .inr (8, [.int 0, .int 0, .int 2, .ref (um 0), .ref (um 1), .int 0, .int 500, .int 0, .int 0, .int 0, .ref (um 6)])), ((um 0), .inr (1, [.int 0, .ref (ε 1), .int 0])), ((um 1), .inl (κ 4, 4, .inr (.inr (.inr (.inr (sel [(um 2), (um 3), (um 4), (um 5)])))))), ((um 2), .inl (κ 0, 14, .inl (fun _ => 0))), ((um 3), .inl (κ 0, 196, .inl (fun _ => 0))), ((um 4), .inl (κ 0, 2744, .inl (fun _ => 0))), ((um 5), .inl (κ 0, 38416, .inl (fun _ => 0)))]) hD hS hA [0, 1, 2, 3, 4, 5, 6] rfl
  refine va_calli (va_runV (As := []) (rest := []) ⟨hx, hb, hml, hown, hts⟩ (k_X6_unlearn_0 l D κ ε qm (um 0) (um 1) (um 6) (um 2) (um 3) (um 4) (um 5) H.size) (cwV 0 hts gL_law_X6_unlearn rfl rfl rfl (by decide +kernel) ⟨(Nat.le_of_ble_eq_true rfl), (Nat.le_of_ble_eq_true rfl)⟩) (pre2_V (q0 := 0) (ci := 8) (wc := [(qm, .inr (8, [.int 0, .int 0, .int 2, .ref (um 0), .ref (um 1), .int 0, .int 500, .int 0, .int 0, .int 0, .ref (um 6)])), ((um 0), .inr (1, [.int 0, .ref (ε 1), .int 0])), ((um 1), .inl (κ 4, 4, .inr (.inr (.inr (.inr (sel [(um 2), (um 3), (um 4), (um 5)])))))), ((um 2), .inl (κ 0, 14, .inl (fun _ => 0))), ((um 3), .inl (κ 0, 196, .inl (fun _ => 0))), ((um 4), .inl (κ 0, 2744, .inl (fun _ => 0))), ((um 5), .inl (κ 0, 38416, .inl (fun _ => 0)))]) hP hD hK hE9 hS hA [0, 1, 2, 3, 4, 5, 6] (by decide) rfl rfl rfl) rfl rfl hl.1 rfl (lv_room (Nat.le_of_ble_eq_true rfl)) dL_law_421 ⟨(Nat.le_of_ble_eq_true rfl), (Nat.le_of_ble_eq_true rfl)⟩) hS (fun q _ h => hF q h) hF (fun r u2 t H locs ht hvm hw hB hz1 hk1 hS => ?_)
  try dsimp only at hw hB
  obtain ⟨hP1, hD1⟩ := hB
  rw [ht] at hP1
  obtain ⟨hP, hD⟩ := post_j (ws' := [(qm, .inr (8, u2)), (qo, .inl (κ 2, 1, .inr (.inl u1)))]) (wr := [(qo, .inl (κ 2, 1, .inr (.inl u1)))]) (w1 := [(qm, .inr (8, u2))]) hP hD hF [0, 1, 2, 3, 4, 5, 6] rfl [7] rfl (by decide) (by decide) hk1 hP1 hD1 [1, 0] (by decide) rfl
  have hP : va_P D vwCl [(qm, .inr (8, u2)), (qo, .inl (κ 2, 1, .inr (.inl u1)))] H := hP
  have hD : va_D (fun q : Nat => s.heap.size ≤ q) [(qm, .inr (8, u2)), (qo, .inl (κ 2, 1, .inr (.inl u1)))] := hD
  obtain ⟨hu3, rfl⟩ := hw
  refine lv_istore (lv' := [(6, .int 0), (5, .int 1), (0, .ref b), (1, .ref qx), (2, .ref qm), (3, .ref qo), (4, .int 0)]) hx hb dL_law_424 hl (by decide) rfl (fun ls hl => ?_)
  refine lv_aload_n hx hb dL_law_426 rfl (lv_at hl 4 rfl) ?_
  refine vp_callSi (W.runV (As := []) (rest := []) ⟨hx, hb, hml, hown, hts⟩ (k_thrown l D κ qm u2 (1) hu3) (cwV 0 hts gL_law_X6_thrown rfl rfl rfl (by decide +kernel) ⟨(Nat.le_of_ble_eq_true rfl), (Nat.le_of_ble_eq_true rfl)⟩) (pre0_V (q0 := 0) (ci := 8) (wc := [(qm, .inr (8, u2))]) hP hK [0] rfl rfl rfl) rfl rfl hl.1 rfl (lv_room (Nat.le_of_ble_eq_true rfl)) dL_law_427 ⟨(Nat.le_of_ble_eq_true rfl), (Nat.le_of_ble_eq_true rfl)⟩) (fun r hw => ?_)
  subst hw
  refine lv_iload hx hb dL_law_430 (lv_at hl 1 rfl) ?_
  refine lv_icmp_eq (tgt := 437) hx hb dL_law_432 (by decide) (fun _ => ?_) (fun h => absurd (by decide) h)
  refine lv_iload hx hb dL_law_437 (lv_at hl 1 rfl) ?_
  refine lv_if_ne (tgt := 454) hx hb dL_law_439 (by decide) (fun _ => ?_) (fun h => absurd h (by decide))
  refine lv_goto (tgt := 1677) hx hb dL_law_454 (by decide) ?_
  exact law_end C0 (Nat.le_of_ble_eq_true rfl) (Nat.le_of_ble_eq_true rfl) hS (lv_sub hl [2, 6] rfl)
