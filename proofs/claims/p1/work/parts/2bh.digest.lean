theorem wd437_X5_mix : (.constantLong RX5 319 31 : Cond) ∈ wsX5_mix := by decide +kernel

set_option maxHeartbeats 4000000 in
set_option maxRecDepth 100000 in
theorem k_X5_mix_0 (l : Launch) (D : va_G) (κ ε : Nat → Nat) : Met l yX5_mix wsX5_mix ({ frames := 0, cells := 0, slots := 0, locals := 0 }) (va_Pc [.long 58041, .long 0] (Pre0 D κ [])) (vp_Sl (fun r => (r = 1799271))) 0 0 (fun _ => False) := by
  refine Met.ofW (cc := cX5_mix) (maxL := 4) (ret := (some .long)) (by decide) rfl ?_
  intro p e s m args below meth c s₁ B hml hv
  obtain ⟨rfl, hP, hK⟩ := hv
  have hx := B.exec
  have hb := B.bytes
  have hr := B.returns
  have hts := atoms_spec (ws := wsX5_mix) B.pre
  have hown : s.vm.findClass RX5 = some m.cls := findClass_of_methodNamed B.named
  have hlocks := B.notSynchronized
  have hP : va_P D vwCl [] s.heap := hP
  have hl := lv_entry [.long 58041, .long 0] (n := 4) (Nat.le_of_ble_eq_true rfl)
  rw [lg_entry_eq]
  generalize (lg_sl [.long 58041, .long 0] ++ List.replicate (4 - (lg_sl [.long 58041, .long 0]).length) Slot.unset).toArray = ls at hl ⊢
  have hl : lv_has ls 4 [(0, .long 58041), (2, .long 0)] := hl
  refine lv_lload_n hx hb dX5_mix_0 rfl (lv_at hl 0 rfl) ?_
  refine lv_ldc2 (v := 31) hx hb hown (hts _ wd437_X5_mix) dX5_mix_1 ?_
  refine lv_lmul hx hb dX5_mix_4 ?_
  refine tpl (v := 1799271) (by decide) ?_
  refine lv_lload_n hx hb dX5_mix_5 rfl (lv_at hl 1 rfl) ?_
  refine lv_ladd hx hb dX5_mix_6 ?_
  refine tpl (v := 1799271) (by decide) ?_
  exact W.lret (v := 1799271) hx hb hr (fun t ht hW => ⟨1799271, rfl, rfl, ht⟩) (fun q hq => absurd hq List.not_mem_nil) dX5_mix_7

set_option maxHeartbeats 4000000 in
set_option maxRecDepth 100000 in
theorem k_X5_mix_1 (l : Launch) (D : va_G) (κ ε : Nat → Nat) : Met l yX5_mix wsX5_mix ({ frames := 0, cells := 0, slots := 0, locals := 0 }) (va_Pc [.long 1799271, .long 2] (Pre0 D κ [])) (vp_Sl (fun r => (r = 55777403))) 0 0 (fun _ => False) := by
  refine Met.ofW (cc := cX5_mix) (maxL := 4) (ret := (some .long)) (by decide) rfl ?_
  intro p e s m args below meth c s₁ B hml hv
  obtain ⟨rfl, hP, hK⟩ := hv
  have hx := B.exec
  have hb := B.bytes
  have hr := B.returns
  have hts := atoms_spec (ws := wsX5_mix) B.pre
  have hown : s.vm.findClass RX5 = some m.cls := findClass_of_methodNamed B.named
  have hlocks := B.notSynchronized
  have hP : va_P D vwCl [] s.heap := hP
  have hl := lv_entry [.long 1799271, .long 2] (n := 4) (Nat.le_of_ble_eq_true rfl)
  rw [lg_entry_eq]
  generalize (lg_sl [.long 1799271, .long 2] ++ List.replicate (4 - (lg_sl [.long 1799271, .long 2]).length) Slot.unset).toArray = ls at hl ⊢
  have hl : lv_has ls 4 [(0, .long 1799271), (2, .long 2)] := hl
  refine lv_lload_n hx hb dX5_mix_0 rfl (lv_at hl 0 rfl) ?_
  refine lv_ldc2 (v := 31) hx hb hown (hts _ wd437_X5_mix) dX5_mix_1 ?_
  refine lv_lmul hx hb dX5_mix_4 ?_
  refine tpl (v := 55777401) (by decide) ?_
  refine lv_lload_n hx hb dX5_mix_5 rfl (lv_at hl 1 rfl) ?_
  refine lv_ladd hx hb dX5_mix_6 ?_
  refine tpl (v := 55777403) (by decide) ?_
  exact W.lret (v := 55777403) hx hb hr (fun t ht hW => ⟨55777403, rfl, rfl, ht⟩) (fun q hq => absurd hq List.not_mem_nil) dX5_mix_7

set_option maxHeartbeats 4000000 in
set_option maxRecDepth 100000 in
theorem k_X5_mix_2 (l : Launch) (D : va_G) (κ ε : Nat → Nat) : Met l yX5_mix wsX5_mix ({ frames := 0, cells := 0, slots := 0, locals := 0 }) (va_Pc [.long 55777403, .long 0] (Pre0 D κ [])) (vp_Sl (fun r => (r = 1729099493))) 0 0 (fun _ => False) := by
  refine Met.ofW (cc := cX5_mix) (maxL := 4) (ret := (some .long)) (by decide) rfl ?_
  intro p e s m args below meth c s₁ B hml hv
  obtain ⟨rfl, hP, hK⟩ := hv
  have hx := B.exec
  have hb := B.bytes
  have hr := B.returns
  have hts := atoms_spec (ws := wsX5_mix) B.pre
  have hown : s.vm.findClass RX5 = some m.cls := findClass_of_methodNamed B.named
  have hlocks := B.notSynchronized
  have hP : va_P D vwCl [] s.heap := hP
  have hl := lv_entry [.long 55777403, .long 0] (n := 4) (Nat.le_of_ble_eq_true rfl)
  rw [lg_entry_eq]
  generalize (lg_sl [.long 55777403, .long 0] ++ List.replicate (4 - (lg_sl [.long 55777403, .long 0]).length) Slot.unset).toArray = ls at hl ⊢
  have hl : lv_has ls 4 [(0, .long 55777403), (2, .long 0)] := hl
  refine lv_lload_n hx hb dX5_mix_0 rfl (lv_at hl 0 rfl) ?_
  refine lv_ldc2 (v := 31) hx hb hown (hts _ wd437_X5_mix) dX5_mix_1 ?_
  refine lv_lmul hx hb dX5_mix_4 ?_
  refine tpl (v := 1729099493) (by decide) ?_
  refine lv_lload_n hx hb dX5_mix_5 rfl (lv_at hl 1 rfl) ?_
  refine lv_ladd hx hb dX5_mix_6 ?_
  refine tpl (v := 1729099493) (by decide) ?_
  exact W.lret (v := 1729099493) hx hb hr (fun t ht hW => ⟨1729099493, rfl, rfl, ht⟩) (fun q hq => absurd hq List.not_mem_nil) dX5_mix_7

set_option maxHeartbeats 4000000 in
set_option maxRecDepth 100000 in
theorem k_X5_mix_3 (l : Launch) (D : va_G) (κ ε : Nat → Nat) : Met l yX5_mix wsX5_mix ({ frames := 0, cells := 0, slots := 0, locals := 0 }) (va_Pc [.long 1729099493, .long 0] (Pre0 D κ [])) (vp_Sl (fun r => (r = 53602084283))) 0 0 (fun _ => False) := by
  refine Met.ofW (cc := cX5_mix) (maxL := 4) (ret := (some .long)) (by decide) rfl ?_
  intro p e s m args below meth c s₁ B hml hv
  obtain ⟨rfl, hP, hK⟩ := hv
  have hx := B.exec
  have hb := B.bytes
  have hr := B.returns
  have hts := atoms_spec (ws := wsX5_mix) B.pre
  have hown : s.vm.findClass RX5 = some m.cls := findClass_of_methodNamed B.named
  have hlocks := B.notSynchronized
  have hP : va_P D vwCl [] s.heap := hP
  have hl := lv_entry [.long 1729099493, .long 0] (n := 4) (Nat.le_of_ble_eq_true rfl)
  rw [lg_entry_eq]
  generalize (lg_sl [.long 1729099493, .long 0] ++ List.replicate (4 - (lg_sl [.long 1729099493, .long 0]).length) Slot.unset).toArray = ls at hl ⊢
  have hl : lv_has ls 4 [(0, .long 1729099493), (2, .long 0)] := hl
  refine lv_lload_n hx hb dX5_mix_0 rfl (lv_at hl 0 rfl) ?_
  refine lv_ldc2 (v := 31) hx hb hown (hts _ wd437_X5_mix) dX5_mix_1 ?_
  refine lv_lmul hx hb dX5_mix_4 ?_
  refine tpl (v := 53602084283) (by decide) ?_
  refine lv_lload_n hx hb dX5_mix_5 rfl (lv_at hl 1 rfl) ?_
  refine lv_ladd hx hb dX5_mix_6 ?_
  refine tpl (v := 53602084283) (by decide) ?_
  exact W.lret (v := 53602084283) hx hb hr (fun t ht hW => ⟨53602084283, rfl, rfl, ht⟩) (fun q hq => absurd hq List.not_mem_nil) dX5_mix_7

theorem wi_X5_mixEntries_RX5 : ∀ w ∈ u_ws RX5 TX5 10, w ∈ wsX5_mixEntries := by decide +kernel

theorem wd438_X5_mixEntries : (.fieldLink RX5 10 "Canticle" "ledger" "LCanticle$Ledger;" : Cond) ∈ wsX5_mixEntries := by decide +kernel

theorem wi_X5_mixEntries_RX4 : ∀ w ∈ u_ws RX4 TX4 3, w ∈ wsX5_mixEntries := by decide +kernel

theorem wd439_X5_mixEntries : (.fieldLink RX5 135 "Canticle$Tally" "size" "I" : Cond) ∈ wsX5_mixEntries := by decide +kernel

set_option maxHeartbeats 4000000 in
set_option maxRecDepth 100000 in
theorem k_X5_mixEntries_0 (l : Launch) (D : va_G) (κ ε : Nat → Nat) (h0 h1 h2 h3 h4 h5 h6 h7 h8 h9 h10 h11 h12 h13 h14 : Nat) (p0 : Int32) (p1 : Int32) (p2 : Int32) (p3 : Int32) (p4 : Int32) : Met l yX5_mixEntries wsX5_mixEntries ({ frames := 2, cells := 0, slots := 0, locals := 39 }) (va_Pc [.ref h0, .long 1729099493, .int 1] (Pre0 D κ [(h0, .inr (7, [.ref h1, .ref h2, .ref h3, .ref h4, .ref h5, .ref h6, .int p0, .int p1, .int p2, .int 0])), (h1, .inr (2, [.int p3, .int p4, .ref h7, .ref h8])), (h7, .inl (κ 3, 4, .inr (.inr (.inr (.inr (sel [h9, h10, h11, h12])))))), (h9, .inr (6, [.ref h13, .ref h14, .int 0]))])) (vp_Sl (fun r => (r = 53602084283))) 0 0 (fun _ => False) := by
  refine Met.ofW (cc := cX5_mixEntries) (maxL := 9) (ret := (some .long)) (by decide) rfl ?_
  intro p e s m args below meth c s₁ B hml hv
  obtain ⟨rfl, hP, hK⟩ := hv
  have hx := B.exec
  have hb := B.bytes
  have hr := B.returns
  have hts := atoms_spec (ws := wsX5_mixEntries) B.pre
  have hown : s.vm.findClass RX5 = some m.cls := findClass_of_methodNamed B.named
  have hlocks := B.notSynchronized
  have hP : va_P D vwCl [(h0, .inr (7, [.ref h1, .ref h2, .ref h3, .ref h4, .ref h5, .ref h6, .int p0, .int p1, .int p2, .int 0])), (h1, .inr (2, [.int p3, .int p4, .ref h7, .ref h8])), (h7, .inl (κ 3, 4, .inr (.inr (.inr (.inr (sel [h9, h10, h11, h12])))))), (h9, .inr (6, [.ref h13, .ref h14, .int 0]))] s.heap := hP
  have hl := lv_entry [.ref h0, .long 1729099493, .int 1] (n := 9) (Nat.le_of_ble_eq_true rfl)
  rw [lg_entry_eq]
  generalize (lg_sl [.ref h0, .long 1729099493, .int 1] ++ List.replicate (9 - (lg_sl [.ref h0, .long 1729099493, .int 1]).length) Slot.unset).toArray = ls at hl ⊢
  have hl : lv_has ls 9 [(0, .ref h0), (1, .long 1729099493), (3, .int 1)] := hl
  refine lv_aload_n hx hb dX5_mixEntries_0 rfl (lv_at hl 0 rfl) ?_
  refine va_get (D := D) (ci := 7) (v := .ref h1) (C := RX5) (T := TX5) (N := 10) hx hb hts wi_X5_mixEntries_RX5 hown hK hP 0 rfl rfl 0 (by decide) (hts _ wd438_X5_mixEntries) (fun _ h9 => h9) rfl dX5_mixEntries_1 ?_
  refine lv_iload_n hx hb dX5_mixEntries_4 rfl (lv_at hl 2 rfl) ?_
  refine va_csr (W.runV (As := [.int 1]) (rest := []) ⟨hx, hb, hml, hown, hts⟩ (k_X0_countsOf_0 l D κ ε h1 h7 h8 h9 h10 h11 h12 (p3) (p4)) (cwV 1 hts gX5_mixEntries_X0_countsOf rfl rfl rfl (by decide +kernel) ⟨(Nat.le_of_ble_eq_true rfl), (Nat.le_of_ble_eq_true rfl)⟩) (pre0_V (q0 := 1) (ci := 2) (wc := [(h1, .inr (2, [.int p3, .int p4, .ref h7, .ref h8])), (h7, .inl (κ 3, 4, .inr (.inr (.inr (.inr (sel [h9, h10, h11, h12]))))))]) hP hK [1, 2] rfl rfl rfl) rfl rfl hl.1 rfl (lv_room (Nat.le_of_ble_eq_true rfl)) dX5_mixEntries_5 ⟨(Nat.le_of_ble_eq_true rfl), (Nat.le_of_ble_eq_true rfl)⟩) (fun r hw => ?_)
  rw [hw]
  refine lv_astore (lv' := [(4, .ref h9), (0, .ref h0), (1, .long 1729099493), (3, .int 1)]) hx hb dX5_mixEntries_8 hl (by decide) rfl (fun ls hl => ?_)
  refine lv_lload_n hx hb dX5_mixEntries_10 rfl (lv_at hl 2 rfl) ?_
  refine lv_aload hx hb dX5_mixEntries_11 (lv_at hl 0 rfl) ?_
  refine va_get (D := D) (ci := 6) (v := .int 0) (C := RX4) (T := TX4) (N := 3) hx hb hts wi_X5_mixEntries_RX4 hown hK hP 3 rfl rfl 2 (by decide) (hts _ wd439_X5_mixEntries) (fun _ h9 => h9) rfl dX5_mixEntries_13 ?_
  refine lv_i2l (v := 0) hx hb dX5_mixEntries_16 (by decide) ?_
  refine vp_callSl (W.runS (As := [.long 1729099493, .long 0]) (rest := []) ⟨hx, hb, hml, hown, hts⟩ (k_X5_mix_3 l D κ ε) (va_cwS 2 hts gX5_mixEntries_X5_mix rfl rfl rfl (by decide +kernel) ⟨(Nat.le_of_ble_eq_true rfl), (Nat.le_of_ble_eq_true rfl)⟩) (pre0_S (wc := []) hP hK [] rfl) rfl rfl hl.1 rfl (lv_room (Nat.le_of_ble_eq_true rfl)) dX5_mixEntries_17 ⟨(Nat.le_of_ble_eq_true rfl), (Nat.le_of_ble_eq_true rfl)⟩) (fun r hw => ?_)
  rw [hw]
  refine lv_lstore (lv' := [(5, .long 53602084283), (4, .ref h9), (0, .ref h0), (1, .long 1729099493), (3, .int 1)]) hx hb dX5_mixEntries_20 hl (by decide) rfl (fun ls hl => ?_)
  refine lv_iconst (v := 0) hx hb dX5_mixEntries_22 (by decide) ?_
  refine lv_istore (lv' := [(7, .int 0), (5, .long 53602084283), (4, .ref h9), (0, .ref h0), (1, .long 1729099493), (3, .int 1)]) hx hb dX5_mixEntries_23 hl (by decide) rfl (fun ls hl => ?_)
  refine lv_iload hx hb dX5_mixEntries_25 (lv_at hl 0 rfl) ?_
  refine lv_aload hx hb dX5_mixEntries_27 (lv_at hl 2 rfl) ?_
  refine va_get (D := D) (ci := 6) (v := .int 0) (C := RX4) (T := TX4) (N := 3) hx hb hts wi_X5_mixEntries_RX4 hown hK hP 3 rfl rfl 2 (by decide) (hts _ wd439_X5_mixEntries) (fun _ h9 => h9) rfl dX5_mixEntries_29 ?_
  refine lv_icmp_ge (tgt := 95) hx hb dX5_mixEntries_32 (by decide) (fun _ => ?_) (fun h => absurd (by decide) h)
  refine lv_lload hx hb dX5_mixEntries_95 (lv_at hl 1 rfl) ?_
  exact W.lret (v := 53602084283) hx hb hr (fun t ht hW => ⟨53602084283, rfl, rfl, ht⟩) (fun q hq => absurd hq List.not_mem_nil) dX5_mixEntries_97

set_option maxHeartbeats 4000000 in
set_option maxRecDepth 100000 in
theorem k_X5_mix_4 (l : Launch) (D : va_G) (κ ε : Nat → Nat) : Met l yX5_mix wsX5_mix ({ frames := 0, cells := 0, slots := 0, locals := 0 }) (va_Pc [.long 53602084283, .long 0] (Pre0 D κ [])) (vp_Sl (fun r => (r = 1661664612773))) 0 0 (fun _ => False) := by
  refine Met.ofW (cc := cX5_mix) (maxL := 4) (ret := (some .long)) (by decide) rfl ?_
  intro p e s m args below meth c s₁ B hml hv
  obtain ⟨rfl, hP, hK⟩ := hv
  have hx := B.exec
  have hb := B.bytes
  have hr := B.returns
  have hts := atoms_spec (ws := wsX5_mix) B.pre
  have hown : s.vm.findClass RX5 = some m.cls := findClass_of_methodNamed B.named
  have hlocks := B.notSynchronized
  have hP : va_P D vwCl [] s.heap := hP
  have hl := lv_entry [.long 53602084283, .long 0] (n := 4) (Nat.le_of_ble_eq_true rfl)
  rw [lg_entry_eq]
  generalize (lg_sl [.long 53602084283, .long 0] ++ List.replicate (4 - (lg_sl [.long 53602084283, .long 0]).length) Slot.unset).toArray = ls at hl ⊢
  have hl : lv_has ls 4 [(0, .long 53602084283), (2, .long 0)] := hl
  refine lv_lload_n hx hb dX5_mix_0 rfl (lv_at hl 0 rfl) ?_
  refine lv_ldc2 (v := 31) hx hb hown (hts _ wd437_X5_mix) dX5_mix_1 ?_
  refine lv_lmul hx hb dX5_mix_4 ?_
  refine tpl (v := 1661664612773) (by decide) ?_
  refine lv_lload_n hx hb dX5_mix_5 rfl (lv_at hl 1 rfl) ?_
  refine lv_ladd hx hb dX5_mix_6 ?_
  refine tpl (v := 1661664612773) (by decide) ?_
  exact W.lret (v := 1661664612773) hx hb hr (fun t ht hW => ⟨1661664612773, rfl, rfl, ht⟩) (fun q hq => absurd hq List.not_mem_nil) dX5_mix_7

set_option maxHeartbeats 4000000 in
set_option maxRecDepth 100000 in
theorem k_X5_mixEntries_1 (l : Launch) (D : va_G) (κ ε : Nat → Nat) (h0 h1 h2 h3 h4 h5 h6 h7 h8 h9 h10 h11 h12 h13 h14 : Nat) (p0 : Int32) (p1 : Int32) (p2 : Int32) (p3 : Int32) (p4 : Int32) : Met l yX5_mixEntries wsX5_mixEntries ({ frames := 2, cells := 0, slots := 0, locals := 39 }) (va_Pc [.ref h0, .long 53602084283, .int 2] (Pre0 D κ [(h0, .inr (7, [.ref h1, .ref h2, .ref h3, .ref h4, .ref h5, .ref h6, .int p0, .int p1, .int p2, .int 0])), (h1, .inr (2, [.int p3, .int p4, .ref h7, .ref h8])), (h7, .inl (κ 3, 4, .inr (.inr (.inr (.inr (sel [h9, h10, h11, h12])))))), (h10, .inr (6, [.ref h13, .ref h14, .int 0]))])) (vp_Sl (fun r => (r = 1661664612773))) 0 0 (fun _ => False) := by
  refine Met.ofW (cc := cX5_mixEntries) (maxL := 9) (ret := (some .long)) (by decide) rfl ?_
  intro p e s m args below meth c s₁ B hml hv
  obtain ⟨rfl, hP, hK⟩ := hv
  have hx := B.exec
  have hb := B.bytes
  have hr := B.returns
  have hts := atoms_spec (ws := wsX5_mixEntries) B.pre
  have hown : s.vm.findClass RX5 = some m.cls := findClass_of_methodNamed B.named
  have hlocks := B.notSynchronized
  have hP : va_P D vwCl [(h0, .inr (7, [.ref h1, .ref h2, .ref h3, .ref h4, .ref h5, .ref h6, .int p0, .int p1, .int p2, .int 0])), (h1, .inr (2, [.int p3, .int p4, .ref h7, .ref h8])), (h7, .inl (κ 3, 4, .inr (.inr (.inr (.inr (sel [h9, h10, h11, h12])))))), (h10, .inr (6, [.ref h13, .ref h14, .int 0]))] s.heap := hP
  have hl := lv_entry [.ref h0, .long 53602084283, .int 2] (n := 9) (Nat.le_of_ble_eq_true rfl)
  rw [lg_entry_eq]
  generalize (lg_sl [.ref h0, .long 53602084283, .int 2] ++ List.replicate (9 - (lg_sl [.ref h0, .long 53602084283, .int 2]).length) Slot.unset).toArray = ls at hl ⊢
  have hl : lv_has ls 9 [(0, .ref h0), (1, .long 53602084283), (3, .int 2)] := hl
  refine lv_aload_n hx hb dX5_mixEntries_0 rfl (lv_at hl 0 rfl) ?_
  refine va_get (D := D) (ci := 7) (v := .ref h1) (C := RX5) (T := TX5) (N := 10) hx hb hts wi_X5_mixEntries_RX5 hown hK hP 0 rfl rfl 0 (by decide) (hts _ wd438_X5_mixEntries) (fun _ h9 => h9) rfl dX5_mixEntries_1 ?_
  refine lv_iload_n hx hb dX5_mixEntries_4 rfl (lv_at hl 2 rfl) ?_
  refine va_csr (W.runV (As := [.int 2]) (rest := []) ⟨hx, hb, hml, hown, hts⟩ (k_X0_countsOf_1 l D κ ε h1 h7 h8 h9 h10 h11 h12 (p3) (p4)) (cwV 1 hts gX5_mixEntries_X0_countsOf rfl rfl rfl (by decide +kernel) ⟨(Nat.le_of_ble_eq_true rfl), (Nat.le_of_ble_eq_true rfl)⟩) (pre0_V (q0 := 1) (ci := 2) (wc := [(h1, .inr (2, [.int p3, .int p4, .ref h7, .ref h8])), (h7, .inl (κ 3, 4, .inr (.inr (.inr (.inr (sel [h9, h10, h11, h12]))))))]) hP hK [1, 2] rfl rfl rfl) rfl rfl hl.1 rfl (lv_room (Nat.le_of_ble_eq_true rfl)) dX5_mixEntries_5 ⟨(Nat.le_of_ble_eq_true rfl), (Nat.le_of_ble_eq_true rfl)⟩) (fun r hw => ?_)
  rw [hw]
  refine lv_astore (lv' := [(4, .ref h10), (0, .ref h0), (1, .long 53602084283), (3, .int 2)]) hx hb dX5_mixEntries_8 hl (by decide) rfl (fun ls hl => ?_)
  refine lv_lload_n hx hb dX5_mixEntries_10 rfl (lv_at hl 2 rfl) ?_
  refine lv_aload hx hb dX5_mixEntries_11 (lv_at hl 0 rfl) ?_
  refine va_get (D := D) (ci := 6) (v := .int 0) (C := RX4) (T := TX4) (N := 3) hx hb hts wi_X5_mixEntries_RX4 hown hK hP 3 rfl rfl 2 (by decide) (hts _ wd439_X5_mixEntries) (fun _ h9 => h9) rfl dX5_mixEntries_13 ?_
  refine lv_i2l (v := 0) hx hb dX5_mixEntries_16 (by decide) ?_
  refine vp_callSl (W.runS (As := [.long 53602084283, .long 0]) (rest := []) ⟨hx, hb, hml, hown, hts⟩ (k_X5_mix_4 l D κ ε) (va_cwS 2 hts gX5_mixEntries_X5_mix rfl rfl rfl (by decide +kernel) ⟨(Nat.le_of_ble_eq_true rfl), (Nat.le_of_ble_eq_true rfl)⟩) (pre0_S (wc := []) hP hK [] rfl) rfl rfl hl.1 rfl (lv_room (Nat.le_of_ble_eq_true rfl)) dX5_mixEntries_17 ⟨(Nat.le_of_ble_eq_true rfl), (Nat.le_of_ble_eq_true rfl)⟩) (fun r hw => ?_)
  rw [hw]
  refine lv_lstore (lv' := [(5, .long 1661664612773), (4, .ref h10), (0, .ref h0), (1, .long 53602084283), (3, .int 2)]) hx hb dX5_mixEntries_20 hl (by decide) rfl (fun ls hl => ?_)
  refine lv_iconst (v := 0) hx hb dX5_mixEntries_22 (by decide) ?_
  refine lv_istore (lv' := [(7, .int 0), (5, .long 1661664612773), (4, .ref h10), (0, .ref h0), (1, .long 53602084283), (3, .int 2)]) hx hb dX5_mixEntries_23 hl (by decide) rfl (fun ls hl => ?_)
  refine lv_iload hx hb dX5_mixEntries_25 (lv_at hl 0 rfl) ?_
  refine lv_aload hx hb dX5_mixEntries_27 (lv_at hl 2 rfl) ?_
  refine va_get (D := D) (ci := 6) (v := .int 0) (C := RX4) (T := TX4) (N := 3) hx hb hts wi_X5_mixEntries_RX4 hown hK hP 3 rfl rfl 2 (by decide) (hts _ wd439_X5_mixEntries) (fun _ h9 => h9) rfl dX5_mixEntries_29 ?_
  refine lv_icmp_ge (tgt := 95) hx hb dX5_mixEntries_32 (by decide) (fun _ => ?_) (fun h => absurd (by decide) h)
  refine lv_lload hx hb dX5_mixEntries_95 (lv_at hl 1 rfl) ?_
  exact W.lret (v := 1661664612773) hx hb hr (fun t ht hW => ⟨1661664612773, rfl, rfl, ht⟩) (fun q hq => absurd hq List.not_mem_nil) dX5_mixEntries_97

set_option maxHeartbeats 4000000 in
set_option maxRecDepth 100000 in
theorem k_X5_totalBehind_2 (l : Launch) (D : va_G) (κ ε : Nat → Nat) (h0 h1 h2 h3 h4 h5 h6 h7 h8 h9 h10 h11 h12 h13 h14 h15 h16 : Nat) (sz : Nat) (p0 : Int32) (p1 : Int32) (p2 : Int32) (p3 : Int32) (p4 : Int32) (p5 : Int32) (p6 : Int32) : Met l yX5_totalBehind wsX5_totalBehind ({ frames := 2, cells := 0, slots := 0, locals := 48 }) (va_Pc [.ref h0, .int 1, .int 0] (Pre2 D κ ε [(h0, .inr (7, [.ref h1, .ref h2, .ref h3, .ref h4, .ref h5, .ref h6, .int 0, .int p0, .int p1, .int 0])), (h1, .inr (2, [.int p2, .int p3, .ref h7, .ref h8])), (h2, .inr (3, [.ref h1, .int p4, .int p5, .ref h9, .ref h10, .long 0, .int p6])), (h7, .inl (κ 3, 4, .inr (.inr (.inr (.inr (sel [h11, h12, h13, h14])))))), (h10, .inl (κ 0, 13, .inl (fun _ => 0))), (h11, .inr (6, [.ref h15, .ref h16, .int 0]))] sz)) (va_Qi (fun r (u : Unit) => (r = 0)) (fun u t => va_P D vwCl [(h0, .inr (7, [.ref h1, .ref h2, .ref h3, .ref h4, .ref h5, .ref h6, .int 0, .int p0, .int p1, .int 0])), (h1, .inr (2, [.int p2, .int p3, .ref h7, .ref h8])), (h2, .inr (3, [.ref h1, .int p4, .int p5, .ref h9, .ref h10, .long 0, .int 0])), (h7, .inl (κ 3, 4, .inr (.inr (.inr (.inr (sel [h11, h12, h13, h14])))))), (h10, .inl (κ 0, 13, .inl (fun _ => 0))), (h11, .inr (6, [.ref h15, .ref h16, .int 0]))] t.heap ∧ va_D (va_A [(h0, .inr (7, [.ref h1, .ref h2, .ref h3, .ref h4, .ref h5, .ref h6, .int 0, .int p0, .int p1, .int 0])), (h1, .inr (2, [.int p2, .int p3, .ref h7, .ref h8])), (h2, .inr (3, [.ref h1, .int p4, .int p5, .ref h9, .ref h10, .long 0, .int p6])), (h7, .inl (κ 3, 4, .inr (.inr (.inr (.inr (sel [h11, h12, h13, h14])))))), (h10, .inl (κ 0, 13, .inl (fun _ => 0))), (h11, .inr (6, [.ref h15, .ref h16, .int 0]))] sz) [(h0, .inr (7, [.ref h1, .ref h2, .ref h3, .ref h4, .ref h5, .ref h6, .int 0, .int p0, .int p1, .int 0])), (h1, .inr (2, [.int p2, .int p3, .ref h7, .ref h8])), (h2, .inr (3, [.ref h1, .int p4, .int p5, .ref h9, .ref h10, .long 0, .int 0])), (h7, .inl (κ 3, 4, .inr (.inr (.inr (.inr (sel [h11, h12, h13, h14])))))), (h10, .inl (κ 0, 13, .inl (fun _ => 0))), (h11, .inr (6, [.ref h15, .ref h16, .int 0]))]) (va_A [(h0, .inr (7, [.ref h1, .ref h2, .ref h3, .ref h4, .ref h5, .ref h6, .int 0, .int p0, .int p1, .int 0])), (h1, .inr (2, [.int p2, .int p3, .ref h7, .ref h8])), (h2, .inr (3, [.ref h1, .int p4, .int p5, .ref h9, .ref h10, .long 0, .int p6])), (h7, .inl (κ 3, 4, .inr (.inr (.inr (.inr (sel [h11, h12, h13, h14])))))), (h10, .inl (κ 0, 13, .inl (fun _ => 0))), (h11, .inr (6, [.ref h15, .ref h16, .int 0]))] sz)) 0 0 (va_A [(h0, .inr (7, [.ref h1, .ref h2, .ref h3, .ref h4, .ref h5, .ref h6, .int 0, .int p0, .int p1, .int 0])), (h1, .inr (2, [.int p2, .int p3, .ref h7, .ref h8])), (h2, .inr (3, [.ref h1, .int p4, .int p5, .ref h9, .ref h10, .long 0, .int p6])), (h7, .inl (κ 3, 4, .inr (.inr (.inr (.inr (sel [h11, h12, h13, h14])))))), (h10, .inl (κ 0, 13, .inl (fun _ => 0))), (h11, .inr (6, [.ref h15, .ref h16, .int 0]))] sz) := by
  refine Met.ofW (cc := cX5_totalBehind) (maxL := 3) (ret := (some .int)) (by decide) rfl ?_
  intro p e s m args below meth c s₁ B hml hv
  obtain ⟨rfl, hsz, hP, hK, hD0, hE9⟩ := hv
  have hx := B.exec
  have hb := B.bytes
  have hr := B.returns
  have hts := atoms_spec (ws := wsX5_totalBehind) B.pre
  have hown : s.vm.findClass RX5 = some m.cls := findClass_of_methodNamed B.named
  have hlocks := B.notSynchronized
  subst hsz
  have hD := hD0.self (sz := s.heap.size)
  generalize hAe : va_A [(h0, .inr (7, [.ref h1, .ref h2, .ref h3, .ref h4, .ref h5, .ref h6, .int 0, .int p0, .int p1, .int 0])), (h1, .inr (2, [.int p2, .int p3, .ref h7, .ref h8])), (h2, .inr (3, [.ref h1, .int p4, .int p5, .ref h9, .ref h10, .long 0, .int p6])), (h7, .inl (κ 3, 4, .inr (.inr (.inr (.inr (sel [h11, h12, h13, h14])))))), (h10, .inl (κ 0, 13, .inl (fun _ => 0))), (h11, .inr (6, [.ref h15, .ref h16, .int 0]))] s.heap.size = A at hD hE9 ⊢
  have hE := hE9.1
  have hDc := hE9.2
  have hA : ∀ q : Nat, s.heap.size ≤ q → A q := fun q h => by rw [← hAe]; exact Or.inr h
  have hS : va_S A s.heap s.heap [] := va_S.rf
  have hP : va_P D vwCl [(h0, .inr (7, [.ref h1, .ref h2, .ref h3, .ref h4, .ref h5, .ref h6, .int 0, .int p0, .int p1, .int 0])), (h1, .inr (2, [.int p2, .int p3, .ref h7, .ref h8])), (h2, .inr (3, [.ref h1, .int p4, .int p5, .ref h9, .ref h10, .long 0, .int p6])), (h7, .inl (κ 3, 4, .inr (.inr (.inr (.inr (sel [h11, h12, h13, h14])))))), (h10, .inl (κ 0, 13, .inl (fun _ => 0))), (h11, .inr (6, [.ref h15, .ref h16, .int 0]))] s.heap := hP
  have hl := lv_entry [.ref h0, .int 1, .int 0] (n := 3) (Nat.le_of_ble_eq_true rfl)
  rw [lg_entry_eq]
  generalize (lg_sl [.ref h0, .int 1, .int 0] ++ List.replicate (3 - (lg_sl [.ref h0, .int 1, .int 0]).length) Slot.unset).toArray = ls at hl ⊢
  have hl : lv_has ls 3 [(0, .ref h0), (1, .int 1), (2, .int 0)] := hl
  refine lv_aload_n hx hb dX5_totalBehind_0 rfl (lv_at hl 0 rfl) ?_
  refine va_get (D := D) (ci := 7) (v := .ref h2) (C := RX5) (T := TX5) (N := 10) hx hb hts wi_X5_totalBehind_RX5 hown hK hP 0 rfl rfl 1 (by decide) (hts _ wd235_X5_totalBehind) (fun _ h9 => h9) rfl dX5_totalBehind_1 ?_
  refine lv_aload_n hx hb dX5_totalBehind_4 rfl (lv_at hl 0 rfl) ?_
  refine va_get (D := D) (ci := 7) (v := .ref h1) (C := RX5) (T := TX5) (N := 10) hx hb hts wi_X5_totalBehind_RX5 hown hK hP 0 rfl rfl 0 (by decide) (hts _ wd236_X5_totalBehind) (fun _ h9 => h9) rfl dX5_totalBehind_5 ?_
  refine lv_iload_n hx hb dX5_totalBehind_8 rfl (lv_at hl 1 rfl) ?_
  refine va_csr (W.runV (As := [.int 1]) (rest := [.ref h2]) ⟨hx, hb, hml, hown, hts⟩ (k_X0_countsOf_0 l D κ ε h1 h7 h8 h11 h12 h13 h14 (p2) (p3)) (cwV 1 hts gX5_totalBehind_X0_countsOf rfl rfl rfl (by decide +kernel) ⟨(Nat.le_of_ble_eq_true rfl), (Nat.le_of_ble_eq_true rfl)⟩) (pre0_V (q0 := 1) (ci := 2) (wc := [(h1, .inr (2, [.int p2, .int p3, .ref h7, .ref h8])), (h7, .inl (κ 3, 4, .inr (.inr (.inr (.inr (sel [h11, h12, h13, h14]))))))]) hP hK [1, 3] rfl rfl rfl) rfl rfl hl.1 rfl (lv_room (Nat.le_of_ble_eq_true rfl)) dX5_totalBehind_9 ⟨(Nat.le_of_ble_eq_true rfl), (Nat.le_of_ble_eq_true rfl)⟩) (fun r hw => ?_)
  rw [hw]
  refine lv_aload_n hx hb dX5_totalBehind_12 rfl (lv_at hl 0 rfl) ?_
  refine lv_aload_n hx hb dX5_totalBehind_13 rfl (lv_at hl 0 rfl) ?_
  refine va_get (D := D) (ci := 7) (v := .int 0) (C := RX5) (T := TX5) (N := 10) hx hb hts wi_X5_totalBehind_RX5 hown hK hP 0 rfl rfl 6 (by decide) (hts _ wd237_X5_totalBehind) (fun _ h9 => h9) rfl dX5_totalBehind_14 ?_
  refine lv_iconst (v := 1) hx hb dX5_totalBehind_17 (by decide) ?_
  refine lv_isub hx hb dX5_totalBehind_18 ?_
  refine tpi (v := (-1)) (by decide) ?_
  refine lv_iload_n hx hb dX5_totalBehind_19 rfl (lv_at hl 1 rfl) ?_
  refine lv_iconst (v := 1) hx hb dX5_totalBehind_20 (by decide) ?_
  refine lv_isub hx hb dX5_totalBehind_21 ?_
  refine tpi (v := 0) (by decide) ?_
  refine vp_callSi (W.runV (As := [.int (-1), .int 0]) (rest := [.ref h11, .ref h2]) ⟨hx, hb, hml, hown, hts⟩ (k_X5_keyUpTo_1 l D κ ε h0) (cwV 2 hts gX5_totalBehind_X5_keyUpTo rfl rfl rfl (by decide +kernel) ⟨(Nat.le_of_ble_eq_true rfl), (Nat.le_of_ble_eq_true rfl)⟩) (pre0_V (q0 := 0) (ci := 7) (wc := []) hP hK [] rfl rfl rfl) rfl rfl hl.1 rfl (lv_room (Nat.le_of_ble_eq_true rfl)) dX5_totalBehind_22 ⟨(Nat.le_of_ble_eq_true rfl), (Nat.le_of_ble_eq_true rfl)⟩) (fun r hw => ?_)
  rw [hw]
  have hF := va_free (wc := [(h2, .inr (3, [.ref h1, .int p4, .int p5, .ref h9, .ref h10, .long 0, .int p6])), (h11, .inr (6, [.ref h15, .ref h16, .int 0])), (h10, .inl (κ 0, 13, .inl (fun _ => 0)))]) hD hS hA [2, 5, 4] rfl
  refine va_callv (va_runV (As := [.ref h11, .int 0]) (rest := []) ⟨hx, hb, hml, hown, hts⟩ (k_X1_gather_0 l D κ ε h2 h11 h1 h9 h10 h15 h16 s.heap.size (p4) (p5) (0) (p6)) (cwV 2 hts gX5_totalBehind_X1_gather rfl rfl rfl (by decide +kernel) ⟨(Nat.le_of_ble_eq_true rfl), (Nat.le_of_ble_eq_true rfl)⟩) (pre2_V (q0 := 2) (ci := 3) (wc := [(h2, .inr (3, [.ref h1, .int p4, .int p5, .ref h9, .ref h10, .long 0, .int p6])), (h11, .inr (6, [.ref h15, .ref h16, .int 0])), (h10, .inl (κ 0, 13, .inl (fun _ => 0)))]) hP hD hK hE9 hS hA [2, 5, 4] (by decide) rfl rfl rfl) rfl rfl hl.1 rfl (lv_room (Nat.le_of_ble_eq_true rfl)) dX5_totalBehind_25 ⟨(Nat.le_of_ble_eq_true rfl), (Nat.le_of_ble_eq_true rfl)⟩) hS (fun q _ h => hF q h) hF (fun u1 t H locs ht hvm hw hB hz1 hk1 hS => ?_)
  try dsimp only at hw hB
  obtain ⟨hP1, hD1⟩ := hB
  rw [ht] at hP1
  obtain ⟨hP, hD⟩ := post_j (ws' := [(h0, .inr (7, [.ref h1, .ref h2, .ref h3, .ref h4, .ref h5, .ref h6, .int 0, .int p0, .int p1, .int 0])), (h1, .inr (2, [.int p2, .int p3, .ref h7, .ref h8])), (h2, .inr (3, [.ref h1, .int p4, .int p5, .ref h9, .ref h10, .long 0, .int 0])), (h7, .inl (κ 3, 4, .inr (.inr (.inr (.inr (sel [h11, h12, h13, h14])))))), (h10, .inl (κ 0, 13, .inl (fun _ => 0))), (h11, .inr (6, [.ref h15, .ref h16, .int 0]))]) (wr := [(h0, .inr (7, [.ref h1, .ref h2, .ref h3, .ref h4, .ref h5, .ref h6, .int 0, .int p0, .int p1, .int 0])), (h1, .inr (2, [.int p2, .int p3, .ref h7, .ref h8])), (h7, .inl (κ 3, 4, .inr (.inr (.inr (.inr (sel [h11, h12, h13, h14]))))))]) (w1 := [(h2, .inr (3, [.ref h1, .int p4, .int p5, .ref h9, .ref h10, .long 0, .int 0])), (h11, .inr (6, [.ref h15, .ref h16, .int 0])), (h10, .inl (κ 0, 13, .inl (fun _ => 0)))]) hP hD hF [2, 5, 4] rfl [0, 1, 3] rfl (by decide) (by decide) hk1 hP1 hD1 [0, 1, 3, 2, 5, 4] (by decide) rfl
  have hP : va_P D vwCl [(h0, .inr (7, [.ref h1, .ref h2, .ref h3, .ref h4, .ref h5, .ref h6, .int 0, .int p0, .int p1, .int 0])), (h1, .inr (2, [.int p2, .int p3, .ref h7, .ref h8])), (h2, .inr (3, [.ref h1, .int p4, .int p5, .ref h9, .ref h10, .long 0, .int 0])), (h7, .inl (κ 3, 4, .inr (.inr (.inr (.inr (sel [h11, h12, h13, h14])))))), (h10, .inl (κ 0, 13, .inl (fun _ => 0))), (h11, .inr (6, [.ref h15, .ref h16, .int 0]))] H := hP
  have hD : va_D A [(h0, .inr (7, [.ref h1, .ref h2, .ref h3, .ref h4, .ref h5, .ref h6, .int 0, .int p0, .int p1, .int 0])), (h1, .inr (2, [.int p2, .int p3, .ref h7, .ref h8])), (h2, .inr (3, [.ref h1, .int p4, .int p5, .ref h9, .ref h10, .long 0, .int 0])), (h7, .inl (κ 3, 4, .inr (.inr (.inr (.inr (sel [h11, h12, h13, h14])))))), (h10, .inl (κ 0, 13, .inl (fun _ => 0))), (h11, .inr (6, [.ref h15, .ref h16, .int 0]))] := hD
  refine lv_iload_n hx hb dX5_totalBehind_28 rfl (lv_at hl 2 rfl) ?_
  refine lv_if_ne (tgt := 43) hx hb dX5_totalBehind_29 (by decide) (fun h => absurd (by decide) h) (fun _ => ?_)
  refine lv_aload_n hx hb dX5_totalBehind_32 rfl (lv_at hl 0 rfl) ?_
  refine va_get (D := D) (ci := 7) (v := .ref h2) (C := RX5) (T := TX5) (N := 10) hx hb hts wi_X5_totalBehind_RX5 hown hK hP 0 rfl rfl 1 (by decide) (hts _ wd235_X5_totalBehind) (fun _ h9 => h9) rfl dX5_totalBehind_33 ?_
  refine va_get (D := D) (ci := 3) (v := .long 0) (C := RX1) (T := TX1) (N := 7) hx hb hts wi_X5_totalBehind_RX1 hown hK hP 2 rfl rfl 5 (by decide) (hts _ wd239_X5_totalBehind) (fun _ h9 => h9) rfl dX5_totalBehind_36 ?_
  refine lv_l2i (v := 0) hx hb dX5_totalBehind_39 (by decide) ?_
  refine lv_goto (tgt := 50) hx hb dX5_totalBehind_40 (by decide) ?_
  have hP9 := hP
  have hD9 := hD
  exact W.iret (v := 0) hx hb hr (fun t ht hW => ⟨⟨0, (), rfl, rfl, by rw [ht]; exact hP9, hD9⟩, hS.F ht⟩) hS.2.2 dX5_totalBehind_50

set_option maxHeartbeats 4000000 in
set_option maxRecDepth 100000 in
theorem k_X5_mix_5 (l : Launch) (D : va_G) (κ ε : Nat → Nat) : Met l yX5_mix wsX5_mix ({ frames := 0, cells := 0, slots := 0, locals := 0 }) (va_Pc [.long 1661664612773, .long 0] (Pre0 D κ [])) (vp_Sl (fun r => (r = 51511602995963))) 0 0 (fun _ => False) := by
  refine Met.ofW (cc := cX5_mix) (maxL := 4) (ret := (some .long)) (by decide) rfl ?_
  intro p e s m args below meth c s₁ B hml hv
  obtain ⟨rfl, hP, hK⟩ := hv
  have hx := B.exec
  have hb := B.bytes
  have hr := B.returns
  have hts := atoms_spec (ws := wsX5_mix) B.pre
  have hown : s.vm.findClass RX5 = some m.cls := findClass_of_methodNamed B.named
  have hlocks := B.notSynchronized
  have hP : va_P D vwCl [] s.heap := hP
  have hl := lv_entry [.long 1661664612773, .long 0] (n := 4) (Nat.le_of_ble_eq_true rfl)
  rw [lg_entry_eq]
  generalize (lg_sl [.long 1661664612773, .long 0] ++ List.replicate (4 - (lg_sl [.long 1661664612773, .long 0]).length) Slot.unset).toArray = ls at hl ⊢
  have hl : lv_has ls 4 [(0, .long 1661664612773), (2, .long 0)] := hl
  refine lv_lload_n hx hb dX5_mix_0 rfl (lv_at hl 0 rfl) ?_
  refine lv_ldc2 (v := 31) hx hb hown (hts _ wd437_X5_mix) dX5_mix_1 ?_
  refine lv_lmul hx hb dX5_mix_4 ?_
  refine tpl (v := 51511602995963) (by decide) ?_
  refine lv_lload_n hx hb dX5_mix_5 rfl (lv_at hl 1 rfl) ?_
  refine lv_ladd hx hb dX5_mix_6 ?_
  refine tpl (v := 51511602995963) (by decide) ?_
  exact W.lret (v := 51511602995963) hx hb hr (fun t ht hW => ⟨51511602995963, rfl, rfl, ht⟩) (fun q hq => absurd hq List.not_mem_nil) dX5_mix_7

set_option maxHeartbeats 4000000 in
set_option maxRecDepth 100000 in
theorem k_X5_totalBehind_3 (l : Launch) (D : va_G) (κ ε : Nat → Nat) (h0 h1 h2 h3 h4 h5 h6 h7 h8 h9 h10 h11 h12 h13 h14 h15 h16 : Nat) (sz : Nat) (p0 : Int32) (p1 : Int32) (p2 : Int32) (p3 : Int32) (p4 : Int32) (p5 : Int32) (p6 : Int64) : Met l yX5_totalBehind wsX5_totalBehind ({ frames := 2, cells := 0, slots := 0, locals := 48 }) (va_Pc [.ref h0, .int 1, .int 1] (Pre2 D κ ε [(h0, .inr (7, [.ref h1, .ref h2, .ref h3, .ref h4, .ref h5, .ref h6, .int 0, .int p0, .int p1, .int 0])), (h1, .inr (2, [.int p2, .int p3, .ref h7, .ref h8])), (h2, .inr (3, [.ref h1, .int p4, .int p5, .ref h9, .ref h10, .long p6, .int 0])), (h7, .inl (κ 3, 4, .inr (.inr (.inr (.inr (sel [h11, h12, h13, h14])))))), (h10, .inl (κ 0, 13, .inl (fun _ => 0))), (h11, .inr (6, [.ref h15, .ref h16, .int 0]))] sz)) (va_Qi (fun r (u : Unit) => (r = 0)) (fun u t => va_P D vwCl [(h0, .inr (7, [.ref h1, .ref h2, .ref h3, .ref h4, .ref h5, .ref h6, .int 0, .int p0, .int p1, .int 0])), (h1, .inr (2, [.int p2, .int p3, .ref h7, .ref h8])), (h2, .inr (3, [.ref h1, .int p4, .int p5, .ref h9, .ref h10, .long 0, .int 0])), (h7, .inl (κ 3, 4, .inr (.inr (.inr (.inr (sel [h11, h12, h13, h14])))))), (h10, .inl (κ 0, 13, .inl (fun _ => 0))), (h11, .inr (6, [.ref h15, .ref h16, .int 0]))] t.heap ∧ va_D (va_A [(h0, .inr (7, [.ref h1, .ref h2, .ref h3, .ref h4, .ref h5, .ref h6, .int 0, .int p0, .int p1, .int 0])), (h1, .inr (2, [.int p2, .int p3, .ref h7, .ref h8])), (h2, .inr (3, [.ref h1, .int p4, .int p5, .ref h9, .ref h10, .long p6, .int 0])), (h7, .inl (κ 3, 4, .inr (.inr (.inr (.inr (sel [h11, h12, h13, h14])))))), (h10, .inl (κ 0, 13, .inl (fun _ => 0))), (h11, .inr (6, [.ref h15, .ref h16, .int 0]))] sz) [(h0, .inr (7, [.ref h1, .ref h2, .ref h3, .ref h4, .ref h5, .ref h6, .int 0, .int p0, .int p1, .int 0])), (h1, .inr (2, [.int p2, .int p3, .ref h7, .ref h8])), (h2, .inr (3, [.ref h1, .int p4, .int p5, .ref h9, .ref h10, .long 0, .int 0])), (h7, .inl (κ 3, 4, .inr (.inr (.inr (.inr (sel [h11, h12, h13, h14])))))), (h10, .inl (κ 0, 13, .inl (fun _ => 0))), (h11, .inr (6, [.ref h15, .ref h16, .int 0]))]) (va_A [(h0, .inr (7, [.ref h1, .ref h2, .ref h3, .ref h4, .ref h5, .ref h6, .int 0, .int p0, .int p1, .int 0])), (h1, .inr (2, [.int p2, .int p3, .ref h7, .ref h8])), (h2, .inr (3, [.ref h1, .int p4, .int p5, .ref h9, .ref h10, .long p6, .int 0])), (h7, .inl (κ 3, 4, .inr (.inr (.inr (.inr (sel [h11, h12, h13, h14])))))), (h10, .inl (κ 0, 13, .inl (fun _ => 0))), (h11, .inr (6, [.ref h15, .ref h16, .int 0]))] sz)) 0 0 (va_A [(h0, .inr (7, [.ref h1, .ref h2, .ref h3, .ref h4, .ref h5, .ref h6, .int 0, .int p0, .int p1, .int 0])), (h1, .inr (2, [.int p2, .int p3, .ref h7, .ref h8])), (h2, .inr (3, [.ref h1, .int p4, .int p5, .ref h9, .ref h10, .long p6, .int 0])), (h7, .inl (κ 3, 4, .inr (.inr (.inr (.inr (sel [h11, h12, h13, h14])))))), (h10, .inl (κ 0, 13, .inl (fun _ => 0))), (h11, .inr (6, [.ref h15, .ref h16, .int 0]))] sz) := by
  refine Met.ofW (cc := cX5_totalBehind) (maxL := 3) (ret := (some .int)) (by decide) rfl ?_
  intro p e s m args below meth c s₁ B hml hv
  obtain ⟨rfl, hsz, hP, hK, hD0, hE9⟩ := hv
  have hx := B.exec
  have hb := B.bytes
  have hr := B.returns
  have hts := atoms_spec (ws := wsX5_totalBehind) B.pre
  have hown : s.vm.findClass RX5 = some m.cls := findClass_of_methodNamed B.named
  have hlocks := B.notSynchronized
  subst hsz
  have hD := hD0.self (sz := s.heap.size)
  generalize hAe : va_A [(h0, .inr (7, [.ref h1, .ref h2, .ref h3, .ref h4, .ref h5, .ref h6, .int 0, .int p0, .int p1, .int 0])), (h1, .inr (2, [.int p2, .int p3, .ref h7, .ref h8])), (h2, .inr (3, [.ref h1, .int p4, .int p5, .ref h9, .ref h10, .long p6, .int 0])), (h7, .inl (κ 3, 4, .inr (.inr (.inr (.inr (sel [h11, h12, h13, h14])))))), (h10, .inl (κ 0, 13, .inl (fun _ => 0))), (h11, .inr (6, [.ref h15, .ref h16, .int 0]))] s.heap.size = A at hD hE9 ⊢
  have hE := hE9.1
  have hDc := hE9.2
  have hA : ∀ q : Nat, s.heap.size ≤ q → A q := fun q h => by rw [← hAe]; exact Or.inr h
  have hS : va_S A s.heap s.heap [] := va_S.rf
  have hP : va_P D vwCl [(h0, .inr (7, [.ref h1, .ref h2, .ref h3, .ref h4, .ref h5, .ref h6, .int 0, .int p0, .int p1, .int 0])), (h1, .inr (2, [.int p2, .int p3, .ref h7, .ref h8])), (h2, .inr (3, [.ref h1, .int p4, .int p5, .ref h9, .ref h10, .long p6, .int 0])), (h7, .inl (κ 3, 4, .inr (.inr (.inr (.inr (sel [h11, h12, h13, h14])))))), (h10, .inl (κ 0, 13, .inl (fun _ => 0))), (h11, .inr (6, [.ref h15, .ref h16, .int 0]))] s.heap := hP
  have hl := lv_entry [.ref h0, .int 1, .int 1] (n := 3) (Nat.le_of_ble_eq_true rfl)
  rw [lg_entry_eq]
  generalize (lg_sl [.ref h0, .int 1, .int 1] ++ List.replicate (3 - (lg_sl [.ref h0, .int 1, .int 1]).length) Slot.unset).toArray = ls at hl ⊢
  have hl : lv_has ls 3 [(0, .ref h0), (1, .int 1), (2, .int 1)] := hl
  refine lv_aload_n hx hb dX5_totalBehind_0 rfl (lv_at hl 0 rfl) ?_
  refine va_get (D := D) (ci := 7) (v := .ref h2) (C := RX5) (T := TX5) (N := 10) hx hb hts wi_X5_totalBehind_RX5 hown hK hP 0 rfl rfl 1 (by decide) (hts _ wd235_X5_totalBehind) (fun _ h9 => h9) rfl dX5_totalBehind_1 ?_
  refine lv_aload_n hx hb dX5_totalBehind_4 rfl (lv_at hl 0 rfl) ?_
  refine va_get (D := D) (ci := 7) (v := .ref h1) (C := RX5) (T := TX5) (N := 10) hx hb hts wi_X5_totalBehind_RX5 hown hK hP 0 rfl rfl 0 (by decide) (hts _ wd236_X5_totalBehind) (fun _ h9 => h9) rfl dX5_totalBehind_5 ?_
  refine lv_iload_n hx hb dX5_totalBehind_8 rfl (lv_at hl 1 rfl) ?_
  refine va_csr (W.runV (As := [.int 1]) (rest := [.ref h2]) ⟨hx, hb, hml, hown, hts⟩ (k_X0_countsOf_0 l D κ ε h1 h7 h8 h11 h12 h13 h14 (p2) (p3)) (cwV 1 hts gX5_totalBehind_X0_countsOf rfl rfl rfl (by decide +kernel) ⟨(Nat.le_of_ble_eq_true rfl), (Nat.le_of_ble_eq_true rfl)⟩) (pre0_V (q0 := 1) (ci := 2) (wc := [(h1, .inr (2, [.int p2, .int p3, .ref h7, .ref h8])), (h7, .inl (κ 3, 4, .inr (.inr (.inr (.inr (sel [h11, h12, h13, h14]))))))]) hP hK [1, 3] rfl rfl rfl) rfl rfl hl.1 rfl (lv_room (Nat.le_of_ble_eq_true rfl)) dX5_totalBehind_9 ⟨(Nat.le_of_ble_eq_true rfl), (Nat.le_of_ble_eq_true rfl)⟩) (fun r hw => ?_)
  rw [hw]
  refine lv_aload_n hx hb dX5_totalBehind_12 rfl (lv_at hl 0 rfl) ?_
  refine lv_aload_n hx hb dX5_totalBehind_13 rfl (lv_at hl 0 rfl) ?_
  refine va_get (D := D) (ci := 7) (v := .int 0) (C := RX5) (T := TX5) (N := 10) hx hb hts wi_X5_totalBehind_RX5 hown hK hP 0 rfl rfl 6 (by decide) (hts _ wd237_X5_totalBehind) (fun _ h9 => h9) rfl dX5_totalBehind_14 ?_
  refine lv_iconst (v := 1) hx hb dX5_totalBehind_17 (by decide) ?_
  refine lv_isub hx hb dX5_totalBehind_18 ?_
  refine tpi (v := (-1)) (by decide) ?_
  refine lv_iload_n hx hb dX5_totalBehind_19 rfl (lv_at hl 1 rfl) ?_
  refine lv_iconst (v := 1) hx hb dX5_totalBehind_20 (by decide) ?_
  refine lv_isub hx hb dX5_totalBehind_21 ?_
  refine tpi (v := 0) (by decide) ?_
  refine vp_callSi (W.runV (As := [.int (-1), .int 0]) (rest := [.ref h11, .ref h2]) ⟨hx, hb, hml, hown, hts⟩ (k_X5_keyUpTo_1 l D κ ε h0) (cwV 2 hts gX5_totalBehind_X5_keyUpTo rfl rfl rfl (by decide +kernel) ⟨(Nat.le_of_ble_eq_true rfl), (Nat.le_of_ble_eq_true rfl)⟩) (pre0_V (q0 := 0) (ci := 7) (wc := []) hP hK [] rfl rfl rfl) rfl rfl hl.1 rfl (lv_room (Nat.le_of_ble_eq_true rfl)) dX5_totalBehind_22 ⟨(Nat.le_of_ble_eq_true rfl), (Nat.le_of_ble_eq_true rfl)⟩) (fun r hw => ?_)
  rw [hw]
  have hF := va_free (wc := [(h2, .inr (3, [.ref h1, .int p4, .int p5, .ref h9, .ref h10, .long p6, .int 0])), (h11, .inr (6, [.ref h15, .ref h16, .int 0])), (h10, .inl (κ 0, 13, .inl (fun _ => 0)))]) hD hS hA [2, 5, 4] rfl
  refine va_callv (va_runV (As := [.ref h11, .int 0]) (rest := []) ⟨hx, hb, hml, hown, hts⟩ (k_X1_gather_0 l D κ ε h2 h11 h1 h9 h10 h15 h16 s.heap.size (p4) (p5) (p6) (0)) (cwV 2 hts gX5_totalBehind_X1_gather rfl rfl rfl (by decide +kernel) ⟨(Nat.le_of_ble_eq_true rfl), (Nat.le_of_ble_eq_true rfl)⟩) (pre2_V (q0 := 2) (ci := 3) (wc := [(h2, .inr (3, [.ref h1, .int p4, .int p5, .ref h9, .ref h10, .long p6, .int 0])), (h11, .inr (6, [.ref h15, .ref h16, .int 0])), (h10, .inl (κ 0, 13, .inl (fun _ => 0)))]) hP hD hK hE9 hS hA [2, 5, 4] (by decide) rfl rfl rfl) rfl rfl hl.1 rfl (lv_room (Nat.le_of_ble_eq_true rfl)) dX5_totalBehind_25 ⟨(Nat.le_of_ble_eq_true rfl), (Nat.le_of_ble_eq_true rfl)⟩) hS (fun q _ h => hF q h) hF (fun u1 t H locs ht hvm hw hB hz1 hk1 hS => ?_)
  try dsimp only at hw hB
  obtain ⟨hP1, hD1⟩ := hB
  rw [ht] at hP1
  obtain ⟨hP, hD⟩ := post_j (ws' := [(h0, .inr (7, [.ref h1, .ref h2, .ref h3, .ref h4, .ref h5, .ref h6, .int 0, .int p0, .int p1, .int 0])), (h1, .inr (2, [.int p2, .int p3, .ref h7, .ref h8])), (h2, .inr (3, [.ref h1, .int p4, .int p5, .ref h9, .ref h10, .long 0, .int 0])), (h7, .inl (κ 3, 4, .inr (.inr (.inr (.inr (sel [h11, h12, h13, h14])))))), (h10, .inl (κ 0, 13, .inl (fun _ => 0))), (h11, .inr (6, [.ref h15, .ref h16, .int 0]))]) (wr := [(h0, .inr (7, [.ref h1, .ref h2, .ref h3, .ref h4, .ref h5, .ref h6, .int 0, .int p0, .int p1, .int 0])), (h1, .inr (2, [.int p2, .int p3, .ref h7, .ref h8])), (h7, .inl (κ 3, 4, .inr (.inr (.inr (.inr (sel [h11, h12, h13, h14]))))))]) (w1 := [(h2, .inr (3, [.ref h1, .int p4, .int p5, .ref h9, .ref h10, .long 0, .int 0])), (h11, .inr (6, [.ref h15, .ref h16, .int 0])), (h10, .inl (κ 0, 13, .inl (fun _ => 0)))]) hP hD hF [2, 5, 4] rfl [0, 1, 3] rfl (by decide) (by decide) hk1 hP1 hD1 [0, 1, 3, 2, 5, 4] (by decide) rfl
  have hP : va_P D vwCl [(h0, .inr (7, [.ref h1, .ref h2, .ref h3, .ref h4, .ref h5, .ref h6, .int 0, .int p0, .int p1, .int 0])), (h1, .inr (2, [.int p2, .int p3, .ref h7, .ref h8])), (h2, .inr (3, [.ref h1, .int p4, .int p5, .ref h9, .ref h10, .long 0, .int 0])), (h7, .inl (κ 3, 4, .inr (.inr (.inr (.inr (sel [h11, h12, h13, h14])))))), (h10, .inl (κ 0, 13, .inl (fun _ => 0))), (h11, .inr (6, [.ref h15, .ref h16, .int 0]))] H := hP
  have hD : va_D A [(h0, .inr (7, [.ref h1, .ref h2, .ref h3, .ref h4, .ref h5, .ref h6, .int 0, .int p0, .int p1, .int 0])), (h1, .inr (2, [.int p2, .int p3, .ref h7, .ref h8])), (h2, .inr (3, [.ref h1, .int p4, .int p5, .ref h9, .ref h10, .long 0, .int 0])), (h7, .inl (κ 3, 4, .inr (.inr (.inr (.inr (sel [h11, h12, h13, h14])))))), (h10, .inl (κ 0, 13, .inl (fun _ => 0))), (h11, .inr (6, [.ref h15, .ref h16, .int 0]))] := hD
  refine lv_iload_n hx hb dX5_totalBehind_28 rfl (lv_at hl 2 rfl) ?_
  refine lv_if_ne (tgt := 43) hx hb dX5_totalBehind_29 (by decide) (fun _ => ?_) (fun h => absurd h (by decide))
  refine lv_aload_n hx hb dX5_totalBehind_43 rfl (lv_at hl 0 rfl) ?_
  refine va_get (D := D) (ci := 7) (v := .ref h2) (C := RX5) (T := TX5) (N := 10) hx hb hts wi_X5_totalBehind_RX5 hown hK hP 0 rfl rfl 1 (by decide) (hts _ wd235_X5_totalBehind) (fun _ h9 => h9) rfl dX5_totalBehind_44 ?_
  refine va_get (D := D) (ci := 3) (v := .int 0) (C := RX1) (T := TX1) (N := 7) hx hb hts wi_X5_totalBehind_RX1 hown hK hP 2 rfl rfl 6 (by decide) (hts _ wd238_X5_totalBehind) (fun _ h9 => h9) rfl dX5_totalBehind_47 ?_
  have hP9 := hP
  have hD9 := hD
  exact W.iret (v := 0) hx hb hr (fun t ht hW => ⟨⟨0, (), rfl, rfl, by rw [ht]; exact hP9, hD9⟩, hS.F ht⟩) hS.2.2 dX5_totalBehind_50

set_option maxHeartbeats 4000000 in
set_option maxRecDepth 100000 in
theorem k_X5_mix_6 (l : Launch) (D : va_G) (κ ε : Nat → Nat) : Met l yX5_mix wsX5_mix ({ frames := 0, cells := 0, slots := 0, locals := 0 }) (va_Pc [.long 51511602995963, .long 0] (Pre0 D κ [])) (vp_Sl (fun r => (r = 1596859692874853))) 0 0 (fun _ => False) := by
  refine Met.ofW (cc := cX5_mix) (maxL := 4) (ret := (some .long)) (by decide) rfl ?_
  intro p e s m args below meth c s₁ B hml hv
  obtain ⟨rfl, hP, hK⟩ := hv
  have hx := B.exec
  have hb := B.bytes
  have hr := B.returns
  have hts := atoms_spec (ws := wsX5_mix) B.pre
  have hown : s.vm.findClass RX5 = some m.cls := findClass_of_methodNamed B.named
  have hlocks := B.notSynchronized
  have hP : va_P D vwCl [] s.heap := hP
  have hl := lv_entry [.long 51511602995963, .long 0] (n := 4) (Nat.le_of_ble_eq_true rfl)
  rw [lg_entry_eq]
  generalize (lg_sl [.long 51511602995963, .long 0] ++ List.replicate (4 - (lg_sl [.long 51511602995963, .long 0]).length) Slot.unset).toArray = ls at hl ⊢
  have hl : lv_has ls 4 [(0, .long 51511602995963), (2, .long 0)] := hl
  refine lv_lload_n hx hb dX5_mix_0 rfl (lv_at hl 0 rfl) ?_
  refine lv_ldc2 (v := 31) hx hb hown (hts _ wd437_X5_mix) dX5_mix_1 ?_
  refine lv_lmul hx hb dX5_mix_4 ?_
  refine tpl (v := 1596859692874853) (by decide) ?_
  refine lv_lload_n hx hb dX5_mix_5 rfl (lv_at hl 1 rfl) ?_
  refine lv_ladd hx hb dX5_mix_6 ?_
  refine tpl (v := 1596859692874853) (by decide) ?_
  exact W.lret (v := 1596859692874853) hx hb hr (fun t ht hW => ⟨1596859692874853, rfl, rfl, ht⟩) (fun q hq => absurd hq List.not_mem_nil) dX5_mix_7

set_option maxHeartbeats 4000000 in
set_option maxRecDepth 100000 in
theorem k_X5_totalBehind_4 (l : Launch) (D : va_G) (κ ε : Nat → Nat) (h0 h1 h2 h3 h4 h5 h6 h7 h8 h9 h10 h11 h12 h13 h14 h15 h16 : Nat) (sz : Nat) (p0 : Int32) (p1 : Int32) (p2 : Int32) (p3 : Int32) (p4 : Int32) (p5 : Int32) (p6 : Int32) : Met l yX5_totalBehind wsX5_totalBehind ({ frames := 2, cells := 0, slots := 0, locals := 48 }) (va_Pc [.ref h0, .int 2, .int 0] (Pre2 D κ ε [(h0, .inr (7, [.ref h1, .ref h2, .ref h3, .ref h4, .ref h5, .ref h6, .int 0, .int p0, .int p1, .int 0])), (h1, .inr (2, [.int p2, .int p3, .ref h7, .ref h8])), (h2, .inr (3, [.ref h1, .int p4, .int p5, .ref h9, .ref h10, .long 0, .int p6])), (h7, .inl (κ 3, 4, .inr (.inr (.inr (.inr (sel [h11, h12, h13, h14])))))), (h10, .inl (κ 0, 13, .inl (fun _ => 0))), (h12, .inr (6, [.ref h15, .ref h16, .int 0]))] sz)) (va_Qi (fun r (u : Unit) => (r = 0)) (fun u t => va_P D vwCl [(h0, .inr (7, [.ref h1, .ref h2, .ref h3, .ref h4, .ref h5, .ref h6, .int 0, .int p0, .int p1, .int 0])), (h1, .inr (2, [.int p2, .int p3, .ref h7, .ref h8])), (h2, .inr (3, [.ref h1, .int p4, .int p5, .ref h9, .ref h10, .long 0, .int 0])), (h7, .inl (κ 3, 4, .inr (.inr (.inr (.inr (sel [h11, h12, h13, h14])))))), (h10, .inl (κ 0, 13, .inl (fun _ => 0))), (h12, .inr (6, [.ref h15, .ref h16, .int 0]))] t.heap ∧ va_D (va_A [(h0, .inr (7, [.ref h1, .ref h2, .ref h3, .ref h4, .ref h5, .ref h6, .int 0, .int p0, .int p1, .int 0])), (h1, .inr (2, [.int p2, .int p3, .ref h7, .ref h8])), (h2, .inr (3, [.ref h1, .int p4, .int p5, .ref h9, .ref h10, .long 0, .int p6])), (h7, .inl (κ 3, 4, .inr (.inr (.inr (.inr (sel [h11, h12, h13, h14])))))), (h10, .inl (κ 0, 13, .inl (fun _ => 0))), (h12, .inr (6, [.ref h15, .ref h16, .int 0]))] sz) [(h0, .inr (7, [.ref h1, .ref h2, .ref h3, .ref h4, .ref h5, .ref h6, .int 0, .int p0, .int p1, .int 0])), (h1, .inr (2, [.int p2, .int p3, .ref h7, .ref h8])), (h2, .inr (3, [.ref h1, .int p4, .int p5, .ref h9, .ref h10, .long 0, .int 0])), (h7, .inl (κ 3, 4, .inr (.inr (.inr (.inr (sel [h11, h12, h13, h14])))))), (h10, .inl (κ 0, 13, .inl (fun _ => 0))), (h12, .inr (6, [.ref h15, .ref h16, .int 0]))]) (va_A [(h0, .inr (7, [.ref h1, .ref h2, .ref h3, .ref h4, .ref h5, .ref h6, .int 0, .int p0, .int p1, .int 0])), (h1, .inr (2, [.int p2, .int p3, .ref h7, .ref h8])), (h2, .inr (3, [.ref h1, .int p4, .int p5, .ref h9, .ref h10, .long 0, .int p6])), (h7, .inl (κ 3, 4, .inr (.inr (.inr (.inr (sel [h11, h12, h13, h14])))))), (h10, .inl (κ 0, 13, .inl (fun _ => 0))), (h12, .inr (6, [.ref h15, .ref h16, .int 0]))] sz)) 0 0 (va_A [(h0, .inr (7, [.ref h1, .ref h2, .ref h3, .ref h4, .ref h5, .ref h6, .int 0, .int p0, .int p1, .int 0])), (h1, .inr (2, [.int p2, .int p3, .ref h7, .ref h8])), (h2, .inr (3, [.ref h1, .int p4, .int p5, .ref h9, .ref h10, .long 0, .int p6])), (h7, .inl (κ 3, 4, .inr (.inr (.inr (.inr (sel [h11, h12, h13, h14])))))), (h10, .inl (κ 0, 13, .inl (fun _ => 0))), (h12, .inr (6, [.ref h15, .ref h16, .int 0]))] sz) := by
  refine Met.ofW (cc := cX5_totalBehind) (maxL := 3) (ret := (some .int)) (by decide) rfl ?_
  intro p e s m args below meth c s₁ B hml hv
  obtain ⟨rfl, hsz, hP, hK, hD0, hE9⟩ := hv
  have hx := B.exec
  have hb := B.bytes
  have hr := B.returns
  have hts := atoms_spec (ws := wsX5_totalBehind) B.pre
  have hown : s.vm.findClass RX5 = some m.cls := findClass_of_methodNamed B.named
  have hlocks := B.notSynchronized
  subst hsz
  have hD := hD0.self (sz := s.heap.size)
  generalize hAe : va_A [(h0, .inr (7, [.ref h1, .ref h2, .ref h3, .ref h4, .ref h5, .ref h6, .int 0, .int p0, .int p1, .int 0])), (h1, .inr (2, [.int p2, .int p3, .ref h7, .ref h8])), (h2, .inr (3, [.ref h1, .int p4, .int p5, .ref h9, .ref h10, .long 0, .int p6])), (h7, .inl (κ 3, 4, .inr (.inr (.inr (.inr (sel [h11, h12, h13, h14])))))), (h10, .inl (κ 0, 13, .inl (fun _ => 0))), (h12, .inr (6, [.ref h15, .ref h16, .int 0]))] s.heap.size = A at hD hE9 ⊢
  have hE := hE9.1
  have hDc := hE9.2
  have hA : ∀ q : Nat, s.heap.size ≤ q → A q := fun q h => by rw [← hAe]; exact Or.inr h
  have hS : va_S A s.heap s.heap [] := va_S.rf
  have hP : va_P D vwCl [(h0, .inr (7, [.ref h1, .ref h2, .ref h3, .ref h4, .ref h5, .ref h6, .int 0, .int p0, .int p1, .int 0])), (h1, .inr (2, [.int p2, .int p3, .ref h7, .ref h8])), (h2, .inr (3, [.ref h1, .int p4, .int p5, .ref h9, .ref h10, .long 0, .int p6])), (h7, .inl (κ 3, 4, .inr (.inr (.inr (.inr (sel [h11, h12, h13, h14])))))), (h10, .inl (κ 0, 13, .inl (fun _ => 0))), (h12, .inr (6, [.ref h15, .ref h16, .int 0]))] s.heap := hP
  have hl := lv_entry [.ref h0, .int 2, .int 0] (n := 3) (Nat.le_of_ble_eq_true rfl)
  rw [lg_entry_eq]
  generalize (lg_sl [.ref h0, .int 2, .int 0] ++ List.replicate (3 - (lg_sl [.ref h0, .int 2, .int 0]).length) Slot.unset).toArray = ls at hl ⊢
  have hl : lv_has ls 3 [(0, .ref h0), (1, .int 2), (2, .int 0)] := hl
  refine lv_aload_n hx hb dX5_totalBehind_0 rfl (lv_at hl 0 rfl) ?_
  refine va_get (D := D) (ci := 7) (v := .ref h2) (C := RX5) (T := TX5) (N := 10) hx hb hts wi_X5_totalBehind_RX5 hown hK hP 0 rfl rfl 1 (by decide) (hts _ wd235_X5_totalBehind) (fun _ h9 => h9) rfl dX5_totalBehind_1 ?_
  refine lv_aload_n hx hb dX5_totalBehind_4 rfl (lv_at hl 0 rfl) ?_
  refine va_get (D := D) (ci := 7) (v := .ref h1) (C := RX5) (T := TX5) (N := 10) hx hb hts wi_X5_totalBehind_RX5 hown hK hP 0 rfl rfl 0 (by decide) (hts _ wd236_X5_totalBehind) (fun _ h9 => h9) rfl dX5_totalBehind_5 ?_
  refine lv_iload_n hx hb dX5_totalBehind_8 rfl (lv_at hl 1 rfl) ?_
  refine va_csr (W.runV (As := [.int 2]) (rest := [.ref h2]) ⟨hx, hb, hml, hown, hts⟩ (k_X0_countsOf_1 l D κ ε h1 h7 h8 h11 h12 h13 h14 (p2) (p3)) (cwV 1 hts gX5_totalBehind_X0_countsOf rfl rfl rfl (by decide +kernel) ⟨(Nat.le_of_ble_eq_true rfl), (Nat.le_of_ble_eq_true rfl)⟩) (pre0_V (q0 := 1) (ci := 2) (wc := [(h1, .inr (2, [.int p2, .int p3, .ref h7, .ref h8])), (h7, .inl (κ 3, 4, .inr (.inr (.inr (.inr (sel [h11, h12, h13, h14]))))))]) hP hK [1, 3] rfl rfl rfl) rfl rfl hl.1 rfl (lv_room (Nat.le_of_ble_eq_true rfl)) dX5_totalBehind_9 ⟨(Nat.le_of_ble_eq_true rfl), (Nat.le_of_ble_eq_true rfl)⟩) (fun r hw => ?_)
  rw [hw]
  refine lv_aload_n hx hb dX5_totalBehind_12 rfl (lv_at hl 0 rfl) ?_
  refine lv_aload_n hx hb dX5_totalBehind_13 rfl (lv_at hl 0 rfl) ?_
  refine va_get (D := D) (ci := 7) (v := .int 0) (C := RX5) (T := TX5) (N := 10) hx hb hts wi_X5_totalBehind_RX5 hown hK hP 0 rfl rfl 6 (by decide) (hts _ wd237_X5_totalBehind) (fun _ h9 => h9) rfl dX5_totalBehind_14 ?_
  refine lv_iconst (v := 1) hx hb dX5_totalBehind_17 (by decide) ?_
  refine lv_isub hx hb dX5_totalBehind_18 ?_
  refine tpi (v := (-1)) (by decide) ?_
  refine lv_iload_n hx hb dX5_totalBehind_19 rfl (lv_at hl 1 rfl) ?_
  refine lv_iconst (v := 1) hx hb dX5_totalBehind_20 (by decide) ?_
  refine lv_isub hx hb dX5_totalBehind_21 ?_
  refine tpi (v := 1) (by decide) ?_
  refine vp_callSi (W.runV (As := [.int (-1), .int 1]) (rest := [.ref h12, .ref h2]) ⟨hx, hb, hml, hown, hts⟩ (k_X5_keyUpTo_2 l D κ ε h0 h1 h2 h3 h4 h5 h6 (0) (p0) (p1)) (cwV 2 hts gX5_totalBehind_X5_keyUpTo rfl rfl rfl (by decide +kernel) ⟨(Nat.le_of_ble_eq_true rfl), (Nat.le_of_ble_eq_true rfl)⟩) (pre0_V (q0 := 0) (ci := 7) (wc := [(h0, .inr (7, [.ref h1, .ref h2, .ref h3, .ref h4, .ref h5, .ref h6, .int 0, .int p0, .int p1, .int 0]))]) hP hK [0] rfl rfl rfl) rfl rfl hl.1 rfl (lv_room (Nat.le_of_ble_eq_true rfl)) dX5_totalBehind_22 ⟨(Nat.le_of_ble_eq_true rfl), (Nat.le_of_ble_eq_true rfl)⟩) (fun r hw => ?_)
  rw [hw]
  have hF := va_free (wc := [(h2, .inr (3, [.ref h1, .int p4, .int p5, .ref h9, .ref h10, .long 0, .int p6])), (h12, .inr (6, [.ref h15, .ref h16, .int 0])), (h10, .inl (κ 0, 13, .inl (fun _ => 0)))]) hD hS hA [2, 5, 4] rfl
  refine va_callv (va_runV (As := [.ref h12, .int 0]) (rest := []) ⟨hx, hb, hml, hown, hts⟩ (k_X1_gather_0 l D κ ε h2 h12 h1 h9 h10 h15 h16 s.heap.size (p4) (p5) (0) (p6)) (cwV 2 hts gX5_totalBehind_X1_gather rfl rfl rfl (by decide +kernel) ⟨(Nat.le_of_ble_eq_true rfl), (Nat.le_of_ble_eq_true rfl)⟩) (pre2_V (q0 := 2) (ci := 3) (wc := [(h2, .inr (3, [.ref h1, .int p4, .int p5, .ref h9, .ref h10, .long 0, .int p6])), (h12, .inr (6, [.ref h15, .ref h16, .int 0])), (h10, .inl (κ 0, 13, .inl (fun _ => 0)))]) hP hD hK hE9 hS hA [2, 5, 4] (by decide) rfl rfl rfl) rfl rfl hl.1 rfl (lv_room (Nat.le_of_ble_eq_true rfl)) dX5_totalBehind_25 ⟨(Nat.le_of_ble_eq_true rfl), (Nat.le_of_ble_eq_true rfl)⟩) hS (fun q _ h => hF q h) hF (fun u1 t H locs ht hvm hw hB hz1 hk1 hS => ?_)
  try dsimp only at hw hB
  obtain ⟨hP1, hD1⟩ := hB
  rw [ht] at hP1
  obtain ⟨hP, hD⟩ := post_j (ws' := [(h0, .inr (7, [.ref h1, .ref h2, .ref h3, .ref h4, .ref h5, .ref h6, .int 0, .int p0, .int p1, .int 0])), (h1, .inr (2, [.int p2, .int p3, .ref h7, .ref h8])), (h2, .inr (3, [.ref h1, .int p4, .int p5, .ref h9, .ref h10, .long 0, .int 0])), (h7, .inl (κ 3, 4, .inr (.inr (.inr (.inr (sel [h11, h12, h13, h14])))))), (h10, .inl (κ 0, 13, .inl (fun _ => 0))), (h12, .inr (6, [.ref h15, .ref h16, .int 0]))]) (wr := [(h0, .inr (7, [.ref h1, .ref h2, .ref h3, .ref h4, .ref h5, .ref h6, .int 0, .int p0, .int p1, .int 0])), (h1, .inr (2, [.int p2, .int p3, .ref h7, .ref h8])), (h7, .inl (κ 3, 4, .inr (.inr (.inr (.inr (sel [h11, h12, h13, h14]))))))]) (w1 := [(h2, .inr (3, [.ref h1, .int p4, .int p5, .ref h9, .ref h10, .long 0, .int 0])), (h12, .inr (6, [.ref h15, .ref h16, .int 0])), (h10, .inl (κ 0, 13, .inl (fun _ => 0)))]) hP hD hF [2, 5, 4] rfl [0, 1, 3] rfl (by decide) (by decide) hk1 hP1 hD1 [0, 1, 3, 2, 5, 4] (by decide) rfl
  have hP : va_P D vwCl [(h0, .inr (7, [.ref h1, .ref h2, .ref h3, .ref h4, .ref h5, .ref h6, .int 0, .int p0, .int p1, .int 0])), (h1, .inr (2, [.int p2, .int p3, .ref h7, .ref h8])), (h2, .inr (3, [.ref h1, .int p4, .int p5, .ref h9, .ref h10, .long 0, .int 0])), (h7, .inl (κ 3, 4, .inr (.inr (.inr (.inr (sel [h11, h12, h13, h14])))))), (h10, .inl (κ 0, 13, .inl (fun _ => 0))), (h12, .inr (6, [.ref h15, .ref h16, .int 0]))] H := hP
  have hD : va_D A [(h0, .inr (7, [.ref h1, .ref h2, .ref h3, .ref h4, .ref h5, .ref h6, .int 0, .int p0, .int p1, .int 0])), (h1, .inr (2, [.int p2, .int p3, .ref h7, .ref h8])), (h2, .inr (3, [.ref h1, .int p4, .int p5, .ref h9, .ref h10, .long 0, .int 0])), (h7, .inl (κ 3, 4, .inr (.inr (.inr (.inr (sel [h11, h12, h13, h14])))))), (h10, .inl (κ 0, 13, .inl (fun _ => 0))), (h12, .inr (6, [.ref h15, .ref h16, .int 0]))] := hD
  refine lv_iload_n hx hb dX5_totalBehind_28 rfl (lv_at hl 2 rfl) ?_
  refine lv_if_ne (tgt := 43) hx hb dX5_totalBehind_29 (by decide) (fun h => absurd (by decide) h) (fun _ => ?_)
  refine lv_aload_n hx hb dX5_totalBehind_32 rfl (lv_at hl 0 rfl) ?_
  refine va_get (D := D) (ci := 7) (v := .ref h2) (C := RX5) (T := TX5) (N := 10) hx hb hts wi_X5_totalBehind_RX5 hown hK hP 0 rfl rfl 1 (by decide) (hts _ wd235_X5_totalBehind) (fun _ h9 => h9) rfl dX5_totalBehind_33 ?_
  refine va_get (D := D) (ci := 3) (v := .long 0) (C := RX1) (T := TX1) (N := 7) hx hb hts wi_X5_totalBehind_RX1 hown hK hP 2 rfl rfl 5 (by decide) (hts _ wd239_X5_totalBehind) (fun _ h9 => h9) rfl dX5_totalBehind_36 ?_
  refine lv_l2i (v := 0) hx hb dX5_totalBehind_39 (by decide) ?_
  refine lv_goto (tgt := 50) hx hb dX5_totalBehind_40 (by decide) ?_
  have hP9 := hP
  have hD9 := hD
  exact W.iret (v := 0) hx hb hr (fun t ht hW => ⟨⟨0, (), rfl, rfl, by rw [ht]; exact hP9, hD9⟩, hS.F ht⟩) hS.2.2 dX5_totalBehind_50

set_option maxHeartbeats 4000000 in
set_option maxRecDepth 100000 in
theorem k_X5_mix_7 (l : Launch) (D : va_G) (κ ε : Nat → Nat) : Met l yX5_mix wsX5_mix ({ frames := 0, cells := 0, slots := 0, locals := 0 }) (va_Pc [.long 1596859692874853, .long 0] (Pre0 D κ [])) (vp_Sl (fun r => (r = 49502650479120443))) 0 0 (fun _ => False) := by
  refine Met.ofW (cc := cX5_mix) (maxL := 4) (ret := (some .long)) (by decide) rfl ?_
  intro p e s m args below meth c s₁ B hml hv
  obtain ⟨rfl, hP, hK⟩ := hv
  have hx := B.exec
  have hb := B.bytes
  have hr := B.returns
  have hts := atoms_spec (ws := wsX5_mix) B.pre
  have hown : s.vm.findClass RX5 = some m.cls := findClass_of_methodNamed B.named
  have hlocks := B.notSynchronized
  have hP : va_P D vwCl [] s.heap := hP
  have hl := lv_entry [.long 1596859692874853, .long 0] (n := 4) (Nat.le_of_ble_eq_true rfl)
  rw [lg_entry_eq]
  generalize (lg_sl [.long 1596859692874853, .long 0] ++ List.replicate (4 - (lg_sl [.long 1596859692874853, .long 0]).length) Slot.unset).toArray = ls at hl ⊢
  have hl : lv_has ls 4 [(0, .long 1596859692874853), (2, .long 0)] := hl
  refine lv_lload_n hx hb dX5_mix_0 rfl (lv_at hl 0 rfl) ?_
  refine lv_ldc2 (v := 31) hx hb hown (hts _ wd437_X5_mix) dX5_mix_1 ?_
  refine lv_lmul hx hb dX5_mix_4 ?_
  refine tpl (v := 49502650479120443) (by decide) ?_
  refine lv_lload_n hx hb dX5_mix_5 rfl (lv_at hl 1 rfl) ?_
  refine lv_ladd hx hb dX5_mix_6 ?_
  refine tpl (v := 49502650479120443) (by decide) ?_
  exact W.lret (v := 49502650479120443) hx hb hr (fun t ht hW => ⟨49502650479120443, rfl, rfl, ht⟩) (fun q hq => absurd hq List.not_mem_nil) dX5_mix_7

set_option maxHeartbeats 4000000 in
set_option maxRecDepth 100000 in
theorem k_X5_totalBehind_5 (l : Launch) (D : va_G) (κ ε : Nat → Nat) (h0 h1 h2 h3 h4 h5 h6 h7 h8 h9 h10 h11 h12 h13 h14 h15 h16 : Nat) (sz : Nat) (p0 : Int32) (p1 : Int32) (p2 : Int32) (p3 : Int32) (p4 : Int32) (p5 : Int32) (p6 : Int64) : Met l yX5_totalBehind wsX5_totalBehind ({ frames := 2, cells := 0, slots := 0, locals := 48 }) (va_Pc [.ref h0, .int 2, .int 1] (Pre2 D κ ε [(h0, .inr (7, [.ref h1, .ref h2, .ref h3, .ref h4, .ref h5, .ref h6, .int 0, .int p0, .int p1, .int 0])), (h1, .inr (2, [.int p2, .int p3, .ref h7, .ref h8])), (h2, .inr (3, [.ref h1, .int p4, .int p5, .ref h9, .ref h10, .long p6, .int 0])), (h7, .inl (κ 3, 4, .inr (.inr (.inr (.inr (sel [h11, h12, h13, h14])))))), (h10, .inl (κ 0, 13, .inl (fun _ => 0))), (h12, .inr (6, [.ref h15, .ref h16, .int 0]))] sz)) (va_Qi (fun r (u : Unit) => (r = 0)) (fun u t => va_P D vwCl [(h0, .inr (7, [.ref h1, .ref h2, .ref h3, .ref h4, .ref h5, .ref h6, .int 0, .int p0, .int p1, .int 0])), (h1, .inr (2, [.int p2, .int p3, .ref h7, .ref h8])), (h2, .inr (3, [.ref h1, .int p4, .int p5, .ref h9, .ref h10, .long 0, .int 0])), (h7, .inl (κ 3, 4, .inr (.inr (.inr (.inr (sel [h11, h12, h13, h14])))))), (h10, .inl (κ 0, 13, .inl (fun _ => 0))), (h12, .inr (6, [.ref h15, .ref h16, .int 0]))] t.heap ∧ va_D (va_A [(h0, .inr (7, [.ref h1, .ref h2, .ref h3, .ref h4, .ref h5, .ref h6, .int 0, .int p0, .int p1, .int 0])), (h1, .inr (2, [.int p2, .int p3, .ref h7, .ref h8])), (h2, .inr (3, [.ref h1, .int p4, .int p5, .ref h9, .ref h10, .long p6, .int 0])), (h7, .inl (κ 3, 4, .inr (.inr (.inr (.inr (sel [h11, h12, h13, h14])))))), (h10, .inl (κ 0, 13, .inl (fun _ => 0))), (h12, .inr (6, [.ref h15, .ref h16, .int 0]))] sz) [(h0, .inr (7, [.ref h1, .ref h2, .ref h3, .ref h4, .ref h5, .ref h6, .int 0, .int p0, .int p1, .int 0])), (h1, .inr (2, [.int p2, .int p3, .ref h7, .ref h8])), (h2, .inr (3, [.ref h1, .int p4, .int p5, .ref h9, .ref h10, .long 0, .int 0])), (h7, .inl (κ 3, 4, .inr (.inr (.inr (.inr (sel [h11, h12, h13, h14])))))), (h10, .inl (κ 0, 13, .inl (fun _ => 0))), (h12, .inr (6, [.ref h15, .ref h16, .int 0]))]) (va_A [(h0, .inr (7, [.ref h1, .ref h2, .ref h3, .ref h4, .ref h5, .ref h6, .int 0, .int p0, .int p1, .int 0])), (h1, .inr (2, [.int p2, .int p3, .ref h7, .ref h8])), (h2, .inr (3, [.ref h1, .int p4, .int p5, .ref h9, .ref h10, .long p6, .int 0])), (h7, .inl (κ 3, 4, .inr (.inr (.inr (.inr (sel [h11, h12, h13, h14])))))), (h10, .inl (κ 0, 13, .inl (fun _ => 0))), (h12, .inr (6, [.ref h15, .ref h16, .int 0]))] sz)) 0 0 (va_A [(h0, .inr (7, [.ref h1, .ref h2, .ref h3, .ref h4, .ref h5, .ref h6, .int 0, .int p0, .int p1, .int 0])), (h1, .inr (2, [.int p2, .int p3, .ref h7, .ref h8])), (h2, .inr (3, [.ref h1, .int p4, .int p5, .ref h9, .ref h10, .long p6, .int 0])), (h7, .inl (κ 3, 4, .inr (.inr (.inr (.inr (sel [h11, h12, h13, h14])))))), (h10, .inl (κ 0, 13, .inl (fun _ => 0))), (h12, .inr (6, [.ref h15, .ref h16, .int 0]))] sz) := by
  refine Met.ofW (cc := cX5_totalBehind) (maxL := 3) (ret := (some .int)) (by decide) rfl ?_
  intro p e s m args below meth c s₁ B hml hv
  obtain ⟨rfl, hsz, hP, hK, hD0, hE9⟩ := hv
  have hx := B.exec
  have hb := B.bytes
  have hr := B.returns
  have hts := atoms_spec (ws := wsX5_totalBehind) B.pre
  have hown : s.vm.findClass RX5 = some m.cls := findClass_of_methodNamed B.named
  have hlocks := B.notSynchronized
  subst hsz
  have hD := hD0.self (sz := s.heap.size)
  generalize hAe : va_A [(h0, .inr (7, [.ref h1, .ref h2, .ref h3, .ref h4, .ref h5, .ref h6, .int 0, .int p0, .int p1, .int 0])), (h1, .inr (2, [.int p2, .int p3, .ref h7, .ref h8])), (h2, .inr (3, [.ref h1, .int p4, .int p5, .ref h9, .ref h10, .long p6, .int 0])), (h7, .inl (κ 3, 4, .inr (.inr (.inr (.inr (sel [h11, h12, h13, h14])))))), (h10, .inl (κ 0, 13, .inl (fun _ => 0))), (h12, .inr (6, [.ref h15, .ref h16, .int 0]))] s.heap.size = A at hD hE9 ⊢
  have hE := hE9.1
  have hDc := hE9.2
  have hA : ∀ q : Nat, s.heap.size ≤ q → A q := fun q h => by rw [← hAe]; exact Or.inr h
  have hS : va_S A s.heap s.heap [] := va_S.rf
  have hP : va_P D vwCl [(h0, .inr (7, [.ref h1, .ref h2, .ref h3, .ref h4, .ref h5, .ref h6, .int 0, .int p0, .int p1, .int 0])), (h1, .inr (2, [.int p2, .int p3, .ref h7, .ref h8])), (h2, .inr (3, [.ref h1, .int p4, .int p5, .ref h9, .ref h10, .long p6, .int 0])), (h7, .inl (κ 3, 4, .inr (.inr (.inr (.inr (sel [h11, h12, h13, h14])))))), (h10, .inl (κ 0, 13, .inl (fun _ => 0))), (h12, .inr (6, [.ref h15, .ref h16, .int 0]))] s.heap := hP
  have hl := lv_entry [.ref h0, .int 2, .int 1] (n := 3) (Nat.le_of_ble_eq_true rfl)
  rw [lg_entry_eq]
  generalize (lg_sl [.ref h0, .int 2, .int 1] ++ List.replicate (3 - (lg_sl [.ref h0, .int 2, .int 1]).length) Slot.unset).toArray = ls at hl ⊢
  have hl : lv_has ls 3 [(0, .ref h0), (1, .int 2), (2, .int 1)] := hl
  refine lv_aload_n hx hb dX5_totalBehind_0 rfl (lv_at hl 0 rfl) ?_
  refine va_get (D := D) (ci := 7) (v := .ref h2) (C := RX5) (T := TX5) (N := 10) hx hb hts wi_X5_totalBehind_RX5 hown hK hP 0 rfl rfl 1 (by decide) (hts _ wd235_X5_totalBehind) (fun _ h9 => h9) rfl dX5_totalBehind_1 ?_
  refine lv_aload_n hx hb dX5_totalBehind_4 rfl (lv_at hl 0 rfl) ?_
  refine va_get (D := D) (ci := 7) (v := .ref h1) (C := RX5) (T := TX5) (N := 10) hx hb hts wi_X5_totalBehind_RX5 hown hK hP 0 rfl rfl 0 (by decide) (hts _ wd236_X5_totalBehind) (fun _ h9 => h9) rfl dX5_totalBehind_5 ?_
  refine lv_iload_n hx hb dX5_totalBehind_8 rfl (lv_at hl 1 rfl) ?_
  refine va_csr (W.runV (As := [.int 2]) (rest := [.ref h2]) ⟨hx, hb, hml, hown, hts⟩ (k_X0_countsOf_1 l D κ ε h1 h7 h8 h11 h12 h13 h14 (p2) (p3)) (cwV 1 hts gX5_totalBehind_X0_countsOf rfl rfl rfl (by decide +kernel) ⟨(Nat.le_of_ble_eq_true rfl), (Nat.le_of_ble_eq_true rfl)⟩) (pre0_V (q0 := 1) (ci := 2) (wc := [(h1, .inr (2, [.int p2, .int p3, .ref h7, .ref h8])), (h7, .inl (κ 3, 4, .inr (.inr (.inr (.inr (sel [h11, h12, h13, h14]))))))]) hP hK [1, 3] rfl rfl rfl) rfl rfl hl.1 rfl (lv_room (Nat.le_of_ble_eq_true rfl)) dX5_totalBehind_9 ⟨(Nat.le_of_ble_eq_true rfl), (Nat.le_of_ble_eq_true rfl)⟩) (fun r hw => ?_)
  rw [hw]
  refine lv_aload_n hx hb dX5_totalBehind_12 rfl (lv_at hl 0 rfl) ?_
  refine lv_aload_n hx hb dX5_totalBehind_13 rfl (lv_at hl 0 rfl) ?_
  refine va_get (D := D) (ci := 7) (v := .int 0) (C := RX5) (T := TX5) (N := 10) hx hb hts wi_X5_totalBehind_RX5 hown hK hP 0 rfl rfl 6 (by decide) (hts _ wd237_X5_totalBehind) (fun _ h9 => h9) rfl dX5_totalBehind_14 ?_
  refine lv_iconst (v := 1) hx hb dX5_totalBehind_17 (by decide) ?_
  refine lv_isub hx hb dX5_totalBehind_18 ?_
  refine tpi (v := (-1)) (by decide) ?_
  refine lv_iload_n hx hb dX5_totalBehind_19 rfl (lv_at hl 1 rfl) ?_
  refine lv_iconst (v := 1) hx hb dX5_totalBehind_20 (by decide) ?_
  refine lv_isub hx hb dX5_totalBehind_21 ?_
  refine tpi (v := 1) (by decide) ?_
  refine vp_callSi (W.runV (As := [.int (-1), .int 1]) (rest := [.ref h12, .ref h2]) ⟨hx, hb, hml, hown, hts⟩ (k_X5_keyUpTo_2 l D κ ε h0 h1 h2 h3 h4 h5 h6 (0) (p0) (p1)) (cwV 2 hts gX5_totalBehind_X5_keyUpTo rfl rfl rfl (by decide +kernel) ⟨(Nat.le_of_ble_eq_true rfl), (Nat.le_of_ble_eq_true rfl)⟩) (pre0_V (q0 := 0) (ci := 7) (wc := [(h0, .inr (7, [.ref h1, .ref h2, .ref h3, .ref h4, .ref h5, .ref h6, .int 0, .int p0, .int p1, .int 0]))]) hP hK [0] rfl rfl rfl) rfl rfl hl.1 rfl (lv_room (Nat.le_of_ble_eq_true rfl)) dX5_totalBehind_22 ⟨(Nat.le_of_ble_eq_true rfl), (Nat.le_of_ble_eq_true rfl)⟩) (fun r hw => ?_)
  rw [hw]
  have hF := va_free (wc := [(h2, .inr (3, [.ref h1, .int p4, .int p5, .ref h9, .ref h10, .long p6, .int 0])), (h12, .inr (6, [.ref h15, .ref h16, .int 0])), (h10, .inl (κ 0, 13, .inl (fun _ => 0)))]) hD hS hA [2, 5, 4] rfl
  refine va_callv (va_runV (As := [.ref h12, .int 0]) (rest := []) ⟨hx, hb, hml, hown, hts⟩ (k_X1_gather_0 l D κ ε h2 h12 h1 h9 h10 h15 h16 s.heap.size (p4) (p5) (p6) (0)) (cwV 2 hts gX5_totalBehind_X1_gather rfl rfl rfl (by decide +kernel) ⟨(Nat.le_of_ble_eq_true rfl), (Nat.le_of_ble_eq_true rfl)⟩) (pre2_V (q0 := 2) (ci := 3) (wc := [(h2, .inr (3, [.ref h1, .int p4, .int p5, .ref h9, .ref h10, .long p6, .int 0])), (h12, .inr (6, [.ref h15, .ref h16, .int 0])), (h10, .inl (κ 0, 13, .inl (fun _ => 0)))]) hP hD hK hE9 hS hA [2, 5, 4] (by decide) rfl rfl rfl) rfl rfl hl.1 rfl (lv_room (Nat.le_of_ble_eq_true rfl)) dX5_totalBehind_25 ⟨(Nat.le_of_ble_eq_true rfl), (Nat.le_of_ble_eq_true rfl)⟩) hS (fun q _ h => hF q h) hF (fun u1 t H locs ht hvm hw hB hz1 hk1 hS => ?_)
  try dsimp only at hw hB
  obtain ⟨hP1, hD1⟩ := hB
  rw [ht] at hP1
  obtain ⟨hP, hD⟩ := post_j (ws' := [(h0, .inr (7, [.ref h1, .ref h2, .ref h3, .ref h4, .ref h5, .ref h6, .int 0, .int p0, .int p1, .int 0])), (h1, .inr (2, [.int p2, .int p3, .ref h7, .ref h8])), (h2, .inr (3, [.ref h1, .int p4, .int p5, .ref h9, .ref h10, .long 0, .int 0])), (h7, .inl (κ 3, 4, .inr (.inr (.inr (.inr (sel [h11, h12, h13, h14])))))), (h10, .inl (κ 0, 13, .inl (fun _ => 0))), (h12, .inr (6, [.ref h15, .ref h16, .int 0]))]) (wr := [(h0, .inr (7, [.ref h1, .ref h2, .ref h3, .ref h4, .ref h5, .ref h6, .int 0, .int p0, .int p1, .int 0])), (h1, .inr (2, [.int p2, .int p3, .ref h7, .ref h8])), (h7, .inl (κ 3, 4, .inr (.inr (.inr (.inr (sel [h11, h12, h13, h14]))))))]) (w1 := [(h2, .inr (3, [.ref h1, .int p4, .int p5, .ref h9, .ref h10, .long 0, .int 0])), (h12, .inr (6, [.ref h15, .ref h16, .int 0])), (h10, .inl (κ 0, 13, .inl (fun _ => 0)))]) hP hD hF [2, 5, 4] rfl [0, 1, 3] rfl (by decide) (by decide) hk1 hP1 hD1 [0, 1, 3, 2, 5, 4] (by decide) rfl
  have hP : va_P D vwCl [(h0, .inr (7, [.ref h1, .ref h2, .ref h3, .ref h4, .ref h5, .ref h6, .int 0, .int p0, .int p1, .int 0])), (h1, .inr (2, [.int p2, .int p3, .ref h7, .ref h8])), (h2, .inr (3, [.ref h1, .int p4, .int p5, .ref h9, .ref h10, .long 0, .int 0])), (h7, .inl (κ 3, 4, .inr (.inr (.inr (.inr (sel [h11, h12, h13, h14])))))), (h10, .inl (κ 0, 13, .inl (fun _ => 0))), (h12, .inr (6, [.ref h15, .ref h16, .int 0]))] H := hP
  have hD : va_D A [(h0, .inr (7, [.ref h1, .ref h2, .ref h3, .ref h4, .ref h5, .ref h6, .int 0, .int p0, .int p1, .int 0])), (h1, .inr (2, [.int p2, .int p3, .ref h7, .ref h8])), (h2, .inr (3, [.ref h1, .int p4, .int p5, .ref h9, .ref h10, .long 0, .int 0])), (h7, .inl (κ 3, 4, .inr (.inr (.inr (.inr (sel [h11, h12, h13, h14])))))), (h10, .inl (κ 0, 13, .inl (fun _ => 0))), (h12, .inr (6, [.ref h15, .ref h16, .int 0]))] := hD
  refine lv_iload_n hx hb dX5_totalBehind_28 rfl (lv_at hl 2 rfl) ?_
  refine lv_if_ne (tgt := 43) hx hb dX5_totalBehind_29 (by decide) (fun _ => ?_) (fun h => absurd h (by decide))
  refine lv_aload_n hx hb dX5_totalBehind_43 rfl (lv_at hl 0 rfl) ?_
  refine va_get (D := D) (ci := 7) (v := .ref h2) (C := RX5) (T := TX5) (N := 10) hx hb hts wi_X5_totalBehind_RX5 hown hK hP 0 rfl rfl 1 (by decide) (hts _ wd235_X5_totalBehind) (fun _ h9 => h9) rfl dX5_totalBehind_44 ?_
  refine va_get (D := D) (ci := 3) (v := .int 0) (C := RX1) (T := TX1) (N := 7) hx hb hts wi_X5_totalBehind_RX1 hown hK hP 2 rfl rfl 6 (by decide) (hts _ wd238_X5_totalBehind) (fun _ h9 => h9) rfl dX5_totalBehind_47 ?_
  have hP9 := hP
  have hD9 := hD
  exact W.iret (v := 0) hx hb hr (fun t ht hW => ⟨⟨0, (), rfl, rfl, by rw [ht]; exact hP9, hD9⟩, hS.F ht⟩) hS.2.2 dX5_totalBehind_50

set_option maxHeartbeats 4000000 in
set_option maxRecDepth 100000 in
theorem k_X5_mix_8 (l : Launch) (D : va_G) (κ ε : Nat → Nat) : Met l yX5_mix wsX5_mix ({ frames := 0, cells := 0, slots := 0, locals := 0 }) (va_Pc [.long 49502650479120443, .long 0] (Pre0 D κ [])) (vp_Sl (fun r => (r = 1534582164852733733))) 0 0 (fun _ => False) := by
  refine Met.ofW (cc := cX5_mix) (maxL := 4) (ret := (some .long)) (by decide) rfl ?_
  intro p e s m args below meth c s₁ B hml hv
  obtain ⟨rfl, hP, hK⟩ := hv
  have hx := B.exec
  have hb := B.bytes
  have hr := B.returns
  have hts := atoms_spec (ws := wsX5_mix) B.pre
  have hown : s.vm.findClass RX5 = some m.cls := findClass_of_methodNamed B.named
  have hlocks := B.notSynchronized
  have hP : va_P D vwCl [] s.heap := hP
  have hl := lv_entry [.long 49502650479120443, .long 0] (n := 4) (Nat.le_of_ble_eq_true rfl)
  rw [lg_entry_eq]
  generalize (lg_sl [.long 49502650479120443, .long 0] ++ List.replicate (4 - (lg_sl [.long 49502650479120443, .long 0]).length) Slot.unset).toArray = ls at hl ⊢
  have hl : lv_has ls 4 [(0, .long 49502650479120443), (2, .long 0)] := hl
  refine lv_lload_n hx hb dX5_mix_0 rfl (lv_at hl 0 rfl) ?_
  refine lv_ldc2 (v := 31) hx hb hown (hts _ wd437_X5_mix) dX5_mix_1 ?_
  refine lv_lmul hx hb dX5_mix_4 ?_
  refine tpl (v := 1534582164852733733) (by decide) ?_
  refine lv_lload_n hx hb dX5_mix_5 rfl (lv_at hl 1 rfl) ?_
  refine lv_ladd hx hb dX5_mix_6 ?_
  refine tpl (v := 1534582164852733733) (by decide) ?_
  exact W.lret (v := 1534582164852733733) hx hb hr (fun t ht hW => ⟨1534582164852733733, rfl, rfl, ht⟩) (fun q hq => absurd hq List.not_mem_nil) dX5_mix_7

set_option maxHeartbeats 4000000 in
set_option maxRecDepth 100000 in
theorem k_X5_mix_9 (l : Launch) (D : va_G) (κ ε : Nat → Nat) : Met l yX5_mix wsX5_mix ({ frames := 0, cells := 0, slots := 0, locals := 0 }) (va_Pc [.long 1534582164852733733, .long 1000000] (Pre0 D κ [])) (vp_Sl (fun r => (r = (-7768185110692909125)))) 0 0 (fun _ => False) := by
  refine Met.ofW (cc := cX5_mix) (maxL := 4) (ret := (some .long)) (by decide) rfl ?_
  intro p e s m args below meth c s₁ B hml hv
  obtain ⟨rfl, hP, hK⟩ := hv
  have hx := B.exec
  have hb := B.bytes
  have hr := B.returns
  have hts := atoms_spec (ws := wsX5_mix) B.pre
  have hown : s.vm.findClass RX5 = some m.cls := findClass_of_methodNamed B.named
  have hlocks := B.notSynchronized
  have hP : va_P D vwCl [] s.heap := hP
  have hl := lv_entry [.long 1534582164852733733, .long 1000000] (n := 4) (Nat.le_of_ble_eq_true rfl)
  rw [lg_entry_eq]
  generalize (lg_sl [.long 1534582164852733733, .long 1000000] ++ List.replicate (4 - (lg_sl [.long 1534582164852733733, .long 1000000]).length) Slot.unset).toArray = ls at hl ⊢
  have hl : lv_has ls 4 [(0, .long 1534582164852733733), (2, .long 1000000)] := hl
  refine lv_lload_n hx hb dX5_mix_0 rfl (lv_at hl 0 rfl) ?_
  refine lv_ldc2 (v := 31) hx hb hown (hts _ wd437_X5_mix) dX5_mix_1 ?_
  refine lv_lmul hx hb dX5_mix_4 ?_
  refine tpl (v := (-7768185110693909125)) (by decide) ?_
  refine lv_lload_n hx hb dX5_mix_5 rfl (lv_at hl 1 rfl) ?_
  refine lv_ladd hx hb dX5_mix_6 ?_
  refine tpl (v := (-7768185110692909125)) (by decide) ?_
  exact W.lret (v := (-7768185110692909125)) hx hb hr (fun t ht hW => ⟨(-7768185110692909125), rfl, rfl, ht⟩) (fun q hq => absurd hq List.not_mem_nil) dX5_mix_7

set_option maxHeartbeats 4000000 in
set_option maxRecDepth 100000 in
theorem k_X5_mix_10 (l : Launch) (D : va_G) (κ ε : Nat → Nat) : Met l yX5_mix wsX5_mix ({ frames := 0, cells := 0, slots := 0, locals := 0 }) (va_Pc [.long (-7768185110692909125), .long 0] (Pre0 D κ [])) (vp_Sl (fun r => (r = (-1006065473256011867)))) 0 0 (fun _ => False) := by
  refine Met.ofW (cc := cX5_mix) (maxL := 4) (ret := (some .long)) (by decide) rfl ?_
  intro p e s m args below meth c s₁ B hml hv
  obtain ⟨rfl, hP, hK⟩ := hv
  have hx := B.exec
  have hb := B.bytes
  have hr := B.returns
  have hts := atoms_spec (ws := wsX5_mix) B.pre
  have hown : s.vm.findClass RX5 = some m.cls := findClass_of_methodNamed B.named
  have hlocks := B.notSynchronized
  have hP : va_P D vwCl [] s.heap := hP
  have hl := lv_entry [.long (-7768185110692909125), .long 0] (n := 4) (Nat.le_of_ble_eq_true rfl)
  rw [lg_entry_eq]
  generalize (lg_sl [.long (-7768185110692909125), .long 0] ++ List.replicate (4 - (lg_sl [.long (-7768185110692909125), .long 0]).length) Slot.unset).toArray = ls at hl ⊢
  have hl : lv_has ls 4 [(0, .long (-7768185110692909125)), (2, .long 0)] := hl
  refine lv_lload_n hx hb dX5_mix_0 rfl (lv_at hl 0 rfl) ?_
  refine lv_ldc2 (v := 31) hx hb hown (hts _ wd437_X5_mix) dX5_mix_1 ?_
  refine lv_lmul hx hb dX5_mix_4 ?_
  refine tpl (v := (-1006065473256011867)) (by decide) ?_
  refine lv_lload_n hx hb dX5_mix_5 rfl (lv_at hl 1 rfl) ?_
  refine lv_ladd hx hb dX5_mix_6 ?_
  refine tpl (v := (-1006065473256011867)) (by decide) ?_
  exact W.lret (v := (-1006065473256011867)) hx hb hr (fun t ht hW => ⟨(-1006065473256011867), rfl, rfl, ht⟩) (fun q hq => absurd hq List.not_mem_nil) dX5_mix_7

theorem wi_X5_mixChances_RX5 : ∀ w ∈ u_ws RX5 TX5 10, w ∈ wsX5_mixChances := by decide +kernel

theorem wd440_X5_mixChances : (.fieldLink RX5 10 "Canticle" "ledger" "LCanticle$Ledger;" : Cond) ∈ wsX5_mixChances := by decide +kernel

theorem wi_X5_mixChances_RX0 : ∀ w ∈ u_ws RX0 TX0 4, w ∈ wsX5_mixChances := by decide +kernel

theorem wd441_X5_mixChances : (.fieldLink RX5 65 "Canticle$Ledger" "words" "I" : Cond) ∈ wsX5_mixChances := by decide +kernel

theorem wd442_X5_mixChances : (.fieldLink RX5 21 "Canticle" "reckoner" "LCanticle$Reckoner;" : Cond) ∈ wsX5_mixChances := by decide +kernel

theorem wi_X5_mixChances_RX1 : ∀ w ∈ u_ws RX1 TX1 7, w ∈ wsX5_mixChances := by decide +kernel

theorem wd443_X5_mixChances : (.fieldLink RX5 186 "Canticle$Reckoner" "chances" "[I" : Cond) ∈ wsX5_mixChances := by decide +kernel

set_option maxHeartbeats 4000000 in
set_option maxRecDepth 100000 in
theorem k_X5_mixChances_0 (l : Launch) (D : va_G) (κ ε : Nat → Nat) (h0 h1 h2 h3 h4 h5 h6 h7 h8 h9 h10 h11 h12 h13 h14 h15 h16 : Nat) (sz : Nat) (p0 : Int32) (p1 : Int32) (p2 : Int32) : Met l yX5_mixChances wsX5_mixChances ({ frames := 5, cells := 0, slots := 0, locals := 115 }) (va_Pc [.ref h0, .long 1534582164852733733] (Pre2 D κ ε [(h0, .inr (7, [.ref h1, .ref h2, .ref h3, .ref h4, .ref h5, .ref h6, .int 0, .int p0, .int p1, .int 0])), (h1, .inr (2, [.int 0, .int 2, .ref h7, .ref h8])), (h2, .inr (3, [.ref h1, .int 0, .int 500, .ref h9, .ref h10, .long 0, .int p2])), (h7, .inl (κ 3, 4, .inr (.inr (.inr (.inr (sel [h11, h12, h13, h14])))))), (h9, .inl (κ 0, 13, .inl (fun _ => 0))), (h10, .inl (κ 0, 13, .inl (fun _ => 0))), (h12, .inr (6, [.ref h15, .ref h16, .int 0]))] sz)) (va_Ql (fun r (u : Unit) => (r = (-1006065473256011867))) (fun u t => va_P D vwCl [(h0, .inr (7, [.ref h1, .ref h2, .ref h3, .ref h4, .ref h5, .ref h6, .int 0, .int p0, .int p1, .int 0])), (h1, .inr (2, [.int 0, .int 2, .ref h7, .ref h8])), (h2, .inr (3, [.ref h1, .int 0, .int 500, .ref h9, .ref h10, .long 0, .int 0])), (h7, .inl (κ 3, 4, .inr (.inr (.inr (.inr (sel [h11, h12, h13, h14])))))), (h9, .inl (κ 0, 13, .inl (upd (upd (upd (upd (upd (upd (upd (upd (upd (upd (upd (upd (upd (upd (fun _ => 0) 0 1000000) 1 1000000) 2 1000000) 3 1000000) 4 1000000) 5 1000000) 6 1000000) 7 1000000) 8 1000000) 9 1000000) 10 1000000) 11 1000000) 12 1000000) 0 1000000))), (h10, .inl (κ 0, 13, .inl (fun _ => 0))), (h12, .inr (6, [.ref h15, .ref h16, .int 0]))] t.heap ∧ va_D (va_A [(h0, .inr (7, [.ref h1, .ref h2, .ref h3, .ref h4, .ref h5, .ref h6, .int 0, .int p0, .int p1, .int 0])), (h1, .inr (2, [.int 0, .int 2, .ref h7, .ref h8])), (h2, .inr (3, [.ref h1, .int 0, .int 500, .ref h9, .ref h10, .long 0, .int p2])), (h7, .inl (κ 3, 4, .inr (.inr (.inr (.inr (sel [h11, h12, h13, h14])))))), (h9, .inl (κ 0, 13, .inl (fun _ => 0))), (h10, .inl (κ 0, 13, .inl (fun _ => 0))), (h12, .inr (6, [.ref h15, .ref h16, .int 0]))] sz) [(h0, .inr (7, [.ref h1, .ref h2, .ref h3, .ref h4, .ref h5, .ref h6, .int 0, .int p0, .int p1, .int 0])), (h1, .inr (2, [.int 0, .int 2, .ref h7, .ref h8])), (h2, .inr (3, [.ref h1, .int 0, .int 500, .ref h9, .ref h10, .long 0, .int 0])), (h7, .inl (κ 3, 4, .inr (.inr (.inr (.inr (sel [h11, h12, h13, h14])))))), (h9, .inl (κ 0, 13, .inl (upd (upd (upd (upd (upd (upd (upd (upd (upd (upd (upd (upd (upd (upd (fun _ => 0) 0 1000000) 1 1000000) 2 1000000) 3 1000000) 4 1000000) 5 1000000) 6 1000000) 7 1000000) 8 1000000) 9 1000000) 10 1000000) 11 1000000) 12 1000000) 0 1000000))), (h10, .inl (κ 0, 13, .inl (fun _ => 0))), (h12, .inr (6, [.ref h15, .ref h16, .int 0]))]) (va_A [(h0, .inr (7, [.ref h1, .ref h2, .ref h3, .ref h4, .ref h5, .ref h6, .int 0, .int p0, .int p1, .int 0])), (h1, .inr (2, [.int 0, .int 2, .ref h7, .ref h8])), (h2, .inr (3, [.ref h1, .int 0, .int 500, .ref h9, .ref h10, .long 0, .int p2])), (h7, .inl (κ 3, 4, .inr (.inr (.inr (.inr (sel [h11, h12, h13, h14])))))), (h9, .inl (κ 0, 13, .inl (fun _ => 0))), (h10, .inl (κ 0, 13, .inl (fun _ => 0))), (h12, .inr (6, [.ref h15, .ref h16, .int 0]))] sz)) 0 0 (va_A [(h0, .inr (7, [.ref h1, .ref h2, .ref h3, .ref h4, .ref h5, .ref h6, .int 0, .int p0, .int p1, .int 0])), (h1, .inr (2, [.int 0, .int 2, .ref h7, .ref h8])), (h2, .inr (3, [.ref h1, .int 0, .int 500, .ref h9, .ref h10, .long 0, .int p2])), (h7, .inl (κ 3, 4, .inr (.inr (.inr (.inr (sel [h11, h12, h13, h14])))))), (h9, .inl (κ 0, 13, .inl (fun _ => 0))), (h10, .inl (κ 0, 13, .inl (fun _ => 0))), (h12, .inr (6, [.ref h15, .ref h16, .int 0]))] sz) := by
  refine Met.ofW (cc := cX5_mixChances) (maxL := 6) (ret := (some .long)) (by decide) rfl ?_
  intro p e s m args below meth c s₁ B hml hv
  obtain ⟨rfl, hsz, hP, hK, hD0, hE9⟩ := hv
  have hx := B.exec
  have hb := B.bytes
  have hr := B.returns
  have hts := atoms_spec (ws := wsX5_mixChances) B.pre
  have hown : s.vm.findClass RX5 = some m.cls := findClass_of_methodNamed B.named
  have hlocks := B.notSynchronized
  subst hsz
  have hD := hD0.self (sz := s.heap.size)
  generalize hAe : va_A [(h0, .inr (7, [.ref h1, .ref h2, .ref h3, .ref h4, .ref h5, .ref h6, .int 0, .int p0, .int p1, .int 0])), (h1, .inr (2, [.int 0, .int 2, .ref h7, .ref h8])), (h2, .inr (3, [.ref h1, .int 0, .int 500, .ref h9, .ref h10, .long 0, .int p2])), (h7, .inl (κ 3, 4, .inr (.inr (.inr (.inr (sel [h11, h12, h13, h14])))))), (h9, .inl (κ 0, 13, .inl (fun _ => 0))), (h10, .inl (κ 0, 13, .inl (fun _ => 0))), (h12, .inr (6, [.ref h15, .ref h16, .int 0]))] s.heap.size = A at hD hE9 ⊢
  have hE := hE9.1
  have hDc := hE9.2
  have hA : ∀ q : Nat, s.heap.size ≤ q → A q := fun q h => by rw [← hAe]; exact Or.inr h
  have hS : va_S A s.heap s.heap [] := va_S.rf
  have hP : va_P D vwCl [(h0, .inr (7, [.ref h1, .ref h2, .ref h3, .ref h4, .ref h5, .ref h6, .int 0, .int p0, .int p1, .int 0])), (h1, .inr (2, [.int 0, .int 2, .ref h7, .ref h8])), (h2, .inr (3, [.ref h1, .int 0, .int 500, .ref h9, .ref h10, .long 0, .int p2])), (h7, .inl (κ 3, 4, .inr (.inr (.inr (.inr (sel [h11, h12, h13, h14])))))), (h9, .inl (κ 0, 13, .inl (fun _ => 0))), (h10, .inl (κ 0, 13, .inl (fun _ => 0))), (h12, .inr (6, [.ref h15, .ref h16, .int 0]))] s.heap := hP
  have hl := lv_entry [.ref h0, .long 1534582164852733733] (n := 6) (Nat.le_of_ble_eq_true rfl)
  rw [lg_entry_eq]
  generalize (lg_sl [.ref h0, .long 1534582164852733733] ++ List.replicate (6 - (lg_sl [.ref h0, .long 1534582164852733733]).length) Slot.unset).toArray = ls at hl ⊢
  have hl : lv_has ls 6 [(0, .ref h0), (1, .long 1534582164852733733)] := hl
  refine lv_lload_n hx hb dX5_mixChances_0 rfl (lv_at hl 1 rfl) ?_
  refine lv_lstore_n (lv' := [(3, .long 1534582164852733733), (0, .ref h0), (1, .long 1534582164852733733)]) hx hb dX5_mixChances_1 rfl hl (by decide) rfl (fun ls hl => ?_)
  refine lv_aload_n hx hb dX5_mixChances_2 rfl (lv_at hl 1 rfl) ?_
  have hF := va_free (wc := [(h0, .inr (7, [.ref h1, .ref h2, .ref h3, .ref h4, .ref h5, .ref h6, .int 0, .int p0, .int p1, .int 0])), (h1, .inr (2, [.int 0, .int 2, .ref h7, .ref h8])), (h2, .inr (3, [.ref h1, .int 0, .int 500, .ref h9, .ref h10, .long 0, .int p2])), (h7, .inl (κ 3, 4, .inr (.inr (.inr (.inr (sel [h11, h12, h13, h14])))))), (h9, .inl (κ 0, 13, .inl (fun _ => 0))), (h10, .inl (κ 0, 13, .inl (fun _ => 0))), (h12, .inr (6, [.ref h15, .ref h16, .int 0]))]) hD hS hA [0, 1, 2, 3, 4, 5, 6] rfl
  refine va_callv (va_runV (As := []) (rest := []) ⟨hx, hb, hml, hown, hts⟩ (k_X5_reckonBehindSentence_0 l D κ ε h0 h1 h2 h3 h4 h5 h6 h7 h8 h9 h10 h11 h12 h13 h14 h15 h16 s.heap.size (p0) (p1) (p2)) (cwV 0 hts gX5_mixChances_X5_reckonBehindSentence rfl rfl rfl (by decide +kernel) ⟨(Nat.le_of_ble_eq_true rfl), (Nat.le_of_ble_eq_true rfl)⟩) (pre2_V (q0 := 0) (ci := 7) (wc := [(h0, .inr (7, [.ref h1, .ref h2, .ref h3, .ref h4, .ref h5, .ref h6, .int 0, .int p0, .int p1, .int 0])), (h1, .inr (2, [.int 0, .int 2, .ref h7, .ref h8])), (h2, .inr (3, [.ref h1, .int 0, .int 500, .ref h9, .ref h10, .long 0, .int p2])), (h7, .inl (κ 3, 4, .inr (.inr (.inr (.inr (sel [h11, h12, h13, h14])))))), (h9, .inl (κ 0, 13, .inl (fun _ => 0))), (h10, .inl (κ 0, 13, .inl (fun _ => 0))), (h12, .inr (6, [.ref h15, .ref h16, .int 0]))]) hP hD hK hE9 hS hA [0, 1, 2, 3, 4, 5, 6] (by decide) rfl rfl rfl) rfl rfl hl.1 rfl (lv_room (Nat.le_of_ble_eq_true rfl)) dX5_mixChances_3 ⟨(Nat.le_of_ble_eq_true rfl), (Nat.le_of_ble_eq_true rfl)⟩) hS (fun q _ h => hF q h) hF (fun u1 t H locs ht hvm hw hB hz1 hk1 hS => ?_)
  try dsimp only at hw hB
  obtain ⟨hP1, hD1⟩ := hB
  rw [ht] at hP1
  obtain ⟨hP, hD⟩ := post_j (ws' := [(h0, .inr (7, [.ref h1, .ref h2, .ref h3, .ref h4, .ref h5, .ref h6, .int 0, .int p0, .int p1, .int 0])), (h1, .inr (2, [.int 0, .int 2, .ref h7, .ref h8])), (h2, .inr (3, [.ref h1, .int 0, .int 500, .ref h9, .ref h10, .long 0, .int 0])), (h7, .inl (κ 3, 4, .inr (.inr (.inr (.inr (sel [h11, h12, h13, h14])))))), (h9, .inl (κ 0, 13, .inl (upd (upd (upd (upd (upd (upd (upd (upd (upd (upd (upd (upd (upd (upd (fun _ => 0) 0 1000000) 1 1000000) 2 1000000) 3 1000000) 4 1000000) 5 1000000) 6 1000000) 7 1000000) 8 1000000) 9 1000000) 10 1000000) 11 1000000) 12 1000000) 0 1000000))), (h10, .inl (κ 0, 13, .inl (fun _ => 0))), (h12, .inr (6, [.ref h15, .ref h16, .int 0]))]) (wr := []) (w1 := [(h0, .inr (7, [.ref h1, .ref h2, .ref h3, .ref h4, .ref h5, .ref h6, .int 0, .int p0, .int p1, .int 0])), (h1, .inr (2, [.int 0, .int 2, .ref h7, .ref h8])), (h2, .inr (3, [.ref h1, .int 0, .int 500, .ref h9, .ref h10, .long 0, .int 0])), (h7, .inl (κ 3, 4, .inr (.inr (.inr (.inr (sel [h11, h12, h13, h14])))))), (h9, .inl (κ 0, 13, .inl (upd (upd (upd (upd (upd (upd (upd (upd (upd (upd (upd (upd (upd (upd (fun _ => 0) 0 1000000) 1 1000000) 2 1000000) 3 1000000) 4 1000000) 5 1000000) 6 1000000) 7 1000000) 8 1000000) 9 1000000) 10 1000000) 11 1000000) 12 1000000) 0 1000000))), (h10, .inl (κ 0, 13, .inl (fun _ => 0))), (h12, .inr (6, [.ref h15, .ref h16, .int 0]))]) hP hD hF [0, 1, 2, 3, 4, 5, 6] rfl [] rfl (by decide) (by decide) hk1 hP1 hD1 [0, 1, 2, 3, 4, 5, 6] (by decide) rfl
  have hP : va_P D vwCl [(h0, .inr (7, [.ref h1, .ref h2, .ref h3, .ref h4, .ref h5, .ref h6, .int 0, .int p0, .int p1, .int 0])), (h1, .inr (2, [.int 0, .int 2, .ref h7, .ref h8])), (h2, .inr (3, [.ref h1, .int 0, .int 500, .ref h9, .ref h10, .long 0, .int 0])), (h7, .inl (κ 3, 4, .inr (.inr (.inr (.inr (sel [h11, h12, h13, h14])))))), (h9, .inl (κ 0, 13, .inl (upd (upd (upd (upd (upd (upd (upd (upd (upd (upd (upd (upd (upd (upd (fun _ => 0) 0 1000000) 1 1000000) 2 1000000) 3 1000000) 4 1000000) 5 1000000) 6 1000000) 7 1000000) 8 1000000) 9 1000000) 10 1000000) 11 1000000) 12 1000000) 0 1000000))), (h10, .inl (κ 0, 13, .inl (fun _ => 0))), (h12, .inr (6, [.ref h15, .ref h16, .int 0]))] H := hP
  have hD : va_D A [(h0, .inr (7, [.ref h1, .ref h2, .ref h3, .ref h4, .ref h5, .ref h6, .int 0, .int p0, .int p1, .int 0])), (h1, .inr (2, [.int 0, .int 2, .ref h7, .ref h8])), (h2, .inr (3, [.ref h1, .int 0, .int 500, .ref h9, .ref h10, .long 0, .int 0])), (h7, .inl (κ 3, 4, .inr (.inr (.inr (.inr (sel [h11, h12, h13, h14])))))), (h9, .inl (κ 0, 13, .inl (upd (upd (upd (upd (upd (upd (upd (upd (upd (upd (upd (upd (upd (upd (fun _ => 0) 0 1000000) 1 1000000) 2 1000000) 3 1000000) 4 1000000) 5 1000000) 6 1000000) 7 1000000) 8 1000000) 9 1000000) 10 1000000) 11 1000000) 12 1000000) 0 1000000))), (h10, .inl (κ 0, 13, .inl (fun _ => 0))), (h12, .inr (6, [.ref h15, .ref h16, .int 0]))] := hD
  refine lv_iconst (v := 0) hx hb dX5_mixChances_6 (by decide) ?_
  refine lv_istore (lv' := [(5, .int 0), (3, .long 1534582164852733733), (0, .ref h0), (1, .long 1534582164852733733)]) hx hb dX5_mixChances_7 hl (by decide) rfl (fun ls hl => ?_)
  refine lv_iload hx hb dX5_mixChances_9 (lv_at hl 0 rfl) ?_
  refine lv_aload_n hx hb dX5_mixChances_11 rfl (lv_at hl 2 rfl) ?_
  refine va_get (D := D) (ci := 7) (v := .ref h1) (C := RX5) (T := TX5) (N := 10) hx hb hts wi_X5_mixChances_RX5 hown hK hP 0 rfl rfl 0 (by decide) (hts _ wd440_X5_mixChances) (fun _ h9 => h9) rfl dX5_mixChances_12 ?_
  refine va_get (D := D) (ci := 2) (v := .int 0) (C := RX0) (T := TX0) (N := 4) hx hb hts wi_X5_mixChances_RX0 hown hK hP 1 rfl rfl 0 (by decide) (hts _ wd441_X5_mixChances) (fun _ h9 => h9) rfl dX5_mixChances_15 ?_
  refine lv_icmp_gt (tgt := 43) hx hb dX5_mixChances_18 (by decide) (fun h => absurd h (by decide)) (fun _ => ?_)
  refine lv_lload_n hx hb dX5_mixChances_21 rfl (lv_at hl 1 rfl) ?_
  refine lv_aload_n hx hb dX5_mixChances_22 rfl (lv_at hl 2 rfl) ?_
  refine va_get (D := D) (ci := 7) (v := .ref h2) (C := RX5) (T := TX5) (N := 10) hx hb hts wi_X5_mixChances_RX5 hown hK hP 0 rfl rfl 1 (by decide) (hts _ wd442_X5_mixChances) (fun _ h9 => h9) rfl dX5_mixChances_23 ?_
  refine va_get (D := D) (ci := 3) (v := .ref h9) (C := RX1) (T := TX1) (N := 7) hx hb hts wi_X5_mixChances_RX1 hown hK hP 2 rfl rfl 3 (by decide) (hts _ wd443_X5_mixChances) (fun _ h9 => h9) rfl dX5_mixChances_26 ?_
  refine lv_iload hx hb dX5_mixChances_29 (lv_at hl 0 rfl) ?_
  refine va_iald (cA := κ 0) (n := 13) (f := (upd (upd (upd (upd (upd (upd (upd (upd (upd (upd (upd (upd (upd (upd (fun _ => 0) 0 1000000) 1 1000000) 2 1000000) 3 1000000) 4 1000000) 5 1000000) 6 1000000) 7 1000000) 8 1000000) 9 1000000) 10 1000000) 11 1000000) 12 1000000) 0 1000000)) hx hb hK hP 4 0 rfl rfl (vpl (by decide)) dX5_mixChances_31 ?_
  refine tpi (v := 1000000) (by decide) ?_
  refine lv_i2l (v := 1000000) hx hb dX5_mixChances_32 (by decide) ?_
  refine vp_callSl (W.runS (As := [.long 1534582164852733733, .long 1000000]) (rest := []) ⟨hx, hb, hml, hown, hts⟩ (k_X5_mix_9 l D κ ε) (va_cwS 2 hts gX5_mixChances_X5_mix rfl rfl rfl (by decide +kernel) ⟨(Nat.le_of_ble_eq_true rfl), (Nat.le_of_ble_eq_true rfl)⟩) (pre0_S (wc := []) hP hK [] rfl) rfl rfl hl.1 rfl (lv_room (Nat.le_of_ble_eq_true rfl)) dX5_mixChances_33 ⟨(Nat.le_of_ble_eq_true rfl), (Nat.le_of_ble_eq_true rfl)⟩) (fun r hw => ?_)
  rw [hw]
  refine lv_lstore_n (lv' := [(3, .long (-7768185110692909125)), (5, .int 0), (0, .ref h0), (1, .long 1534582164852733733)]) hx hb dX5_mixChances_36 rfl hl (by decide) rfl (fun ls hl => ?_)
  refine lv_iinc (v := 1) (lv' := [(5, .int 1), (3, .long (-7768185110692909125)), (0, .ref h0), (1, .long 1534582164852733733)]) hx hb dX5_mixChances_37 hl (k := 1) rfl (by decide) (by decide) rfl (fun ls hl => ?_)
  refine lv_goto (tgt := 9) hx hb dX5_mixChances_40 (by decide) ?_
  refine lv_iload hx hb dX5_mixChances_9 (lv_at hl 0 rfl) ?_
  refine lv_aload_n hx hb dX5_mixChances_11 rfl (lv_at hl 2 rfl) ?_
  refine va_get (D := D) (ci := 7) (v := .ref h1) (C := RX5) (T := TX5) (N := 10) hx hb hts wi_X5_mixChances_RX5 hown hK hP 0 rfl rfl 0 (by decide) (hts _ wd440_X5_mixChances) (fun _ h9 => h9) rfl dX5_mixChances_12 ?_
  refine va_get (D := D) (ci := 2) (v := .int 0) (C := RX0) (T := TX0) (N := 4) hx hb hts wi_X5_mixChances_RX0 hown hK hP 1 rfl rfl 0 (by decide) (hts _ wd441_X5_mixChances) (fun _ h9 => h9) rfl dX5_mixChances_15 ?_
  refine lv_icmp_gt (tgt := 43) hx hb dX5_mixChances_18 (by decide) (fun _ => ?_) (fun h => absurd (by decide) h)
  refine lv_iconst (v := 0) hx hb dX5_mixChances_43 (by decide) ?_
  refine lv_istore (lv' := [(5, .int 0), (3, .long (-7768185110692909125)), (0, .ref h0), (1, .long 1534582164852733733)]) hx hb dX5_mixChances_44 hl (by decide) rfl (fun ls hl => ?_)
  refine lv_iload hx hb dX5_mixChances_46 (lv_at hl 0 rfl) ?_
  refine lv_aload_n hx hb dX5_mixChances_48 rfl (lv_at hl 2 rfl) ?_
  refine va_get (D := D) (ci := 7) (v := .ref h1) (C := RX5) (T := TX5) (N := 10) hx hb hts wi_X5_mixChances_RX5 hown hK hP 0 rfl rfl 0 (by decide) (hts _ wd440_X5_mixChances) (fun _ h9 => h9) rfl dX5_mixChances_49 ?_
  refine va_get (D := D) (ci := 2) (v := .int 0) (C := RX0) (T := TX0) (N := 4) hx hb hts wi_X5_mixChances_RX0 hown hK hP 1 rfl rfl 0 (by decide) (hts _ wd441_X5_mixChances) (fun _ h9 => h9) rfl dX5_mixChances_52 ?_
  refine lv_icmp_gt (tgt := 79) hx hb dX5_mixChances_55 (by decide) (fun h => absurd h (by decide)) (fun _ => ?_)
  refine lv_lload_n hx hb dX5_mixChances_58 rfl (lv_at hl 1 rfl) ?_
  refine lv_aload_n hx hb dX5_mixChances_59 rfl (lv_at hl 2 rfl) ?_
  refine va_get (D := D) (ci := 7) (v := .ref h2) (C := RX5) (T := TX5) (N := 10) hx hb hts wi_X5_mixChances_RX5 hown hK hP 0 rfl rfl 1 (by decide) (hts _ wd442_X5_mixChances) (fun _ h9 => h9) rfl dX5_mixChances_60 ?_
  refine lv_iload hx hb dX5_mixChances_63 (lv_at hl 0 rfl) ?_
  refine vp_callSi (W.runV (As := [.int 0]) (rest := [.long (-7768185110692909125)]) ⟨hx, hb, hml, hown, hts⟩ (k_X1_withRank_0 l D κ ε h2 h1 h9 h10 h7 h8 (0) (500) (0) (0) (2)) (cwV 1 hts gX5_mixChances_X1_withRank rfl rfl rfl (by decide +kernel) ⟨(Nat.le_of_ble_eq_true rfl), (Nat.le_of_ble_eq_true rfl)⟩) (pre0_V (q0 := 2) (ci := 3) (wc := [(h2, .inr (3, [.ref h1, .int 0, .int 500, .ref h9, .ref h10, .long 0, .int 0])), (h1, .inr (2, [.int 0, .int 2, .ref h7, .ref h8]))]) hP hK [2, 1] rfl rfl rfl) rfl rfl hl.1 rfl (lv_room (Nat.le_of_ble_eq_true rfl)) dX5_mixChances_65 ⟨(Nat.le_of_ble_eq_true rfl), (Nat.le_of_ble_eq_true rfl)⟩) (fun r hw => ?_)
  rw [hw]
  refine lv_i2l (v := 0) hx hb dX5_mixChances_68 (by decide) ?_
  refine vp_callSl (W.runS (As := [.long (-7768185110692909125), .long 0]) (rest := []) ⟨hx, hb, hml, hown, hts⟩ (k_X5_mix_10 l D κ ε) (va_cwS 2 hts gX5_mixChances_X5_mix rfl rfl rfl (by decide +kernel) ⟨(Nat.le_of_ble_eq_true rfl), (Nat.le_of_ble_eq_true rfl)⟩) (pre0_S (wc := []) hP hK [] rfl) rfl rfl hl.1 rfl (lv_room (Nat.le_of_ble_eq_true rfl)) dX5_mixChances_69 ⟨(Nat.le_of_ble_eq_true rfl), (Nat.le_of_ble_eq_true rfl)⟩) (fun r hw => ?_)
  rw [hw]
  refine lv_lstore_n (lv' := [(3, .long (-1006065473256011867)), (5, .int 0), (0, .ref h0), (1, .long 1534582164852733733)]) hx hb dX5_mixChances_72 rfl hl (by decide) rfl (fun ls hl => ?_)
  refine lv_iinc (v := 1) (lv' := [(5, .int 1), (3, .long (-1006065473256011867)), (0, .ref h0), (1, .long 1534582164852733733)]) hx hb dX5_mixChances_73 hl (k := 1) rfl (by decide) (by decide) rfl (fun ls hl => ?_)
  refine lv_goto (tgt := 46) hx hb dX5_mixChances_76 (by decide) ?_
  refine lv_iload hx hb dX5_mixChances_46 (lv_at hl 0 rfl) ?_
  refine lv_aload_n hx hb dX5_mixChances_48 rfl (lv_at hl 2 rfl) ?_
  refine va_get (D := D) (ci := 7) (v := .ref h1) (C := RX5) (T := TX5) (N := 10) hx hb hts wi_X5_mixChances_RX5 hown hK hP 0 rfl rfl 0 (by decide) (hts _ wd440_X5_mixChances) (fun _ h9 => h9) rfl dX5_mixChances_49 ?_
  refine va_get (D := D) (ci := 2) (v := .int 0) (C := RX0) (T := TX0) (N := 4) hx hb hts wi_X5_mixChances_RX0 hown hK hP 1 rfl rfl 0 (by decide) (hts _ wd441_X5_mixChances) (fun _ h9 => h9) rfl dX5_mixChances_52 ?_
  refine lv_icmp_gt (tgt := 79) hx hb dX5_mixChances_55 (by decide) (fun _ => ?_) (fun h => absurd (by decide) h)
  refine lv_lload_n hx hb dX5_mixChances_79 rfl (lv_at hl 1 rfl) ?_
  have hP9 := hP
  have hD9 := hD
  exact W.lret (v := (-1006065473256011867)) hx hb hr (fun t ht hW => ⟨⟨(-1006065473256011867), (), rfl, rfl, by rw [ht]; exact hP9, hD9⟩, hS.F ht⟩) hS.2.2 dX5_mixChances_80

set_option maxHeartbeats 4000000 in
set_option maxRecDepth 100000 in
theorem k_J7_fill_53178_2 (l : Launch) (D : va_G) (κ ε : Nat → Nat) (h0 : Nat) (sz : Nat) : Met l yJ7_fill_53178 wsJ7_fill_53178 ({ frames := 0, cells := 0, slots := 0, locals := 0 }) (va_Pc [.ref h0, .int 1000000] (Pre2 D κ ε [(h0, .inl (κ 0, 13, .inl (upd (upd (upd (upd (upd (upd (upd (upd (upd (upd (upd (upd (upd (upd (fun _ => 0) 0 1000000) 1 1000000) 2 1000000) 3 1000000) 4 1000000) 5 1000000) 6 1000000) 7 1000000) 8 1000000) 9 1000000) 10 1000000) 11 1000000) 12 1000000) 0 1000000)))] sz)) (va_Qv (fun u : Unit => True) (fun u t => va_P D vwCl [(h0, .inl (κ 0, 13, .inl (upd (upd (upd (upd (upd (upd (upd (upd (upd (upd (upd (upd (upd (upd (upd (upd (upd (upd (upd (upd (upd (upd (upd (upd (upd (upd (upd (fun _ => 0) 0 1000000) 1 1000000) 2 1000000) 3 1000000) 4 1000000) 5 1000000) 6 1000000) 7 1000000) 8 1000000) 9 1000000) 10 1000000) 11 1000000) 12 1000000) 0 1000000) 0 1000000) 1 1000000) 2 1000000) 3 1000000) 4 1000000) 5 1000000) 6 1000000) 7 1000000) 8 1000000) 9 1000000) 10 1000000) 11 1000000) 12 1000000)))] t.heap ∧ va_D (va_A [(h0, .inl (κ 0, 13, .inl (upd (upd (upd (upd (upd (upd (upd (upd (upd (upd (upd (upd (upd (upd (fun _ => 0) 0 1000000) 1 1000000) 2 1000000) 3 1000000) 4 1000000) 5 1000000) 6 1000000) 7 1000000) 8 1000000) 9 1000000) 10 1000000) 11 1000000) 12 1000000) 0 1000000)))] sz) [(h0, .inl (κ 0, 13, .inl (upd (upd (upd (upd (upd (upd (upd (upd (upd (upd (upd (upd (upd (upd (upd (upd (upd (upd (upd (upd (upd (upd (upd (upd (upd (upd (upd (fun _ => 0) 0 1000000) 1 1000000) 2 1000000) 3 1000000) 4 1000000) 5 1000000) 6 1000000) 7 1000000) 8 1000000) 9 1000000) 10 1000000) 11 1000000) 12 1000000) 0 1000000) 0 1000000) 1 1000000) 2 1000000) 3 1000000) 4 1000000) 5 1000000) 6 1000000) 7 1000000) 8 1000000) 9 1000000) 10 1000000) 11 1000000) 12 1000000)))]) (va_A [(h0, .inl (κ 0, 13, .inl (upd (upd (upd (upd (upd (upd (upd (upd (upd (upd (upd (upd (upd (upd (fun _ => 0) 0 1000000) 1 1000000) 2 1000000) 3 1000000) 4 1000000) 5 1000000) 6 1000000) 7 1000000) 8 1000000) 9 1000000) 10 1000000) 11 1000000) 12 1000000) 0 1000000)))] sz)) 0 0 (va_A [(h0, .inl (κ 0, 13, .inl (upd (upd (upd (upd (upd (upd (upd (upd (upd (upd (upd (upd (upd (upd (fun _ => 0) 0 1000000) 1 1000000) 2 1000000) 3 1000000) 4 1000000) 5 1000000) 6 1000000) 7 1000000) 8 1000000) 9 1000000) 10 1000000) 11 1000000) 12 1000000) 0 1000000)))] sz) := by
  refine Met.ofW (cc := cJ7_fill_53178) (maxL := 4) (ret := none) (by decide) rfl ?_
  intro p e s m args below meth c s₁ B hml hv
  obtain ⟨rfl, hsz, hP, hK, hD0, hE9⟩ := hv
  have hx := B.exec
  have hb := B.bytes
  have hr := B.returns
  have hts := atoms_spec (ws := wsJ7_fill_53178) B.pre
  have hown : s.vm.findClass RJ7 = some m.cls := findClass_of_methodNamed B.named
  have hlocks := B.notSynchronized
  subst hsz
  have hD := hD0.self (sz := s.heap.size)
  generalize hAe : va_A [(h0, .inl (κ 0, 13, .inl (upd (upd (upd (upd (upd (upd (upd (upd (upd (upd (upd (upd (upd (upd (fun _ => 0) 0 1000000) 1 1000000) 2 1000000) 3 1000000) 4 1000000) 5 1000000) 6 1000000) 7 1000000) 8 1000000) 9 1000000) 10 1000000) 11 1000000) 12 1000000) 0 1000000)))] s.heap.size = A at hD hE9 ⊢
  have hE := hE9.1
  have hDc := hE9.2
  have hA : ∀ q : Nat, s.heap.size ≤ q → A q := fun q h => by rw [← hAe]; exact Or.inr h
  have hS : va_S A s.heap s.heap [] := va_S.rf
  have hP : va_P D vwCl [(h0, .inl (κ 0, 13, .inl (upd (upd (upd (upd (upd (upd (upd (upd (upd (upd (upd (upd (upd (upd (fun _ => 0) 0 1000000) 1 1000000) 2 1000000) 3 1000000) 4 1000000) 5 1000000) 6 1000000) 7 1000000) 8 1000000) 9 1000000) 10 1000000) 11 1000000) 12 1000000) 0 1000000)))] s.heap := hP
  have hl := lv_entry [.ref h0, .int 1000000] (n := 4) (Nat.le_of_ble_eq_true rfl)
  rw [lg_entry_eq]
  generalize (lg_sl [.ref h0, .int 1000000] ++ List.replicate (4 - (lg_sl [.ref h0, .int 1000000]).length) Slot.unset).toArray = ls at hl ⊢
  have hl : lv_has ls 4 [(0, .ref h0), (1, .int 1000000)] := hl
  refine lv_iconst (v := 0) hx hb dJ7_fill_53178_0 (by decide) ?_
  refine lv_istore_n (lv' := [(2, .int 0), (0, .ref h0), (1, .int 1000000)]) hx hb dJ7_fill_53178_1 rfl hl (by decide) rfl (fun ls hl => ?_)
  refine lv_aload_n hx hb dJ7_fill_53178_2 rfl (lv_at hl 1 rfl) ?_
  refine va_alen hx hb hK hP 0 0 rfl rfl (v := 13) (by decide) dJ7_fill_53178_3 ?_
  refine lv_istore_n (lv' := [(3, .int 13), (2, .int 0), (0, .ref h0), (1, .int 1000000)]) hx hb dJ7_fill_53178_4 rfl hl (by decide) rfl (fun ls hl => ?_)
  refine lv_iload_n hx hb dJ7_fill_53178_5 rfl (lv_at hl 1 rfl) ?_
  refine lv_iload_n hx hb dJ7_fill_53178_6 rfl (lv_at hl 0 rfl) ?_
  refine lv_icmp_ge (tgt := 20) hx hb dJ7_fill_53178_7 (by decide) (fun h => absurd h (by decide)) (fun _ => ?_)
  refine lv_aload_n hx hb dJ7_fill_53178_10 rfl (lv_at hl 2 rfl) ?_
  refine lv_iload_n hx hb dJ7_fill_53178_11 rfl (lv_at hl 1 rfl) ?_
  refine lv_iload_n hx hb dJ7_fill_53178_12 rfl (lv_at hl 3 rfl) ?_
  refine va_iast (cA := κ 0) (n := 13) (f := (upd (upd (upd (upd (upd (upd (upd (upd (upd (upd (upd (upd (upd (upd (fun _ => 0) 0 1000000) 1 1000000) 2 1000000) 3 1000000) 4 1000000) 5 1000000) 6 1000000) 7 1000000) 8 1000000) 9 1000000) 10 1000000) 11 1000000) 12 1000000) 0 1000000)) hx hb hK hP hD hS 0 0 rfl rfl (vpl (by decide)) dJ7_fill_53178_13 (fun H locs hP hD hS => ?_)
  have hP : va_P D vwCl [(h0, .inl (κ 0, 13, .inl (upd (upd (upd (upd (upd (upd (upd (upd (upd (upd (upd (upd (upd (upd (upd (fun _ => 0) 0 1000000) 1 1000000) 2 1000000) 3 1000000) 4 1000000) 5 1000000) 6 1000000) 7 1000000) 8 1000000) 9 1000000) 10 1000000) 11 1000000) 12 1000000) 0 1000000) 0 1000000)))] H := hP
  have hD : va_D A [(h0, .inl (κ 0, 13, .inl (upd (upd (upd (upd (upd (upd (upd (upd (upd (upd (upd (upd (upd (upd (upd (fun _ => 0) 0 1000000) 1 1000000) 2 1000000) 3 1000000) 4 1000000) 5 1000000) 6 1000000) 7 1000000) 8 1000000) 9 1000000) 10 1000000) 11 1000000) 12 1000000) 0 1000000) 0 1000000)))] := hD
  refine lv_iinc (v := 1) (lv' := [(2, .int 1), (3, .int 13), (0, .ref h0), (1, .int 1000000)]) hx hb dJ7_fill_53178_14 hl (k := 1) rfl (by decide) (by decide) rfl (fun ls hl => ?_)
  refine lv_goto (tgt := 5) hx hb dJ7_fill_53178_17 (by decide) ?_
  refine lv_iload_n hx hb dJ7_fill_53178_5 rfl (lv_at hl 0 rfl) ?_
  refine lv_iload_n hx hb dJ7_fill_53178_6 rfl (lv_at hl 1 rfl) ?_
  refine lv_icmp_ge (tgt := 20) hx hb dJ7_fill_53178_7 (by decide) (fun h => absurd h (by decide)) (fun _ => ?_)
  refine lv_aload_n hx hb dJ7_fill_53178_10 rfl (lv_at hl 2 rfl) ?_
  refine lv_iload_n hx hb dJ7_fill_53178_11 rfl (lv_at hl 0 rfl) ?_
  refine lv_iload_n hx hb dJ7_fill_53178_12 rfl (lv_at hl 3 rfl) ?_
  refine va_iast (cA := κ 0) (n := 13) (f := (upd (upd (upd (upd (upd (upd (upd (upd (upd (upd (upd (upd (upd (upd (upd (fun _ => 0) 0 1000000) 1 1000000) 2 1000000) 3 1000000) 4 1000000) 5 1000000) 6 1000000) 7 1000000) 8 1000000) 9 1000000) 10 1000000) 11 1000000) 12 1000000) 0 1000000) 0 1000000)) hx hb hK hP hD hS 0 0 rfl rfl (vpl (by decide)) dJ7_fill_53178_13 (fun H locs hP hD hS => ?_)
  have hP : va_P D vwCl [(h0, .inl (κ 0, 13, .inl (upd (upd (upd (upd (upd (upd (upd (upd (upd (upd (upd (upd (upd (upd (upd (upd (fun _ => 0) 0 1000000) 1 1000000) 2 1000000) 3 1000000) 4 1000000) 5 1000000) 6 1000000) 7 1000000) 8 1000000) 9 1000000) 10 1000000) 11 1000000) 12 1000000) 0 1000000) 0 1000000) 1 1000000)))] H := hP
  have hD : va_D A [(h0, .inl (κ 0, 13, .inl (upd (upd (upd (upd (upd (upd (upd (upd (upd (upd (upd (upd (upd (upd (upd (upd (fun _ => 0) 0 1000000) 1 1000000) 2 1000000) 3 1000000) 4 1000000) 5 1000000) 6 1000000) 7 1000000) 8 1000000) 9 1000000) 10 1000000) 11 1000000) 12 1000000) 0 1000000) 0 1000000) 1 1000000)))] := hD
  refine lv_iinc (v := 2) (lv' := [(2, .int 2), (3, .int 13), (0, .ref h0), (1, .int 1000000)]) hx hb dJ7_fill_53178_14 hl (k := 0) rfl (by decide) (by decide) rfl (fun ls hl => ?_)
  refine lv_goto (tgt := 5) hx hb dJ7_fill_53178_17 (by decide) ?_
  refine lv_iload_n hx hb dJ7_fill_53178_5 rfl (lv_at hl 0 rfl) ?_
  refine lv_iload_n hx hb dJ7_fill_53178_6 rfl (lv_at hl 1 rfl) ?_
  refine lv_icmp_ge (tgt := 20) hx hb dJ7_fill_53178_7 (by decide) (fun h => absurd h (by decide)) (fun _ => ?_)
  refine lv_aload_n hx hb dJ7_fill_53178_10 rfl (lv_at hl 2 rfl) ?_
  refine lv_iload_n hx hb dJ7_fill_53178_11 rfl (lv_at hl 0 rfl) ?_
  refine lv_iload_n hx hb dJ7_fill_53178_12 rfl (lv_at hl 3 rfl) ?_
  refine va_iast (cA := κ 0) (n := 13) (f := (upd (upd (upd (upd (upd (upd (upd (upd (upd (upd (upd (upd (upd (upd (upd (upd (fun _ => 0) 0 1000000) 1 1000000) 2 1000000) 3 1000000) 4 1000000) 5 1000000) 6 1000000) 7 1000000) 8 1000000) 9 1000000) 10 1000000) 11 1000000) 12 1000000) 0 1000000) 0 1000000) 1 1000000)) hx hb hK hP hD hS 0 0 rfl rfl (vpl (by decide)) dJ7_fill_53178_13 (fun H locs hP hD hS => ?_)
  have hP : va_P D vwCl [(h0, .inl (κ 0, 13, .inl (upd (upd (upd (upd (upd (upd (upd (upd (upd (upd (upd (upd (upd (upd (upd (upd (upd (fun _ => 0) 0 1000000) 1 1000000) 2 1000000) 3 1000000) 4 1000000) 5 1000000) 6 1000000) 7 1000000) 8 1000000) 9 1000000) 10 1000000) 11 1000000) 12 1000000) 0 1000000) 0 1000000) 1 1000000) 2 1000000)))] H := hP
  have hD : va_D A [(h0, .inl (κ 0, 13, .inl (upd (upd (upd (upd (upd (upd (upd (upd (upd (upd (upd (upd (upd (upd (upd (upd (upd (fun _ => 0) 0 1000000) 1 1000000) 2 1000000) 3 1000000) 4 1000000) 5 1000000) 6 1000000) 7 1000000) 8 1000000) 9 1000000) 10 1000000) 11 1000000) 12 1000000) 0 1000000) 0 1000000) 1 1000000) 2 1000000)))] := hD
  refine lv_iinc (v := 3) (lv' := [(2, .int 3), (3, .int 13), (0, .ref h0), (1, .int 1000000)]) hx hb dJ7_fill_53178_14 hl (k := 0) rfl (by decide) (by decide) rfl (fun ls hl => ?_)
  refine lv_goto (tgt := 5) hx hb dJ7_fill_53178_17 (by decide) ?_
  refine lv_iload_n hx hb dJ7_fill_53178_5 rfl (lv_at hl 0 rfl) ?_
  refine lv_iload_n hx hb dJ7_fill_53178_6 rfl (lv_at hl 1 rfl) ?_
  refine lv_icmp_ge (tgt := 20) hx hb dJ7_fill_53178_7 (by decide) (fun h => absurd h (by decide)) (fun _ => ?_)
  refine lv_aload_n hx hb dJ7_fill_53178_10 rfl (lv_at hl 2 rfl) ?_
  refine lv_iload_n hx hb dJ7_fill_53178_11 rfl (lv_at hl 0 rfl) ?_
  refine lv_iload_n hx hb dJ7_fill_53178_12 rfl (lv_at hl 3 rfl) ?_
  refine va_iast (cA := κ 0) (n := 13) (f := (upd (upd (upd (upd (upd (upd (upd (upd (upd (upd (upd (upd (upd (upd (upd (upd (upd (fun _ => 0) 0 1000000) 1 1000000) 2 1000000) 3 1000000) 4 1000000) 5 1000000) 6 1000000) 7 1000000) 8 1000000) 9 1000000) 10 1000000) 11 1000000) 12 1000000) 0 1000000) 0 1000000) 1 1000000) 2 1000000)) hx hb hK hP hD hS 0 0 rfl rfl (vpl (by decide)) dJ7_fill_53178_13 (fun H locs hP hD hS => ?_)
  have hP : va_P D vwCl [(h0, .inl (κ 0, 13, .inl (upd (upd (upd (upd (upd (upd (upd (upd (upd (upd (upd (upd (upd (upd (upd (upd (upd (upd (fun _ => 0) 0 1000000) 1 1000000) 2 1000000) 3 1000000) 4 1000000) 5 1000000) 6 1000000) 7 1000000) 8 1000000) 9 1000000) 10 1000000) 11 1000000) 12 1000000) 0 1000000) 0 1000000) 1 1000000) 2 1000000) 3 1000000)))] H := hP
  have hD : va_D A [(h0, .inl (κ 0, 13, .inl (upd (upd (upd (upd (upd (upd (upd (upd (upd (upd (upd (upd (upd (upd (upd (upd (upd (upd (fun _ => 0) 0 1000000) 1 1000000) 2 1000000) 3 1000000) 4 1000000) 5 1000000) 6 1000000) 7 1000000) 8 1000000) 9 1000000) 10 1000000) 11 1000000) 12 1000000) 0 1000000) 0 1000000) 1 1000000) 2 1000000) 3 1000000)))] := hD
  refine lv_iinc (v := 4) (lv' := [(2, .int 4), (3, .int 13), (0, .ref h0), (1, .int 1000000)]) hx hb dJ7_fill_53178_14 hl (k := 0) rfl (by decide) (by decide) rfl (fun ls hl => ?_)
  refine lv_goto (tgt := 5) hx hb dJ7_fill_53178_17 (by decide) ?_
  refine lv_iload_n hx hb dJ7_fill_53178_5 rfl (lv_at hl 0 rfl) ?_
  refine lv_iload_n hx hb dJ7_fill_53178_6 rfl (lv_at hl 1 rfl) ?_
  refine lv_icmp_ge (tgt := 20) hx hb dJ7_fill_53178_7 (by decide) (fun h => absurd h (by decide)) (fun _ => ?_)
  refine lv_aload_n hx hb dJ7_fill_53178_10 rfl (lv_at hl 2 rfl) ?_
  refine lv_iload_n hx hb dJ7_fill_53178_11 rfl (lv_at hl 0 rfl) ?_
  refine lv_iload_n hx hb dJ7_fill_53178_12 rfl (lv_at hl 3 rfl) ?_
  refine va_iast (cA := κ 0) (n := 13) (f := (upd (upd (upd (upd (upd (upd (upd (upd (upd (upd (upd (upd (upd (upd (upd (upd (upd (upd (fun _ => 0) 0 1000000) 1 1000000) 2 1000000) 3 1000000) 4 1000000) 5 1000000) 6 1000000) 7 1000000) 8 1000000) 9 1000000) 10 1000000) 11 1000000) 12 1000000) 0 1000000) 0 1000000) 1 1000000) 2 1000000) 3 1000000)) hx hb hK hP hD hS 0 0 rfl rfl (vpl (by decide)) dJ7_fill_53178_13 (fun H locs hP hD hS => ?_)
  have hP : va_P D vwCl [(h0, .inl (κ 0, 13, .inl (upd (upd (upd (upd (upd (upd (upd (upd (upd (upd (upd (upd (upd (upd (upd (upd (upd (upd (upd (fun _ => 0) 0 1000000) 1 1000000) 2 1000000) 3 1000000) 4 1000000) 5 1000000) 6 1000000) 7 1000000) 8 1000000) 9 1000000) 10 1000000) 11 1000000) 12 1000000) 0 1000000) 0 1000000) 1 1000000) 2 1000000) 3 1000000) 4 1000000)))] H := hP
  have hD : va_D A [(h0, .inl (κ 0, 13, .inl (upd (upd (upd (upd (upd (upd (upd (upd (upd (upd (upd (upd (upd (upd (upd (upd (upd (upd (upd (fun _ => 0) 0 1000000) 1 1000000) 2 1000000) 3 1000000) 4 1000000) 5 1000000) 6 1000000) 7 1000000) 8 1000000) 9 1000000) 10 1000000) 11 1000000) 12 1000000) 0 1000000) 0 1000000) 1 1000000) 2 1000000) 3 1000000) 4 1000000)))] := hD
  refine lv_iinc (v := 5) (lv' := [(2, .int 5), (3, .int 13), (0, .ref h0), (1, .int 1000000)]) hx hb dJ7_fill_53178_14 hl (k := 0) rfl (by decide) (by decide) rfl (fun ls hl => ?_)
  refine lv_goto (tgt := 5) hx hb dJ7_fill_53178_17 (by decide) ?_
  refine lv_iload_n hx hb dJ7_fill_53178_5 rfl (lv_at hl 0 rfl) ?_
  refine lv_iload_n hx hb dJ7_fill_53178_6 rfl (lv_at hl 1 rfl) ?_
  refine lv_icmp_ge (tgt := 20) hx hb dJ7_fill_53178_7 (by decide) (fun h => absurd h (by decide)) (fun _ => ?_)
  refine lv_aload_n hx hb dJ7_fill_53178_10 rfl (lv_at hl 2 rfl) ?_
  refine lv_iload_n hx hb dJ7_fill_53178_11 rfl (lv_at hl 0 rfl) ?_
  refine lv_iload_n hx hb dJ7_fill_53178_12 rfl (lv_at hl 3 rfl) ?_
  refine va_iast (cA := κ 0) (n := 13) (f := (upd (upd (upd (upd (upd (upd (upd (upd (upd (upd (upd (upd (upd (upd (upd (upd (upd (upd (upd (fun _ => 0) 0 1000000) 1 1000000) 2 1000000) 3 1000000) 4 1000000) 5 1000000) 6 1000000) 7 1000000) 8 1000000) 9 1000000) 10 1000000) 11 1000000) 12 1000000) 0 1000000) 0 1000000) 1 1000000) 2 1000000) 3 1000000) 4 1000000)) hx hb hK hP hD hS 0 0 rfl rfl (vpl (by decide)) dJ7_fill_53178_13 (fun H locs hP hD hS => ?_)
  have hP : va_P D vwCl [(h0, .inl (κ 0, 13, .inl (upd (upd (upd (upd (upd (upd (upd (upd (upd (upd (upd (upd (upd (upd (upd (upd (upd (upd (upd (upd (fun _ => 0) 0 1000000) 1 1000000) 2 1000000) 3 1000000) 4 1000000) 5 1000000) 6 1000000) 7 1000000) 8 1000000) 9 1000000) 10 1000000) 11 1000000) 12 1000000) 0 1000000) 0 1000000) 1 1000000) 2 1000000) 3 1000000) 4 1000000) 5 1000000)))] H := hP
  have hD : va_D A [(h0, .inl (κ 0, 13, .inl (upd (upd (upd (upd (upd (upd (upd (upd (upd (upd (upd (upd (upd (upd (upd (upd (upd (upd (upd (upd (fun _ => 0) 0 1000000) 1 1000000) 2 1000000) 3 1000000) 4 1000000) 5 1000000) 6 1000000) 7 1000000) 8 1000000) 9 1000000) 10 1000000) 11 1000000) 12 1000000) 0 1000000) 0 1000000) 1 1000000) 2 1000000) 3 1000000) 4 1000000) 5 1000000)))] := hD
  refine lv_iinc (v := 6) (lv' := [(2, .int 6), (3, .int 13), (0, .ref h0), (1, .int 1000000)]) hx hb dJ7_fill_53178_14 hl (k := 0) rfl (by decide) (by decide) rfl (fun ls hl => ?_)
  refine lv_goto (tgt := 5) hx hb dJ7_fill_53178_17 (by decide) ?_
  refine lv_iload_n hx hb dJ7_fill_53178_5 rfl (lv_at hl 0 rfl) ?_
  refine lv_iload_n hx hb dJ7_fill_53178_6 rfl (lv_at hl 1 rfl) ?_
  refine lv_icmp_ge (tgt := 20) hx hb dJ7_fill_53178_7 (by decide) (fun h => absurd h (by decide)) (fun _ => ?_)
  refine lv_aload_n hx hb dJ7_fill_53178_10 rfl (lv_at hl 2 rfl) ?_
  refine lv_iload_n hx hb dJ7_fill_53178_11 rfl (lv_at hl 0 rfl) ?_
  refine lv_iload_n hx hb dJ7_fill_53178_12 rfl (lv_at hl 3 rfl) ?_
  refine va_iast (cA := κ 0) (n := 13) (f := (upd (upd (upd (upd (upd (upd (upd (upd (upd (upd (upd (upd (upd (upd (upd (upd (upd (upd (upd (upd (fun _ => 0) 0 1000000) 1 1000000) 2 1000000) 3 1000000) 4 1000000) 5 1000000) 6 1000000) 7 1000000) 8 1000000) 9 1000000) 10 1000000) 11 1000000) 12 1000000) 0 1000000) 0 1000000) 1 1000000) 2 1000000) 3 1000000) 4 1000000) 5 1000000)) hx hb hK hP hD hS 0 0 rfl rfl (vpl (by decide)) dJ7_fill_53178_13 (fun H locs hP hD hS => ?_)
  have hP : va_P D vwCl [(h0, .inl (κ 0, 13, .inl (upd (upd (upd (upd (upd (upd (upd (upd (upd (upd (upd (upd (upd (upd (upd (upd (upd (upd (upd (upd (upd (fun _ => 0) 0 1000000) 1 1000000) 2 1000000) 3 1000000) 4 1000000) 5 1000000) 6 1000000) 7 1000000) 8 1000000) 9 1000000) 10 1000000) 11 1000000) 12 1000000) 0 1000000) 0 1000000) 1 1000000) 2 1000000) 3 1000000) 4 1000000) 5 1000000) 6 1000000)))] H := hP
  have hD : va_D A [(h0, .inl (κ 0, 13, .inl (upd (upd (upd (upd (upd (upd (upd (upd (upd (upd (upd (upd (upd (upd (upd (upd (upd (upd (upd (upd (upd (fun _ => 0) 0 1000000) 1 1000000) 2 1000000) 3 1000000) 4 1000000) 5 1000000) 6 1000000) 7 1000000) 8 1000000) 9 1000000) 10 1000000) 11 1000000) 12 1000000) 0 1000000) 0 1000000) 1 1000000) 2 1000000) 3 1000000) 4 1000000) 5 1000000) 6 1000000)))] := hD
  refine lv_iinc (v := 7) (lv' := [(2, .int 7), (3, .int 13), (0, .ref h0), (1, .int 1000000)]) hx hb dJ7_fill_53178_14 hl (k := 0) rfl (by decide) (by decide) rfl (fun ls hl => ?_)
  refine lv_goto (tgt := 5) hx hb dJ7_fill_53178_17 (by decide) ?_
  refine lv_iload_n hx hb dJ7_fill_53178_5 rfl (lv_at hl 0 rfl) ?_
  refine lv_iload_n hx hb dJ7_fill_53178_6 rfl (lv_at hl 1 rfl) ?_
  refine lv_icmp_ge (tgt := 20) hx hb dJ7_fill_53178_7 (by decide) (fun h => absurd h (by decide)) (fun _ => ?_)
  refine lv_aload_n hx hb dJ7_fill_53178_10 rfl (lv_at hl 2 rfl) ?_
  refine lv_iload_n hx hb dJ7_fill_53178_11 rfl (lv_at hl 0 rfl) ?_
  refine lv_iload_n hx hb dJ7_fill_53178_12 rfl (lv_at hl 3 rfl) ?_
  refine va_iast (cA := κ 0) (n := 13) (f := (upd (upd (upd (upd (upd (upd (upd (upd (upd (upd (upd (upd (upd (upd (upd (upd (upd (upd (upd (upd (upd (fun _ => 0) 0 1000000) 1 1000000) 2 1000000) 3 1000000) 4 1000000) 5 1000000) 6 1000000) 7 1000000) 8 1000000) 9 1000000) 10 1000000) 11 1000000) 12 1000000) 0 1000000) 0 1000000) 1 1000000) 2 1000000) 3 1000000) 4 1000000) 5 1000000) 6 1000000)) hx hb hK hP hD hS 0 0 rfl rfl (vpl (by decide)) dJ7_fill_53178_13 (fun H locs hP hD hS => ?_)
  have hP : va_P D vwCl [(h0, .inl (κ 0, 13, .inl (upd (upd (upd (upd (upd (upd (upd (upd (upd (upd (upd (upd (upd (upd (upd (upd (upd (upd (upd (upd (upd (upd (fun _ => 0) 0 1000000) 1 1000000) 2 1000000) 3 1000000) 4 1000000) 5 1000000) 6 1000000) 7 1000000) 8 1000000) 9 1000000) 10 1000000) 11 1000000) 12 1000000) 0 1000000) 0 1000000) 1 1000000) 2 1000000) 3 1000000) 4 1000000) 5 1000000) 6 1000000) 7 1000000)))] H := hP
  have hD : va_D A [(h0, .inl (κ 0, 13, .inl (upd (upd (upd (upd (upd (upd (upd (upd (upd (upd (upd (upd (upd (upd (upd (upd (upd (upd (upd (upd (upd (upd (fun _ => 0) 0 1000000) 1 1000000) 2 1000000) 3 1000000) 4 1000000) 5 1000000) 6 1000000) 7 1000000) 8 1000000) 9 1000000) 10 1000000) 11 1000000) 12 1000000) 0 1000000) 0 1000000) 1 1000000) 2 1000000) 3 1000000) 4 1000000) 5 1000000) 6 1000000) 7 1000000)))] := hD
  refine lv_iinc (v := 8) (lv' := [(2, .int 8), (3, .int 13), (0, .ref h0), (1, .int 1000000)]) hx hb dJ7_fill_53178_14 hl (k := 0) rfl (by decide) (by decide) rfl (fun ls hl => ?_)
  refine lv_goto (tgt := 5) hx hb dJ7_fill_53178_17 (by decide) ?_
  refine lv_iload_n hx hb dJ7_fill_53178_5 rfl (lv_at hl 0 rfl) ?_
  refine lv_iload_n hx hb dJ7_fill_53178_6 rfl (lv_at hl 1 rfl) ?_
  refine lv_icmp_ge (tgt := 20) hx hb dJ7_fill_53178_7 (by decide) (fun h => absurd h (by decide)) (fun _ => ?_)
  refine lv_aload_n hx hb dJ7_fill_53178_10 rfl (lv_at hl 2 rfl) ?_
  refine lv_iload_n hx hb dJ7_fill_53178_11 rfl (lv_at hl 0 rfl) ?_
  refine lv_iload_n hx hb dJ7_fill_53178_12 rfl (lv_at hl 3 rfl) ?_
  refine va_iast (cA := κ 0) (n := 13) (f := (upd (upd (upd (upd (upd (upd (upd (upd (upd (upd (upd (upd (upd (upd (upd (upd (upd (upd (upd (upd (upd (upd (fun _ => 0) 0 1000000) 1 1000000) 2 1000000) 3 1000000) 4 1000000) 5 1000000) 6 1000000) 7 1000000) 8 1000000) 9 1000000) 10 1000000) 11 1000000) 12 1000000) 0 1000000) 0 1000000) 1 1000000) 2 1000000) 3 1000000) 4 1000000) 5 1000000) 6 1000000) 7 1000000)) hx hb hK hP hD hS 0 0 rfl rfl (vpl (by decide)) dJ7_fill_53178_13 (fun H locs hP hD hS => ?_)
  have hP : va_P D vwCl [(h0, .inl (κ 0, 13, .inl (upd (upd (upd (upd (upd (upd (upd (upd (upd (upd (upd (upd (upd (upd (upd (upd (upd (upd (upd (upd (upd (upd (upd (fun _ => 0) 0 1000000) 1 1000000) 2 1000000) 3 1000000) 4 1000000) 5 1000000) 6 1000000) 7 1000000) 8 1000000) 9 1000000) 10 1000000) 11 1000000) 12 1000000) 0 1000000) 0 1000000) 1 1000000) 2 1000000) 3 1000000) 4 1000000) 5 1000000) 6 1000000) 7 1000000) 8 1000000)))] H := hP
  have hD : va_D A [(h0, .inl (κ 0, 13, .inl (upd (upd (upd (upd (upd (upd (upd (upd (upd (upd (upd (upd (upd (upd (upd (upd (upd (upd (upd (upd (upd (upd (upd (fun _ => 0) 0 1000000) 1 1000000) 2 1000000) 3 1000000) 4 1000000) 5 1000000) 6 1000000) 7 1000000) 8 1000000) 9 1000000) 10 1000000) 11 1000000) 12 1000000) 0 1000000) 0 1000000) 1 1000000) 2 1000000) 3 1000000) 4 1000000) 5 1000000) 6 1000000) 7 1000000) 8 1000000)))] := hD
  refine lv_iinc (v := 9) (lv' := [(2, .int 9), (3, .int 13), (0, .ref h0), (1, .int 1000000)]) hx hb dJ7_fill_53178_14 hl (k := 0) rfl (by decide) (by decide) rfl (fun ls hl => ?_)
  refine lv_goto (tgt := 5) hx hb dJ7_fill_53178_17 (by decide) ?_
  refine lv_iload_n hx hb dJ7_fill_53178_5 rfl (lv_at hl 0 rfl) ?_
  refine lv_iload_n hx hb dJ7_fill_53178_6 rfl (lv_at hl 1 rfl) ?_
  refine lv_icmp_ge (tgt := 20) hx hb dJ7_fill_53178_7 (by decide) (fun h => absurd h (by decide)) (fun _ => ?_)
  refine lv_aload_n hx hb dJ7_fill_53178_10 rfl (lv_at hl 2 rfl) ?_
  refine lv_iload_n hx hb dJ7_fill_53178_11 rfl (lv_at hl 0 rfl) ?_
  refine lv_iload_n hx hb dJ7_fill_53178_12 rfl (lv_at hl 3 rfl) ?_
  refine va_iast (cA := κ 0) (n := 13) (f := (upd (upd (upd (upd (upd (upd (upd (upd (upd (upd (upd (upd (upd (upd (upd (upd (upd (upd (upd (upd (upd (upd (upd (fun _ => 0) 0 1000000) 1 1000000) 2 1000000) 3 1000000) 4 1000000) 5 1000000) 6 1000000) 7 1000000) 8 1000000) 9 1000000) 10 1000000) 11 1000000) 12 1000000) 0 1000000) 0 1000000) 1 1000000) 2 1000000) 3 1000000) 4 1000000) 5 1000000) 6 1000000) 7 1000000) 8 1000000)) hx hb hK hP hD hS 0 0 rfl rfl (vpl (by decide)) dJ7_fill_53178_13 (fun H locs hP hD hS => ?_)
  have hP : va_P D vwCl [(h0, .inl (κ 0, 13, .inl (upd (upd (upd (upd (upd (upd (upd (upd (upd (upd (upd (upd (upd (upd (upd (upd (upd (upd (upd (upd (upd (upd (upd (upd (fun _ => 0) 0 1000000) 1 1000000) 2 1000000) 3 1000000) 4 1000000) 5 1000000) 6 1000000) 7 1000000) 8 1000000) 9 1000000) 10 1000000) 11 1000000) 12 1000000) 0 1000000) 0 1000000) 1 1000000) 2 1000000) 3 1000000) 4 1000000) 5 1000000) 6 1000000) 7 1000000) 8 1000000) 9 1000000)))] H := hP
  have hD : va_D A [(h0, .inl (κ 0, 13, .inl (upd (upd (upd (upd (upd (upd (upd (upd (upd (upd (upd (upd (upd (upd (upd (upd (upd (upd (upd (upd (upd (upd (upd (upd (fun _ => 0) 0 1000000) 1 1000000) 2 1000000) 3 1000000) 4 1000000) 5 1000000) 6 1000000) 7 1000000) 8 1000000) 9 1000000) 10 1000000) 11 1000000) 12 1000000) 0 1000000) 0 1000000) 1 1000000) 2 1000000) 3 1000000) 4 1000000) 5 1000000) 6 1000000) 7 1000000) 8 1000000) 9 1000000)))] := hD
  refine lv_iinc (v := 10) (lv' := [(2, .int 10), (3, .int 13), (0, .ref h0), (1, .int 1000000)]) hx hb dJ7_fill_53178_14 hl (k := 0) rfl (by decide) (by decide) rfl (fun ls hl => ?_)
  refine lv_goto (tgt := 5) hx hb dJ7_fill_53178_17 (by decide) ?_
  refine lv_iload_n hx hb dJ7_fill_53178_5 rfl (lv_at hl 0 rfl) ?_
  refine lv_iload_n hx hb dJ7_fill_53178_6 rfl (lv_at hl 1 rfl) ?_
  refine lv_icmp_ge (tgt := 20) hx hb dJ7_fill_53178_7 (by decide) (fun h => absurd h (by decide)) (fun _ => ?_)
  refine lv_aload_n hx hb dJ7_fill_53178_10 rfl (lv_at hl 2 rfl) ?_
  refine lv_iload_n hx hb dJ7_fill_53178_11 rfl (lv_at hl 0 rfl) ?_
  refine lv_iload_n hx hb dJ7_fill_53178_12 rfl (lv_at hl 3 rfl) ?_
  refine va_iast (cA := κ 0) (n := 13) (f := (upd (upd (upd (upd (upd (upd (upd (upd (upd (upd (upd (upd (upd (upd (upd (upd (upd (upd (upd (upd (upd (upd (upd (upd (fun _ => 0) 0 1000000) 1 1000000) 2 1000000) 3 1000000) 4 1000000) 5 1000000) 6 1000000) 7 1000000) 8 1000000) 9 1000000) 10 1000000) 11 1000000) 12 1000000) 0 1000000) 0 1000000) 1 1000000) 2 1000000) 3 1000000) 4 1000000) 5 1000000) 6 1000000) 7 1000000) 8 1000000) 9 1000000)) hx hb hK hP hD hS 0 0 rfl rfl (vpl (by decide)) dJ7_fill_53178_13 (fun H locs hP hD hS => ?_)
  have hP : va_P D vwCl [(h0, .inl (κ 0, 13, .inl (upd (upd (upd (upd (upd (upd (upd (upd (upd (upd (upd (upd (upd (upd (upd (upd (upd (upd (upd (upd (upd (upd (upd (upd (upd (fun _ => 0) 0 1000000) 1 1000000) 2 1000000) 3 1000000) 4 1000000) 5 1000000) 6 1000000) 7 1000000) 8 1000000) 9 1000000) 10 1000000) 11 1000000) 12 1000000) 0 1000000) 0 1000000) 1 1000000) 2 1000000) 3 1000000) 4 1000000) 5 1000000) 6 1000000) 7 1000000) 8 1000000) 9 1000000) 10 1000000)))] H := hP
  have hD : va_D A [(h0, .inl (κ 0, 13, .inl (upd (upd (upd (upd (upd (upd (upd (upd (upd (upd (upd (upd (upd (upd (upd (upd (upd (upd (upd (upd (upd (upd (upd (upd (upd (fun _ => 0) 0 1000000) 1 1000000) 2 1000000) 3 1000000) 4 1000000) 5 1000000) 6 1000000) 7 1000000) 8 1000000) 9 1000000) 10 1000000) 11 1000000) 12 1000000) 0 1000000) 0 1000000) 1 1000000) 2 1000000) 3 1000000) 4 1000000) 5 1000000) 6 1000000) 7 1000000) 8 1000000) 9 1000000) 10 1000000)))] := hD
  refine lv_iinc (v := 11) (lv' := [(2, .int 11), (3, .int 13), (0, .ref h0), (1, .int 1000000)]) hx hb dJ7_fill_53178_14 hl (k := 0) rfl (by decide) (by decide) rfl (fun ls hl => ?_)
  refine lv_goto (tgt := 5) hx hb dJ7_fill_53178_17 (by decide) ?_
  refine lv_iload_n hx hb dJ7_fill_53178_5 rfl (lv_at hl 0 rfl) ?_
  refine lv_iload_n hx hb dJ7_fill_53178_6 rfl (lv_at hl 1 rfl) ?_
  refine lv_icmp_ge (tgt := 20) hx hb dJ7_fill_53178_7 (by decide) (fun h => absurd h (by decide)) (fun _ => ?_)
  refine lv_aload_n hx hb dJ7_fill_53178_10 rfl (lv_at hl 2 rfl) ?_
  refine lv_iload_n hx hb dJ7_fill_53178_11 rfl (lv_at hl 0 rfl) ?_
  refine lv_iload_n hx hb dJ7_fill_53178_12 rfl (lv_at hl 3 rfl) ?_
  refine va_iast (cA := κ 0) (n := 13) (f := (upd (upd (upd (upd (upd (upd (upd (upd (upd (upd (upd (upd (upd (upd (upd (upd (upd (upd (upd (upd (upd (upd (upd (upd (upd (fun _ => 0) 0 1000000) 1 1000000) 2 1000000) 3 1000000) 4 1000000) 5 1000000) 6 1000000) 7 1000000) 8 1000000) 9 1000000) 10 1000000) 11 1000000) 12 1000000) 0 1000000) 0 1000000) 1 1000000) 2 1000000) 3 1000000) 4 1000000) 5 1000000) 6 1000000) 7 1000000) 8 1000000) 9 1000000) 10 1000000)) hx hb hK hP hD hS 0 0 rfl rfl (vpl (by decide)) dJ7_fill_53178_13 (fun H locs hP hD hS => ?_)
  have hP : va_P D vwCl [(h0, .inl (κ 0, 13, .inl (upd (upd (upd (upd (upd (upd (upd (upd (upd (upd (upd (upd (upd (upd (upd (upd (upd (upd (upd (upd (upd (upd (upd (upd (upd (upd (fun _ => 0) 0 1000000) 1 1000000) 2 1000000) 3 1000000) 4 1000000) 5 1000000) 6 1000000) 7 1000000) 8 1000000) 9 1000000) 10 1000000) 11 1000000) 12 1000000) 0 1000000) 0 1000000) 1 1000000) 2 1000000) 3 1000000) 4 1000000) 5 1000000) 6 1000000) 7 1000000) 8 1000000) 9 1000000) 10 1000000) 11 1000000)))] H := hP
  have hD : va_D A [(h0, .inl (κ 0, 13, .inl (upd (upd (upd (upd (upd (upd (upd (upd (upd (upd (upd (upd (upd (upd (upd (upd (upd (upd (upd (upd (upd (upd (upd (upd (upd (upd (fun _ => 0) 0 1000000) 1 1000000) 2 1000000) 3 1000000) 4 1000000) 5 1000000) 6 1000000) 7 1000000) 8 1000000) 9 1000000) 10 1000000) 11 1000000) 12 1000000) 0 1000000) 0 1000000) 1 1000000) 2 1000000) 3 1000000) 4 1000000) 5 1000000) 6 1000000) 7 1000000) 8 1000000) 9 1000000) 10 1000000) 11 1000000)))] := hD
  refine lv_iinc (v := 12) (lv' := [(2, .int 12), (3, .int 13), (0, .ref h0), (1, .int 1000000)]) hx hb dJ7_fill_53178_14 hl (k := 0) rfl (by decide) (by decide) rfl (fun ls hl => ?_)
  refine lv_goto (tgt := 5) hx hb dJ7_fill_53178_17 (by decide) ?_
  refine lv_iload_n hx hb dJ7_fill_53178_5 rfl (lv_at hl 0 rfl) ?_
  refine lv_iload_n hx hb dJ7_fill_53178_6 rfl (lv_at hl 1 rfl) ?_
  refine lv_icmp_ge (tgt := 20) hx hb dJ7_fill_53178_7 (by decide) (fun h => absurd h (by decide)) (fun _ => ?_)
  refine lv_aload_n hx hb dJ7_fill_53178_10 rfl (lv_at hl 2 rfl) ?_
  refine lv_iload_n hx hb dJ7_fill_53178_11 rfl (lv_at hl 0 rfl) ?_
  refine lv_iload_n hx hb dJ7_fill_53178_12 rfl (lv_at hl 3 rfl) ?_
  refine va_iast (cA := κ 0) (n := 13) (f := (upd (upd (upd (upd (upd (upd (upd (upd (upd (upd (upd (upd (upd (upd (upd (upd (upd (upd (upd (upd (upd (upd (upd (upd (upd (upd (fun _ => 0) 0 1000000) 1 1000000) 2 1000000) 3 1000000) 4 1000000) 5 1000000) 6 1000000) 7 1000000) 8 1000000) 9 1000000) 10 1000000) 11 1000000) 12 1000000) 0 1000000) 0 1000000) 1 1000000) 2 1000000) 3 1000000) 4 1000000) 5 1000000) 6 1000000) 7 1000000) 8 1000000) 9 1000000) 10 1000000) 11 1000000)) hx hb hK hP hD hS 0 0 rfl rfl (vpl (by decide)) dJ7_fill_53178_13 (fun H locs hP hD hS => ?_)
  have hP : va_P D vwCl [(h0, .inl (κ 0, 13, .inl (upd (upd (upd (upd (upd (upd (upd (upd (upd (upd (upd (upd (upd (upd (upd (upd (upd (upd (upd (upd (upd (upd (upd (upd (upd (upd (upd (fun _ => 0) 0 1000000) 1 1000000) 2 1000000) 3 1000000) 4 1000000) 5 1000000) 6 1000000) 7 1000000) 8 1000000) 9 1000000) 10 1000000) 11 1000000) 12 1000000) 0 1000000) 0 1000000) 1 1000000) 2 1000000) 3 1000000) 4 1000000) 5 1000000) 6 1000000) 7 1000000) 8 1000000) 9 1000000) 10 1000000) 11 1000000) 12 1000000)))] H := hP
  have hD : va_D A [(h0, .inl (κ 0, 13, .inl (upd (upd (upd (upd (upd (upd (upd (upd (upd (upd (upd (upd (upd (upd (upd (upd (upd (upd (upd (upd (upd (upd (upd (upd (upd (upd (upd (fun _ => 0) 0 1000000) 1 1000000) 2 1000000) 3 1000000) 4 1000000) 5 1000000) 6 1000000) 7 1000000) 8 1000000) 9 1000000) 10 1000000) 11 1000000) 12 1000000) 0 1000000) 0 1000000) 1 1000000) 2 1000000) 3 1000000) 4 1000000) 5 1000000) 6 1000000) 7 1000000) 8 1000000) 9 1000000) 10 1000000) 11 1000000) 12 1000000)))] := hD
  refine lv_iinc (v := 13) (lv' := [(2, .int 13), (3, .int 13), (0, .ref h0), (1, .int 1000000)]) hx hb dJ7_fill_53178_14 hl (k := 0) rfl (by decide) (by decide) rfl (fun ls hl => ?_)
  refine lv_goto (tgt := 5) hx hb dJ7_fill_53178_17 (by decide) ?_
  refine lv_iload_n hx hb dJ7_fill_53178_5 rfl (lv_at hl 0 rfl) ?_
  refine lv_iload_n hx hb dJ7_fill_53178_6 rfl (lv_at hl 1 rfl) ?_
  refine lv_icmp_ge (tgt := 20) hx hb dJ7_fill_53178_7 (by decide) (fun _ => ?_) (fun h => absurd (by decide) h)
  have hP9 := hP
  have hD9 := hD
  exact W.vret hx hb hr (fun t ht hW => ⟨⟨(), rfl, trivial, by rw [ht]; exact hP9, hD9⟩, hS.F ht⟩) hS.2.2 dJ7_fill_53178_20

set_option maxHeartbeats 4000000 in
set_option maxRecDepth 100000 in
theorem k_X1_refine_10 (l : Launch) (D : va_G) (κ ε : Nat → Nat) (h0 h1 h2 h3 h4 h5 h6 h7 h8 h9 h10 h11 : Nat) (sz : Nat) (p0 : Int32) (p1 : Int32) : Met l yX1_refine wsX1_refine ({ frames := 2, cells := 0, slots := 0, locals := 48 }) (va_Pc [.ref h0, .int 2, .int 0] (Pre2 D κ ε [(h0, .inr (3, [.ref h1, .int 0, .int 500, .ref h2, .ref h3, .long 0, .int p0])), (h1, .inr (2, [.int 0, .int p1, .ref h4, .ref h5])), (h2, .inl (κ 0, 13, .inl (upd (upd (upd (upd (upd (upd (upd (upd (upd (upd (upd (upd (upd (upd (upd (upd (upd (upd (upd (upd (upd (upd (upd (upd (upd (upd (upd (fun _ => 0) 0 1000000) 1 1000000) 2 1000000) 3 1000000) 4 1000000) 5 1000000) 6 1000000) 7 1000000) 8 1000000) 9 1000000) 10 1000000) 11 1000000) 12 1000000) 0 1000000) 0 1000000) 1 1000000) 2 1000000) 3 1000000) 4 1000000) 5 1000000) 6 1000000) 7 1000000) 8 1000000) 9 1000000) 10 1000000) 11 1000000) 12 1000000))), (h3, .inl (κ 0, 13, .inl (fun _ => 0))), (h4, .inl (κ 3, 4, .inr (.inr (.inr (.inr (sel [h6, h7, h8, h9])))))), (h7, .inr (6, [.ref h10, .ref h11, .int 0]))] sz)) (va_Qv (fun u : Unit => True) (fun u t => va_P D vwCl [(h0, .inr (3, [.ref h1, .int 0, .int 500, .ref h2, .ref h3, .long 0, .int 0])), (h1, .inr (2, [.int 0, .int p1, .ref h4, .ref h5])), (h2, .inl (κ 0, 13, .inl (upd (upd (upd (upd (upd (upd (upd (upd (upd (upd (upd (upd (upd (upd (upd (upd (upd (upd (upd (upd (upd (upd (upd (upd (upd (upd (upd (upd (fun _ => 0) 0 1000000) 1 1000000) 2 1000000) 3 1000000) 4 1000000) 5 1000000) 6 1000000) 7 1000000) 8 1000000) 9 1000000) 10 1000000) 11 1000000) 12 1000000) 0 1000000) 0 1000000) 1 1000000) 2 1000000) 3 1000000) 4 1000000) 5 1000000) 6 1000000) 7 1000000) 8 1000000) 9 1000000) 10 1000000) 11 1000000) 12 1000000) 0 1000000))), (h3, .inl (κ 0, 13, .inl (fun _ => 0))), (h4, .inl (κ 3, 4, .inr (.inr (.inr (.inr (sel [h6, h7, h8, h9])))))), (h7, .inr (6, [.ref h10, .ref h11, .int 0]))] t.heap ∧ va_D (va_A [(h0, .inr (3, [.ref h1, .int 0, .int 500, .ref h2, .ref h3, .long 0, .int p0])), (h1, .inr (2, [.int 0, .int p1, .ref h4, .ref h5])), (h2, .inl (κ 0, 13, .inl (upd (upd (upd (upd (upd (upd (upd (upd (upd (upd (upd (upd (upd (upd (upd (upd (upd (upd (upd (upd (upd (upd (upd (upd (upd (upd (upd (fun _ => 0) 0 1000000) 1 1000000) 2 1000000) 3 1000000) 4 1000000) 5 1000000) 6 1000000) 7 1000000) 8 1000000) 9 1000000) 10 1000000) 11 1000000) 12 1000000) 0 1000000) 0 1000000) 1 1000000) 2 1000000) 3 1000000) 4 1000000) 5 1000000) 6 1000000) 7 1000000) 8 1000000) 9 1000000) 10 1000000) 11 1000000) 12 1000000))), (h3, .inl (κ 0, 13, .inl (fun _ => 0))), (h4, .inl (κ 3, 4, .inr (.inr (.inr (.inr (sel [h6, h7, h8, h9])))))), (h7, .inr (6, [.ref h10, .ref h11, .int 0]))] sz) [(h0, .inr (3, [.ref h1, .int 0, .int 500, .ref h2, .ref h3, .long 0, .int 0])), (h1, .inr (2, [.int 0, .int p1, .ref h4, .ref h5])), (h2, .inl (κ 0, 13, .inl (upd (upd (upd (upd (upd (upd (upd (upd (upd (upd (upd (upd (upd (upd (upd (upd (upd (upd (upd (upd (upd (upd (upd (upd (upd (upd (upd (upd (fun _ => 0) 0 1000000) 1 1000000) 2 1000000) 3 1000000) 4 1000000) 5 1000000) 6 1000000) 7 1000000) 8 1000000) 9 1000000) 10 1000000) 11 1000000) 12 1000000) 0 1000000) 0 1000000) 1 1000000) 2 1000000) 3 1000000) 4 1000000) 5 1000000) 6 1000000) 7 1000000) 8 1000000) 9 1000000) 10 1000000) 11 1000000) 12 1000000) 0 1000000))), (h3, .inl (κ 0, 13, .inl (fun _ => 0))), (h4, .inl (κ 3, 4, .inr (.inr (.inr (.inr (sel [h6, h7, h8, h9])))))), (h7, .inr (6, [.ref h10, .ref h11, .int 0]))]) (va_A [(h0, .inr (3, [.ref h1, .int 0, .int 500, .ref h2, .ref h3, .long 0, .int p0])), (h1, .inr (2, [.int 0, .int p1, .ref h4, .ref h5])), (h2, .inl (κ 0, 13, .inl (upd (upd (upd (upd (upd (upd (upd (upd (upd (upd (upd (upd (upd (upd (upd (upd (upd (upd (upd (upd (upd (upd (upd (upd (upd (upd (upd (fun _ => 0) 0 1000000) 1 1000000) 2 1000000) 3 1000000) 4 1000000) 5 1000000) 6 1000000) 7 1000000) 8 1000000) 9 1000000) 10 1000000) 11 1000000) 12 1000000) 0 1000000) 0 1000000) 1 1000000) 2 1000000) 3 1000000) 4 1000000) 5 1000000) 6 1000000) 7 1000000) 8 1000000) 9 1000000) 10 1000000) 11 1000000) 12 1000000))), (h3, .inl (κ 0, 13, .inl (fun _ => 0))), (h4, .inl (κ 3, 4, .inr (.inr (.inr (.inr (sel [h6, h7, h8, h9])))))), (h7, .inr (6, [.ref h10, .ref h11, .int 0]))] sz)) 0 0 (va_A [(h0, .inr (3, [.ref h1, .int 0, .int 500, .ref h2, .ref h3, .long 0, .int p0])), (h1, .inr (2, [.int 0, .int p1, .ref h4, .ref h5])), (h2, .inl (κ 0, 13, .inl (upd (upd (upd (upd (upd (upd (upd (upd (upd (upd (upd (upd (upd (upd (upd (upd (upd (upd (upd (upd (upd (upd (upd (upd (upd (upd (upd (fun _ => 0) 0 1000000) 1 1000000) 2 1000000) 3 1000000) 4 1000000) 5 1000000) 6 1000000) 7 1000000) 8 1000000) 9 1000000) 10 1000000) 11 1000000) 12 1000000) 0 1000000) 0 1000000) 1 1000000) 2 1000000) 3 1000000) 4 1000000) 5 1000000) 6 1000000) 7 1000000) 8 1000000) 9 1000000) 10 1000000) 11 1000000) 12 1000000))), (h3, .inl (κ 0, 13, .inl (fun _ => 0))), (h4, .inl (κ 3, 4, .inr (.inr (.inr (.inr (sel [h6, h7, h8, h9])))))), (h7, .inr (6, [.ref h10, .ref h11, .int 0]))] sz) := by
  refine Met.ofW (cc := cX1_refine) (maxL := 5) (ret := none) (by decide) rfl ?_
  intro p e s m args below meth c s₁ B hml hv
  obtain ⟨rfl, hsz, hP, hK, hD0, hE9⟩ := hv
  have hx := B.exec
  have hb := B.bytes
  have hr := B.returns
  have hts := atoms_spec (ws := wsX1_refine) B.pre
  have hown : s.vm.findClass RX1 = some m.cls := findClass_of_methodNamed B.named
  have hlocks := B.notSynchronized
  subst hsz
  have hD := hD0.self (sz := s.heap.size)
  generalize hAe : va_A [(h0, .inr (3, [.ref h1, .int 0, .int 500, .ref h2, .ref h3, .long 0, .int p0])), (h1, .inr (2, [.int 0, .int p1, .ref h4, .ref h5])), (h2, .inl (κ 0, 13, .inl (upd (upd (upd (upd (upd (upd (upd (upd (upd (upd (upd (upd (upd (upd (upd (upd (upd (upd (upd (upd (upd (upd (upd (upd (upd (upd (upd (fun _ => 0) 0 1000000) 1 1000000) 2 1000000) 3 1000000) 4 1000000) 5 1000000) 6 1000000) 7 1000000) 8 1000000) 9 1000000) 10 1000000) 11 1000000) 12 1000000) 0 1000000) 0 1000000) 1 1000000) 2 1000000) 3 1000000) 4 1000000) 5 1000000) 6 1000000) 7 1000000) 8 1000000) 9 1000000) 10 1000000) 11 1000000) 12 1000000))), (h3, .inl (κ 0, 13, .inl (fun _ => 0))), (h4, .inl (κ 3, 4, .inr (.inr (.inr (.inr (sel [h6, h7, h8, h9])))))), (h7, .inr (6, [.ref h10, .ref h11, .int 0]))] s.heap.size = A at hD hE9 ⊢
  have hE := hE9.1
  have hDc := hE9.2
  have hA : ∀ q : Nat, s.heap.size ≤ q → A q := fun q h => by rw [← hAe]; exact Or.inr h
  have hS : va_S A s.heap s.heap [] := va_S.rf
  have hP : va_P D vwCl [(h0, .inr (3, [.ref h1, .int 0, .int 500, .ref h2, .ref h3, .long 0, .int p0])), (h1, .inr (2, [.int 0, .int p1, .ref h4, .ref h5])), (h2, .inl (κ 0, 13, .inl (upd (upd (upd (upd (upd (upd (upd (upd (upd (upd (upd (upd (upd (upd (upd (upd (upd (upd (upd (upd (upd (upd (upd (upd (upd (upd (upd (fun _ => 0) 0 1000000) 1 1000000) 2 1000000) 3 1000000) 4 1000000) 5 1000000) 6 1000000) 7 1000000) 8 1000000) 9 1000000) 10 1000000) 11 1000000) 12 1000000) 0 1000000) 0 1000000) 1 1000000) 2 1000000) 3 1000000) 4 1000000) 5 1000000) 6 1000000) 7 1000000) 8 1000000) 9 1000000) 10 1000000) 11 1000000) 12 1000000))), (h3, .inl (κ 0, 13, .inl (fun _ => 0))), (h4, .inl (κ 3, 4, .inr (.inr (.inr (.inr (sel [h6, h7, h8, h9])))))), (h7, .inr (6, [.ref h10, .ref h11, .int 0]))] s.heap := hP
  have hl := lv_entry [.ref h0, .int 2, .int 0] (n := 5) (Nat.le_of_ble_eq_true rfl)
  rw [lg_entry_eq]
  generalize (lg_sl [.ref h0, .int 2, .int 0] ++ List.replicate (5 - (lg_sl [.ref h0, .int 2, .int 0]).length) Slot.unset).toArray = ls at hl ⊢
  have hl : lv_has ls 5 [(0, .ref h0), (1, .int 2), (2, .int 0)] := hl
  refine lv_aload_n hx hb dX1_refine_0 rfl (lv_at hl 0 rfl) ?_
  refine va_get (D := D) (ci := 3) (v := .int 0) (C := RX1) (T := TX1) (N := 7) hx hb hts wi_X1_refine_RX1 hown hK hP 0 rfl rfl 1 (by decide) (hts _ wd287_X1_refine) (fun _ h9 => h9) rfl dX1_refine_1 ?_
  refine lv_iconst (v := 4) hx hb dX1_refine_4 (by decide) ?_
  refine lv_icmp_ne (tgt := 23) hx hb dX1_refine_5 (by decide) (fun _ => ?_) (fun h => absurd h (by decide))
  refine lv_iconst (v := 0) hx hb dX1_refine_23 (by decide) ?_
  refine lv_istore_n (lv' := [(3, .int 0), (0, .ref h0), (1, .int 2), (2, .int 0)]) hx hb dX1_refine_24 rfl hl (by decide) rfl (fun ls hl => ?_)
  refine lv_aload_n hx hb dX1_refine_25 rfl (lv_at hl 1 rfl) ?_
  refine lv_iload_n hx hb dX1_refine_26 rfl (lv_at hl 0 rfl) ?_
  refine lv_if_eq (tgt := 41) hx hb dX1_refine_27 (by decide) (fun _ => ?_) (fun h => absurd (by decide) h)
  refine lv_aload_n hx hb dX1_refine_41 rfl (lv_at hl 1 rfl) ?_
  refine va_get (D := D) (ci := 3) (v := .ref h1) (C := RX1) (T := TX1) (N := 7) hx hb hts wi_X1_refine_RX1 hown hK hP 0 rfl rfl 0 (by decide) (hts _ wd288_X1_refine) (fun _ h9 => h9) rfl dX1_refine_42 ?_
  refine lv_iload_n hx hb dX1_refine_45 rfl (lv_at hl 2 rfl) ?_
  refine va_csr (W.runV (As := [.int 2]) (rest := [.ref h0]) ⟨hx, hb, hml, hown, hts⟩ (k_X0_countsOf_1 l D κ ε h1 h4 h5 h6 h7 h8 h9 (0) (p1)) (cwV 1 hts gX1_refine_X0_countsOf rfl rfl rfl (by decide +kernel) ⟨(Nat.le_of_ble_eq_true rfl), (Nat.le_of_ble_eq_true rfl)⟩) (pre0_V (q0 := 1) (ci := 2) (wc := [(h1, .inr (2, [.int 0, .int p1, .ref h4, .ref h5])), (h4, .inl (κ 3, 4, .inr (.inr (.inr (.inr (sel [h6, h7, h8, h9]))))))]) hP hK [1, 4] rfl rfl rfl) rfl rfl hl.1 rfl (lv_room (Nat.le_of_ble_eq_true rfl)) dX1_refine_46 ⟨(Nat.le_of_ble_eq_true rfl), (Nat.le_of_ble_eq_true rfl)⟩) (fun r hw => ?_)
  rw [hw]
  refine lv_iload_n hx hb dX1_refine_49 rfl (lv_at hl 3 rfl) ?_
  have hF := va_free (wc := [(h0, .inr (3, [.ref h1, .int 0, .int 500, .ref h2, .ref h3, .long 0, .int p0])), (h7, .inr (6, [.ref h10, .ref h11, .int 0])), (h3, .inl (κ 0, 13, .inl (fun _ => 0)))]) hD hS hA [0, 5, 3] rfl
  refine va_callv (va_runV (As := [.ref h7, .int 0]) (rest := []) ⟨hx, hb, hml, hown, hts⟩ (k_X1_gather_0 l D κ ε h0 h7 h1 h2 h3 h10 h11 s.heap.size (0) (500) (0) (p0)) (cwV 2 hts gX1_refine_X1_gather rfl rfl rfl (by decide +kernel) ⟨(Nat.le_of_ble_eq_true rfl), (Nat.le_of_ble_eq_true rfl)⟩) (pre2_V (q0 := 0) (ci := 3) (wc := [(h0, .inr (3, [.ref h1, .int 0, .int 500, .ref h2, .ref h3, .long 0, .int p0])), (h7, .inr (6, [.ref h10, .ref h11, .int 0])), (h3, .inl (κ 0, 13, .inl (fun _ => 0)))]) hP hD hK hE9 hS hA [0, 5, 3] (by decide) rfl rfl rfl) rfl rfl hl.1 rfl (lv_room (Nat.le_of_ble_eq_true rfl)) dX1_refine_50 ⟨(Nat.le_of_ble_eq_true rfl), (Nat.le_of_ble_eq_true rfl)⟩) hS (fun q _ h => hF q h) hF (fun u1 t H locs ht hvm hw hB hz1 hk1 hS => ?_)
  try dsimp only at hw hB
  obtain ⟨hP1, hD1⟩ := hB
  rw [ht] at hP1
  obtain ⟨hP, hD⟩ := post_j (ws' := [(h0, .inr (3, [.ref h1, .int 0, .int 500, .ref h2, .ref h3, .long 0, .int 0])), (h1, .inr (2, [.int 0, .int p1, .ref h4, .ref h5])), (h2, .inl (κ 0, 13, .inl (upd (upd (upd (upd (upd (upd (upd (upd (upd (upd (upd (upd (upd (upd (upd (upd (upd (upd (upd (upd (upd (upd (upd (upd (upd (upd (upd (fun _ => 0) 0 1000000) 1 1000000) 2 1000000) 3 1000000) 4 1000000) 5 1000000) 6 1000000) 7 1000000) 8 1000000) 9 1000000) 10 1000000) 11 1000000) 12 1000000) 0 1000000) 0 1000000) 1 1000000) 2 1000000) 3 1000000) 4 1000000) 5 1000000) 6 1000000) 7 1000000) 8 1000000) 9 1000000) 10 1000000) 11 1000000) 12 1000000))), (h3, .inl (κ 0, 13, .inl (fun _ => 0))), (h4, .inl (κ 3, 4, .inr (.inr (.inr (.inr (sel [h6, h7, h8, h9])))))), (h7, .inr (6, [.ref h10, .ref h11, .int 0]))]) (wr := [(h1, .inr (2, [.int 0, .int p1, .ref h4, .ref h5])), (h2, .inl (κ 0, 13, .inl (upd (upd (upd (upd (upd (upd (upd (upd (upd (upd (upd (upd (upd (upd (upd (upd (upd (upd (upd (upd (upd (upd (upd (upd (upd (upd (upd (fun _ => 0) 0 1000000) 1 1000000) 2 1000000) 3 1000000) 4 1000000) 5 1000000) 6 1000000) 7 1000000) 8 1000000) 9 1000000) 10 1000000) 11 1000000) 12 1000000) 0 1000000) 0 1000000) 1 1000000) 2 1000000) 3 1000000) 4 1000000) 5 1000000) 6 1000000) 7 1000000) 8 1000000) 9 1000000) 10 1000000) 11 1000000) 12 1000000))), (h4, .inl (κ 3, 4, .inr (.inr (.inr (.inr (sel [h6, h7, h8, h9]))))))]) (w1 := [(h0, .inr (3, [.ref h1, .int 0, .int 500, .ref h2, .ref h3, .long 0, .int 0])), (h7, .inr (6, [.ref h10, .ref h11, .int 0])), (h3, .inl (κ 0, 13, .inl (fun _ => 0)))]) hP hD hF [0, 5, 3] rfl [1, 2, 4] rfl (by decide) (by decide) hk1 hP1 hD1 [3, 0, 1, 5, 2, 4] (by decide) rfl
  have hP : va_P D vwCl [(h0, .inr (3, [.ref h1, .int 0, .int 500, .ref h2, .ref h3, .long 0, .int 0])), (h1, .inr (2, [.int 0, .int p1, .ref h4, .ref h5])), (h2, .inl (κ 0, 13, .inl (upd (upd (upd (upd (upd (upd (upd (upd (upd (upd (upd (upd (upd (upd (upd (upd (upd (upd (upd (upd (upd (upd (upd (upd (upd (upd (upd (fun _ => 0) 0 1000000) 1 1000000) 2 1000000) 3 1000000) 4 1000000) 5 1000000) 6 1000000) 7 1000000) 8 1000000) 9 1000000) 10 1000000) 11 1000000) 12 1000000) 0 1000000) 0 1000000) 1 1000000) 2 1000000) 3 1000000) 4 1000000) 5 1000000) 6 1000000) 7 1000000) 8 1000000) 9 1000000) 10 1000000) 11 1000000) 12 1000000))), (h3, .inl (κ 0, 13, .inl (fun _ => 0))), (h4, .inl (κ 3, 4, .inr (.inr (.inr (.inr (sel [h6, h7, h8, h9])))))), (h7, .inr (6, [.ref h10, .ref h11, .int 0]))] H := hP
  have hD : va_D A [(h0, .inr (3, [.ref h1, .int 0, .int 500, .ref h2, .ref h3, .long 0, .int 0])), (h1, .inr (2, [.int 0, .int p1, .ref h4, .ref h5])), (h2, .inl (κ 0, 13, .inl (upd (upd (upd (upd (upd (upd (upd (upd (upd (upd (upd (upd (upd (upd (upd (upd (upd (upd (upd (upd (upd (upd (upd (upd (upd (upd (upd (fun _ => 0) 0 1000000) 1 1000000) 2 1000000) 3 1000000) 4 1000000) 5 1000000) 6 1000000) 7 1000000) 8 1000000) 9 1000000) 10 1000000) 11 1000000) 12 1000000) 0 1000000) 0 1000000) 1 1000000) 2 1000000) 3 1000000) 4 1000000) 5 1000000) 6 1000000) 7 1000000) 8 1000000) 9 1000000) 10 1000000) 11 1000000) 12 1000000))), (h3, .inl (κ 0, 13, .inl (fun _ => 0))), (h4, .inl (κ 3, 4, .inr (.inr (.inr (.inr (sel [h6, h7, h8, h9])))))), (h7, .inr (6, [.ref h10, .ref h11, .int 0]))] := hD
  refine lv_aload_n hx hb dX1_refine_53 rfl (lv_at hl 1 rfl) ?_
  refine va_get (D := D) (ci := 3) (v := .int 0) (C := RX1) (T := TX1) (N := 7) hx hb hts wi_X1_refine_RX1 hown hK hP 0 rfl rfl 1 (by decide) (hts _ wd287_X1_refine) (fun _ h9 => h9) rfl dX1_refine_54 ?_
  refine lv_if_eq (tgt := 70) hx hb dX1_refine_57 (by decide) (fun _ => ?_) (fun h => absurd (by decide) h)
  refine lv_iconst (v := 0) hx hb dX1_refine_70 (by decide) ?_
  refine lv_istore (lv' := [(4, .int 0), (3, .int 0), (0, .ref h0), (1, .int 2), (2, .int 0)]) hx hb dX1_refine_71 hl (by decide) rfl (fun ls hl => ?_)
  refine lv_iload hx hb dX1_refine_73 (lv_at hl 0 rfl) ?_
  refine lv_aload_n hx hb dX1_refine_75 rfl (lv_at hl 2 rfl) ?_
  refine va_get (D := D) (ci := 3) (v := .ref h1) (C := RX1) (T := TX1) (N := 7) hx hb hts wi_X1_refine_RX1 hown hK hP 0 rfl rfl 0 (by decide) (hts _ wd288_X1_refine) (fun _ h9 => h9) rfl dX1_refine_76 ?_
  refine va_get (D := D) (ci := 2) (v := .int 0) (C := RX0) (T := TX0) (N := 4) hx hb hts wi_X1_refine_RX0 hown hK hP 1 rfl rfl 0 (by decide) (hts _ wd289_X1_refine) (fun _ h9 => h9) rfl dX1_refine_79 ?_
  refine lv_icmp_gt (tgt := 119) hx hb dX1_refine_82 (by decide) (fun h => absurd h (by decide)) (fun _ => ?_)
  refine lv_aload_n hx hb dX1_refine_85 rfl (lv_at hl 2 rfl) ?_
  refine va_get (D := D) (ci := 3) (v := .ref h2) (C := RX1) (T := TX1) (N := 7) hx hb hts wi_X1_refine_RX1 hown hK hP 0 rfl rfl 3 (by decide) (hts _ wd290_X1_refine) (fun _ h9 => h9) rfl dX1_refine_86 ?_
  refine lv_iload hx hb dX1_refine_89 (lv_at hl 0 rfl) ?_
  refine lv_aload_n hx hb dX1_refine_91 rfl (lv_at hl 2 rfl) ?_
  refine lv_aload_n hx hb dX1_refine_92 rfl (lv_at hl 2 rfl) ?_
  refine va_get (D := D) (ci := 3) (v := .ref h3) (C := RX1) (T := TX1) (N := 7) hx hb hts wi_X1_refine_RX1 hown hK hP 0 rfl rfl 4 (by decide) (hts _ wd291_X1_refine) (fun _ h9 => h9) rfl dX1_refine_93 ?_
  refine lv_iload hx hb dX1_refine_96 (lv_at hl 0 rfl) ?_
  refine va_iald (cA := κ 0) (n := 13) (f := (fun _ => 0)) hx hb hK hP 3 0 rfl rfl (vpl (by decide)) dX1_refine_98 ?_
  refine tpi (v := 0) (by decide) ?_
  refine lv_i2l (v := 0) hx hb dX1_refine_99 (by decide) ?_
  refine lv_aload_n hx hb dX1_refine_100 rfl (lv_at hl 2 rfl) ?_
  refine va_get (D := D) (ci := 3) (v := .ref h2) (C := RX1) (T := TX1) (N := 7) hx hb hts wi_X1_refine_RX1 hown hK hP 0 rfl rfl 3 (by decide) (hts _ wd290_X1_refine) (fun _ h9 => h9) rfl dX1_refine_101 ?_
  refine lv_iload hx hb dX1_refine_104 (lv_at hl 0 rfl) ?_
  refine va_iald (cA := κ 0) (n := 13) (f := (upd (upd (upd (upd (upd (upd (upd (upd (upd (upd (upd (upd (upd (upd (upd (upd (upd (upd (upd (upd (upd (upd (upd (upd (upd (upd (upd (fun _ => 0) 0 1000000) 1 1000000) 2 1000000) 3 1000000) 4 1000000) 5 1000000) 6 1000000) 7 1000000) 8 1000000) 9 1000000) 10 1000000) 11 1000000) 12 1000000) 0 1000000) 0 1000000) 1 1000000) 2 1000000) 3 1000000) 4 1000000) 5 1000000) 6 1000000) 7 1000000) 8 1000000) 9 1000000) 10 1000000) 11 1000000) 12 1000000)) hx hb hK hP 2 0 rfl rfl (vpl (by decide)) dX1_refine_106 ?_
  refine tpi (v := 1000000) (by decide) ?_
  refine lv_i2l (v := 1000000) hx hb dX1_refine_107 (by decide) ?_
  refine vp_callSl (W.runV (As := [.long 0, .long 1000000]) (rest := [.int 0, .ref h2]) ⟨hx, hb, hml, hown, hts⟩ (k_X1_blend_0 l D κ ε h0 h1 h2 h3 h4 h5 (0) (p1)) (cwV 2 hts gX1_refine_X1_blend rfl rfl rfl (by decide +kernel) ⟨(Nat.le_of_ble_eq_true rfl), (Nat.le_of_ble_eq_true rfl)⟩) (pre0_V (q0 := 0) (ci := 3) (wc := [(h0, .inr (3, [.ref h1, .int 0, .int 500, .ref h2, .ref h3, .long 0, .int 0])), (h1, .inr (2, [.int 0, .int p1, .ref h4, .ref h5]))]) hP hK [0, 1] rfl rfl rfl) rfl rfl hl.1 rfl (lv_room (Nat.le_of_ble_eq_true rfl)) dX1_refine_108 ⟨(Nat.le_of_ble_eq_true rfl), (Nat.le_of_ble_eq_true rfl)⟩) (fun r hw => ?_)
  rw [hw]
  refine lv_l2i (v := 1000000) hx hb dX1_refine_111 (by decide) ?_
  refine va_iast (cA := κ 0) (n := 13) (f := (upd (upd (upd (upd (upd (upd (upd (upd (upd (upd (upd (upd (upd (upd (upd (upd (upd (upd (upd (upd (upd (upd (upd (upd (upd (upd (upd (fun _ => 0) 0 1000000) 1 1000000) 2 1000000) 3 1000000) 4 1000000) 5 1000000) 6 1000000) 7 1000000) 8 1000000) 9 1000000) 10 1000000) 11 1000000) 12 1000000) 0 1000000) 0 1000000) 1 1000000) 2 1000000) 3 1000000) 4 1000000) 5 1000000) 6 1000000) 7 1000000) 8 1000000) 9 1000000) 10 1000000) 11 1000000) 12 1000000)) hx hb hK hP hD hS 2 0 rfl rfl (vpl (by decide)) dX1_refine_112 (fun H locs hP hD hS => ?_)
  have hP : va_P D vwCl [(h0, .inr (3, [.ref h1, .int 0, .int 500, .ref h2, .ref h3, .long 0, .int 0])), (h1, .inr (2, [.int 0, .int p1, .ref h4, .ref h5])), (h2, .inl (κ 0, 13, .inl (upd (upd (upd (upd (upd (upd (upd (upd (upd (upd (upd (upd (upd (upd (upd (upd (upd (upd (upd (upd (upd (upd (upd (upd (upd (upd (upd (upd (fun _ => 0) 0 1000000) 1 1000000) 2 1000000) 3 1000000) 4 1000000) 5 1000000) 6 1000000) 7 1000000) 8 1000000) 9 1000000) 10 1000000) 11 1000000) 12 1000000) 0 1000000) 0 1000000) 1 1000000) 2 1000000) 3 1000000) 4 1000000) 5 1000000) 6 1000000) 7 1000000) 8 1000000) 9 1000000) 10 1000000) 11 1000000) 12 1000000) 0 1000000))), (h3, .inl (κ 0, 13, .inl (fun _ => 0))), (h4, .inl (κ 3, 4, .inr (.inr (.inr (.inr (sel [h6, h7, h8, h9])))))), (h7, .inr (6, [.ref h10, .ref h11, .int 0]))] H := hP
  have hD : va_D A [(h0, .inr (3, [.ref h1, .int 0, .int 500, .ref h2, .ref h3, .long 0, .int 0])), (h1, .inr (2, [.int 0, .int p1, .ref h4, .ref h5])), (h2, .inl (κ 0, 13, .inl (upd (upd (upd (upd (upd (upd (upd (upd (upd (upd (upd (upd (upd (upd (upd (upd (upd (upd (upd (upd (upd (upd (upd (upd (upd (upd (upd (upd (fun _ => 0) 0 1000000) 1 1000000) 2 1000000) 3 1000000) 4 1000000) 5 1000000) 6 1000000) 7 1000000) 8 1000000) 9 1000000) 10 1000000) 11 1000000) 12 1000000) 0 1000000) 0 1000000) 1 1000000) 2 1000000) 3 1000000) 4 1000000) 5 1000000) 6 1000000) 7 1000000) 8 1000000) 9 1000000) 10 1000000) 11 1000000) 12 1000000) 0 1000000))), (h3, .inl (κ 0, 13, .inl (fun _ => 0))), (h4, .inl (κ 3, 4, .inr (.inr (.inr (.inr (sel [h6, h7, h8, h9])))))), (h7, .inr (6, [.ref h10, .ref h11, .int 0]))] := hD
  refine lv_iinc (v := 1) (lv' := [(4, .int 1), (3, .int 0), (0, .ref h0), (1, .int 2), (2, .int 0)]) hx hb dX1_refine_113 hl (k := 0) rfl (by decide) (by decide) rfl (fun ls hl => ?_)
  refine lv_goto (tgt := 73) hx hb dX1_refine_116 (by decide) ?_
  refine lv_iload hx hb dX1_refine_73 (lv_at hl 0 rfl) ?_
  refine lv_aload_n hx hb dX1_refine_75 rfl (lv_at hl 2 rfl) ?_
  refine va_get (D := D) (ci := 3) (v := .ref h1) (C := RX1) (T := TX1) (N := 7) hx hb hts wi_X1_refine_RX1 hown hK hP 0 rfl rfl 0 (by decide) (hts _ wd288_X1_refine) (fun _ h9 => h9) rfl dX1_refine_76 ?_
  refine va_get (D := D) (ci := 2) (v := .int 0) (C := RX0) (T := TX0) (N := 4) hx hb hts wi_X1_refine_RX0 hown hK hP 1 rfl rfl 0 (by decide) (hts _ wd289_X1_refine) (fun _ h9 => h9) rfl dX1_refine_79 ?_
  refine lv_icmp_gt (tgt := 119) hx hb dX1_refine_82 (by decide) (fun _ => ?_) (fun h => absurd (by decide) h)
  have hP9 := hP
  have hD9 := hD
  exact W.vret hx hb hr (fun t ht hW => ⟨⟨(), rfl, trivial, by rw [ht]; exact hP9, hD9⟩, hS.F ht⟩) hS.2.2 dX1_refine_119

set_option maxHeartbeats 4000000 in
set_option maxRecDepth 100000 in
theorem k_X1_reckon_6 (l : Launch) (D : va_G) (κ ε : Nat → Nat) (h0 h1 h2 h3 h4 h5 h6 h7 h8 h9 h10 h11 : Nat) (sz : Nat) (p0 : Int32) (p1 : Int32) : Met l yX1_reckon wsX1_reckon ({ frames := 3, cells := 0, slots := 0, locals := 72 }) (va_Pc [.ref h0, .int 2, .int 0] (Pre2 D κ ε [(h0, .inr (3, [.ref h1, .int 0, .int 500, .ref h2, .ref h3, .long 0, .int p0])), (h1, .inr (2, [.int 0, .int p1, .ref h4, .ref h5])), (h2, .inl (κ 0, 13, .inl (upd (upd (upd (upd (upd (upd (upd (upd (upd (upd (upd (upd (upd (upd (fun _ => 0) 0 1000000) 1 1000000) 2 1000000) 3 1000000) 4 1000000) 5 1000000) 6 1000000) 7 1000000) 8 1000000) 9 1000000) 10 1000000) 11 1000000) 12 1000000) 0 1000000))), (h3, .inl (κ 0, 13, .inl (fun _ => 0))), (h4, .inl (κ 3, 4, .inr (.inr (.inr (.inr (sel [h6, h7, h8, h9])))))), (h7, .inr (6, [.ref h10, .ref h11, .int 0]))] sz)) (va_Qv (fun u : Unit => True) (fun u t => va_P D vwCl [(h0, .inr (3, [.ref h1, .int 0, .int 500, .ref h2, .ref h3, .long 0, .int 0])), (h1, .inr (2, [.int 0, .int p1, .ref h4, .ref h5])), (h2, .inl (κ 0, 13, .inl (upd (upd (upd (upd (upd (upd (upd (upd (upd (upd (upd (upd (upd (upd (upd (upd (upd (upd (upd (upd (upd (upd (upd (upd (upd (upd (upd (upd (fun _ => 0) 0 1000000) 1 1000000) 2 1000000) 3 1000000) 4 1000000) 5 1000000) 6 1000000) 7 1000000) 8 1000000) 9 1000000) 10 1000000) 11 1000000) 12 1000000) 0 1000000) 0 1000000) 1 1000000) 2 1000000) 3 1000000) 4 1000000) 5 1000000) 6 1000000) 7 1000000) 8 1000000) 9 1000000) 10 1000000) 11 1000000) 12 1000000) 0 1000000))), (h3, .inl (κ 0, 13, .inl (fun _ => 0))), (h4, .inl (κ 3, 4, .inr (.inr (.inr (.inr (sel [h6, h7, h8, h9])))))), (h7, .inr (6, [.ref h10, .ref h11, .int 0]))] t.heap ∧ va_D (va_A [(h0, .inr (3, [.ref h1, .int 0, .int 500, .ref h2, .ref h3, .long 0, .int p0])), (h1, .inr (2, [.int 0, .int p1, .ref h4, .ref h5])), (h2, .inl (κ 0, 13, .inl (upd (upd (upd (upd (upd (upd (upd (upd (upd (upd (upd (upd (upd (upd (fun _ => 0) 0 1000000) 1 1000000) 2 1000000) 3 1000000) 4 1000000) 5 1000000) 6 1000000) 7 1000000) 8 1000000) 9 1000000) 10 1000000) 11 1000000) 12 1000000) 0 1000000))), (h3, .inl (κ 0, 13, .inl (fun _ => 0))), (h4, .inl (κ 3, 4, .inr (.inr (.inr (.inr (sel [h6, h7, h8, h9])))))), (h7, .inr (6, [.ref h10, .ref h11, .int 0]))] sz) [(h0, .inr (3, [.ref h1, .int 0, .int 500, .ref h2, .ref h3, .long 0, .int 0])), (h1, .inr (2, [.int 0, .int p1, .ref h4, .ref h5])), (h2, .inl (κ 0, 13, .inl (upd (upd (upd (upd (upd (upd (upd (upd (upd (upd (upd (upd (upd (upd (upd (upd (upd (upd (upd (upd (upd (upd (upd (upd (upd (upd (upd (upd (fun _ => 0) 0 1000000) 1 1000000) 2 1000000) 3 1000000) 4 1000000) 5 1000000) 6 1000000) 7 1000000) 8 1000000) 9 1000000) 10 1000000) 11 1000000) 12 1000000) 0 1000000) 0 1000000) 1 1000000) 2 1000000) 3 1000000) 4 1000000) 5 1000000) 6 1000000) 7 1000000) 8 1000000) 9 1000000) 10 1000000) 11 1000000) 12 1000000) 0 1000000))), (h3, .inl (κ 0, 13, .inl (fun _ => 0))), (h4, .inl (κ 3, 4, .inr (.inr (.inr (.inr (sel [h6, h7, h8, h9])))))), (h7, .inr (6, [.ref h10, .ref h11, .int 0]))]) (va_A [(h0, .inr (3, [.ref h1, .int 0, .int 500, .ref h2, .ref h3, .long 0, .int p0])), (h1, .inr (2, [.int 0, .int p1, .ref h4, .ref h5])), (h2, .inl (κ 0, 13, .inl (upd (upd (upd (upd (upd (upd (upd (upd (upd (upd (upd (upd (upd (upd (fun _ => 0) 0 1000000) 1 1000000) 2 1000000) 3 1000000) 4 1000000) 5 1000000) 6 1000000) 7 1000000) 8 1000000) 9 1000000) 10 1000000) 11 1000000) 12 1000000) 0 1000000))), (h3, .inl (κ 0, 13, .inl (fun _ => 0))), (h4, .inl (κ 3, 4, .inr (.inr (.inr (.inr (sel [h6, h7, h8, h9])))))), (h7, .inr (6, [.ref h10, .ref h11, .int 0]))] sz)) 0 0 (va_A [(h0, .inr (3, [.ref h1, .int 0, .int 500, .ref h2, .ref h3, .long 0, .int p0])), (h1, .inr (2, [.int 0, .int p1, .ref h4, .ref h5])), (h2, .inl (κ 0, 13, .inl (upd (upd (upd (upd (upd (upd (upd (upd (upd (upd (upd (upd (upd (upd (fun _ => 0) 0 1000000) 1 1000000) 2 1000000) 3 1000000) 4 1000000) 5 1000000) 6 1000000) 7 1000000) 8 1000000) 9 1000000) 10 1000000) 11 1000000) 12 1000000) 0 1000000))), (h3, .inl (κ 0, 13, .inl (fun _ => 0))), (h4, .inl (κ 3, 4, .inr (.inr (.inr (.inr (sel [h6, h7, h8, h9])))))), (h7, .inr (6, [.ref h10, .ref h11, .int 0]))] sz) := by
  refine Met.ofW (cc := cX1_reckon) (maxL := 4) (ret := none) (by decide) rfl ?_
  intro p e s m args below meth c s₁ B hml hv
  obtain ⟨rfl, hsz, hP, hK, hD0, hE9⟩ := hv
  have hx := B.exec
  have hb := B.bytes
  have hr := B.returns
  have hts := atoms_spec (ws := wsX1_reckon) B.pre
  have hown : s.vm.findClass RX1 = some m.cls := findClass_of_methodNamed B.named
  have hlocks := B.notSynchronized
  subst hsz
  have hD := hD0.self (sz := s.heap.size)
  generalize hAe : va_A [(h0, .inr (3, [.ref h1, .int 0, .int 500, .ref h2, .ref h3, .long 0, .int p0])), (h1, .inr (2, [.int 0, .int p1, .ref h4, .ref h5])), (h2, .inl (κ 0, 13, .inl (upd (upd (upd (upd (upd (upd (upd (upd (upd (upd (upd (upd (upd (upd (fun _ => 0) 0 1000000) 1 1000000) 2 1000000) 3 1000000) 4 1000000) 5 1000000) 6 1000000) 7 1000000) 8 1000000) 9 1000000) 10 1000000) 11 1000000) 12 1000000) 0 1000000))), (h3, .inl (κ 0, 13, .inl (fun _ => 0))), (h4, .inl (κ 3, 4, .inr (.inr (.inr (.inr (sel [h6, h7, h8, h9])))))), (h7, .inr (6, [.ref h10, .ref h11, .int 0]))] s.heap.size = A at hD hE9 ⊢
  have hE := hE9.1
  have hDc := hE9.2
  have hA : ∀ q : Nat, s.heap.size ≤ q → A q := fun q h => by rw [← hAe]; exact Or.inr h
  have hS : va_S A s.heap s.heap [] := va_S.rf
  have hP : va_P D vwCl [(h0, .inr (3, [.ref h1, .int 0, .int 500, .ref h2, .ref h3, .long 0, .int p0])), (h1, .inr (2, [.int 0, .int p1, .ref h4, .ref h5])), (h2, .inl (κ 0, 13, .inl (upd (upd (upd (upd (upd (upd (upd (upd (upd (upd (upd (upd (upd (upd (fun _ => 0) 0 1000000) 1 1000000) 2 1000000) 3 1000000) 4 1000000) 5 1000000) 6 1000000) 7 1000000) 8 1000000) 9 1000000) 10 1000000) 11 1000000) 12 1000000) 0 1000000))), (h3, .inl (κ 0, 13, .inl (fun _ => 0))), (h4, .inl (κ 3, 4, .inr (.inr (.inr (.inr (sel [h6, h7, h8, h9])))))), (h7, .inr (6, [.ref h10, .ref h11, .int 0]))] s.heap := hP
  have hl := lv_entry [.ref h0, .int 2, .int 0] (n := 4) (Nat.le_of_ble_eq_true rfl)
  rw [lg_entry_eq]
  generalize (lg_sl [.ref h0, .int 2, .int 0] ++ List.replicate (4 - (lg_sl [.ref h0, .int 2, .int 0]).length) Slot.unset).toArray = ls at hl ⊢
  have hl : lv_has ls 4 [(0, .ref h0), (1, .int 2), (2, .int 0)] := hl
  refine lv_aload_n hx hb dX1_reckon_0 rfl (lv_at hl 0 rfl) ?_
  refine va_get (D := D) (ci := 3) (v := .ref h2) (C := RX1) (T := TX1) (N := 7) hx hb hts wi_X1_reckon_RX1 hown hK hP 0 rfl rfl 3 (by decide) (hts _ wd292_X1_reckon) (fun _ h9 => h9) rfl dX1_reckon_1 ?_
  refine lv_ldc (v := 1000000) hx hb hown (hts _ wd293_X1_reckon) dX1_reckon_4 ?_
  refine lv_aload_n hx hb dX1_reckon_6 rfl (lv_at hl 0 rfl) ?_
  refine va_get (D := D) (ci := 3) (v := .ref h1) (C := RX1) (T := TX1) (N := 7) hx hb hts wi_X1_reckon_RX1 hown hK hP 0 rfl rfl 0 (by decide) (hts _ wd294_X1_reckon) (fun _ h9 => h9) rfl dX1_reckon_7 ?_
  refine va_get (D := D) (ci := 2) (v := .int 0) (C := RX0) (T := TX0) (N := 4) hx hb hts wi_X1_reckon_RX0 hown hK hP 1 rfl rfl 0 (by decide) (hts _ wd295_X1_reckon) (fun _ h9 => h9) rfl dX1_reckon_10 ?_
  refine lv_iconst (v := 1) hx hb dX1_reckon_13 (by decide) ?_
  refine lv_iadd hx hb dX1_reckon_14 ?_
  refine tpi (v := 1) (by decide) ?_
  refine lv_idiv hx hb dX1_reckon_15 (by decide) ?_
  refine tpi (v := 1000000) (by decide) ?_
  have hF := va_free (wc := [(h2, .inl (κ 0, 13, .inl (upd (upd (upd (upd (upd (upd (upd (upd (upd (upd (upd (upd (upd (upd (fun _ => 0) 0 1000000) 1 1000000) 2 1000000) 3 1000000) 4 1000000) 5 1000000) 6 1000000) 7 1000000) 8 1000000) 9 1000000) 10 1000000) 11 1000000) 12 1000000) 0 1000000)))]) hD hS hA [2] rfl
  refine va_callv (va_runS (As := [.ref h2, .int 1000000]) (rest := []) ⟨hx, hb, hml, hown, hts⟩ (k_J7_fill_53178_2 l D κ ε h2 s.heap.size) (va_cwS 2 hts gX1_reckon_J7_fill_53178 rfl rfl rfl (by decide +kernel) ⟨(Nat.le_of_ble_eq_true rfl), (Nat.le_of_ble_eq_true rfl)⟩) (pre2_S (wc := [(h2, .inl (κ 0, 13, .inl (upd (upd (upd (upd (upd (upd (upd (upd (upd (upd (upd (upd (upd (upd (fun _ => 0) 0 1000000) 1 1000000) 2 1000000) 3 1000000) 4 1000000) 5 1000000) 6 1000000) 7 1000000) 8 1000000) 9 1000000) 10 1000000) 11 1000000) 12 1000000) 0 1000000)))]) hP hD hK hE9 hS hA [2] (by decide) rfl) rfl rfl hl.1 rfl (lv_room (Nat.le_of_ble_eq_true rfl)) dX1_reckon_16 ⟨(Nat.le_of_ble_eq_true rfl), (Nat.le_of_ble_eq_true rfl)⟩) hS (fun q _ h => hF q h) hF (fun u1 t H locs ht hvm hw hB hz1 hk1 hS => ?_)
  try dsimp only at hw hB
  obtain ⟨hP1, hD1⟩ := hB
  rw [ht] at hP1
  obtain ⟨hP, hD⟩ := post_j (ws' := [(h0, .inr (3, [.ref h1, .int 0, .int 500, .ref h2, .ref h3, .long 0, .int p0])), (h1, .inr (2, [.int 0, .int p1, .ref h4, .ref h5])), (h2, .inl (κ 0, 13, .inl (upd (upd (upd (upd (upd (upd (upd (upd (upd (upd (upd (upd (upd (upd (upd (upd (upd (upd (upd (upd (upd (upd (upd (upd (upd (upd (upd (fun _ => 0) 0 1000000) 1 1000000) 2 1000000) 3 1000000) 4 1000000) 5 1000000) 6 1000000) 7 1000000) 8 1000000) 9 1000000) 10 1000000) 11 1000000) 12 1000000) 0 1000000) 0 1000000) 1 1000000) 2 1000000) 3 1000000) 4 1000000) 5 1000000) 6 1000000) 7 1000000) 8 1000000) 9 1000000) 10 1000000) 11 1000000) 12 1000000))), (h3, .inl (κ 0, 13, .inl (fun _ => 0))), (h4, .inl (κ 3, 4, .inr (.inr (.inr (.inr (sel [h6, h7, h8, h9])))))), (h7, .inr (6, [.ref h10, .ref h11, .int 0]))]) (wr := [(h0, .inr (3, [.ref h1, .int 0, .int 500, .ref h2, .ref h3, .long 0, .int p0])), (h1, .inr (2, [.int 0, .int p1, .ref h4, .ref h5])), (h3, .inl (κ 0, 13, .inl (fun _ => 0))), (h4, .inl (κ 3, 4, .inr (.inr (.inr (.inr (sel [h6, h7, h8, h9])))))), (h7, .inr (6, [.ref h10, .ref h11, .int 0]))]) (w1 := [(h2, .inl (κ 0, 13, .inl (upd (upd (upd (upd (upd (upd (upd (upd (upd (upd (upd (upd (upd (upd (upd (upd (upd (upd (upd (upd (upd (upd (upd (upd (upd (upd (upd (fun _ => 0) 0 1000000) 1 1000000) 2 1000000) 3 1000000) 4 1000000) 5 1000000) 6 1000000) 7 1000000) 8 1000000) 9 1000000) 10 1000000) 11 1000000) 12 1000000) 0 1000000) 0 1000000) 1 1000000) 2 1000000) 3 1000000) 4 1000000) 5 1000000) 6 1000000) 7 1000000) 8 1000000) 9 1000000) 10 1000000) 11 1000000) 12 1000000)))]) hP hD hF [2] rfl [0, 1, 3, 4, 5] rfl (by decide) (by decide) hk1 hP1 hD1 [0, 1, 5, 2, 3, 4] (by decide) rfl
  have hP : va_P D vwCl [(h0, .inr (3, [.ref h1, .int 0, .int 500, .ref h2, .ref h3, .long 0, .int p0])), (h1, .inr (2, [.int 0, .int p1, .ref h4, .ref h5])), (h2, .inl (κ 0, 13, .inl (upd (upd (upd (upd (upd (upd (upd (upd (upd (upd (upd (upd (upd (upd (upd (upd (upd (upd (upd (upd (upd (upd (upd (upd (upd (upd (upd (fun _ => 0) 0 1000000) 1 1000000) 2 1000000) 3 1000000) 4 1000000) 5 1000000) 6 1000000) 7 1000000) 8 1000000) 9 1000000) 10 1000000) 11 1000000) 12 1000000) 0 1000000) 0 1000000) 1 1000000) 2 1000000) 3 1000000) 4 1000000) 5 1000000) 6 1000000) 7 1000000) 8 1000000) 9 1000000) 10 1000000) 11 1000000) 12 1000000))), (h3, .inl (κ 0, 13, .inl (fun _ => 0))), (h4, .inl (κ 3, 4, .inr (.inr (.inr (.inr (sel [h6, h7, h8, h9])))))), (h7, .inr (6, [.ref h10, .ref h11, .int 0]))] H := hP
  have hD : va_D A [(h0, .inr (3, [.ref h1, .int 0, .int 500, .ref h2, .ref h3, .long 0, .int p0])), (h1, .inr (2, [.int 0, .int p1, .ref h4, .ref h5])), (h2, .inl (κ 0, 13, .inl (upd (upd (upd (upd (upd (upd (upd (upd (upd (upd (upd (upd (upd (upd (upd (upd (upd (upd (upd (upd (upd (upd (upd (upd (upd (upd (upd (fun _ => 0) 0 1000000) 1 1000000) 2 1000000) 3 1000000) 4 1000000) 5 1000000) 6 1000000) 7 1000000) 8 1000000) 9 1000000) 10 1000000) 11 1000000) 12 1000000) 0 1000000) 0 1000000) 1 1000000) 2 1000000) 3 1000000) 4 1000000) 5 1000000) 6 1000000) 7 1000000) 8 1000000) 9 1000000) 10 1000000) 11 1000000) 12 1000000))), (h3, .inl (κ 0, 13, .inl (fun _ => 0))), (h4, .inl (κ 3, 4, .inr (.inr (.inr (.inr (sel [h6, h7, h8, h9])))))), (h7, .inr (6, [.ref h10, .ref h11, .int 0]))] := hD
  refine lv_aload_n hx hb dX1_reckon_19 rfl (lv_at hl 0 rfl) ?_
  refine va_get (D := D) (ci := 3) (v := .int 0) (C := RX1) (T := TX1) (N := 7) hx hb hts wi_X1_reckon_RX1 hown hK hP 0 rfl rfl 1 (by decide) (hts _ wd296_X1_reckon) (fun _ h9 => h9) rfl dX1_reckon_20 ?_
  refine lv_if_ne (tgt := 30) hx hb dX1_reckon_23 (by decide) (fun h => absurd (by decide) h) (fun _ => ?_)
  refine lv_iload_n hx hb dX1_reckon_26 rfl (lv_at hl 1 rfl) ?_
  refine lv_goto (tgt := 31) hx hb dX1_reckon_27 (by decide) ?_
  refine lv_istore_n (lv' := [(3, .int 2), (0, .ref h0), (1, .int 2), (2, .int 0)]) hx hb dX1_reckon_31 rfl hl (by decide) rfl (fun ls hl => ?_)
  refine lv_iload_n hx hb dX1_reckon_32 rfl (lv_at hl 0 rfl) ?_
  refine lv_iload_n hx hb dX1_reckon_33 rfl (lv_at hl 2 rfl) ?_
  refine lv_icmp_gt (tgt := 57) hx hb dX1_reckon_34 (by decide) (fun h => absurd h (by decide)) (fun _ => ?_)
  refine lv_aload_n hx hb dX1_reckon_37 rfl (lv_at hl 1 rfl) ?_
  refine lv_iload_n hx hb dX1_reckon_38 rfl (lv_at hl 0 rfl) ?_
  refine lv_iload_n hx hb dX1_reckon_39 rfl (lv_at hl 3 rfl) ?_
  refine va_getsN hx hb hE.2.2.1 hS hown (va_Nw.use rfl hE.2.2.2.2.2.2.2.1) (fun _ h9 => h9) dX1_reckon_40 ?_
  refine lv_iload_n hx hb dX1_reckon_43 rfl (lv_at hl 0 rfl) ?_
  refine lv_iconst (v := 1) hx hb dX1_reckon_44 (by decide) ?_
  refine lv_isub hx hb dX1_reckon_45 ?_
  refine tpi (v := 1) (by decide) ?_
  refine va_ti hx hb hE.2.2.2.1 hS (vpl (by decide)) (v := .int 14) rfl dX1_reckon_46 ?_
  refine lv_irem hx hb dX1_reckon_47 (by decide) ?_
  refine tpi (v := 0) (by decide) ?_
  have hF := va_free (wc := [(h0, .inr (3, [.ref h1, .int 0, .int 500, .ref h2, .ref h3, .long 0, .int p0])), (h1, .inr (2, [.int 0, .int p1, .ref h4, .ref h5])), (h2, .inl (κ 0, 13, .inl (upd (upd (upd (upd (upd (upd (upd (upd (upd (upd (upd (upd (upd (upd (upd (upd (upd (upd (upd (upd (upd (upd (upd (upd (upd (upd (upd (fun _ => 0) 0 1000000) 1 1000000) 2 1000000) 3 1000000) 4 1000000) 5 1000000) 6 1000000) 7 1000000) 8 1000000) 9 1000000) 10 1000000) 11 1000000) 12 1000000) 0 1000000) 0 1000000) 1 1000000) 2 1000000) 3 1000000) 4 1000000) 5 1000000) 6 1000000) 7 1000000) 8 1000000) 9 1000000) 10 1000000) 11 1000000) 12 1000000))), (h3, .inl (κ 0, 13, .inl (fun _ => 0))), (h4, .inl (κ 3, 4, .inr (.inr (.inr (.inr (sel [h6, h7, h8, h9])))))), (h7, .inr (6, [.ref h10, .ref h11, .int 0]))]) hD hS hA [0, 1, 2, 3, 4, 5] rfl
  refine va_callv (va_runV (As := [.int 2, .int 0]) (rest := []) ⟨hx, hb, hml, hown, hts⟩ (k_X1_refine_10 l D κ ε h0 h1 h2 h3 h4 h5 h6 h7 h8 h9 h10 h11 H.size (p0) (p1)) (cwV 2 hts gX1_reckon_X1_refine rfl rfl rfl (by decide +kernel) ⟨(Nat.le_of_ble_eq_true rfl), (Nat.le_of_ble_eq_true rfl)⟩) (pre2_V (q0 := 0) (ci := 3) (wc := [(h0, .inr (3, [.ref h1, .int 0, .int 500, .ref h2, .ref h3, .long 0, .int p0])), (h1, .inr (2, [.int 0, .int p1, .ref h4, .ref h5])), (h2, .inl (κ 0, 13, .inl (upd (upd (upd (upd (upd (upd (upd (upd (upd (upd (upd (upd (upd (upd (upd (upd (upd (upd (upd (upd (upd (upd (upd (upd (upd (upd (upd (fun _ => 0) 0 1000000) 1 1000000) 2 1000000) 3 1000000) 4 1000000) 5 1000000) 6 1000000) 7 1000000) 8 1000000) 9 1000000) 10 1000000) 11 1000000) 12 1000000) 0 1000000) 0 1000000) 1 1000000) 2 1000000) 3 1000000) 4 1000000) 5 1000000) 6 1000000) 7 1000000) 8 1000000) 9 1000000) 10 1000000) 11 1000000) 12 1000000))), (h3, .inl (κ 0, 13, .inl (fun _ => 0))), (h4, .inl (κ 3, 4, .inr (.inr (.inr (.inr (sel [h6, h7, h8, h9])))))), (h7, .inr (6, [.ref h10, .ref h11, .int 0]))]) hP hD hK hE9 hS hA [0, 1, 2, 3, 4, 5] (by decide) rfl rfl rfl) rfl rfl hl.1 rfl (lv_room (Nat.le_of_ble_eq_true rfl)) dX1_reckon_48 ⟨(Nat.le_of_ble_eq_true rfl), (Nat.le_of_ble_eq_true rfl)⟩) hS (fun q _ h => hF q h) hF (fun u2 t H locs ht hvm hw hB hz1 hk1 hS => ?_)
  try dsimp only at hw hB
  obtain ⟨hP1, hD1⟩ := hB
  rw [ht] at hP1
  obtain ⟨hP, hD⟩ := post_j (ws' := [(h0, .inr (3, [.ref h1, .int 0, .int 500, .ref h2, .ref h3, .long 0, .int 0])), (h1, .inr (2, [.int 0, .int p1, .ref h4, .ref h5])), (h2, .inl (κ 0, 13, .inl (upd (upd (upd (upd (upd (upd (upd (upd (upd (upd (upd (upd (upd (upd (upd (upd (upd (upd (upd (upd (upd (upd (upd (upd (upd (upd (upd (upd (fun _ => 0) 0 1000000) 1 1000000) 2 1000000) 3 1000000) 4 1000000) 5 1000000) 6 1000000) 7 1000000) 8 1000000) 9 1000000) 10 1000000) 11 1000000) 12 1000000) 0 1000000) 0 1000000) 1 1000000) 2 1000000) 3 1000000) 4 1000000) 5 1000000) 6 1000000) 7 1000000) 8 1000000) 9 1000000) 10 1000000) 11 1000000) 12 1000000) 0 1000000))), (h3, .inl (κ 0, 13, .inl (fun _ => 0))), (h4, .inl (κ 3, 4, .inr (.inr (.inr (.inr (sel [h6, h7, h8, h9])))))), (h7, .inr (6, [.ref h10, .ref h11, .int 0]))]) (wr := []) (w1 := [(h0, .inr (3, [.ref h1, .int 0, .int 500, .ref h2, .ref h3, .long 0, .int 0])), (h1, .inr (2, [.int 0, .int p1, .ref h4, .ref h5])), (h2, .inl (κ 0, 13, .inl (upd (upd (upd (upd (upd (upd (upd (upd (upd (upd (upd (upd (upd (upd (upd (upd (upd (upd (upd (upd (upd (upd (upd (upd (upd (upd (upd (upd (fun _ => 0) 0 1000000) 1 1000000) 2 1000000) 3 1000000) 4 1000000) 5 1000000) 6 1000000) 7 1000000) 8 1000000) 9 1000000) 10 1000000) 11 1000000) 12 1000000) 0 1000000) 0 1000000) 1 1000000) 2 1000000) 3 1000000) 4 1000000) 5 1000000) 6 1000000) 7 1000000) 8 1000000) 9 1000000) 10 1000000) 11 1000000) 12 1000000) 0 1000000))), (h3, .inl (κ 0, 13, .inl (fun _ => 0))), (h4, .inl (κ 3, 4, .inr (.inr (.inr (.inr (sel [h6, h7, h8, h9])))))), (h7, .inr (6, [.ref h10, .ref h11, .int 0]))]) hP hD hF [0, 1, 2, 3, 4, 5] rfl [] rfl (by decide) (by decide) hk1 hP1 hD1 [0, 1, 2, 3, 4, 5] (by decide) rfl
  have hP : va_P D vwCl [(h0, .inr (3, [.ref h1, .int 0, .int 500, .ref h2, .ref h3, .long 0, .int 0])), (h1, .inr (2, [.int 0, .int p1, .ref h4, .ref h5])), (h2, .inl (κ 0, 13, .inl (upd (upd (upd (upd (upd (upd (upd (upd (upd (upd (upd (upd (upd (upd (upd (upd (upd (upd (upd (upd (upd (upd (upd (upd (upd (upd (upd (upd (fun _ => 0) 0 1000000) 1 1000000) 2 1000000) 3 1000000) 4 1000000) 5 1000000) 6 1000000) 7 1000000) 8 1000000) 9 1000000) 10 1000000) 11 1000000) 12 1000000) 0 1000000) 0 1000000) 1 1000000) 2 1000000) 3 1000000) 4 1000000) 5 1000000) 6 1000000) 7 1000000) 8 1000000) 9 1000000) 10 1000000) 11 1000000) 12 1000000) 0 1000000))), (h3, .inl (κ 0, 13, .inl (fun _ => 0))), (h4, .inl (κ 3, 4, .inr (.inr (.inr (.inr (sel [h6, h7, h8, h9])))))), (h7, .inr (6, [.ref h10, .ref h11, .int 0]))] H := hP
  have hD : va_D A [(h0, .inr (3, [.ref h1, .int 0, .int 500, .ref h2, .ref h3, .long 0, .int 0])), (h1, .inr (2, [.int 0, .int p1, .ref h4, .ref h5])), (h2, .inl (κ 0, 13, .inl (upd (upd (upd (upd (upd (upd (upd (upd (upd (upd (upd (upd (upd (upd (upd (upd (upd (upd (upd (upd (upd (upd (upd (upd (upd (upd (upd (upd (fun _ => 0) 0 1000000) 1 1000000) 2 1000000) 3 1000000) 4 1000000) 5 1000000) 6 1000000) 7 1000000) 8 1000000) 9 1000000) 10 1000000) 11 1000000) 12 1000000) 0 1000000) 0 1000000) 1 1000000) 2 1000000) 3 1000000) 4 1000000) 5 1000000) 6 1000000) 7 1000000) 8 1000000) 9 1000000) 10 1000000) 11 1000000) 12 1000000) 0 1000000))), (h3, .inl (κ 0, 13, .inl (fun _ => 0))), (h4, .inl (κ 3, 4, .inr (.inr (.inr (.inr (sel [h6, h7, h8, h9])))))), (h7, .inr (6, [.ref h10, .ref h11, .int 0]))] := hD
  refine lv_iinc (v := 3) (lv' := [(3, .int 3), (0, .ref h0), (1, .int 2), (2, .int 0)]) hx hb dX1_reckon_51 hl (k := 0) rfl (by decide) (by decide) rfl (fun ls hl => ?_)
  refine lv_goto (tgt := 32) hx hb dX1_reckon_54 (by decide) ?_
  refine lv_iload_n hx hb dX1_reckon_32 rfl (lv_at hl 0 rfl) ?_
  refine lv_iload_n hx hb dX1_reckon_33 rfl (lv_at hl 2 rfl) ?_
  refine lv_icmp_gt (tgt := 57) hx hb dX1_reckon_34 (by decide) (fun _ => ?_) (fun h => absurd (by decide) h)
  have hP9 := hP
  have hD9 := hD
  exact W.vret hx hb hr (fun t ht hW => ⟨⟨(), rfl, trivial, by rw [ht]; exact hP9, hD9⟩, hS.F ht⟩) hS.2.2 dX1_reckon_57

set_option maxHeartbeats 4000000 in
set_option maxRecDepth 100000 in
theorem k_X5_sumOfCosts_6 (l : Launch) (D : va_G) (κ ε : Nat → Nat) (h0 h1 h2 h3 h4 h5 h6 h7 h8 h9 h10 h11 h12 h13 h14 h15 h16 : Nat) (sz : Nat) (p0 : Int32) (p1 : Int32) (p2 : Int32) : Met l yX5_sumOfCosts wsX5_sumOfCosts ({ frames := 4, cells := 0, slots := 0, locals := 95 }) (va_Pc [.ref h0] (Pre2 D κ ε [(h0, .inr (7, [.ref h1, .ref h2, .ref h3, .ref h4, .ref h5, .ref h6, .int 0, .int p0, .int p1, .int 0])), (h1, .inr (2, [.int 0, .int 2, .ref h7, .ref h8])), (h2, .inr (3, [.ref h1, .int 0, .int 500, .ref h9, .ref h10, .long 0, .int p2])), (h7, .inl (κ 3, 4, .inr (.inr (.inr (.inr (sel [h11, h12, h13, h14])))))), (h9, .inl (κ 0, 13, .inl (upd (upd (upd (upd (upd (upd (upd (upd (upd (upd (upd (upd (upd (upd (fun _ => 0) 0 1000000) 1 1000000) 2 1000000) 3 1000000) 4 1000000) 5 1000000) 6 1000000) 7 1000000) 8 1000000) 9 1000000) 10 1000000) 11 1000000) 12 1000000) 0 1000000))), (h10, .inl (κ 0, 13, .inl (fun _ => 0))), (h12, .inr (6, [.ref h15, .ref h16, .int 0]))] sz)) (va_Qi (fun r (u : Unit) => (r = 0)) (fun u t => va_P D vwCl [(h0, .inr (7, [.ref h1, .ref h2, .ref h3, .ref h4, .ref h5, .ref h6, .int 0, .int p0, .int p1, .int 0])), (h1, .inr (2, [.int 0, .int 2, .ref h7, .ref h8])), (h2, .inr (3, [.ref h1, .int 0, .int 500, .ref h9, .ref h10, .long 0, .int 0])), (h7, .inl (κ 3, 4, .inr (.inr (.inr (.inr (sel [h11, h12, h13, h14])))))), (h9, .inl (κ 0, 13, .inl (upd (upd (upd (upd (upd (upd (upd (upd (upd (upd (upd (upd (upd (upd (upd (upd (upd (upd (upd (upd (upd (upd (upd (upd (upd (upd (upd (upd (fun _ => 0) 0 1000000) 1 1000000) 2 1000000) 3 1000000) 4 1000000) 5 1000000) 6 1000000) 7 1000000) 8 1000000) 9 1000000) 10 1000000) 11 1000000) 12 1000000) 0 1000000) 0 1000000) 1 1000000) 2 1000000) 3 1000000) 4 1000000) 5 1000000) 6 1000000) 7 1000000) 8 1000000) 9 1000000) 10 1000000) 11 1000000) 12 1000000) 0 1000000))), (h10, .inl (κ 0, 13, .inl (fun _ => 0))), (h12, .inr (6, [.ref h15, .ref h16, .int 0]))] t.heap ∧ va_D (va_A [(h0, .inr (7, [.ref h1, .ref h2, .ref h3, .ref h4, .ref h5, .ref h6, .int 0, .int p0, .int p1, .int 0])), (h1, .inr (2, [.int 0, .int 2, .ref h7, .ref h8])), (h2, .inr (3, [.ref h1, .int 0, .int 500, .ref h9, .ref h10, .long 0, .int p2])), (h7, .inl (κ 3, 4, .inr (.inr (.inr (.inr (sel [h11, h12, h13, h14])))))), (h9, .inl (κ 0, 13, .inl (upd (upd (upd (upd (upd (upd (upd (upd (upd (upd (upd (upd (upd (upd (fun _ => 0) 0 1000000) 1 1000000) 2 1000000) 3 1000000) 4 1000000) 5 1000000) 6 1000000) 7 1000000) 8 1000000) 9 1000000) 10 1000000) 11 1000000) 12 1000000) 0 1000000))), (h10, .inl (κ 0, 13, .inl (fun _ => 0))), (h12, .inr (6, [.ref h15, .ref h16, .int 0]))] sz) [(h0, .inr (7, [.ref h1, .ref h2, .ref h3, .ref h4, .ref h5, .ref h6, .int 0, .int p0, .int p1, .int 0])), (h1, .inr (2, [.int 0, .int 2, .ref h7, .ref h8])), (h2, .inr (3, [.ref h1, .int 0, .int 500, .ref h9, .ref h10, .long 0, .int 0])), (h7, .inl (κ 3, 4, .inr (.inr (.inr (.inr (sel [h11, h12, h13, h14])))))), (h9, .inl (κ 0, 13, .inl (upd (upd (upd (upd (upd (upd (upd (upd (upd (upd (upd (upd (upd (upd (upd (upd (upd (upd (upd (upd (upd (upd (upd (upd (upd (upd (upd (upd (fun _ => 0) 0 1000000) 1 1000000) 2 1000000) 3 1000000) 4 1000000) 5 1000000) 6 1000000) 7 1000000) 8 1000000) 9 1000000) 10 1000000) 11 1000000) 12 1000000) 0 1000000) 0 1000000) 1 1000000) 2 1000000) 3 1000000) 4 1000000) 5 1000000) 6 1000000) 7 1000000) 8 1000000) 9 1000000) 10 1000000) 11 1000000) 12 1000000) 0 1000000))), (h10, .inl (κ 0, 13, .inl (fun _ => 0))), (h12, .inr (6, [.ref h15, .ref h16, .int 0]))]) (va_A [(h0, .inr (7, [.ref h1, .ref h2, .ref h3, .ref h4, .ref h5, .ref h6, .int 0, .int p0, .int p1, .int 0])), (h1, .inr (2, [.int 0, .int 2, .ref h7, .ref h8])), (h2, .inr (3, [.ref h1, .int 0, .int 500, .ref h9, .ref h10, .long 0, .int p2])), (h7, .inl (κ 3, 4, .inr (.inr (.inr (.inr (sel [h11, h12, h13, h14])))))), (h9, .inl (κ 0, 13, .inl (upd (upd (upd (upd (upd (upd (upd (upd (upd (upd (upd (upd (upd (upd (fun _ => 0) 0 1000000) 1 1000000) 2 1000000) 3 1000000) 4 1000000) 5 1000000) 6 1000000) 7 1000000) 8 1000000) 9 1000000) 10 1000000) 11 1000000) 12 1000000) 0 1000000))), (h10, .inl (κ 0, 13, .inl (fun _ => 0))), (h12, .inr (6, [.ref h15, .ref h16, .int 0]))] sz)) 0 0 (va_A [(h0, .inr (7, [.ref h1, .ref h2, .ref h3, .ref h4, .ref h5, .ref h6, .int 0, .int p0, .int p1, .int 0])), (h1, .inr (2, [.int 0, .int 2, .ref h7, .ref h8])), (h2, .inr (3, [.ref h1, .int 0, .int 500, .ref h9, .ref h10, .long 0, .int p2])), (h7, .inl (κ 3, 4, .inr (.inr (.inr (.inr (sel [h11, h12, h13, h14])))))), (h9, .inl (κ 0, 13, .inl (upd (upd (upd (upd (upd (upd (upd (upd (upd (upd (upd (upd (upd (upd (fun _ => 0) 0 1000000) 1 1000000) 2 1000000) 3 1000000) 4 1000000) 5 1000000) 6 1000000) 7 1000000) 8 1000000) 9 1000000) 10 1000000) 11 1000000) 12 1000000) 0 1000000))), (h10, .inl (κ 0, 13, .inl (fun _ => 0))), (h12, .inr (6, [.ref h15, .ref h16, .int 0]))] sz) := by
  refine Met.ofW (cc := cX5_sumOfCosts) (maxL := 4) (ret := (some .int)) (by decide) rfl ?_
  intro p e s m args below meth c s₁ B hml hv
  obtain ⟨rfl, hsz, hP, hK, hD0, hE9⟩ := hv
  have hx := B.exec
  have hb := B.bytes
  have hr := B.returns
  have hts := atoms_spec (ws := wsX5_sumOfCosts) B.pre
  have hown : s.vm.findClass RX5 = some m.cls := findClass_of_methodNamed B.named
  have hlocks := B.notSynchronized
  subst hsz
  have hD := hD0.self (sz := s.heap.size)
  generalize hAe : va_A [(h0, .inr (7, [.ref h1, .ref h2, .ref h3, .ref h4, .ref h5, .ref h6, .int 0, .int p0, .int p1, .int 0])), (h1, .inr (2, [.int 0, .int 2, .ref h7, .ref h8])), (h2, .inr (3, [.ref h1, .int 0, .int 500, .ref h9, .ref h10, .long 0, .int p2])), (h7, .inl (κ 3, 4, .inr (.inr (.inr (.inr (sel [h11, h12, h13, h14])))))), (h9, .inl (κ 0, 13, .inl (upd (upd (upd (upd (upd (upd (upd (upd (upd (upd (upd (upd (upd (upd (fun _ => 0) 0 1000000) 1 1000000) 2 1000000) 3 1000000) 4 1000000) 5 1000000) 6 1000000) 7 1000000) 8 1000000) 9 1000000) 10 1000000) 11 1000000) 12 1000000) 0 1000000))), (h10, .inl (κ 0, 13, .inl (fun _ => 0))), (h12, .inr (6, [.ref h15, .ref h16, .int 0]))] s.heap.size = A at hD hE9 ⊢
  have hE := hE9.1
  have hDc := hE9.2
  have hA : ∀ q : Nat, s.heap.size ≤ q → A q := fun q h => by rw [← hAe]; exact Or.inr h
  have hS : va_S A s.heap s.heap [] := va_S.rf
  have hP : va_P D vwCl [(h0, .inr (7, [.ref h1, .ref h2, .ref h3, .ref h4, .ref h5, .ref h6, .int 0, .int p0, .int p1, .int 0])), (h1, .inr (2, [.int 0, .int 2, .ref h7, .ref h8])), (h2, .inr (3, [.ref h1, .int 0, .int 500, .ref h9, .ref h10, .long 0, .int p2])), (h7, .inl (κ 3, 4, .inr (.inr (.inr (.inr (sel [h11, h12, h13, h14])))))), (h9, .inl (κ 0, 13, .inl (upd (upd (upd (upd (upd (upd (upd (upd (upd (upd (upd (upd (upd (upd (fun _ => 0) 0 1000000) 1 1000000) 2 1000000) 3 1000000) 4 1000000) 5 1000000) 6 1000000) 7 1000000) 8 1000000) 9 1000000) 10 1000000) 11 1000000) 12 1000000) 0 1000000))), (h10, .inl (κ 0, 13, .inl (fun _ => 0))), (h12, .inr (6, [.ref h15, .ref h16, .int 0]))] s.heap := hP
  have hl := lv_entry [.ref h0] (n := 4) (Nat.le_of_ble_eq_true rfl)
  rw [lg_entry_eq]
  generalize (lg_sl [.ref h0] ++ List.replicate (4 - (lg_sl [.ref h0]).length) Slot.unset).toArray = ls at hl ⊢
  have hl : lv_has ls 4 [(0, .ref h0)] := hl
  refine lv_iconst (v := 0) hx hb dX5_sumOfCosts_0 (by decide) ?_
  refine lv_istore_n (lv' := [(1, .int 0), (0, .ref h0)]) hx hb dX5_sumOfCosts_1 rfl hl (by decide) rfl (fun ls hl => ?_)
  refine lv_iconst (v := 0) hx hb dX5_sumOfCosts_2 (by decide) ?_
  refine lv_istore_n (lv' := [(2, .int 0), (1, .int 0), (0, .ref h0)]) hx hb dX5_sumOfCosts_3 rfl hl (by decide) rfl (fun ls hl => ?_)
  refine lv_iload_n hx hb dX5_sumOfCosts_4 rfl (lv_at hl 0 rfl) ?_
  refine lv_aload_n hx hb dX5_sumOfCosts_5 rfl (lv_at hl 2 rfl) ?_
  refine va_get (D := D) (ci := 7) (v := .int 0) (C := RX5) (T := TX5) (N := 10) hx hb hts wi_X5_sumOfCosts_RX5 hown hK hP 0 rfl rfl 6 (by decide) (hts _ wd335_X5_sumOfCosts) (fun _ h9 => h9) rfl dX5_sumOfCosts_6 ?_
  refine lv_icmp_gt (tgt := 81) hx hb dX5_sumOfCosts_9 (by decide) (fun h => absurd h (by decide)) (fun _ => ?_)
  refine lv_aload_n hx hb dX5_sumOfCosts_12 rfl (lv_at hl 2 rfl) ?_
  refine va_get (D := D) (ci := 7) (v := .ref h2) (C := RX5) (T := TX5) (N := 10) hx hb hts wi_X5_sumOfCosts_RX5 hown hK hP 0 rfl rfl 1 (by decide) (hts _ wd336_X5_sumOfCosts) (fun _ h9 => h9) rfl dX5_sumOfCosts_13 ?_
  refine lv_aload_n hx hb dX5_sumOfCosts_16 rfl (lv_at hl 2 rfl) ?_
  refine va_get (D := D) (ci := 7) (v := .ref h1) (C := RX5) (T := TX5) (N := 10) hx hb hts wi_X5_sumOfCosts_RX5 hown hK hP 0 rfl rfl 0 (by decide) (hts _ wd337_X5_sumOfCosts) (fun _ h9 => h9) rfl dX5_sumOfCosts_17 ?_
  refine va_get (D := D) (ci := 2) (v := .int 2) (C := RX0) (T := TX0) (N := 4) hx hb hts wi_X5_sumOfCosts_RX0 hown hK hP 1 rfl rfl 1 (by decide) (hts _ wd338_X5_sumOfCosts) (fun _ h9 => h9) rfl dX5_sumOfCosts_20 ?_
  refine lv_aload_n hx hb dX5_sumOfCosts_23 rfl (lv_at hl 2 rfl) ?_
  refine lv_iload_n hx hb dX5_sumOfCosts_24 rfl (lv_at hl 0 rfl) ?_
  refine lv_iconst (v := 1) hx hb dX5_sumOfCosts_25 (by decide) ?_
  refine lv_isub hx hb dX5_sumOfCosts_26 ?_
  refine tpi (v := (-1)) (by decide) ?_
  refine lv_aload_n hx hb dX5_sumOfCosts_27 rfl (lv_at hl 2 rfl) ?_
  refine va_get (D := D) (ci := 7) (v := .ref h1) (C := RX5) (T := TX5) (N := 10) hx hb hts wi_X5_sumOfCosts_RX5 hown hK hP 0 rfl rfl 0 (by decide) (hts _ wd337_X5_sumOfCosts) (fun _ h9 => h9) rfl dX5_sumOfCosts_28 ?_
  refine va_get (D := D) (ci := 2) (v := .int 2) (C := RX0) (T := TX0) (N := 4) hx hb hts wi_X5_sumOfCosts_RX0 hown hK hP 1 rfl rfl 1 (by decide) (hts _ wd338_X5_sumOfCosts) (fun _ h9 => h9) rfl dX5_sumOfCosts_31 ?_
  refine lv_iconst (v := 1) hx hb dX5_sumOfCosts_34 (by decide) ?_
  refine lv_isub hx hb dX5_sumOfCosts_35 ?_
  refine tpi (v := 1) (by decide) ?_
  refine vp_callSi (W.runV (As := [.int (-1), .int 1]) (rest := [.int 2, .ref h2]) ⟨hx, hb, hml, hown, hts⟩ (k_X5_keyUpTo_2 l D κ ε h0 h1 h2 h3 h4 h5 h6 (0) (p0) (p1)) (cwV 2 hts gX5_sumOfCosts_X5_keyUpTo rfl rfl rfl (by decide +kernel) ⟨(Nat.le_of_ble_eq_true rfl), (Nat.le_of_ble_eq_true rfl)⟩) (pre0_V (q0 := 0) (ci := 7) (wc := [(h0, .inr (7, [.ref h1, .ref h2, .ref h3, .ref h4, .ref h5, .ref h6, .int 0, .int p0, .int p1, .int 0]))]) hP hK [0] rfl rfl rfl) rfl rfl hl.1 rfl (lv_room (Nat.le_of_ble_eq_true rfl)) dX5_sumOfCosts_36 ⟨(Nat.le_of_ble_eq_true rfl), (Nat.le_of_ble_eq_true rfl)⟩) (fun r hw => ?_)
  rw [hw]
  have hF := va_free (wc := [(h2, .inr (3, [.ref h1, .int 0, .int 500, .ref h9, .ref h10, .long 0, .int p2])), (h1, .inr (2, [.int 0, .int 2, .ref h7, .ref h8])), (h9, .inl (κ 0, 13, .inl (upd (upd (upd (upd (upd (upd (upd (upd (upd (upd (upd (upd (upd (upd (fun _ => 0) 0 1000000) 1 1000000) 2 1000000) 3 1000000) 4 1000000) 5 1000000) 6 1000000) 7 1000000) 8 1000000) 9 1000000) 10 1000000) 11 1000000) 12 1000000) 0 1000000))), (h10, .inl (κ 0, 13, .inl (fun _ => 0))), (h7, .inl (κ 3, 4, .inr (.inr (.inr (.inr (sel [h11, h12, h13, h14])))))), (h12, .inr (6, [.ref h15, .ref h16, .int 0]))]) hD hS hA [2, 1, 4, 5, 3, 6] rfl
  refine va_callv (va_runV (As := [.int 2, .int 0]) (rest := []) ⟨hx, hb, hml, hown, hts⟩ (k_X1_reckon_6 l D κ ε h2 h1 h9 h10 h7 h8 h11 h12 h13 h14 h15 h16 s.heap.size (p2) (2)) (cwV 2 hts gX5_sumOfCosts_X1_reckon rfl rfl rfl (by decide +kernel) ⟨(Nat.le_of_ble_eq_true rfl), (Nat.le_of_ble_eq_true rfl)⟩) (pre2_V (q0 := 2) (ci := 3) (wc := [(h2, .inr (3, [.ref h1, .int 0, .int 500, .ref h9, .ref h10, .long 0, .int p2])), (h1, .inr (2, [.int 0, .int 2, .ref h7, .ref h8])), (h9, .inl (κ 0, 13, .inl (upd (upd (upd (upd (upd (upd (upd (upd (upd (upd (upd (upd (upd (upd (fun _ => 0) 0 1000000) 1 1000000) 2 1000000) 3 1000000) 4 1000000) 5 1000000) 6 1000000) 7 1000000) 8 1000000) 9 1000000) 10 1000000) 11 1000000) 12 1000000) 0 1000000))), (h10, .inl (κ 0, 13, .inl (fun _ => 0))), (h7, .inl (κ 3, 4, .inr (.inr (.inr (.inr (sel [h11, h12, h13, h14])))))), (h12, .inr (6, [.ref h15, .ref h16, .int 0]))]) hP hD hK hE9 hS hA [2, 1, 4, 5, 3, 6] (by decide) rfl rfl rfl) rfl rfl hl.1 rfl (lv_room (Nat.le_of_ble_eq_true rfl)) dX5_sumOfCosts_39 ⟨(Nat.le_of_ble_eq_true rfl), (Nat.le_of_ble_eq_true rfl)⟩) hS (fun q _ h => hF q h) hF (fun u1 t H locs ht hvm hw hB hz1 hk1 hS => ?_)
  try dsimp only at hw hB
  obtain ⟨hP1, hD1⟩ := hB
  rw [ht] at hP1
  obtain ⟨hP, hD⟩ := post_j (ws' := [(h0, .inr (7, [.ref h1, .ref h2, .ref h3, .ref h4, .ref h5, .ref h6, .int 0, .int p0, .int p1, .int 0])), (h1, .inr (2, [.int 0, .int 2, .ref h7, .ref h8])), (h2, .inr (3, [.ref h1, .int 0, .int 500, .ref h9, .ref h10, .long 0, .int 0])), (h7, .inl (κ 3, 4, .inr (.inr (.inr (.inr (sel [h11, h12, h13, h14])))))), (h9, .inl (κ 0, 13, .inl (upd (upd (upd (upd (upd (upd (upd (upd (upd (upd (upd (upd (upd (upd (upd (upd (upd (upd (upd (upd (upd (upd (upd (upd (upd (upd (upd (upd (fun _ => 0) 0 1000000) 1 1000000) 2 1000000) 3 1000000) 4 1000000) 5 1000000) 6 1000000) 7 1000000) 8 1000000) 9 1000000) 10 1000000) 11 1000000) 12 1000000) 0 1000000) 0 1000000) 1 1000000) 2 1000000) 3 1000000) 4 1000000) 5 1000000) 6 1000000) 7 1000000) 8 1000000) 9 1000000) 10 1000000) 11 1000000) 12 1000000) 0 1000000))), (h10, .inl (κ 0, 13, .inl (fun _ => 0))), (h12, .inr (6, [.ref h15, .ref h16, .int 0]))]) (wr := [(h0, .inr (7, [.ref h1, .ref h2, .ref h3, .ref h4, .ref h5, .ref h6, .int 0, .int p0, .int p1, .int 0]))]) (w1 := [(h2, .inr (3, [.ref h1, .int 0, .int 500, .ref h9, .ref h10, .long 0, .int 0])), (h1, .inr (2, [.int 0, .int 2, .ref h7, .ref h8])), (h9, .inl (κ 0, 13, .inl (upd (upd (upd (upd (upd (upd (upd (upd (upd (upd (upd (upd (upd (upd (upd (upd (upd (upd (upd (upd (upd (upd (upd (upd (upd (upd (upd (upd (fun _ => 0) 0 1000000) 1 1000000) 2 1000000) 3 1000000) 4 1000000) 5 1000000) 6 1000000) 7 1000000) 8 1000000) 9 1000000) 10 1000000) 11 1000000) 12 1000000) 0 1000000) 0 1000000) 1 1000000) 2 1000000) 3 1000000) 4 1000000) 5 1000000) 6 1000000) 7 1000000) 8 1000000) 9 1000000) 10 1000000) 11 1000000) 12 1000000) 0 1000000))), (h10, .inl (κ 0, 13, .inl (fun _ => 0))), (h7, .inl (κ 3, 4, .inr (.inr (.inr (.inr (sel [h11, h12, h13, h14])))))), (h12, .inr (6, [.ref h15, .ref h16, .int 0]))]) hP hD hF [2, 1, 4, 5, 3, 6] rfl [0] rfl (by decide) (by decide) hk1 hP1 hD1 [0, 2, 1, 5, 3, 4, 6] (by decide) rfl
  have hP : va_P D vwCl [(h0, .inr (7, [.ref h1, .ref h2, .ref h3, .ref h4, .ref h5, .ref h6, .int 0, .int p0, .int p1, .int 0])), (h1, .inr (2, [.int 0, .int 2, .ref h7, .ref h8])), (h2, .inr (3, [.ref h1, .int 0, .int 500, .ref h9, .ref h10, .long 0, .int 0])), (h7, .inl (κ 3, 4, .inr (.inr (.inr (.inr (sel [h11, h12, h13, h14])))))), (h9, .inl (κ 0, 13, .inl (upd (upd (upd (upd (upd (upd (upd (upd (upd (upd (upd (upd (upd (upd (upd (upd (upd (upd (upd (upd (upd (upd (upd (upd (upd (upd (upd (upd (fun _ => 0) 0 1000000) 1 1000000) 2 1000000) 3 1000000) 4 1000000) 5 1000000) 6 1000000) 7 1000000) 8 1000000) 9 1000000) 10 1000000) 11 1000000) 12 1000000) 0 1000000) 0 1000000) 1 1000000) 2 1000000) 3 1000000) 4 1000000) 5 1000000) 6 1000000) 7 1000000) 8 1000000) 9 1000000) 10 1000000) 11 1000000) 12 1000000) 0 1000000))), (h10, .inl (κ 0, 13, .inl (fun _ => 0))), (h12, .inr (6, [.ref h15, .ref h16, .int 0]))] H := hP
  have hD : va_D A [(h0, .inr (7, [.ref h1, .ref h2, .ref h3, .ref h4, .ref h5, .ref h6, .int 0, .int p0, .int p1, .int 0])), (h1, .inr (2, [.int 0, .int 2, .ref h7, .ref h8])), (h2, .inr (3, [.ref h1, .int 0, .int 500, .ref h9, .ref h10, .long 0, .int 0])), (h7, .inl (κ 3, 4, .inr (.inr (.inr (.inr (sel [h11, h12, h13, h14])))))), (h9, .inl (κ 0, 13, .inl (upd (upd (upd (upd (upd (upd (upd (upd (upd (upd (upd (upd (upd (upd (upd (upd (upd (upd (upd (upd (upd (upd (upd (upd (upd (upd (upd (upd (fun _ => 0) 0 1000000) 1 1000000) 2 1000000) 3 1000000) 4 1000000) 5 1000000) 6 1000000) 7 1000000) 8 1000000) 9 1000000) 10 1000000) 11 1000000) 12 1000000) 0 1000000) 0 1000000) 1 1000000) 2 1000000) 3 1000000) 4 1000000) 5 1000000) 6 1000000) 7 1000000) 8 1000000) 9 1000000) 10 1000000) 11 1000000) 12 1000000) 0 1000000))), (h10, .inl (κ 0, 13, .inl (fun _ => 0))), (h12, .inr (6, [.ref h15, .ref h16, .int 0]))] := hD
  refine lv_aload_n hx hb dX5_sumOfCosts_42 rfl (lv_at hl 2 rfl) ?_
  refine lv_iload_n hx hb dX5_sumOfCosts_43 rfl (lv_at hl 0 rfl) ?_
  refine vp_callSi (W.runV (As := [.int 0]) (rest := []) ⟨hx, hb, hml, hown, hts⟩ (k_X5_digitAt_0 l D κ ε h0 h1 h2 h3 h4 h5 h6 h7 h8 (p0) (p1) (2)) (cwV 1 hts gX5_sumOfCosts_X5_digitAt rfl rfl rfl (by decide +kernel) ⟨(Nat.le_of_ble_eq_true rfl), (Nat.le_of_ble_eq_true rfl)⟩) (pre0_V (q0 := 0) (ci := 7) (wc := [(h0, .inr (7, [.ref h1, .ref h2, .ref h3, .ref h4, .ref h5, .ref h6, .int 0, .int p0, .int p1, .int 0])), (h1, .inr (2, [.int 0, .int 2, .ref h7, .ref h8]))]) hP hK [0, 1] rfl rfl rfl) rfl rfl hl.1 rfl (lv_room (Nat.le_of_ble_eq_true rfl)) dX5_sumOfCosts_44 ⟨(Nat.le_of_ble_eq_true rfl), (Nat.le_of_ble_eq_true rfl)⟩) (fun r hw => ?_)
  rw [hw]
  refine lv_iconst (v := 1) hx hb dX5_sumOfCosts_47 (by decide) ?_
  refine lv_isub hx hb dX5_sumOfCosts_48 ?_
  refine tpi (v := 0) (by decide) ?_
  refine lv_istore_n (lv' := [(3, .int 0), (2, .int 0), (1, .int 0), (0, .ref h0)]) hx hb dX5_sumOfCosts_49 rfl hl (by decide) rfl (fun ls hl => ?_)
  refine lv_iload_n hx hb dX5_sumOfCosts_50 rfl (lv_at hl 0 rfl) ?_
  refine lv_if_lt (tgt := 75) hx hb dX5_sumOfCosts_51 (by decide) (fun h => absurd h (by decide)) (fun _ => ?_)
  refine lv_iload_n hx hb dX5_sumOfCosts_54 rfl (lv_at hl 0 rfl) ?_
  refine lv_bipush (v := 12) hx hb dX5_sumOfCosts_55 (by decide) ?_
  refine lv_icmp_gt (tgt := 75) hx hb dX5_sumOfCosts_57 (by decide) (fun h => absurd h (by decide)) (fun _ => ?_)
  refine lv_iload_n hx hb dX5_sumOfCosts_60 rfl (lv_at hl 2 rfl) ?_
  refine lv_aload_n hx hb dX5_sumOfCosts_61 rfl (lv_at hl 3 rfl) ?_
  refine va_get (D := D) (ci := 7) (v := .ref h2) (C := RX5) (T := TX5) (N := 10) hx hb hts wi_X5_sumOfCosts_RX5 hown hK hP 0 rfl rfl 1 (by decide) (hts _ wd336_X5_sumOfCosts) (fun _ h9 => h9) rfl dX5_sumOfCosts_62 ?_
  refine va_get (D := D) (ci := 3) (v := .ref h9) (C := RX1) (T := TX1) (N := 7) hx hb hts wi_X5_sumOfCosts_RX1 hown hK hP 2 rfl rfl 3 (by decide) (hts _ wd339_X5_sumOfCosts) (fun _ h9 => h9) rfl dX5_sumOfCosts_65 ?_
  refine lv_iload_n hx hb dX5_sumOfCosts_68 rfl (lv_at hl 0 rfl) ?_
  refine va_iald (cA := κ 0) (n := 13) (f := (upd (upd (upd (upd (upd (upd (upd (upd (upd (upd (upd (upd (upd (upd (upd (upd (upd (upd (upd (upd (upd (upd (upd (upd (upd (upd (upd (upd (fun _ => 0) 0 1000000) 1 1000000) 2 1000000) 3 1000000) 4 1000000) 5 1000000) 6 1000000) 7 1000000) 8 1000000) 9 1000000) 10 1000000) 11 1000000) 12 1000000) 0 1000000) 0 1000000) 1 1000000) 2 1000000) 3 1000000) 4 1000000) 5 1000000) 6 1000000) 7 1000000) 8 1000000) 9 1000000) 10 1000000) 11 1000000) 12 1000000) 0 1000000)) hx hb hK hP 4 0 rfl rfl (vpl (by decide)) dX5_sumOfCosts_69 ?_
  refine tpi (v := 1000000) (by decide) ?_
  refine vp_callSi (W.runS (As := [.int 1000000]) (rest := [.int 0]) ⟨hx, hb, hml, hown, hts⟩ (k_X5_cost_1 l D κ ε) (va_cwS 1 hts gX5_sumOfCosts_X5_cost rfl rfl rfl (by decide +kernel) ⟨(Nat.le_of_ble_eq_true rfl), (Nat.le_of_ble_eq_true rfl)⟩) (pre0_S (wc := []) hP hK [] rfl) rfl rfl hl.1 rfl (lv_room (Nat.le_of_ble_eq_true rfl)) dX5_sumOfCosts_70 ⟨(Nat.le_of_ble_eq_true rfl), (Nat.le_of_ble_eq_true rfl)⟩) (fun r hw => ?_)
  rw [hw]
  refine lv_iadd hx hb dX5_sumOfCosts_73 ?_
  refine tpi (v := 0) (by decide) ?_
  refine lv_istore_n (lv' := [(1, .int 0), (3, .int 0), (2, .int 0), (0, .ref h0)]) hx hb dX5_sumOfCosts_74 rfl hl (by decide) rfl (fun ls hl => ?_)
  refine lv_iinc (v := 1) (lv' := [(2, .int 1), (1, .int 0), (3, .int 0), (0, .ref h0)]) hx hb dX5_sumOfCosts_75 hl (k := 2) rfl (by decide) (by decide) rfl (fun ls hl => ?_)
  refine lv_goto (tgt := 4) hx hb dX5_sumOfCosts_78 (by decide) ?_
  refine lv_iload_n hx hb dX5_sumOfCosts_4 rfl (lv_at hl 0 rfl) ?_
  refine lv_aload_n hx hb dX5_sumOfCosts_5 rfl (lv_at hl 3 rfl) ?_
  refine va_get (D := D) (ci := 7) (v := .int 0) (C := RX5) (T := TX5) (N := 10) hx hb hts wi_X5_sumOfCosts_RX5 hown hK hP 0 rfl rfl 6 (by decide) (hts _ wd335_X5_sumOfCosts) (fun _ h9 => h9) rfl dX5_sumOfCosts_6 ?_
  refine lv_icmp_gt (tgt := 81) hx hb dX5_sumOfCosts_9 (by decide) (fun _ => ?_) (fun h => absurd (by decide) h)
  refine lv_iload_n hx hb dX5_sumOfCosts_81 rfl (lv_at hl 1 rfl) ?_
  have hP9 := hP
  have hD9 := hD
  exact W.iret (v := 0) hx hb hr (fun t ht hW => ⟨⟨0, (), rfl, rfl, by rw [ht]; exact hP9, hD9⟩, hS.F ht⟩) hS.2.2 dX5_sumOfCosts_82

set_option maxHeartbeats 4000000 in
set_option maxRecDepth 100000 in
theorem k_X5_mix_11 (l : Launch) (D : va_G) (κ ε : Nat → Nat) : Met l yX5_mix wsX5_mix ({ frames := 0, cells := 0, slots := 0, locals := 0 }) (va_Pc [.long (-1006065473256011867), .long 0] (Pre0 D κ [])) (vp_Sl (fun r => (r = 5705458476482735355))) 0 0 (fun _ => False) := by
  refine Met.ofW (cc := cX5_mix) (maxL := 4) (ret := (some .long)) (by decide) rfl ?_
  intro p e s m args below meth c s₁ B hml hv
  obtain ⟨rfl, hP, hK⟩ := hv
  have hx := B.exec
  have hb := B.bytes
  have hr := B.returns
  have hts := atoms_spec (ws := wsX5_mix) B.pre
  have hown : s.vm.findClass RX5 = some m.cls := findClass_of_methodNamed B.named
  have hlocks := B.notSynchronized
  have hP : va_P D vwCl [] s.heap := hP
  have hl := lv_entry [.long (-1006065473256011867), .long 0] (n := 4) (Nat.le_of_ble_eq_true rfl)
  rw [lg_entry_eq]
  generalize (lg_sl [.long (-1006065473256011867), .long 0] ++ List.replicate (4 - (lg_sl [.long (-1006065473256011867), .long 0]).length) Slot.unset).toArray = ls at hl ⊢
  have hl : lv_has ls 4 [(0, .long (-1006065473256011867)), (2, .long 0)] := hl
  refine lv_lload_n hx hb dX5_mix_0 rfl (lv_at hl 0 rfl) ?_
  refine lv_ldc2 (v := 31) hx hb hown (hts _ wd437_X5_mix) dX5_mix_1 ?_
  refine lv_lmul hx hb dX5_mix_4 ?_
  refine tpl (v := 5705458476482735355) (by decide) ?_
  refine lv_lload_n hx hb dX5_mix_5 rfl (lv_at hl 1 rfl) ?_
  refine lv_ladd hx hb dX5_mix_6 ?_
  refine tpl (v := 5705458476482735355) (by decide) ?_
  exact W.lret (v := 5705458476482735355) hx hb hr (fun t ht hW => ⟨5705458476482735355, rfl, rfl, ht⟩) (fun q hq => absurd hq List.not_mem_nil) dX5_mix_7

set_option maxHeartbeats 4000000 in
set_option maxRecDepth 100000 in
theorem k_X5_mix_12 (l : Launch) (D : va_G) (κ ε : Nat → Nat) : Met l yX5_mix wsX5_mix ({ frames := 0, cells := 0, slots := 0, locals := 0 }) (va_Pc [.long 5705458476482735355, .long 0] (Pre0 D κ [])) (vp_Sl (fun r => (r = (-7598227966130720155)))) 0 0 (fun _ => False) := by
  refine Met.ofW (cc := cX5_mix) (maxL := 4) (ret := (some .long)) (by decide) rfl ?_
  intro p e s m args below meth c s₁ B hml hv
  obtain ⟨rfl, hP, hK⟩ := hv
  have hx := B.exec
  have hb := B.bytes
  have hr := B.returns
  have hts := atoms_spec (ws := wsX5_mix) B.pre
  have hown : s.vm.findClass RX5 = some m.cls := findClass_of_methodNamed B.named
  have hlocks := B.notSynchronized
  have hP : va_P D vwCl [] s.heap := hP
  have hl := lv_entry [.long 5705458476482735355, .long 0] (n := 4) (Nat.le_of_ble_eq_true rfl)
  rw [lg_entry_eq]
  generalize (lg_sl [.long 5705458476482735355, .long 0] ++ List.replicate (4 - (lg_sl [.long 5705458476482735355, .long 0]).length) Slot.unset).toArray = ls at hl ⊢
  have hl : lv_has ls 4 [(0, .long 5705458476482735355), (2, .long 0)] := hl
  refine lv_lload_n hx hb dX5_mix_0 rfl (lv_at hl 0 rfl) ?_
  refine lv_ldc2 (v := 31) hx hb hown (hts _ wd437_X5_mix) dX5_mix_1 ?_
  refine lv_lmul hx hb dX5_mix_4 ?_
  refine tpl (v := (-7598227966130720155)) (by decide) ?_
  refine lv_lload_n hx hb dX5_mix_5 rfl (lv_at hl 1 rfl) ?_
  refine lv_ladd hx hb dX5_mix_6 ?_
  refine tpl (v := (-7598227966130720155)) (by decide) ?_
  exact W.lret (v := (-7598227966130720155)) hx hb hr (fun t ht hW => ⟨(-7598227966130720155), rfl, rfl, ht⟩) (fun q hq => absurd hq List.not_mem_nil) dX5_mix_7

set_option maxHeartbeats 4000000 in
set_option maxRecDepth 100000 in
theorem k_X5_mix_13 (l : Launch) (D : va_G) (κ ε : Nat → Nat) : Met l yX5_mix wsX5_mix ({ frames := 0, cells := 0, slots := 0, locals := 0 }) (va_Pc [.long (-7598227966130720155), .long 0] (Pre0 D κ [])) (vp_Sl (fun r => (r = 4262606008171846203))) 0 0 (fun _ => False) := by
  refine Met.ofW (cc := cX5_mix) (maxL := 4) (ret := (some .long)) (by decide) rfl ?_
  intro p e s m args below meth c s₁ B hml hv
  obtain ⟨rfl, hP, hK⟩ := hv
  have hx := B.exec
  have hb := B.bytes
  have hr := B.returns
  have hts := atoms_spec (ws := wsX5_mix) B.pre
  have hown : s.vm.findClass RX5 = some m.cls := findClass_of_methodNamed B.named
  have hlocks := B.notSynchronized
  have hP : va_P D vwCl [] s.heap := hP
  have hl := lv_entry [.long (-7598227966130720155), .long 0] (n := 4) (Nat.le_of_ble_eq_true rfl)
  rw [lg_entry_eq]
  generalize (lg_sl [.long (-7598227966130720155), .long 0] ++ List.replicate (4 - (lg_sl [.long (-7598227966130720155), .long 0]).length) Slot.unset).toArray = ls at hl ⊢
  have hl : lv_has ls 4 [(0, .long (-7598227966130720155)), (2, .long 0)] := hl
  refine lv_lload_n hx hb dX5_mix_0 rfl (lv_at hl 0 rfl) ?_
  refine lv_ldc2 (v := 31) hx hb hown (hts _ wd437_X5_mix) dX5_mix_1 ?_
  refine lv_lmul hx hb dX5_mix_4 ?_
  refine tpl (v := 4262606008171846203) (by decide) ?_
  refine lv_lload_n hx hb dX5_mix_5 rfl (lv_at hl 1 rfl) ?_
  refine lv_ladd hx hb dX5_mix_6 ?_
  refine tpl (v := 4262606008171846203) (by decide) ?_
  exact W.lret (v := 4262606008171846203) hx hb hr (fun t ht hW => ⟨4262606008171846203, rfl, rfl, ht⟩) (fun q hq => absurd hq List.not_mem_nil) dX5_mix_7

set_option maxHeartbeats 4000000 in
set_option maxRecDepth 100000 in
theorem k_X5_mix_14 (l : Launch) (D : va_G) (κ ε : Nat → Nat) : Met l yX5_mix wsX5_mix ({ frames := 0, cells := 0, slots := 0, locals := 0 }) (va_Pc [.long 4262606008171846203, .long 0] (Pre0 D κ [])) (vp_Sl (fun r => (r = 3013577737360370981))) 0 0 (fun _ => False) := by
  refine Met.ofW (cc := cX5_mix) (maxL := 4) (ret := (some .long)) (by decide) rfl ?_
  intro p e s m args below meth c s₁ B hml hv
  obtain ⟨rfl, hP, hK⟩ := hv
  have hx := B.exec
  have hb := B.bytes
  have hr := B.returns
  have hts := atoms_spec (ws := wsX5_mix) B.pre
  have hown : s.vm.findClass RX5 = some m.cls := findClass_of_methodNamed B.named
  have hlocks := B.notSynchronized
  have hP : va_P D vwCl [] s.heap := hP
  have hl := lv_entry [.long 4262606008171846203, .long 0] (n := 4) (Nat.le_of_ble_eq_true rfl)
  rw [lg_entry_eq]
  generalize (lg_sl [.long 4262606008171846203, .long 0] ++ List.replicate (4 - (lg_sl [.long 4262606008171846203, .long 0]).length) Slot.unset).toArray = ls at hl ⊢
  have hl : lv_has ls 4 [(0, .long 4262606008171846203), (2, .long 0)] := hl
  refine lv_lload_n hx hb dX5_mix_0 rfl (lv_at hl 0 rfl) ?_
  refine lv_ldc2 (v := 31) hx hb hown (hts _ wd437_X5_mix) dX5_mix_1 ?_
  refine lv_lmul hx hb dX5_mix_4 ?_
  refine tpl (v := 3013577737360370981) (by decide) ?_
  refine lv_lload_n hx hb dX5_mix_5 rfl (lv_at hl 1 rfl) ?_
  refine lv_ladd hx hb dX5_mix_6 ?_
  refine tpl (v := 3013577737360370981) (by decide) ?_
  exact W.lret (v := 3013577737360370981) hx hb hr (fun t ht hW => ⟨3013577737360370981, rfl, rfl, ht⟩) (fun q hq => absurd hq List.not_mem_nil) dX5_mix_7

theorem wd444_X5_digest : (.constantLong RX5 253 58041 : Cond) ∈ wsX5_digest := by decide +kernel

theorem wi_X5_digest_RX5 : ∀ w ∈ u_ws RX5 TX5 10, w ∈ wsX5_digest := by decide +kernel

theorem wd445_X5_digest : (.fieldLink RX5 10 "Canticle" "ledger" "LCanticle$Ledger;" : Cond) ∈ wsX5_digest := by decide +kernel

theorem wi_X5_digest_RX0 : ∀ w ∈ u_ws RX0 TX0 4, w ∈ wsX5_digest := by decide +kernel

theorem wd446_X5_digest : (.fieldLink RX5 65 "Canticle$Ledger" "words" "I" : Cond) ∈ wsX5_digest := by decide +kernel

theorem wd447_X5_digest : (.fieldLink RX5 83 "Canticle$Ledger" "order" "I" : Cond) ∈ wsX5_digest := by decide +kernel

theorem wd448_X5_digest : (.fieldLink RX5 51 "Canticle" "length" "I" : Cond) ∈ wsX5_digest := by decide +kernel

theorem wd449_X5_digest : (.fieldLink RX5 55 "Canticle" "luck" "I" : Cond) ∈ wsX5_digest := by decide +kernel

theorem wd450_X5_digest : (.fieldLink RX5 58 "Canticle" "draws" "I" : Cond) ∈ wsX5_digest := by decide +kernel

theorem wd451_X5_digest : (.fieldLink RX5 61 "Canticle" "ended" "Z" : Cond) ∈ wsX5_digest := by decide +kernel

set_option maxHeartbeats 4000000 in
set_option maxRecDepth 100000 in
theorem k_X5_digest_0 (l : Launch) (D : va_G) (κ ε : Nat → Nat) (h0 h1 h2 h3 h4 h5 h6 h7 h8 h9 h10 h11 h12 h13 h14 h15 h16 h17 h18 : Nat) (sz : Nat) : Met l yX5_digest wsX5_digest ({ frames := 6, cells := 0, slots := 0, locals := 140 }) (va_Pc [.ref h0] (Pre2 D κ ε [(h0, .inr (7, [.ref h1, .ref h2, .ref h3, .ref h4, .ref h5, .ref h6, .int 0, .int 0, .int 0, .int 0])), (h1, .inr (2, [.int 0, .int 2, .ref h7, .ref h8])), (h2, .inr (3, [.ref h1, .int 0, .int 500, .ref h9, .ref h10, .long 0, .int 0])), (h7, .inl (κ 3, 4, .inr (.inr (.inr (.inr (sel [h11, h12, h13, h14])))))), (h9, .inl (κ 0, 13, .inl (fun _ => 0))), (h10, .inl (κ 0, 13, .inl (fun _ => 0))), (h11, .inr (6, [.ref h15, .ref h16, .int 0])), (h12, .inr (6, [.ref h17, .ref h18, .int 0]))] sz)) (va_Ql (fun r (u : Unit) => (r = 3013577737360370981)) (fun _ _ => True) (va_A [(h0, .inr (7, [.ref h1, .ref h2, .ref h3, .ref h4, .ref h5, .ref h6, .int 0, .int 0, .int 0, .int 0])), (h1, .inr (2, [.int 0, .int 2, .ref h7, .ref h8])), (h2, .inr (3, [.ref h1, .int 0, .int 500, .ref h9, .ref h10, .long 0, .int 0])), (h7, .inl (κ 3, 4, .inr (.inr (.inr (.inr (sel [h11, h12, h13, h14])))))), (h9, .inl (κ 0, 13, .inl (fun _ => 0))), (h10, .inl (κ 0, 13, .inl (fun _ => 0))), (h11, .inr (6, [.ref h15, .ref h16, .int 0])), (h12, .inr (6, [.ref h17, .ref h18, .int 0]))] sz)) 0 0 (va_A [(h0, .inr (7, [.ref h1, .ref h2, .ref h3, .ref h4, .ref h5, .ref h6, .int 0, .int 0, .int 0, .int 0])), (h1, .inr (2, [.int 0, .int 2, .ref h7, .ref h8])), (h2, .inr (3, [.ref h1, .int 0, .int 500, .ref h9, .ref h10, .long 0, .int 0])), (h7, .inl (κ 3, 4, .inr (.inr (.inr (.inr (sel [h11, h12, h13, h14])))))), (h9, .inl (κ 0, 13, .inl (fun _ => 0))), (h10, .inl (κ 0, 13, .inl (fun _ => 0))), (h11, .inr (6, [.ref h15, .ref h16, .int 0])), (h12, .inr (6, [.ref h17, .ref h18, .int 0]))] sz) := by
  refine Met.ofW (cc := cX5_digest) (maxL := 4) (ret := (some .long)) (by decide) rfl ?_
  intro p e s m args below meth c s₁ B hml hv
  obtain ⟨rfl, hsz, hP, hK, hD0, hE9⟩ := hv
  have hx := B.exec
  have hb := B.bytes
  have hr := B.returns
  have hts := atoms_spec (ws := wsX5_digest) B.pre
  have hown : s.vm.findClass RX5 = some m.cls := findClass_of_methodNamed B.named
  have hlocks := B.notSynchronized
  subst hsz
  have hD := hD0.self (sz := s.heap.size)
  generalize hAe : va_A [(h0, .inr (7, [.ref h1, .ref h2, .ref h3, .ref h4, .ref h5, .ref h6, .int 0, .int 0, .int 0, .int 0])), (h1, .inr (2, [.int 0, .int 2, .ref h7, .ref h8])), (h2, .inr (3, [.ref h1, .int 0, .int 500, .ref h9, .ref h10, .long 0, .int 0])), (h7, .inl (κ 3, 4, .inr (.inr (.inr (.inr (sel [h11, h12, h13, h14])))))), (h9, .inl (κ 0, 13, .inl (fun _ => 0))), (h10, .inl (κ 0, 13, .inl (fun _ => 0))), (h11, .inr (6, [.ref h15, .ref h16, .int 0])), (h12, .inr (6, [.ref h17, .ref h18, .int 0]))] s.heap.size = A at hD hE9 ⊢
  have hE := hE9.1
  have hDc := hE9.2
  have hA : ∀ q : Nat, s.heap.size ≤ q → A q := fun q h => by rw [← hAe]; exact Or.inr h
  have hS : va_S A s.heap s.heap [] := va_S.rf
  have hP : va_P D vwCl [(h0, .inr (7, [.ref h1, .ref h2, .ref h3, .ref h4, .ref h5, .ref h6, .int 0, .int 0, .int 0, .int 0])), (h1, .inr (2, [.int 0, .int 2, .ref h7, .ref h8])), (h2, .inr (3, [.ref h1, .int 0, .int 500, .ref h9, .ref h10, .long 0, .int 0])), (h7, .inl (κ 3, 4, .inr (.inr (.inr (.inr (sel [h11, h12, h13, h14])))))), (h9, .inl (κ 0, 13, .inl (fun _ => 0))), (h10, .inl (κ 0, 13, .inl (fun _ => 0))), (h11, .inr (6, [.ref h15, .ref h16, .int 0])), (h12, .inr (6, [.ref h17, .ref h18, .int 0]))] s.heap := hP
  have hl := lv_entry [.ref h0] (n := 4) (Nat.le_of_ble_eq_true rfl)
  rw [lg_entry_eq]
  generalize (lg_sl [.ref h0] ++ List.replicate (4 - (lg_sl [.ref h0]).length) Slot.unset).toArray = ls at hl ⊢
  have hl : lv_has ls 4 [(0, .ref h0)] := hl
  refine lv_ldc2 (v := 58041) hx hb hown (hts _ wd444_X5_digest) dX5_digest_0 ?_
  refine lv_lstore_n (lv' := [(1, .long 58041), (0, .ref h0)]) hx hb dX5_digest_3 rfl hl (by decide) rfl (fun ls hl => ?_)
  refine lv_lload_n hx hb dX5_digest_4 rfl (lv_at hl 0 rfl) ?_
  refine lv_aload_n hx hb dX5_digest_5 rfl (lv_at hl 1 rfl) ?_
  refine va_get (D := D) (ci := 7) (v := .ref h1) (C := RX5) (T := TX5) (N := 10) hx hb hts wi_X5_digest_RX5 hown hK hP 0 rfl rfl 0 (by decide) (hts _ wd445_X5_digest) (fun _ h9 => h9) rfl dX5_digest_6 ?_
  refine va_get (D := D) (ci := 2) (v := .int 0) (C := RX0) (T := TX0) (N := 4) hx hb hts wi_X5_digest_RX0 hown hK hP 1 rfl rfl 0 (by decide) (hts _ wd446_X5_digest) (fun _ h9 => h9) rfl dX5_digest_9 ?_
  refine lv_i2l (v := 0) hx hb dX5_digest_12 (by decide) ?_
  refine vp_callSl (W.runS (As := [.long 58041, .long 0]) (rest := []) ⟨hx, hb, hml, hown, hts⟩ (k_X5_mix_0 l D κ ε) (va_cwS 2 hts gX5_digest_X5_mix rfl rfl rfl (by decide +kernel) ⟨(Nat.le_of_ble_eq_true rfl), (Nat.le_of_ble_eq_true rfl)⟩) (pre0_S (wc := []) hP hK [] rfl) rfl rfl hl.1 rfl (lv_room (Nat.le_of_ble_eq_true rfl)) dX5_digest_13 ⟨(Nat.le_of_ble_eq_true rfl), (Nat.le_of_ble_eq_true rfl)⟩) (fun r hw => ?_)
  rw [hw]
  refine lv_lstore_n (lv' := [(1, .long 1799271), (0, .ref h0)]) hx hb dX5_digest_16 rfl hl (by decide) rfl (fun ls hl => ?_)
  refine lv_lload_n hx hb dX5_digest_17 rfl (lv_at hl 0 rfl) ?_
  refine lv_aload_n hx hb dX5_digest_18 rfl (lv_at hl 1 rfl) ?_
  refine va_get (D := D) (ci := 7) (v := .ref h1) (C := RX5) (T := TX5) (N := 10) hx hb hts wi_X5_digest_RX5 hown hK hP 0 rfl rfl 0 (by decide) (hts _ wd445_X5_digest) (fun _ h9 => h9) rfl dX5_digest_19 ?_
  refine va_get (D := D) (ci := 2) (v := .int 2) (C := RX0) (T := TX0) (N := 4) hx hb hts wi_X5_digest_RX0 hown hK hP 1 rfl rfl 1 (by decide) (hts _ wd447_X5_digest) (fun _ h9 => h9) rfl dX5_digest_22 ?_
  refine lv_i2l (v := 2) hx hb dX5_digest_25 (by decide) ?_
  refine vp_callSl (W.runS (As := [.long 1799271, .long 2]) (rest := []) ⟨hx, hb, hml, hown, hts⟩ (k_X5_mix_1 l D κ ε) (va_cwS 2 hts gX5_digest_X5_mix rfl rfl rfl (by decide +kernel) ⟨(Nat.le_of_ble_eq_true rfl), (Nat.le_of_ble_eq_true rfl)⟩) (pre0_S (wc := []) hP hK [] rfl) rfl rfl hl.1 rfl (lv_room (Nat.le_of_ble_eq_true rfl)) dX5_digest_26 ⟨(Nat.le_of_ble_eq_true rfl), (Nat.le_of_ble_eq_true rfl)⟩) (fun r hw => ?_)
  rw [hw]
  refine lv_lstore_n (lv' := [(1, .long 55777403), (0, .ref h0)]) hx hb dX5_digest_29 rfl hl (by decide) rfl (fun ls hl => ?_)
  refine lv_lload_n hx hb dX5_digest_30 rfl (lv_at hl 0 rfl) ?_
  refine lv_aload_n hx hb dX5_digest_31 rfl (lv_at hl 1 rfl) ?_
  refine va_get (D := D) (ci := 7) (v := .int 0) (C := RX5) (T := TX5) (N := 10) hx hb hts wi_X5_digest_RX5 hown hK hP 0 rfl rfl 6 (by decide) (hts _ wd448_X5_digest) (fun _ h9 => h9) rfl dX5_digest_32 ?_
  refine lv_i2l (v := 0) hx hb dX5_digest_35 (by decide) ?_
  refine vp_callSl (W.runS (As := [.long 55777403, .long 0]) (rest := []) ⟨hx, hb, hml, hown, hts⟩ (k_X5_mix_2 l D κ ε) (va_cwS 2 hts gX5_digest_X5_mix rfl rfl rfl (by decide +kernel) ⟨(Nat.le_of_ble_eq_true rfl), (Nat.le_of_ble_eq_true rfl)⟩) (pre0_S (wc := []) hP hK [] rfl) rfl rfl hl.1 rfl (lv_room (Nat.le_of_ble_eq_true rfl)) dX5_digest_36 ⟨(Nat.le_of_ble_eq_true rfl), (Nat.le_of_ble_eq_true rfl)⟩) (fun r hw => ?_)
  rw [hw]
  refine lv_lstore_n (lv' := [(1, .long 1729099493), (0, .ref h0)]) hx hb dX5_digest_39 rfl hl (by decide) rfl (fun ls hl => ?_)
  refine lv_iconst (v := 0) hx hb dX5_digest_40 (by decide) ?_
  refine lv_istore_n (lv' := [(3, .int 0), (1, .long 1729099493), (0, .ref h0)]) hx hb dX5_digest_41 rfl hl (by decide) rfl (fun ls hl => ?_)
  refine lv_iload_n hx hb dX5_digest_42 rfl (lv_at hl 0 rfl) ?_
  refine lv_aload_n hx hb dX5_digest_43 rfl (lv_at hl 2 rfl) ?_
  refine va_get (D := D) (ci := 7) (v := .int 0) (C := RX5) (T := TX5) (N := 10) hx hb hts wi_X5_digest_RX5 hown hK hP 0 rfl rfl 6 (by decide) (hts _ wd448_X5_digest) (fun _ h9 => h9) rfl dX5_digest_44 ?_
  refine lv_icmp_ge (tgt := 68) hx hb dX5_digest_47 (by decide) (fun _ => ?_) (fun h => absurd (by decide) h)
  refine lv_iconst (v := 1) hx hb dX5_digest_68 (by decide) ?_
  refine lv_istore_n (lv' := [(3, .int 1), (1, .long 1729099493), (0, .ref h0)]) hx hb dX5_digest_69 rfl hl (by decide) rfl (fun ls hl => ?_)
  refine lv_iload_n hx hb dX5_digest_70 rfl (lv_at hl 0 rfl) ?_
  refine lv_aload_n hx hb dX5_digest_71 rfl (lv_at hl 2 rfl) ?_
  refine va_get (D := D) (ci := 7) (v := .ref h1) (C := RX5) (T := TX5) (N := 10) hx hb hts wi_X5_digest_RX5 hown hK hP 0 rfl rfl 0 (by decide) (hts _ wd445_X5_digest) (fun _ h9 => h9) rfl dX5_digest_72 ?_
  refine va_get (D := D) (ci := 2) (v := .int 2) (C := RX0) (T := TX0) (N := 4) hx hb hts wi_X5_digest_RX0 hown hK hP 1 rfl rfl 1 (by decide) (hts _ wd447_X5_digest) (fun _ h9 => h9) rfl dX5_digest_75 ?_
  refine lv_icmp_gt (tgt := 94) hx hb dX5_digest_78 (by decide) (fun h => absurd h (by decide)) (fun _ => ?_)
  refine lv_aload_n hx hb dX5_digest_81 rfl (lv_at hl 2 rfl) ?_
  refine lv_lload_n hx hb dX5_digest_82 rfl (lv_at hl 1 rfl) ?_
  refine lv_iload_n hx hb dX5_digest_83 rfl (lv_at hl 0 rfl) ?_
  refine vp_callSl (W.runV (As := [.long 1729099493, .int 1]) (rest := []) ⟨hx, hb, hml, hown, hts⟩ (k_X5_mixEntries_0 l D κ ε h0 h1 h2 h3 h4 h5 h6 h7 h8 h11 h12 h13 h14 h15 h16 (0) (0) (0) (0) (2)) (cwV 2 hts gX5_digest_X5_mixEntries rfl rfl rfl (by decide +kernel) ⟨(Nat.le_of_ble_eq_true rfl), (Nat.le_of_ble_eq_true rfl)⟩) (pre0_V (q0 := 0) (ci := 7) (wc := [(h0, .inr (7, [.ref h1, .ref h2, .ref h3, .ref h4, .ref h5, .ref h6, .int 0, .int 0, .int 0, .int 0])), (h1, .inr (2, [.int 0, .int 2, .ref h7, .ref h8])), (h7, .inl (κ 3, 4, .inr (.inr (.inr (.inr (sel [h11, h12, h13, h14])))))), (h11, .inr (6, [.ref h15, .ref h16, .int 0]))]) hP hK [0, 1, 3, 6] rfl rfl rfl) rfl rfl hl.1 rfl (lv_room (Nat.le_of_ble_eq_true rfl)) dX5_digest_84 ⟨(Nat.le_of_ble_eq_true rfl), (Nat.le_of_ble_eq_true rfl)⟩) (fun r hw => ?_)
  rw [hw]
  refine lv_lstore_n (lv' := [(1, .long 53602084283), (3, .int 1), (0, .ref h0)]) hx hb dX5_digest_87 rfl hl (by decide) rfl (fun ls hl => ?_)
  refine lv_iinc (v := 2) (lv' := [(3, .int 2), (1, .long 53602084283), (0, .ref h0)]) hx hb dX5_digest_88 hl (k := 1) rfl (by decide) (by decide) rfl (fun ls hl => ?_)
  refine lv_goto (tgt := 70) hx hb dX5_digest_91 (by decide) ?_
  refine lv_iload_n hx hb dX5_digest_70 rfl (lv_at hl 0 rfl) ?_
  refine lv_aload_n hx hb dX5_digest_71 rfl (lv_at hl 2 rfl) ?_
  refine va_get (D := D) (ci := 7) (v := .ref h1) (C := RX5) (T := TX5) (N := 10) hx hb hts wi_X5_digest_RX5 hown hK hP 0 rfl rfl 0 (by decide) (hts _ wd445_X5_digest) (fun _ h9 => h9) rfl dX5_digest_72 ?_
  refine va_get (D := D) (ci := 2) (v := .int 2) (C := RX0) (T := TX0) (N := 4) hx hb hts wi_X5_digest_RX0 hown hK hP 1 rfl rfl 1 (by decide) (hts _ wd447_X5_digest) (fun _ h9 => h9) rfl dX5_digest_75 ?_
  refine lv_icmp_gt (tgt := 94) hx hb dX5_digest_78 (by decide) (fun h => absurd h (by decide)) (fun _ => ?_)
  refine lv_aload_n hx hb dX5_digest_81 rfl (lv_at hl 2 rfl) ?_
  refine lv_lload_n hx hb dX5_digest_82 rfl (lv_at hl 1 rfl) ?_
  refine lv_iload_n hx hb dX5_digest_83 rfl (lv_at hl 0 rfl) ?_
  refine vp_callSl (W.runV (As := [.long 53602084283, .int 2]) (rest := []) ⟨hx, hb, hml, hown, hts⟩ (k_X5_mixEntries_1 l D κ ε h0 h1 h2 h3 h4 h5 h6 h7 h8 h11 h12 h13 h14 h17 h18 (0) (0) (0) (0) (2)) (cwV 2 hts gX5_digest_X5_mixEntries rfl rfl rfl (by decide +kernel) ⟨(Nat.le_of_ble_eq_true rfl), (Nat.le_of_ble_eq_true rfl)⟩) (pre0_V (q0 := 0) (ci := 7) (wc := [(h0, .inr (7, [.ref h1, .ref h2, .ref h3, .ref h4, .ref h5, .ref h6, .int 0, .int 0, .int 0, .int 0])), (h1, .inr (2, [.int 0, .int 2, .ref h7, .ref h8])), (h7, .inl (κ 3, 4, .inr (.inr (.inr (.inr (sel [h11, h12, h13, h14])))))), (h12, .inr (6, [.ref h17, .ref h18, .int 0]))]) hP hK [0, 1, 3, 7] rfl rfl rfl) rfl rfl hl.1 rfl (lv_room (Nat.le_of_ble_eq_true rfl)) dX5_digest_84 ⟨(Nat.le_of_ble_eq_true rfl), (Nat.le_of_ble_eq_true rfl)⟩) (fun r hw => ?_)
  rw [hw]
  refine lv_lstore_n (lv' := [(1, .long 1661664612773), (3, .int 2), (0, .ref h0)]) hx hb dX5_digest_87 rfl hl (by decide) rfl (fun ls hl => ?_)
  refine lv_iinc (v := 3) (lv' := [(3, .int 3), (1, .long 1661664612773), (0, .ref h0)]) hx hb dX5_digest_88 hl (k := 1) rfl (by decide) (by decide) rfl (fun ls hl => ?_)
  refine lv_goto (tgt := 70) hx hb dX5_digest_91 (by decide) ?_
  refine lv_iload_n hx hb dX5_digest_70 rfl (lv_at hl 0 rfl) ?_
  refine lv_aload_n hx hb dX5_digest_71 rfl (lv_at hl 2 rfl) ?_
  refine va_get (D := D) (ci := 7) (v := .ref h1) (C := RX5) (T := TX5) (N := 10) hx hb hts wi_X5_digest_RX5 hown hK hP 0 rfl rfl 0 (by decide) (hts _ wd445_X5_digest) (fun _ h9 => h9) rfl dX5_digest_72 ?_
  refine va_get (D := D) (ci := 2) (v := .int 2) (C := RX0) (T := TX0) (N := 4) hx hb hts wi_X5_digest_RX0 hown hK hP 1 rfl rfl 1 (by decide) (hts _ wd447_X5_digest) (fun _ h9 => h9) rfl dX5_digest_75 ?_
  refine lv_icmp_gt (tgt := 94) hx hb dX5_digest_78 (by decide) (fun _ => ?_) (fun h => absurd (by decide) h)
  refine lv_iconst (v := 1) hx hb dX5_digest_94 (by decide) ?_
  refine lv_istore_n (lv' := [(3, .int 1), (1, .long 1661664612773), (0, .ref h0)]) hx hb dX5_digest_95 rfl hl (by decide) rfl (fun ls hl => ?_)
  refine lv_iload_n hx hb dX5_digest_96 rfl (lv_at hl 0 rfl) ?_
  refine lv_aload_n hx hb dX5_digest_97 rfl (lv_at hl 2 rfl) ?_
  refine va_get (D := D) (ci := 7) (v := .ref h1) (C := RX5) (T := TX5) (N := 10) hx hb hts wi_X5_digest_RX5 hown hK hP 0 rfl rfl 0 (by decide) (hts _ wd445_X5_digest) (fun _ h9 => h9) rfl dX5_digest_98 ?_
  refine va_get (D := D) (ci := 2) (v := .int 2) (C := RX0) (T := TX0) (N := 4) hx hb hts wi_X5_digest_RX0 hown hK hP 1 rfl rfl 1 (by decide) (hts _ wd447_X5_digest) (fun _ h9 => h9) rfl dX5_digest_101 ?_
  refine lv_icmp_gt (tgt := 137) hx hb dX5_digest_104 (by decide) (fun h => absurd h (by decide)) (fun _ => ?_)
  refine lv_lload_n hx hb dX5_digest_107 rfl (lv_at hl 1 rfl) ?_
  refine lv_aload_n hx hb dX5_digest_108 rfl (lv_at hl 2 rfl) ?_
  refine lv_iload_n hx hb dX5_digest_109 rfl (lv_at hl 0 rfl) ?_
  refine lv_iconst (v := 0) hx hb dX5_digest_110 (by decide) ?_
  have hF := va_free (wc := [(h0, .inr (7, [.ref h1, .ref h2, .ref h3, .ref h4, .ref h5, .ref h6, .int 0, .int 0, .int 0, .int 0])), (h1, .inr (2, [.int 0, .int 2, .ref h7, .ref h8])), (h2, .inr (3, [.ref h1, .int 0, .int 500, .ref h9, .ref h10, .long 0, .int 0])), (h7, .inl (κ 3, 4, .inr (.inr (.inr (.inr (sel [h11, h12, h13, h14])))))), (h10, .inl (κ 0, 13, .inl (fun _ => 0))), (h11, .inr (6, [.ref h15, .ref h16, .int 0]))]) hD hS hA [0, 1, 2, 3, 5, 6] rfl
  refine va_calli (va_runV (As := [.int 1, .int 0]) (rest := [.long 1661664612773]) ⟨hx, hb, hml, hown, hts⟩ (k_X5_totalBehind_2 l D κ ε h0 h1 h2 h3 h4 h5 h6 h7 h8 h9 h10 h11 h12 h13 h14 h15 h16 s.heap.size (0) (0) (0) (2) (0) (500) (0)) (cwV 2 hts gX5_digest_X5_totalBehind rfl rfl rfl (by decide +kernel) ⟨(Nat.le_of_ble_eq_true rfl), (Nat.le_of_ble_eq_true rfl)⟩) (pre2_V (q0 := 0) (ci := 7) (wc := [(h0, .inr (7, [.ref h1, .ref h2, .ref h3, .ref h4, .ref h5, .ref h6, .int 0, .int 0, .int 0, .int 0])), (h1, .inr (2, [.int 0, .int 2, .ref h7, .ref h8])), (h2, .inr (3, [.ref h1, .int 0, .int 500, .ref h9, .ref h10, .long 0, .int 0])), (h7, .inl (κ 3, 4, .inr (.inr (.inr (.inr (sel [h11, h12, h13, h14])))))), (h10, .inl (κ 0, 13, .inl (fun _ => 0))), (h11, .inr (6, [.ref h15, .ref h16, .int 0]))]) hP hD hK hE9 hS hA [0, 1, 2, 3, 5, 6] (by decide) rfl rfl rfl) rfl rfl hl.1 rfl (lv_room (Nat.le_of_ble_eq_true rfl)) dX5_digest_111 ⟨(Nat.le_of_ble_eq_true rfl), (Nat.le_of_ble_eq_true rfl)⟩) hS (fun q _ h => hF q h) hF (fun r u1 t H locs ht hvm hw hB hz1 hk1 hS => ?_)
  try dsimp only at hw hB
  obtain ⟨hP1, hD1⟩ := hB
  rw [ht] at hP1
  obtain ⟨hP, hD⟩ := post_j (ws' := [(h0, .inr (7, [.ref h1, .ref h2, .ref h3, .ref h4, .ref h5, .ref h6, .int 0, .int 0, .int 0, .int 0])), (h1, .inr (2, [.int 0, .int 2, .ref h7, .ref h8])), (h2, .inr (3, [.ref h1, .int 0, .int 500, .ref h9, .ref h10, .long 0, .int 0])), (h7, .inl (κ 3, 4, .inr (.inr (.inr (.inr (sel [h11, h12, h13, h14])))))), (h9, .inl (κ 0, 13, .inl (fun _ => 0))), (h10, .inl (κ 0, 13, .inl (fun _ => 0))), (h11, .inr (6, [.ref h15, .ref h16, .int 0])), (h12, .inr (6, [.ref h17, .ref h18, .int 0]))]) (wr := [(h9, .inl (κ 0, 13, .inl (fun _ => 0))), (h12, .inr (6, [.ref h17, .ref h18, .int 0]))]) (w1 := [(h0, .inr (7, [.ref h1, .ref h2, .ref h3, .ref h4, .ref h5, .ref h6, .int 0, .int 0, .int 0, .int 0])), (h1, .inr (2, [.int 0, .int 2, .ref h7, .ref h8])), (h2, .inr (3, [.ref h1, .int 0, .int 500, .ref h9, .ref h10, .long 0, .int 0])), (h7, .inl (κ 3, 4, .inr (.inr (.inr (.inr (sel [h11, h12, h13, h14])))))), (h10, .inl (κ 0, 13, .inl (fun _ => 0))), (h11, .inr (6, [.ref h15, .ref h16, .int 0]))]) hP hD hF [0, 1, 2, 3, 5, 6] rfl [4, 7] rfl (by decide) (by decide) hk1 hP1 hD1 [2, 3, 4, 5, 0, 6, 7, 1] (by decide) rfl
  have hP : va_P D vwCl [(h0, .inr (7, [.ref h1, .ref h2, .ref h3, .ref h4, .ref h5, .ref h6, .int 0, .int 0, .int 0, .int 0])), (h1, .inr (2, [.int 0, .int 2, .ref h7, .ref h8])), (h2, .inr (3, [.ref h1, .int 0, .int 500, .ref h9, .ref h10, .long 0, .int 0])), (h7, .inl (κ 3, 4, .inr (.inr (.inr (.inr (sel [h11, h12, h13, h14])))))), (h9, .inl (κ 0, 13, .inl (fun _ => 0))), (h10, .inl (κ 0, 13, .inl (fun _ => 0))), (h11, .inr (6, [.ref h15, .ref h16, .int 0])), (h12, .inr (6, [.ref h17, .ref h18, .int 0]))] H := hP
  have hD : va_D A [(h0, .inr (7, [.ref h1, .ref h2, .ref h3, .ref h4, .ref h5, .ref h6, .int 0, .int 0, .int 0, .int 0])), (h1, .inr (2, [.int 0, .int 2, .ref h7, .ref h8])), (h2, .inr (3, [.ref h1, .int 0, .int 500, .ref h9, .ref h10, .long 0, .int 0])), (h7, .inl (κ 3, 4, .inr (.inr (.inr (.inr (sel [h11, h12, h13, h14])))))), (h9, .inl (κ 0, 13, .inl (fun _ => 0))), (h10, .inl (κ 0, 13, .inl (fun _ => 0))), (h11, .inr (6, [.ref h15, .ref h16, .int 0])), (h12, .inr (6, [.ref h17, .ref h18, .int 0]))] := hD
  rw [hw]
  refine lv_i2l (v := 0) hx hb dX5_digest_114 (by decide) ?_
  refine vp_callSl (W.runS (As := [.long 1661664612773, .long 0]) (rest := []) ⟨hx, hb, hml, hown, hts⟩ (k_X5_mix_5 l D κ ε) (va_cwS 2 hts gX5_digest_X5_mix rfl rfl rfl (by decide +kernel) ⟨(Nat.le_of_ble_eq_true rfl), (Nat.le_of_ble_eq_true rfl)⟩) (pre0_S (wc := []) hP hK [] rfl) rfl rfl hl.1 rfl (lv_room (Nat.le_of_ble_eq_true rfl)) dX5_digest_115 ⟨(Nat.le_of_ble_eq_true rfl), (Nat.le_of_ble_eq_true rfl)⟩) (fun r hw => ?_)
  rw [hw]
  refine lv_lstore_n (lv' := [(1, .long 51511602995963), (3, .int 1), (0, .ref h0)]) hx hb dX5_digest_118 rfl hl (by decide) rfl (fun ls hl => ?_)
  refine lv_lload_n hx hb dX5_digest_119 rfl (lv_at hl 0 rfl) ?_
  refine lv_aload_n hx hb dX5_digest_120 rfl (lv_at hl 2 rfl) ?_
  refine lv_iload_n hx hb dX5_digest_121 rfl (lv_at hl 1 rfl) ?_
  refine lv_iconst (v := 1) hx hb dX5_digest_122 (by decide) ?_
  have hF := va_free (wc := [(h0, .inr (7, [.ref h1, .ref h2, .ref h3, .ref h4, .ref h5, .ref h6, .int 0, .int 0, .int 0, .int 0])), (h1, .inr (2, [.int 0, .int 2, .ref h7, .ref h8])), (h2, .inr (3, [.ref h1, .int 0, .int 500, .ref h9, .ref h10, .long 0, .int 0])), (h7, .inl (κ 3, 4, .inr (.inr (.inr (.inr (sel [h11, h12, h13, h14])))))), (h10, .inl (κ 0, 13, .inl (fun _ => 0))), (h11, .inr (6, [.ref h15, .ref h16, .int 0]))]) hD hS hA [0, 1, 2, 3, 5, 6] rfl
  refine va_calli (va_runV (As := [.int 1, .int 1]) (rest := [.long 51511602995963]) ⟨hx, hb, hml, hown, hts⟩ (k_X5_totalBehind_3 l D κ ε h0 h1 h2 h3 h4 h5 h6 h7 h8 h9 h10 h11 h12 h13 h14 h15 h16 H.size (0) (0) (0) (2) (0) (500) (0)) (cwV 2 hts gX5_digest_X5_totalBehind rfl rfl rfl (by decide +kernel) ⟨(Nat.le_of_ble_eq_true rfl), (Nat.le_of_ble_eq_true rfl)⟩) (pre2_V (q0 := 0) (ci := 7) (wc := [(h0, .inr (7, [.ref h1, .ref h2, .ref h3, .ref h4, .ref h5, .ref h6, .int 0, .int 0, .int 0, .int 0])), (h1, .inr (2, [.int 0, .int 2, .ref h7, .ref h8])), (h2, .inr (3, [.ref h1, .int 0, .int 500, .ref h9, .ref h10, .long 0, .int 0])), (h7, .inl (κ 3, 4, .inr (.inr (.inr (.inr (sel [h11, h12, h13, h14])))))), (h10, .inl (κ 0, 13, .inl (fun _ => 0))), (h11, .inr (6, [.ref h15, .ref h16, .int 0]))]) hP hD hK hE9 hS hA [0, 1, 2, 3, 5, 6] (by decide) rfl rfl rfl) rfl rfl hl.1 rfl (lv_room (Nat.le_of_ble_eq_true rfl)) dX5_digest_123 ⟨(Nat.le_of_ble_eq_true rfl), (Nat.le_of_ble_eq_true rfl)⟩) hS (fun q _ h => hF q h) hF (fun r u2 t H locs ht hvm hw hB hz1 hk1 hS => ?_)
  try dsimp only at hw hB
  obtain ⟨hP1, hD1⟩ := hB
  rw [ht] at hP1
  obtain ⟨hP, hD⟩ := post_j (ws' := [(h0, .inr (7, [.ref h1, .ref h2, .ref h3, .ref h4, .ref h5, .ref h6, .int 0, .int 0, .int 0, .int 0])), (h1, .inr (2, [.int 0, .int 2, .ref h7, .ref h8])), (h2, .inr (3, [.ref h1, .int 0, .int 500, .ref h9, .ref h10, .long 0, .int 0])), (h7, .inl (κ 3, 4, .inr (.inr (.inr (.inr (sel [h11, h12, h13, h14])))))), (h9, .inl (κ 0, 13, .inl (fun _ => 0))), (h10, .inl (κ 0, 13, .inl (fun _ => 0))), (h11, .inr (6, [.ref h15, .ref h16, .int 0])), (h12, .inr (6, [.ref h17, .ref h18, .int 0]))]) (wr := [(h9, .inl (κ 0, 13, .inl (fun _ => 0))), (h12, .inr (6, [.ref h17, .ref h18, .int 0]))]) (w1 := [(h0, .inr (7, [.ref h1, .ref h2, .ref h3, .ref h4, .ref h5, .ref h6, .int 0, .int 0, .int 0, .int 0])), (h1, .inr (2, [.int 0, .int 2, .ref h7, .ref h8])), (h2, .inr (3, [.ref h1, .int 0, .int 500, .ref h9, .ref h10, .long 0, .int 0])), (h7, .inl (κ 3, 4, .inr (.inr (.inr (.inr (sel [h11, h12, h13, h14])))))), (h10, .inl (κ 0, 13, .inl (fun _ => 0))), (h11, .inr (6, [.ref h15, .ref h16, .int 0]))]) hP hD hF [0, 1, 2, 3, 5, 6] rfl [4, 7] rfl (by decide) (by decide) hk1 hP1 hD1 [2, 3, 4, 5, 0, 6, 7, 1] (by decide) rfl
  have hP : va_P D vwCl [(h0, .inr (7, [.ref h1, .ref h2, .ref h3, .ref h4, .ref h5, .ref h6, .int 0, .int 0, .int 0, .int 0])), (h1, .inr (2, [.int 0, .int 2, .ref h7, .ref h8])), (h2, .inr (3, [.ref h1, .int 0, .int 500, .ref h9, .ref h10, .long 0, .int 0])), (h7, .inl (κ 3, 4, .inr (.inr (.inr (.inr (sel [h11, h12, h13, h14])))))), (h9, .inl (κ 0, 13, .inl (fun _ => 0))), (h10, .inl (κ 0, 13, .inl (fun _ => 0))), (h11, .inr (6, [.ref h15, .ref h16, .int 0])), (h12, .inr (6, [.ref h17, .ref h18, .int 0]))] H := hP
  have hD : va_D A [(h0, .inr (7, [.ref h1, .ref h2, .ref h3, .ref h4, .ref h5, .ref h6, .int 0, .int 0, .int 0, .int 0])), (h1, .inr (2, [.int 0, .int 2, .ref h7, .ref h8])), (h2, .inr (3, [.ref h1, .int 0, .int 500, .ref h9, .ref h10, .long 0, .int 0])), (h7, .inl (κ 3, 4, .inr (.inr (.inr (.inr (sel [h11, h12, h13, h14])))))), (h9, .inl (κ 0, 13, .inl (fun _ => 0))), (h10, .inl (κ 0, 13, .inl (fun _ => 0))), (h11, .inr (6, [.ref h15, .ref h16, .int 0])), (h12, .inr (6, [.ref h17, .ref h18, .int 0]))] := hD
  rw [hw]
  refine lv_i2l (v := 0) hx hb dX5_digest_126 (by decide) ?_
  refine vp_callSl (W.runS (As := [.long 51511602995963, .long 0]) (rest := []) ⟨hx, hb, hml, hown, hts⟩ (k_X5_mix_6 l D κ ε) (va_cwS 2 hts gX5_digest_X5_mix rfl rfl rfl (by decide +kernel) ⟨(Nat.le_of_ble_eq_true rfl), (Nat.le_of_ble_eq_true rfl)⟩) (pre0_S (wc := []) hP hK [] rfl) rfl rfl hl.1 rfl (lv_room (Nat.le_of_ble_eq_true rfl)) dX5_digest_127 ⟨(Nat.le_of_ble_eq_true rfl), (Nat.le_of_ble_eq_true rfl)⟩) (fun r hw => ?_)
  rw [hw]
  refine lv_lstore_n (lv' := [(1, .long 1596859692874853), (3, .int 1), (0, .ref h0)]) hx hb dX5_digest_130 rfl hl (by decide) rfl (fun ls hl => ?_)
  refine lv_iinc (v := 2) (lv' := [(3, .int 2), (1, .long 1596859692874853), (0, .ref h0)]) hx hb dX5_digest_131 hl (k := 1) rfl (by decide) (by decide) rfl (fun ls hl => ?_)
  refine lv_goto (tgt := 96) hx hb dX5_digest_134 (by decide) ?_
  refine lv_iload_n hx hb dX5_digest_96 rfl (lv_at hl 0 rfl) ?_
  refine lv_aload_n hx hb dX5_digest_97 rfl (lv_at hl 2 rfl) ?_
  refine va_get (D := D) (ci := 7) (v := .ref h1) (C := RX5) (T := TX5) (N := 10) hx hb hts wi_X5_digest_RX5 hown hK hP 0 rfl rfl 0 (by decide) (hts _ wd445_X5_digest) (fun _ h9 => h9) rfl dX5_digest_98 ?_
  refine va_get (D := D) (ci := 2) (v := .int 2) (C := RX0) (T := TX0) (N := 4) hx hb hts wi_X5_digest_RX0 hown hK hP 1 rfl rfl 1 (by decide) (hts _ wd447_X5_digest) (fun _ h9 => h9) rfl dX5_digest_101 ?_
  refine lv_icmp_gt (tgt := 137) hx hb dX5_digest_104 (by decide) (fun h => absurd h (by decide)) (fun _ => ?_)
  refine lv_lload_n hx hb dX5_digest_107 rfl (lv_at hl 1 rfl) ?_
  refine lv_aload_n hx hb dX5_digest_108 rfl (lv_at hl 2 rfl) ?_
  refine lv_iload_n hx hb dX5_digest_109 rfl (lv_at hl 0 rfl) ?_
  refine lv_iconst (v := 0) hx hb dX5_digest_110 (by decide) ?_
  have hF := va_free (wc := [(h0, .inr (7, [.ref h1, .ref h2, .ref h3, .ref h4, .ref h5, .ref h6, .int 0, .int 0, .int 0, .int 0])), (h1, .inr (2, [.int 0, .int 2, .ref h7, .ref h8])), (h2, .inr (3, [.ref h1, .int 0, .int 500, .ref h9, .ref h10, .long 0, .int 0])), (h7, .inl (κ 3, 4, .inr (.inr (.inr (.inr (sel [h11, h12, h13, h14])))))), (h10, .inl (κ 0, 13, .inl (fun _ => 0))), (h12, .inr (6, [.ref h17, .ref h18, .int 0]))]) hD hS hA [0, 1, 2, 3, 5, 7] rfl
  refine va_calli (va_runV (As := [.int 2, .int 0]) (rest := [.long 1596859692874853]) ⟨hx, hb, hml, hown, hts⟩ (k_X5_totalBehind_4 l D κ ε h0 h1 h2 h3 h4 h5 h6 h7 h8 h9 h10 h11 h12 h13 h14 h17 h18 H.size (0) (0) (0) (2) (0) (500) (0)) (cwV 2 hts gX5_digest_X5_totalBehind rfl rfl rfl (by decide +kernel) ⟨(Nat.le_of_ble_eq_true rfl), (Nat.le_of_ble_eq_true rfl)⟩) (pre2_V (q0 := 0) (ci := 7) (wc := [(h0, .inr (7, [.ref h1, .ref h2, .ref h3, .ref h4, .ref h5, .ref h6, .int 0, .int 0, .int 0, .int 0])), (h1, .inr (2, [.int 0, .int 2, .ref h7, .ref h8])), (h2, .inr (3, [.ref h1, .int 0, .int 500, .ref h9, .ref h10, .long 0, .int 0])), (h7, .inl (κ 3, 4, .inr (.inr (.inr (.inr (sel [h11, h12, h13, h14])))))), (h10, .inl (κ 0, 13, .inl (fun _ => 0))), (h12, .inr (6, [.ref h17, .ref h18, .int 0]))]) hP hD hK hE9 hS hA [0, 1, 2, 3, 5, 7] (by decide) rfl rfl rfl) rfl rfl hl.1 rfl (lv_room (Nat.le_of_ble_eq_true rfl)) dX5_digest_111 ⟨(Nat.le_of_ble_eq_true rfl), (Nat.le_of_ble_eq_true rfl)⟩) hS (fun q _ h => hF q h) hF (fun r u3 t H locs ht hvm hw hB hz1 hk1 hS => ?_)
  try dsimp only at hw hB
  obtain ⟨hP1, hD1⟩ := hB
  rw [ht] at hP1
  obtain ⟨hP, hD⟩ := post_j (ws' := [(h0, .inr (7, [.ref h1, .ref h2, .ref h3, .ref h4, .ref h5, .ref h6, .int 0, .int 0, .int 0, .int 0])), (h1, .inr (2, [.int 0, .int 2, .ref h7, .ref h8])), (h2, .inr (3, [.ref h1, .int 0, .int 500, .ref h9, .ref h10, .long 0, .int 0])), (h7, .inl (κ 3, 4, .inr (.inr (.inr (.inr (sel [h11, h12, h13, h14])))))), (h9, .inl (κ 0, 13, .inl (fun _ => 0))), (h10, .inl (κ 0, 13, .inl (fun _ => 0))), (h11, .inr (6, [.ref h15, .ref h16, .int 0])), (h12, .inr (6, [.ref h17, .ref h18, .int 0]))]) (wr := [(h9, .inl (κ 0, 13, .inl (fun _ => 0))), (h11, .inr (6, [.ref h15, .ref h16, .int 0]))]) (w1 := [(h0, .inr (7, [.ref h1, .ref h2, .ref h3, .ref h4, .ref h5, .ref h6, .int 0, .int 0, .int 0, .int 0])), (h1, .inr (2, [.int 0, .int 2, .ref h7, .ref h8])), (h2, .inr (3, [.ref h1, .int 0, .int 500, .ref h9, .ref h10, .long 0, .int 0])), (h7, .inl (κ 3, 4, .inr (.inr (.inr (.inr (sel [h11, h12, h13, h14])))))), (h10, .inl (κ 0, 13, .inl (fun _ => 0))), (h12, .inr (6, [.ref h17, .ref h18, .int 0]))]) hP hD hF [0, 1, 2, 3, 5, 7] rfl [4, 6] rfl (by decide) (by decide) hk1 hP1 hD1 [2, 3, 4, 5, 0, 6, 1, 7] (by decide) rfl
  have hP : va_P D vwCl [(h0, .inr (7, [.ref h1, .ref h2, .ref h3, .ref h4, .ref h5, .ref h6, .int 0, .int 0, .int 0, .int 0])), (h1, .inr (2, [.int 0, .int 2, .ref h7, .ref h8])), (h2, .inr (3, [.ref h1, .int 0, .int 500, .ref h9, .ref h10, .long 0, .int 0])), (h7, .inl (κ 3, 4, .inr (.inr (.inr (.inr (sel [h11, h12, h13, h14])))))), (h9, .inl (κ 0, 13, .inl (fun _ => 0))), (h10, .inl (κ 0, 13, .inl (fun _ => 0))), (h11, .inr (6, [.ref h15, .ref h16, .int 0])), (h12, .inr (6, [.ref h17, .ref h18, .int 0]))] H := hP
  have hD : va_D A [(h0, .inr (7, [.ref h1, .ref h2, .ref h3, .ref h4, .ref h5, .ref h6, .int 0, .int 0, .int 0, .int 0])), (h1, .inr (2, [.int 0, .int 2, .ref h7, .ref h8])), (h2, .inr (3, [.ref h1, .int 0, .int 500, .ref h9, .ref h10, .long 0, .int 0])), (h7, .inl (κ 3, 4, .inr (.inr (.inr (.inr (sel [h11, h12, h13, h14])))))), (h9, .inl (κ 0, 13, .inl (fun _ => 0))), (h10, .inl (κ 0, 13, .inl (fun _ => 0))), (h11, .inr (6, [.ref h15, .ref h16, .int 0])), (h12, .inr (6, [.ref h17, .ref h18, .int 0]))] := hD
  rw [hw]
  refine lv_i2l (v := 0) hx hb dX5_digest_114 (by decide) ?_
  refine vp_callSl (W.runS (As := [.long 1596859692874853, .long 0]) (rest := []) ⟨hx, hb, hml, hown, hts⟩ (k_X5_mix_7 l D κ ε) (va_cwS 2 hts gX5_digest_X5_mix rfl rfl rfl (by decide +kernel) ⟨(Nat.le_of_ble_eq_true rfl), (Nat.le_of_ble_eq_true rfl)⟩) (pre0_S (wc := []) hP hK [] rfl) rfl rfl hl.1 rfl (lv_room (Nat.le_of_ble_eq_true rfl)) dX5_digest_115 ⟨(Nat.le_of_ble_eq_true rfl), (Nat.le_of_ble_eq_true rfl)⟩) (fun r hw => ?_)
  rw [hw]
  refine lv_lstore_n (lv' := [(1, .long 49502650479120443), (3, .int 2), (0, .ref h0)]) hx hb dX5_digest_118 rfl hl (by decide) rfl (fun ls hl => ?_)
  refine lv_lload_n hx hb dX5_digest_119 rfl (lv_at hl 0 rfl) ?_
  refine lv_aload_n hx hb dX5_digest_120 rfl (lv_at hl 2 rfl) ?_
  refine lv_iload_n hx hb dX5_digest_121 rfl (lv_at hl 1 rfl) ?_
  refine lv_iconst (v := 1) hx hb dX5_digest_122 (by decide) ?_
  have hF := va_free (wc := [(h0, .inr (7, [.ref h1, .ref h2, .ref h3, .ref h4, .ref h5, .ref h6, .int 0, .int 0, .int 0, .int 0])), (h1, .inr (2, [.int 0, .int 2, .ref h7, .ref h8])), (h2, .inr (3, [.ref h1, .int 0, .int 500, .ref h9, .ref h10, .long 0, .int 0])), (h7, .inl (κ 3, 4, .inr (.inr (.inr (.inr (sel [h11, h12, h13, h14])))))), (h10, .inl (κ 0, 13, .inl (fun _ => 0))), (h12, .inr (6, [.ref h17, .ref h18, .int 0]))]) hD hS hA [0, 1, 2, 3, 5, 7] rfl
  refine va_calli (va_runV (As := [.int 2, .int 1]) (rest := [.long 49502650479120443]) ⟨hx, hb, hml, hown, hts⟩ (k_X5_totalBehind_5 l D κ ε h0 h1 h2 h3 h4 h5 h6 h7 h8 h9 h10 h11 h12 h13 h14 h17 h18 H.size (0) (0) (0) (2) (0) (500) (0)) (cwV 2 hts gX5_digest_X5_totalBehind rfl rfl rfl (by decide +kernel) ⟨(Nat.le_of_ble_eq_true rfl), (Nat.le_of_ble_eq_true rfl)⟩) (pre2_V (q0 := 0) (ci := 7) (wc := [(h0, .inr (7, [.ref h1, .ref h2, .ref h3, .ref h4, .ref h5, .ref h6, .int 0, .int 0, .int 0, .int 0])), (h1, .inr (2, [.int 0, .int 2, .ref h7, .ref h8])), (h2, .inr (3, [.ref h1, .int 0, .int 500, .ref h9, .ref h10, .long 0, .int 0])), (h7, .inl (κ 3, 4, .inr (.inr (.inr (.inr (sel [h11, h12, h13, h14])))))), (h10, .inl (κ 0, 13, .inl (fun _ => 0))), (h12, .inr (6, [.ref h17, .ref h18, .int 0]))]) hP hD hK hE9 hS hA [0, 1, 2, 3, 5, 7] (by decide) rfl rfl rfl) rfl rfl hl.1 rfl (lv_room (Nat.le_of_ble_eq_true rfl)) dX5_digest_123 ⟨(Nat.le_of_ble_eq_true rfl), (Nat.le_of_ble_eq_true rfl)⟩) hS (fun q _ h => hF q h) hF (fun r u4 t H locs ht hvm hw hB hz1 hk1 hS => ?_)
  try dsimp only at hw hB
  obtain ⟨hP1, hD1⟩ := hB
  rw [ht] at hP1
  obtain ⟨hP, hD⟩ := post_j (ws' := [(h0, .inr (7, [.ref h1, .ref h2, .ref h3, .ref h4, .ref h5, .ref h6, .int 0, .int 0, .int 0, .int 0])), (h1, .inr (2, [.int 0, .int 2, .ref h7, .ref h8])), (h2, .inr (3, [.ref h1, .int 0, .int 500, .ref h9, .ref h10, .long 0, .int 0])), (h7, .inl (κ 3, 4, .inr (.inr (.inr (.inr (sel [h11, h12, h13, h14])))))), (h9, .inl (κ 0, 13, .inl (fun _ => 0))), (h10, .inl (κ 0, 13, .inl (fun _ => 0))), (h11, .inr (6, [.ref h15, .ref h16, .int 0])), (h12, .inr (6, [.ref h17, .ref h18, .int 0]))]) (wr := [(h9, .inl (κ 0, 13, .inl (fun _ => 0))), (h11, .inr (6, [.ref h15, .ref h16, .int 0]))]) (w1 := [(h0, .inr (7, [.ref h1, .ref h2, .ref h3, .ref h4, .ref h5, .ref h6, .int 0, .int 0, .int 0, .int 0])), (h1, .inr (2, [.int 0, .int 2, .ref h7, .ref h8])), (h2, .inr (3, [.ref h1, .int 0, .int 500, .ref h9, .ref h10, .long 0, .int 0])), (h7, .inl (κ 3, 4, .inr (.inr (.inr (.inr (sel [h11, h12, h13, h14])))))), (h10, .inl (κ 0, 13, .inl (fun _ => 0))), (h12, .inr (6, [.ref h17, .ref h18, .int 0]))]) hP hD hF [0, 1, 2, 3, 5, 7] rfl [4, 6] rfl (by decide) (by decide) hk1 hP1 hD1 [2, 3, 4, 5, 0, 6, 1, 7] (by decide) rfl
  have hP : va_P D vwCl [(h0, .inr (7, [.ref h1, .ref h2, .ref h3, .ref h4, .ref h5, .ref h6, .int 0, .int 0, .int 0, .int 0])), (h1, .inr (2, [.int 0, .int 2, .ref h7, .ref h8])), (h2, .inr (3, [.ref h1, .int 0, .int 500, .ref h9, .ref h10, .long 0, .int 0])), (h7, .inl (κ 3, 4, .inr (.inr (.inr (.inr (sel [h11, h12, h13, h14])))))), (h9, .inl (κ 0, 13, .inl (fun _ => 0))), (h10, .inl (κ 0, 13, .inl (fun _ => 0))), (h11, .inr (6, [.ref h15, .ref h16, .int 0])), (h12, .inr (6, [.ref h17, .ref h18, .int 0]))] H := hP
  have hD : va_D A [(h0, .inr (7, [.ref h1, .ref h2, .ref h3, .ref h4, .ref h5, .ref h6, .int 0, .int 0, .int 0, .int 0])), (h1, .inr (2, [.int 0, .int 2, .ref h7, .ref h8])), (h2, .inr (3, [.ref h1, .int 0, .int 500, .ref h9, .ref h10, .long 0, .int 0])), (h7, .inl (κ 3, 4, .inr (.inr (.inr (.inr (sel [h11, h12, h13, h14])))))), (h9, .inl (κ 0, 13, .inl (fun _ => 0))), (h10, .inl (κ 0, 13, .inl (fun _ => 0))), (h11, .inr (6, [.ref h15, .ref h16, .int 0])), (h12, .inr (6, [.ref h17, .ref h18, .int 0]))] := hD
  rw [hw]
  refine lv_i2l (v := 0) hx hb dX5_digest_126 (by decide) ?_
  refine vp_callSl (W.runS (As := [.long 49502650479120443, .long 0]) (rest := []) ⟨hx, hb, hml, hown, hts⟩ (k_X5_mix_8 l D κ ε) (va_cwS 2 hts gX5_digest_X5_mix rfl rfl rfl (by decide +kernel) ⟨(Nat.le_of_ble_eq_true rfl), (Nat.le_of_ble_eq_true rfl)⟩) (pre0_S (wc := []) hP hK [] rfl) rfl rfl hl.1 rfl (lv_room (Nat.le_of_ble_eq_true rfl)) dX5_digest_127 ⟨(Nat.le_of_ble_eq_true rfl), (Nat.le_of_ble_eq_true rfl)⟩) (fun r hw => ?_)
  rw [hw]
  refine lv_lstore_n (lv' := [(1, .long 1534582164852733733), (3, .int 2), (0, .ref h0)]) hx hb dX5_digest_130 rfl hl (by decide) rfl (fun ls hl => ?_)
  refine lv_iinc (v := 3) (lv' := [(3, .int 3), (1, .long 1534582164852733733), (0, .ref h0)]) hx hb dX5_digest_131 hl (k := 1) rfl (by decide) (by decide) rfl (fun ls hl => ?_)
  refine lv_goto (tgt := 96) hx hb dX5_digest_134 (by decide) ?_
  refine lv_iload_n hx hb dX5_digest_96 rfl (lv_at hl 0 rfl) ?_
  refine lv_aload_n hx hb dX5_digest_97 rfl (lv_at hl 2 rfl) ?_
  refine va_get (D := D) (ci := 7) (v := .ref h1) (C := RX5) (T := TX5) (N := 10) hx hb hts wi_X5_digest_RX5 hown hK hP 0 rfl rfl 0 (by decide) (hts _ wd445_X5_digest) (fun _ h9 => h9) rfl dX5_digest_98 ?_
  refine va_get (D := D) (ci := 2) (v := .int 2) (C := RX0) (T := TX0) (N := 4) hx hb hts wi_X5_digest_RX0 hown hK hP 1 rfl rfl 1 (by decide) (hts _ wd447_X5_digest) (fun _ h9 => h9) rfl dX5_digest_101 ?_
  refine lv_icmp_gt (tgt := 137) hx hb dX5_digest_104 (by decide) (fun _ => ?_) (fun h => absurd (by decide) h)
  refine lv_aload_n hx hb dX5_digest_137 rfl (lv_at hl 2 rfl) ?_
  refine lv_lload_n hx hb dX5_digest_138 rfl (lv_at hl 1 rfl) ?_
  have hF := va_free (wc := [(h0, .inr (7, [.ref h1, .ref h2, .ref h3, .ref h4, .ref h5, .ref h6, .int 0, .int 0, .int 0, .int 0])), (h1, .inr (2, [.int 0, .int 2, .ref h7, .ref h8])), (h2, .inr (3, [.ref h1, .int 0, .int 500, .ref h9, .ref h10, .long 0, .int 0])), (h7, .inl (κ 3, 4, .inr (.inr (.inr (.inr (sel [h11, h12, h13, h14])))))), (h9, .inl (κ 0, 13, .inl (fun _ => 0))), (h10, .inl (κ 0, 13, .inl (fun _ => 0))), (h12, .inr (6, [.ref h17, .ref h18, .int 0]))]) hD hS hA [0, 1, 2, 3, 4, 5, 7] rfl
  refine va_calll (va_runV (As := [.long 1534582164852733733]) (rest := []) ⟨hx, hb, hml, hown, hts⟩ (k_X5_mixChances_0 l D κ ε h0 h1 h2 h3 h4 h5 h6 h7 h8 h9 h10 h11 h12 h13 h14 h17 h18 H.size (0) (0) (0)) (cwV 1 hts gX5_digest_X5_mixChances rfl rfl rfl (by decide +kernel) ⟨(Nat.le_of_ble_eq_true rfl), (Nat.le_of_ble_eq_true rfl)⟩) (pre2_V (q0 := 0) (ci := 7) (wc := [(h0, .inr (7, [.ref h1, .ref h2, .ref h3, .ref h4, .ref h5, .ref h6, .int 0, .int 0, .int 0, .int 0])), (h1, .inr (2, [.int 0, .int 2, .ref h7, .ref h8])), (h2, .inr (3, [.ref h1, .int 0, .int 500, .ref h9, .ref h10, .long 0, .int 0])), (h7, .inl (κ 3, 4, .inr (.inr (.inr (.inr (sel [h11, h12, h13, h14])))))), (h9, .inl (κ 0, 13, .inl (fun _ => 0))), (h10, .inl (κ 0, 13, .inl (fun _ => 0))), (h12, .inr (6, [.ref h17, .ref h18, .int 0]))]) hP hD hK hE9 hS hA [0, 1, 2, 3, 4, 5, 7] (by decide) rfl rfl rfl) rfl rfl hl.1 rfl (lv_room (Nat.le_of_ble_eq_true rfl)) dX5_digest_139 ⟨(Nat.le_of_ble_eq_true rfl), (Nat.le_of_ble_eq_true rfl)⟩) hS (fun q _ h => hF q h) hF (fun r u5 t H locs ht hvm hw hB hz1 hk1 hS => ?_)
  try dsimp only at hw hB
  obtain ⟨hP1, hD1⟩ := hB
  rw [ht] at hP1
  obtain ⟨hP, hD⟩ := post_j (ws' := [(h0, .inr (7, [.ref h1, .ref h2, .ref h3, .ref h4, .ref h5, .ref h6, .int 0, .int 0, .int 0, .int 0])), (h1, .inr (2, [.int 0, .int 2, .ref h7, .ref h8])), (h2, .inr (3, [.ref h1, .int 0, .int 500, .ref h9, .ref h10, .long 0, .int 0])), (h7, .inl (κ 3, 4, .inr (.inr (.inr (.inr (sel [h11, h12, h13, h14])))))), (h9, .inl (κ 0, 13, .inl (upd (upd (upd (upd (upd (upd (upd (upd (upd (upd (upd (upd (upd (upd (fun _ => 0) 0 1000000) 1 1000000) 2 1000000) 3 1000000) 4 1000000) 5 1000000) 6 1000000) 7 1000000) 8 1000000) 9 1000000) 10 1000000) 11 1000000) 12 1000000) 0 1000000))), (h10, .inl (κ 0, 13, .inl (fun _ => 0))), (h11, .inr (6, [.ref h15, .ref h16, .int 0])), (h12, .inr (6, [.ref h17, .ref h18, .int 0]))]) (wr := [(h11, .inr (6, [.ref h15, .ref h16, .int 0]))]) (w1 := [(h0, .inr (7, [.ref h1, .ref h2, .ref h3, .ref h4, .ref h5, .ref h6, .int 0, .int 0, .int 0, .int 0])), (h1, .inr (2, [.int 0, .int 2, .ref h7, .ref h8])), (h2, .inr (3, [.ref h1, .int 0, .int 500, .ref h9, .ref h10, .long 0, .int 0])), (h7, .inl (κ 3, 4, .inr (.inr (.inr (.inr (sel [h11, h12, h13, h14])))))), (h9, .inl (κ 0, 13, .inl (upd (upd (upd (upd (upd (upd (upd (upd (upd (upd (upd (upd (upd (upd (fun _ => 0) 0 1000000) 1 1000000) 2 1000000) 3 1000000) 4 1000000) 5 1000000) 6 1000000) 7 1000000) 8 1000000) 9 1000000) 10 1000000) 11 1000000) 12 1000000) 0 1000000))), (h10, .inl (κ 0, 13, .inl (fun _ => 0))), (h12, .inr (6, [.ref h17, .ref h18, .int 0]))]) hP hD hF [0, 1, 2, 3, 4, 5, 7] rfl [6] rfl (by decide) (by decide) hk1 hP1 hD1 [1, 2, 3, 4, 5, 6, 0, 7] (by decide) rfl
  have hP : va_P D vwCl [(h0, .inr (7, [.ref h1, .ref h2, .ref h3, .ref h4, .ref h5, .ref h6, .int 0, .int 0, .int 0, .int 0])), (h1, .inr (2, [.int 0, .int 2, .ref h7, .ref h8])), (h2, .inr (3, [.ref h1, .int 0, .int 500, .ref h9, .ref h10, .long 0, .int 0])), (h7, .inl (κ 3, 4, .inr (.inr (.inr (.inr (sel [h11, h12, h13, h14])))))), (h9, .inl (κ 0, 13, .inl (upd (upd (upd (upd (upd (upd (upd (upd (upd (upd (upd (upd (upd (upd (fun _ => 0) 0 1000000) 1 1000000) 2 1000000) 3 1000000) 4 1000000) 5 1000000) 6 1000000) 7 1000000) 8 1000000) 9 1000000) 10 1000000) 11 1000000) 12 1000000) 0 1000000))), (h10, .inl (κ 0, 13, .inl (fun _ => 0))), (h11, .inr (6, [.ref h15, .ref h16, .int 0])), (h12, .inr (6, [.ref h17, .ref h18, .int 0]))] H := hP
  have hD : va_D A [(h0, .inr (7, [.ref h1, .ref h2, .ref h3, .ref h4, .ref h5, .ref h6, .int 0, .int 0, .int 0, .int 0])), (h1, .inr (2, [.int 0, .int 2, .ref h7, .ref h8])), (h2, .inr (3, [.ref h1, .int 0, .int 500, .ref h9, .ref h10, .long 0, .int 0])), (h7, .inl (κ 3, 4, .inr (.inr (.inr (.inr (sel [h11, h12, h13, h14])))))), (h9, .inl (κ 0, 13, .inl (upd (upd (upd (upd (upd (upd (upd (upd (upd (upd (upd (upd (upd (upd (fun _ => 0) 0 1000000) 1 1000000) 2 1000000) 3 1000000) 4 1000000) 5 1000000) 6 1000000) 7 1000000) 8 1000000) 9 1000000) 10 1000000) 11 1000000) 12 1000000) 0 1000000))), (h10, .inl (κ 0, 13, .inl (fun _ => 0))), (h11, .inr (6, [.ref h15, .ref h16, .int 0])), (h12, .inr (6, [.ref h17, .ref h18, .int 0]))] := hD
  rw [hw]
  refine lv_lstore_n (lv' := [(1, .long (-1006065473256011867)), (3, .int 3), (0, .ref h0)]) hx hb dX5_digest_142 rfl hl (by decide) rfl (fun ls hl => ?_)
  refine lv_lload_n hx hb dX5_digest_143 rfl (lv_at hl 0 rfl) ?_
  refine lv_aload_n hx hb dX5_digest_144 rfl (lv_at hl 2 rfl) ?_
  have hF := va_free (wc := [(h0, .inr (7, [.ref h1, .ref h2, .ref h3, .ref h4, .ref h5, .ref h6, .int 0, .int 0, .int 0, .int 0])), (h1, .inr (2, [.int 0, .int 2, .ref h7, .ref h8])), (h2, .inr (3, [.ref h1, .int 0, .int 500, .ref h9, .ref h10, .long 0, .int 0])), (h7, .inl (κ 3, 4, .inr (.inr (.inr (.inr (sel [h11, h12, h13, h14])))))), (h9, .inl (κ 0, 13, .inl (upd (upd (upd (upd (upd (upd (upd (upd (upd (upd (upd (upd (upd (upd (fun _ => 0) 0 1000000) 1 1000000) 2 1000000) 3 1000000) 4 1000000) 5 1000000) 6 1000000) 7 1000000) 8 1000000) 9 1000000) 10 1000000) 11 1000000) 12 1000000) 0 1000000))), (h10, .inl (κ 0, 13, .inl (fun _ => 0))), (h12, .inr (6, [.ref h17, .ref h18, .int 0]))]) hD hS hA [0, 1, 2, 3, 4, 5, 7] rfl
  refine va_calli (va_runV (As := []) (rest := [.long (-1006065473256011867)]) ⟨hx, hb, hml, hown, hts⟩ (k_X5_sumOfCosts_6 l D κ ε h0 h1 h2 h3 h4 h5 h6 h7 h8 h9 h10 h11 h12 h13 h14 h17 h18 H.size (0) (0) (0)) (cwV 0 hts gX5_digest_X5_sumOfCosts rfl rfl rfl (by decide +kernel) ⟨(Nat.le_of_ble_eq_true rfl), (Nat.le_of_ble_eq_true rfl)⟩) (pre2_V (q0 := 0) (ci := 7) (wc := [(h0, .inr (7, [.ref h1, .ref h2, .ref h3, .ref h4, .ref h5, .ref h6, .int 0, .int 0, .int 0, .int 0])), (h1, .inr (2, [.int 0, .int 2, .ref h7, .ref h8])), (h2, .inr (3, [.ref h1, .int 0, .int 500, .ref h9, .ref h10, .long 0, .int 0])), (h7, .inl (κ 3, 4, .inr (.inr (.inr (.inr (sel [h11, h12, h13, h14])))))), (h9, .inl (κ 0, 13, .inl (upd (upd (upd (upd (upd (upd (upd (upd (upd (upd (upd (upd (upd (upd (fun _ => 0) 0 1000000) 1 1000000) 2 1000000) 3 1000000) 4 1000000) 5 1000000) 6 1000000) 7 1000000) 8 1000000) 9 1000000) 10 1000000) 11 1000000) 12 1000000) 0 1000000))), (h10, .inl (κ 0, 13, .inl (fun _ => 0))), (h12, .inr (6, [.ref h17, .ref h18, .int 0]))]) hP hD hK hE9 hS hA [0, 1, 2, 3, 4, 5, 7] (by decide) rfl rfl rfl) rfl rfl hl.1 rfl (lv_room (Nat.le_of_ble_eq_true rfl)) dX5_digest_145 ⟨(Nat.le_of_ble_eq_true rfl), (Nat.le_of_ble_eq_true rfl)⟩) hS (fun q _ h => hF q h) hF (fun r u6 t H locs ht hvm hw hB hz1 hk1 hS => ?_)
  try dsimp only at hw hB
  obtain ⟨hP1, hD1⟩ := hB
  rw [ht] at hP1
  obtain ⟨hP, hD⟩ := post_j (ws' := [(h0, .inr (7, [.ref h1, .ref h2, .ref h3, .ref h4, .ref h5, .ref h6, .int 0, .int 0, .int 0, .int 0])), (h1, .inr (2, [.int 0, .int 2, .ref h7, .ref h8])), (h2, .inr (3, [.ref h1, .int 0, .int 500, .ref h9, .ref h10, .long 0, .int 0])), (h7, .inl (κ 3, 4, .inr (.inr (.inr (.inr (sel [h11, h12, h13, h14])))))), (h9, .inl (κ 0, 13, .inl (upd (upd (upd (upd (upd (upd (upd (upd (upd (upd (upd (upd (upd (upd (upd (upd (upd (upd (upd (upd (upd (upd (upd (upd (upd (upd (upd (upd (fun _ => 0) 0 1000000) 1 1000000) 2 1000000) 3 1000000) 4 1000000) 5 1000000) 6 1000000) 7 1000000) 8 1000000) 9 1000000) 10 1000000) 11 1000000) 12 1000000) 0 1000000) 0 1000000) 1 1000000) 2 1000000) 3 1000000) 4 1000000) 5 1000000) 6 1000000) 7 1000000) 8 1000000) 9 1000000) 10 1000000) 11 1000000) 12 1000000) 0 1000000))), (h10, .inl (κ 0, 13, .inl (fun _ => 0))), (h11, .inr (6, [.ref h15, .ref h16, .int 0])), (h12, .inr (6, [.ref h17, .ref h18, .int 0]))]) (wr := [(h11, .inr (6, [.ref h15, .ref h16, .int 0]))]) (w1 := [(h0, .inr (7, [.ref h1, .ref h2, .ref h3, .ref h4, .ref h5, .ref h6, .int 0, .int 0, .int 0, .int 0])), (h1, .inr (2, [.int 0, .int 2, .ref h7, .ref h8])), (h2, .inr (3, [.ref h1, .int 0, .int 500, .ref h9, .ref h10, .long 0, .int 0])), (h7, .inl (κ 3, 4, .inr (.inr (.inr (.inr (sel [h11, h12, h13, h14])))))), (h9, .inl (κ 0, 13, .inl (upd (upd (upd (upd (upd (upd (upd (upd (upd (upd (upd (upd (upd (upd (upd (upd (upd (upd (upd (upd (upd (upd (upd (upd (upd (upd (upd (upd (fun _ => 0) 0 1000000) 1 1000000) 2 1000000) 3 1000000) 4 1000000) 5 1000000) 6 1000000) 7 1000000) 8 1000000) 9 1000000) 10 1000000) 11 1000000) 12 1000000) 0 1000000) 0 1000000) 1 1000000) 2 1000000) 3 1000000) 4 1000000) 5 1000000) 6 1000000) 7 1000000) 8 1000000) 9 1000000) 10 1000000) 11 1000000) 12 1000000) 0 1000000))), (h10, .inl (κ 0, 13, .inl (fun _ => 0))), (h12, .inr (6, [.ref h17, .ref h18, .int 0]))]) hP hD hF [0, 1, 2, 3, 4, 5, 7] rfl [6] rfl (by decide) (by decide) hk1 hP1 hD1 [1, 2, 3, 4, 5, 6, 0, 7] (by decide) rfl
  have hP : va_P D vwCl [(h0, .inr (7, [.ref h1, .ref h2, .ref h3, .ref h4, .ref h5, .ref h6, .int 0, .int 0, .int 0, .int 0])), (h1, .inr (2, [.int 0, .int 2, .ref h7, .ref h8])), (h2, .inr (3, [.ref h1, .int 0, .int 500, .ref h9, .ref h10, .long 0, .int 0])), (h7, .inl (κ 3, 4, .inr (.inr (.inr (.inr (sel [h11, h12, h13, h14])))))), (h9, .inl (κ 0, 13, .inl (upd (upd (upd (upd (upd (upd (upd (upd (upd (upd (upd (upd (upd (upd (upd (upd (upd (upd (upd (upd (upd (upd (upd (upd (upd (upd (upd (upd (fun _ => 0) 0 1000000) 1 1000000) 2 1000000) 3 1000000) 4 1000000) 5 1000000) 6 1000000) 7 1000000) 8 1000000) 9 1000000) 10 1000000) 11 1000000) 12 1000000) 0 1000000) 0 1000000) 1 1000000) 2 1000000) 3 1000000) 4 1000000) 5 1000000) 6 1000000) 7 1000000) 8 1000000) 9 1000000) 10 1000000) 11 1000000) 12 1000000) 0 1000000))), (h10, .inl (κ 0, 13, .inl (fun _ => 0))), (h11, .inr (6, [.ref h15, .ref h16, .int 0])), (h12, .inr (6, [.ref h17, .ref h18, .int 0]))] H := hP
  have hD : va_D A [(h0, .inr (7, [.ref h1, .ref h2, .ref h3, .ref h4, .ref h5, .ref h6, .int 0, .int 0, .int 0, .int 0])), (h1, .inr (2, [.int 0, .int 2, .ref h7, .ref h8])), (h2, .inr (3, [.ref h1, .int 0, .int 500, .ref h9, .ref h10, .long 0, .int 0])), (h7, .inl (κ 3, 4, .inr (.inr (.inr (.inr (sel [h11, h12, h13, h14])))))), (h9, .inl (κ 0, 13, .inl (upd (upd (upd (upd (upd (upd (upd (upd (upd (upd (upd (upd (upd (upd (upd (upd (upd (upd (upd (upd (upd (upd (upd (upd (upd (upd (upd (upd (fun _ => 0) 0 1000000) 1 1000000) 2 1000000) 3 1000000) 4 1000000) 5 1000000) 6 1000000) 7 1000000) 8 1000000) 9 1000000) 10 1000000) 11 1000000) 12 1000000) 0 1000000) 0 1000000) 1 1000000) 2 1000000) 3 1000000) 4 1000000) 5 1000000) 6 1000000) 7 1000000) 8 1000000) 9 1000000) 10 1000000) 11 1000000) 12 1000000) 0 1000000))), (h10, .inl (κ 0, 13, .inl (fun _ => 0))), (h11, .inr (6, [.ref h15, .ref h16, .int 0])), (h12, .inr (6, [.ref h17, .ref h18, .int 0]))] := hD
  rw [hw]
  refine lv_i2l (v := 0) hx hb dX5_digest_148 (by decide) ?_
  refine vp_callSl (W.runS (As := [.long (-1006065473256011867), .long 0]) (rest := []) ⟨hx, hb, hml, hown, hts⟩ (k_X5_mix_11 l D κ ε) (va_cwS 2 hts gX5_digest_X5_mix rfl rfl rfl (by decide +kernel) ⟨(Nat.le_of_ble_eq_true rfl), (Nat.le_of_ble_eq_true rfl)⟩) (pre0_S (wc := []) hP hK [] rfl) rfl rfl hl.1 rfl (lv_room (Nat.le_of_ble_eq_true rfl)) dX5_digest_149 ⟨(Nat.le_of_ble_eq_true rfl), (Nat.le_of_ble_eq_true rfl)⟩) (fun r hw => ?_)
  rw [hw]
  refine lv_lstore_n (lv' := [(1, .long 5705458476482735355), (3, .int 3), (0, .ref h0)]) hx hb dX5_digest_152 rfl hl (by decide) rfl (fun ls hl => ?_)
  refine lv_lload_n hx hb dX5_digest_153 rfl (lv_at hl 0 rfl) ?_
  refine lv_aload_n hx hb dX5_digest_154 rfl (lv_at hl 2 rfl) ?_
  refine va_get (D := D) (ci := 7) (v := .int 0) (C := RX5) (T := TX5) (N := 10) hx hb hts wi_X5_digest_RX5 hown hK hP 0 rfl rfl 7 (by decide) (hts _ wd449_X5_digest) (fun _ h9 => h9) rfl dX5_digest_155 ?_
  refine lv_i2l (v := 0) hx hb dX5_digest_158 (by decide) ?_
  refine vp_callSl (W.runS (As := [.long 5705458476482735355, .long 0]) (rest := []) ⟨hx, hb, hml, hown, hts⟩ (k_X5_mix_12 l D κ ε) (va_cwS 2 hts gX5_digest_X5_mix rfl rfl rfl (by decide +kernel) ⟨(Nat.le_of_ble_eq_true rfl), (Nat.le_of_ble_eq_true rfl)⟩) (pre0_S (wc := []) hP hK [] rfl) rfl rfl hl.1 rfl (lv_room (Nat.le_of_ble_eq_true rfl)) dX5_digest_159 ⟨(Nat.le_of_ble_eq_true rfl), (Nat.le_of_ble_eq_true rfl)⟩) (fun r hw => ?_)
  rw [hw]
  refine lv_lstore_n (lv' := [(1, .long (-7598227966130720155)), (3, .int 3), (0, .ref h0)]) hx hb dX5_digest_162 rfl hl (by decide) rfl (fun ls hl => ?_)
  refine lv_lload_n hx hb dX5_digest_163 rfl (lv_at hl 0 rfl) ?_
  refine lv_aload_n hx hb dX5_digest_164 rfl (lv_at hl 2 rfl) ?_
  refine va_get (D := D) (ci := 7) (v := .int 0) (C := RX5) (T := TX5) (N := 10) hx hb hts wi_X5_digest_RX5 hown hK hP 0 rfl rfl 8 (by decide) (hts _ wd450_X5_digest) (fun _ h9 => h9) rfl dX5_digest_165 ?_
  refine lv_i2l (v := 0) hx hb dX5_digest_168 (by decide) ?_
  refine vp_callSl (W.runS (As := [.long (-7598227966130720155), .long 0]) (rest := []) ⟨hx, hb, hml, hown, hts⟩ (k_X5_mix_13 l D κ ε) (va_cwS 2 hts gX5_digest_X5_mix rfl rfl rfl (by decide +kernel) ⟨(Nat.le_of_ble_eq_true rfl), (Nat.le_of_ble_eq_true rfl)⟩) (pre0_S (wc := []) hP hK [] rfl) rfl rfl hl.1 rfl (lv_room (Nat.le_of_ble_eq_true rfl)) dX5_digest_169 ⟨(Nat.le_of_ble_eq_true rfl), (Nat.le_of_ble_eq_true rfl)⟩) (fun r hw => ?_)
  rw [hw]
  refine lv_lstore_n (lv' := [(1, .long 4262606008171846203), (3, .int 3), (0, .ref h0)]) hx hb dX5_digest_172 rfl hl (by decide) rfl (fun ls hl => ?_)
  refine lv_lload_n hx hb dX5_digest_173 rfl (lv_at hl 0 rfl) ?_
  refine lv_aload_n hx hb dX5_digest_174 rfl (lv_at hl 2 rfl) ?_
  refine va_get (D := D) (ci := 7) (v := .int 0) (C := RX5) (T := TX5) (N := 10) hx hb hts wi_X5_digest_RX5 hown hK hP 0 rfl rfl 9 (by decide) (hts _ wd451_X5_digest) (fun _ h9 => h9) rfl dX5_digest_175 ?_
  refine lv_if_eq (tgt := 185) hx hb dX5_digest_178 (by decide) (fun _ => ?_) (fun h => absurd (by decide) h)
  refine lv_lconst (v := 0) hx hb dX5_digest_185 (by decide) ?_
  refine vp_callSl (W.runS (As := [.long 4262606008171846203, .long 0]) (rest := []) ⟨hx, hb, hml, hown, hts⟩ (k_X5_mix_14 l D κ ε) (va_cwS 2 hts gX5_digest_X5_mix rfl rfl rfl (by decide +kernel) ⟨(Nat.le_of_ble_eq_true rfl), (Nat.le_of_ble_eq_true rfl)⟩) (pre0_S (wc := []) hP hK [] rfl) rfl rfl hl.1 rfl (lv_room (Nat.le_of_ble_eq_true rfl)) dX5_digest_186 ⟨(Nat.le_of_ble_eq_true rfl), (Nat.le_of_ble_eq_true rfl)⟩) (fun r hw => ?_)
  rw [hw]
  exact W.lret (v := 3013577737360370981) hx hb hr (fun t ht hW => ⟨⟨3013577737360370981, (), rfl, rfl, trivial⟩, hS.F ht⟩) hS.2.2 dX5_digest_189

theorem wd452_X6_add_ : (.constantLong RX6 222 31 : Cond) ∈ wsX6_add_ := by decide +kernel

set_option maxHeartbeats 4000000 in
set_option maxRecDepth 100000 in
theorem k_X6_add__0 (l : Launch) (D : va_G) (κ ε : Nat → Nat) : Met l yX6_add_ wsX6_add_ ({ frames := 0, cells := 0, slots := 0, locals := 0 }) (va_Pc [.long 58041, .long 0] (Pre0 D κ [])) (vp_Sl (fun r => (r = 1799271))) 0 0 (fun _ => False) := by
  refine Met.ofW (cc := cX6_add_) (maxL := 4) (ret := (some .long)) (by decide) rfl ?_
  intro p e s m args below meth c s₁ B hml hv
  obtain ⟨rfl, hP, hK⟩ := hv
  have hx := B.exec
  have hb := B.bytes
  have hr := B.returns
  have hts := atoms_spec (ws := wsX6_add_) B.pre
  have hown : s.vm.findClass RX6 = some m.cls := findClass_of_methodNamed B.named
  have hlocks := B.notSynchronized
  have hP : va_P D vwCl [] s.heap := hP
  have hl := lv_entry [.long 58041, .long 0] (n := 4) (Nat.le_of_ble_eq_true rfl)
  rw [lg_entry_eq]
  generalize (lg_sl [.long 58041, .long 0] ++ List.replicate (4 - (lg_sl [.long 58041, .long 0]).length) Slot.unset).toArray = ls at hl ⊢
  have hl : lv_has ls 4 [(0, .long 58041), (2, .long 0)] := hl
  refine lv_lload_n hx hb dX6_add__0 rfl (lv_at hl 0 rfl) ?_
  refine lv_ldc2 (v := 31) hx hb hown (hts _ wd452_X6_add_) dX6_add__1 ?_
  refine lv_lmul hx hb dX6_add__4 ?_
  refine tpl (v := 1799271) (by decide) ?_
  refine lv_lload_n hx hb dX6_add__5 rfl (lv_at hl 1 rfl) ?_
  refine lv_ladd hx hb dX6_add__6 ?_
  refine tpl (v := 1799271) (by decide) ?_
  exact W.lret (v := 1799271) hx hb hr (fun t ht hW => ⟨1799271, rfl, rfl, ht⟩) (fun q hq => absurd hq List.not_mem_nil) dX6_add__7

set_option maxHeartbeats 4000000 in
set_option maxRecDepth 100000 in
theorem k_X6_add__1 (l : Launch) (D : va_G) (κ ε : Nat → Nat) : Met l yX6_add_ wsX6_add_ ({ frames := 0, cells := 0, slots := 0, locals := 0 }) (va_Pc [.long 1799271, .long 2] (Pre0 D κ [])) (vp_Sl (fun r => (r = 55777403))) 0 0 (fun _ => False) := by
  refine Met.ofW (cc := cX6_add_) (maxL := 4) (ret := (some .long)) (by decide) rfl ?_
  intro p e s m args below meth c s₁ B hml hv
  obtain ⟨rfl, hP, hK⟩ := hv
  have hx := B.exec
  have hb := B.bytes
  have hr := B.returns
  have hts := atoms_spec (ws := wsX6_add_) B.pre
  have hown : s.vm.findClass RX6 = some m.cls := findClass_of_methodNamed B.named
  have hlocks := B.notSynchronized
  have hP : va_P D vwCl [] s.heap := hP
  have hl := lv_entry [.long 1799271, .long 2] (n := 4) (Nat.le_of_ble_eq_true rfl)
  rw [lg_entry_eq]
  generalize (lg_sl [.long 1799271, .long 2] ++ List.replicate (4 - (lg_sl [.long 1799271, .long 2]).length) Slot.unset).toArray = ls at hl ⊢
  have hl : lv_has ls 4 [(0, .long 1799271), (2, .long 2)] := hl
  refine lv_lload_n hx hb dX6_add__0 rfl (lv_at hl 0 rfl) ?_
  refine lv_ldc2 (v := 31) hx hb hown (hts _ wd452_X6_add_) dX6_add__1 ?_
  refine lv_lmul hx hb dX6_add__4 ?_
  refine tpl (v := 55777401) (by decide) ?_
  refine lv_lload_n hx hb dX6_add__5 rfl (lv_at hl 1 rfl) ?_
  refine lv_ladd hx hb dX6_add__6 ?_
  refine tpl (v := 55777403) (by decide) ?_
  exact W.lret (v := 55777403) hx hb hr (fun t ht hW => ⟨55777403, rfl, rfl, ht⟩) (fun q hq => absurd hq List.not_mem_nil) dX6_add__7

set_option maxHeartbeats 4000000 in
set_option maxRecDepth 100000 in
theorem k_X6_add__2 (l : Launch) (D : va_G) (κ ε : Nat → Nat) : Met l yX6_add_ wsX6_add_ ({ frames := 0, cells := 0, slots := 0, locals := 0 }) (va_Pc [.long 55777403, .long 0] (Pre0 D κ [])) (vp_Sl (fun r => (r = 1729099493))) 0 0 (fun _ => False) := by
  refine Met.ofW (cc := cX6_add_) (maxL := 4) (ret := (some .long)) (by decide) rfl ?_
  intro p e s m args below meth c s₁ B hml hv
  obtain ⟨rfl, hP, hK⟩ := hv
  have hx := B.exec
  have hb := B.bytes
  have hr := B.returns
  have hts := atoms_spec (ws := wsX6_add_) B.pre
  have hown : s.vm.findClass RX6 = some m.cls := findClass_of_methodNamed B.named
  have hlocks := B.notSynchronized
  have hP : va_P D vwCl [] s.heap := hP
  have hl := lv_entry [.long 55777403, .long 0] (n := 4) (Nat.le_of_ble_eq_true rfl)
  rw [lg_entry_eq]
  generalize (lg_sl [.long 55777403, .long 0] ++ List.replicate (4 - (lg_sl [.long 55777403, .long 0]).length) Slot.unset).toArray = ls at hl ⊢
  have hl : lv_has ls 4 [(0, .long 55777403), (2, .long 0)] := hl
  refine lv_lload_n hx hb dX6_add__0 rfl (lv_at hl 0 rfl) ?_
  refine lv_ldc2 (v := 31) hx hb hown (hts _ wd452_X6_add_) dX6_add__1 ?_
  refine lv_lmul hx hb dX6_add__4 ?_
  refine tpl (v := 1729099493) (by decide) ?_
  refine lv_lload_n hx hb dX6_add__5 rfl (lv_at hl 1 rfl) ?_
  refine lv_ladd hx hb dX6_add__6 ?_
  refine tpl (v := 1729099493) (by decide) ?_
  exact W.lret (v := 1729099493) hx hb hr (fun t ht hW => ⟨1729099493, rfl, rfl, ht⟩) (fun q hq => absurd hq List.not_mem_nil) dX6_add__7

set_option maxHeartbeats 4000000 in
set_option maxRecDepth 100000 in
theorem k_X6_add__3 (l : Launch) (D : va_G) (κ ε : Nat → Nat) : Met l yX6_add_ wsX6_add_ ({ frames := 0, cells := 0, slots := 0, locals := 0 }) (va_Pc [.long 1729099493, .long 0] (Pre0 D κ [])) (vp_Sl (fun r => (r = 53602084283))) 0 0 (fun _ => False) := by
  refine Met.ofW (cc := cX6_add_) (maxL := 4) (ret := (some .long)) (by decide) rfl ?_
  intro p e s m args below meth c s₁ B hml hv
  obtain ⟨rfl, hP, hK⟩ := hv
  have hx := B.exec
  have hb := B.bytes
  have hr := B.returns
  have hts := atoms_spec (ws := wsX6_add_) B.pre
  have hown : s.vm.findClass RX6 = some m.cls := findClass_of_methodNamed B.named
  have hlocks := B.notSynchronized
  have hP : va_P D vwCl [] s.heap := hP
  have hl := lv_entry [.long 1729099493, .long 0] (n := 4) (Nat.le_of_ble_eq_true rfl)
  rw [lg_entry_eq]
  generalize (lg_sl [.long 1729099493, .long 0] ++ List.replicate (4 - (lg_sl [.long 1729099493, .long 0]).length) Slot.unset).toArray = ls at hl ⊢
  have hl : lv_has ls 4 [(0, .long 1729099493), (2, .long 0)] := hl
  refine lv_lload_n hx hb dX6_add__0 rfl (lv_at hl 0 rfl) ?_
  refine lv_ldc2 (v := 31) hx hb hown (hts _ wd452_X6_add_) dX6_add__1 ?_
  refine lv_lmul hx hb dX6_add__4 ?_
  refine tpl (v := 53602084283) (by decide) ?_
  refine lv_lload_n hx hb dX6_add__5 rfl (lv_at hl 1 rfl) ?_
  refine lv_ladd hx hb dX6_add__6 ?_
  refine tpl (v := 53602084283) (by decide) ?_
  exact W.lret (v := 53602084283) hx hb hr (fun t ht hW => ⟨53602084283, rfl, rfl, ht⟩) (fun q hq => absurd hq List.not_mem_nil) dX6_add__7

set_option maxHeartbeats 4000000 in
set_option maxRecDepth 100000 in
theorem k_X6_add__4 (l : Launch) (D : va_G) (κ ε : Nat → Nat) : Met l yX6_add_ wsX6_add_ ({ frames := 0, cells := 0, slots := 0, locals := 0 }) (va_Pc [.long 53602084283, .long 0] (Pre0 D κ [])) (vp_Sl (fun r => (r = 1661664612773))) 0 0 (fun _ => False) := by
  refine Met.ofW (cc := cX6_add_) (maxL := 4) (ret := (some .long)) (by decide) rfl ?_
  intro p e s m args below meth c s₁ B hml hv
  obtain ⟨rfl, hP, hK⟩ := hv
  have hx := B.exec
  have hb := B.bytes
  have hr := B.returns
  have hts := atoms_spec (ws := wsX6_add_) B.pre
  have hown : s.vm.findClass RX6 = some m.cls := findClass_of_methodNamed B.named
  have hlocks := B.notSynchronized
  have hP : va_P D vwCl [] s.heap := hP
  have hl := lv_entry [.long 53602084283, .long 0] (n := 4) (Nat.le_of_ble_eq_true rfl)
  rw [lg_entry_eq]
  generalize (lg_sl [.long 53602084283, .long 0] ++ List.replicate (4 - (lg_sl [.long 53602084283, .long 0]).length) Slot.unset).toArray = ls at hl ⊢
  have hl : lv_has ls 4 [(0, .long 53602084283), (2, .long 0)] := hl
  refine lv_lload_n hx hb dX6_add__0 rfl (lv_at hl 0 rfl) ?_
  refine lv_ldc2 (v := 31) hx hb hown (hts _ wd452_X6_add_) dX6_add__1 ?_
  refine lv_lmul hx hb dX6_add__4 ?_
  refine tpl (v := 1661664612773) (by decide) ?_
  refine lv_lload_n hx hb dX6_add__5 rfl (lv_at hl 1 rfl) ?_
  refine lv_ladd hx hb dX6_add__6 ?_
  refine tpl (v := 1661664612773) (by decide) ?_
  exact W.lret (v := 1661664612773) hx hb hr (fun t ht hW => ⟨1661664612773, rfl, rfl, ht⟩) (fun q hq => absurd hq List.not_mem_nil) dX6_add__7

set_option maxHeartbeats 4000000 in
set_option maxRecDepth 100000 in
theorem k_X6_add__5 (l : Launch) (D : va_G) (κ ε : Nat → Nat) : Met l yX6_add_ wsX6_add_ ({ frames := 0, cells := 0, slots := 0, locals := 0 }) (va_Pc [.long 1661664612773, .long 0] (Pre0 D κ [])) (vp_Sl (fun r => (r = 51511602995963))) 0 0 (fun _ => False) := by
  refine Met.ofW (cc := cX6_add_) (maxL := 4) (ret := (some .long)) (by decide) rfl ?_
  intro p e s m args below meth c s₁ B hml hv
  obtain ⟨rfl, hP, hK⟩ := hv
  have hx := B.exec
  have hb := B.bytes
  have hr := B.returns
  have hts := atoms_spec (ws := wsX6_add_) B.pre
  have hown : s.vm.findClass RX6 = some m.cls := findClass_of_methodNamed B.named
  have hlocks := B.notSynchronized
  have hP : va_P D vwCl [] s.heap := hP
  have hl := lv_entry [.long 1661664612773, .long 0] (n := 4) (Nat.le_of_ble_eq_true rfl)
  rw [lg_entry_eq]
  generalize (lg_sl [.long 1661664612773, .long 0] ++ List.replicate (4 - (lg_sl [.long 1661664612773, .long 0]).length) Slot.unset).toArray = ls at hl ⊢
  have hl : lv_has ls 4 [(0, .long 1661664612773), (2, .long 0)] := hl
  refine lv_lload_n hx hb dX6_add__0 rfl (lv_at hl 0 rfl) ?_
  refine lv_ldc2 (v := 31) hx hb hown (hts _ wd452_X6_add_) dX6_add__1 ?_
  refine lv_lmul hx hb dX6_add__4 ?_
  refine tpl (v := 51511602995963) (by decide) ?_
  refine lv_lload_n hx hb dX6_add__5 rfl (lv_at hl 1 rfl) ?_
  refine lv_ladd hx hb dX6_add__6 ?_
  refine tpl (v := 51511602995963) (by decide) ?_
  exact W.lret (v := 51511602995963) hx hb hr (fun t ht hW => ⟨51511602995963, rfl, rfl, ht⟩) (fun q hq => absurd hq List.not_mem_nil) dX6_add__7

set_option maxHeartbeats 4000000 in
set_option maxRecDepth 100000 in
theorem k_X6_context_4 (l : Launch) (D : va_G) (κ ε : Nat → Nat) (h0 h1 h2 h3 h4 h5 h6 h7 : Nat) (p0 : Int32) (p1 : Int32) (p2 : Int32) (p3 : Int32) (p4 : Int32) (p5 : Int32) (p6 : Int32) (p7 : Int32) : Met l yX6_context wsX6_context ({ frames := 1, cells := 0, slots := 0, locals := 24 }) (va_Pc [.ref h0, .int 1, .int 1] (Pre0 D κ [(h0, .inr (8, [.int p0, .int p1, .int p2, .ref h1, .ref h2, .int p3, .int p4, .int p5, .int p6, .int 0, .ref h3])), (h1, .inr (1, [.int p7, .ref (ε 1), .int 0])), (h2, .inl (κ 4, 4, .inr (.inr (.inr (.inr (sel [h4, h5, h6, h7])))))), (h4, .inl (κ 0, 14, .inl (fun _ => 0)))])) (vp_Si (fun r => (r = 0))) 0 0 (fun _ => False) := by
  refine Met.ofW (cc := cX6_context) (maxL := 4) (ret := (some .int)) (by decide) rfl ?_
  intro p e s m args below meth c s₁ B hml hv
  obtain ⟨rfl, hP, hK⟩ := hv
  have hx := B.exec
  have hb := B.bytes
  have hr := B.returns
  have hts := atoms_spec (ws := wsX6_context) B.pre
  have hown : s.vm.findClass RX6 = some m.cls := findClass_of_methodNamed B.named
  have hlocks := B.notSynchronized
  have hP : va_P D vwCl [(h0, .inr (8, [.int p0, .int p1, .int p2, .ref h1, .ref h2, .int p3, .int p4, .int p5, .int p6, .int 0, .ref h3])), (h1, .inr (1, [.int p7, .ref (ε 1), .int 0])), (h2, .inl (κ 4, 4, .inr (.inr (.inr (.inr (sel [h4, h5, h6, h7])))))), (h4, .inl (κ 0, 14, .inl (fun _ => 0)))] s.heap := hP
  have hl := lv_entry [.ref h0, .int 1, .int 1] (n := 4) (Nat.le_of_ble_eq_true rfl)
  rw [lg_entry_eq]
  generalize (lg_sl [.ref h0, .int 1, .int 1] ++ List.replicate (4 - (lg_sl [.ref h0, .int 1, .int 1]).length) Slot.unset).toArray = ls at hl ⊢
  have hl : lv_has ls 4 [(0, .ref h0), (1, .int 1), (2, .int 1)] := hl
  refine lv_aload_n hx hb dX6_context_0 rfl (lv_at hl 0 rfl) ?_
  refine va_get (D := D) (ci := 8) (v := .ref h1) (C := RX6) (T := TX6) (N := 11) hx hb hts wi_X6_context_RX6 hown hK hP 0 rfl rfl 3 (by decide) (hts _ wd244_X6_context) (fun _ h9 => h9) rfl dX6_context_1 ?_
  refine lv_aload_n hx hb dX6_context_4 rfl (lv_at hl 0 rfl) ?_
  refine va_get (D := D) (ci := 8) (v := .ref h1) (C := RX6) (T := TX6) (N := 11) hx hb hts wi_X6_context_RX6 hown hK hP 0 rfl rfl 3 (by decide) (hts _ wd244_X6_context) (fun _ h9 => h9) rfl dX6_context_5 ?_
  refine vp_callSi (W.runV (As := []) (rest := [.ref h1]) ⟨hx, hb, hml, hown, hts⟩ (k_Jx4a65c_size_8abf5_0 l D κ ε h1 (p7)) (cwV 0 hts gX6_context_Jx4a65c_size_8abf5 rfl rfl rfl (by decide +kernel) ⟨(Nat.le_of_ble_eq_true rfl), (Nat.le_of_ble_eq_true rfl)⟩) (pre0_V (q0 := 1) (ci := 1) (wc := [(h1, .inr (1, [.int p7, .ref (ε 1), .int 0]))]) hP hK [1] rfl rfl rfl) rfl rfl hl.1 rfl (lv_room (Nat.le_of_ble_eq_true rfl)) dX6_context_8 ⟨(Nat.le_of_ble_eq_true rfl), (Nat.le_of_ble_eq_true rfl)⟩) (fun r hw => ?_)
  rw [hw]
  refine lv_iload_n hx hb dX6_context_11 rfl (lv_at hl 1 rfl) ?_
  refine lv_iconst (v := 1) hx hb dX6_context_12 (by decide) ?_
  refine lv_isub hx hb dX6_context_13 ?_
  refine tpi (v := 0) (by decide) ?_
  refine vp_callSi (W.runS (As := [.ref h1, .int 0, .int 0]) (rest := []) ⟨hx, hb, hml, hown, hts⟩ (k_X6_ahead_0 l D κ ε h1) (va_cwS 3 hts gX6_context_X6_ahead rfl rfl rfl (by decide +kernel) ⟨(Nat.le_of_ble_eq_true rfl), (Nat.le_of_ble_eq_true rfl)⟩) (pre0_S (wc := []) hP hK [] rfl) rfl rfl hl.1 rfl (lv_room (Nat.le_of_ble_eq_true rfl)) dX6_context_14 ⟨(Nat.le_of_ble_eq_true rfl), (Nat.le_of_ble_eq_true rfl)⟩) (fun r hw => ?_)
  rw [hw]
  refine lv_istore_n (lv' := [(3, .int 0), (0, .ref h0), (1, .int 1), (2, .int 1)]) hx hb dX6_context_17 rfl hl (by decide) rfl (fun ls hl => ?_)
  refine lv_iload_n hx hb dX6_context_18 rfl (lv_at hl 3 rfl) ?_
  refine lv_if_ne (tgt := 37) hx hb dX6_context_19 (by decide) (fun _ => ?_) (fun h => absurd h (by decide))
  refine lv_aload_n hx hb dX6_context_37 rfl (lv_at hl 1 rfl) ?_
  refine va_get (D := D) (ci := 8) (v := .ref h2) (C := RX6) (T := TX6) (N := 11) hx hb hts wi_X6_context_RX6 hown hK hP 0 rfl rfl 4 (by decide) (hts _ wd245_X6_context) (fun _ h9 => h9) rfl dX6_context_38 ?_
  refine lv_iload_n hx hb dX6_context_41 rfl (lv_at hl 2 rfl) ?_
  refine lv_iconst (v := 1) hx hb dX6_context_42 (by decide) ?_
  refine lv_isub hx hb dX6_context_43 ?_
  refine tpi (v := 0) (by decide) ?_
  refine ya_ld2 hx hb hK hP 2 rfl (vpl (by decide)) (v := .ref h4) rfl dX6_context_44 ?_
  refine lv_iload_n hx hb dX6_context_45 rfl (lv_at hl 0 rfl) ?_
  refine vp_callSi (W.runS (As := [.ref h4, .int 0]) (rest := []) ⟨hx, hb, hml, hown, hts⟩ (k_X6_sorts_0 l D κ ε h4) (va_cwS 2 hts gX6_context_X6_sorts rfl rfl rfl (by decide +kernel) ⟨(Nat.le_of_ble_eq_true rfl), (Nat.le_of_ble_eq_true rfl)⟩) (pre0_S (wc := [(h4, .inl (κ 0, 14, .inl (fun _ => 0)))]) hP hK [3] rfl) rfl rfl hl.1 rfl (lv_room (Nat.le_of_ble_eq_true rfl)) dX6_context_46 ⟨(Nat.le_of_ble_eq_true rfl), (Nat.le_of_ble_eq_true rfl)⟩) (fun r hw => ?_)
  rw [hw]
  exact W.iret (v := 0) hx hb hr (fun t ht hW => ⟨0, rfl, rfl, ht⟩) (fun q hq => absurd hq List.not_mem_nil) dX6_context_49

set_option maxHeartbeats 4000000 in
set_option maxRecDepth 100000 in
theorem k_X6_add__6 (l : Launch) (D : va_G) (κ ε : Nat → Nat) : Met l yX6_add_ wsX6_add_ ({ frames := 0, cells := 0, slots := 0, locals := 0 }) (va_Pc [.long 51511602995963, .long 0] (Pre0 D κ [])) (vp_Sl (fun r => (r = 1596859692874853))) 0 0 (fun _ => False) := by
  refine Met.ofW (cc := cX6_add_) (maxL := 4) (ret := (some .long)) (by decide) rfl ?_
  intro p e s m args below meth c s₁ B hml hv
  obtain ⟨rfl, hP, hK⟩ := hv
  have hx := B.exec
  have hb := B.bytes
  have hr := B.returns
  have hts := atoms_spec (ws := wsX6_add_) B.pre
  have hown : s.vm.findClass RX6 = some m.cls := findClass_of_methodNamed B.named
  have hlocks := B.notSynchronized
  have hP : va_P D vwCl [] s.heap := hP
  have hl := lv_entry [.long 51511602995963, .long 0] (n := 4) (Nat.le_of_ble_eq_true rfl)
  rw [lg_entry_eq]
  generalize (lg_sl [.long 51511602995963, .long 0] ++ List.replicate (4 - (lg_sl [.long 51511602995963, .long 0]).length) Slot.unset).toArray = ls at hl ⊢
  have hl : lv_has ls 4 [(0, .long 51511602995963), (2, .long 0)] := hl
  refine lv_lload_n hx hb dX6_add__0 rfl (lv_at hl 0 rfl) ?_
  refine lv_ldc2 (v := 31) hx hb hown (hts _ wd452_X6_add_) dX6_add__1 ?_
  refine lv_lmul hx hb dX6_add__4 ?_
  refine tpl (v := 1596859692874853) (by decide) ?_
  refine lv_lload_n hx hb dX6_add__5 rfl (lv_at hl 1 rfl) ?_
  refine lv_ladd hx hb dX6_add__6 ?_
  refine tpl (v := 1596859692874853) (by decide) ?_
  exact W.lret (v := 1596859692874853) hx hb hr (fun t ht hW => ⟨1596859692874853, rfl, rfl, ht⟩) (fun q hq => absurd hq List.not_mem_nil) dX6_add__7

set_option maxHeartbeats 4000000 in
set_option maxRecDepth 100000 in
theorem k_X6_add__7 (l : Launch) (D : va_G) (κ ε : Nat → Nat) : Met l yX6_add_ wsX6_add_ ({ frames := 0, cells := 0, slots := 0, locals := 0 }) (va_Pc [.long 1596859692874853, .long 0] (Pre0 D κ [])) (vp_Sl (fun r => (r = 49502650479120443))) 0 0 (fun _ => False) := by
  refine Met.ofW (cc := cX6_add_) (maxL := 4) (ret := (some .long)) (by decide) rfl ?_
  intro p e s m args below meth c s₁ B hml hv
  obtain ⟨rfl, hP, hK⟩ := hv
  have hx := B.exec
  have hb := B.bytes
  have hr := B.returns
  have hts := atoms_spec (ws := wsX6_add_) B.pre
  have hown : s.vm.findClass RX6 = some m.cls := findClass_of_methodNamed B.named
  have hlocks := B.notSynchronized
  have hP : va_P D vwCl [] s.heap := hP
  have hl := lv_entry [.long 1596859692874853, .long 0] (n := 4) (Nat.le_of_ble_eq_true rfl)
  rw [lg_entry_eq]
  generalize (lg_sl [.long 1596859692874853, .long 0] ++ List.replicate (4 - (lg_sl [.long 1596859692874853, .long 0]).length) Slot.unset).toArray = ls at hl ⊢
  have hl : lv_has ls 4 [(0, .long 1596859692874853), (2, .long 0)] := hl
  refine lv_lload_n hx hb dX6_add__0 rfl (lv_at hl 0 rfl) ?_
  refine lv_ldc2 (v := 31) hx hb hown (hts _ wd452_X6_add_) dX6_add__1 ?_
  refine lv_lmul hx hb dX6_add__4 ?_
  refine tpl (v := 49502650479120443) (by decide) ?_
  refine lv_lload_n hx hb dX6_add__5 rfl (lv_at hl 1 rfl) ?_
  refine lv_ladd hx hb dX6_add__6 ?_
  refine tpl (v := 49502650479120443) (by decide) ?_
  exact W.lret (v := 49502650479120443) hx hb hr (fun t ht hW => ⟨49502650479120443, rfl, rfl, ht⟩) (fun q hq => absurd hq List.not_mem_nil) dX6_add__7

set_option maxHeartbeats 4000000 in
set_option maxRecDepth 100000 in
theorem k_X6_context_5 (l : Launch) (D : va_G) (κ ε : Nat → Nat) (h0 h1 h2 h3 h4 h5 h6 h7 : Nat) (p0 : Int32) (p1 : Int32) (p2 : Int32) (p3 : Int32) (p4 : Int32) (p5 : Int32) (p6 : Int32) (p7 : Int32) : Met l yX6_context wsX6_context ({ frames := 1, cells := 0, slots := 0, locals := 24 }) (va_Pc [.ref h0, .int 2, .int 1] (Pre0 D κ [(h0, .inr (8, [.int p0, .int p1, .int p2, .ref h1, .ref h2, .int p3, .int p4, .int p5, .int p6, .int 0, .ref h3])), (h1, .inr (1, [.int p7, .ref (ε 1), .int 0])), (h2, .inl (κ 4, 4, .inr (.inr (.inr (.inr (sel [h4, h5, h6, h7])))))), (h5, .inl (κ 0, 196, .inl (fun _ => 0)))])) (vp_Si (fun r => (r = 0))) 0 0 (fun _ => False) := by
  refine Met.ofW (cc := cX6_context) (maxL := 4) (ret := (some .int)) (by decide) rfl ?_
  intro p e s m args below meth c s₁ B hml hv
  obtain ⟨rfl, hP, hK⟩ := hv
  have hx := B.exec
  have hb := B.bytes
  have hr := B.returns
  have hts := atoms_spec (ws := wsX6_context) B.pre
  have hown : s.vm.findClass RX6 = some m.cls := findClass_of_methodNamed B.named
  have hlocks := B.notSynchronized
  have hP : va_P D vwCl [(h0, .inr (8, [.int p0, .int p1, .int p2, .ref h1, .ref h2, .int p3, .int p4, .int p5, .int p6, .int 0, .ref h3])), (h1, .inr (1, [.int p7, .ref (ε 1), .int 0])), (h2, .inl (κ 4, 4, .inr (.inr (.inr (.inr (sel [h4, h5, h6, h7])))))), (h5, .inl (κ 0, 196, .inl (fun _ => 0)))] s.heap := hP
  have hl := lv_entry [.ref h0, .int 2, .int 1] (n := 4) (Nat.le_of_ble_eq_true rfl)
  rw [lg_entry_eq]
  generalize (lg_sl [.ref h0, .int 2, .int 1] ++ List.replicate (4 - (lg_sl [.ref h0, .int 2, .int 1]).length) Slot.unset).toArray = ls at hl ⊢
  have hl : lv_has ls 4 [(0, .ref h0), (1, .int 2), (2, .int 1)] := hl
  refine lv_aload_n hx hb dX6_context_0 rfl (lv_at hl 0 rfl) ?_
  refine va_get (D := D) (ci := 8) (v := .ref h1) (C := RX6) (T := TX6) (N := 11) hx hb hts wi_X6_context_RX6 hown hK hP 0 rfl rfl 3 (by decide) (hts _ wd244_X6_context) (fun _ h9 => h9) rfl dX6_context_1 ?_
  refine lv_aload_n hx hb dX6_context_4 rfl (lv_at hl 0 rfl) ?_
  refine va_get (D := D) (ci := 8) (v := .ref h1) (C := RX6) (T := TX6) (N := 11) hx hb hts wi_X6_context_RX6 hown hK hP 0 rfl rfl 3 (by decide) (hts _ wd244_X6_context) (fun _ h9 => h9) rfl dX6_context_5 ?_
  refine vp_callSi (W.runV (As := []) (rest := [.ref h1]) ⟨hx, hb, hml, hown, hts⟩ (k_Jx4a65c_size_8abf5_0 l D κ ε h1 (p7)) (cwV 0 hts gX6_context_Jx4a65c_size_8abf5 rfl rfl rfl (by decide +kernel) ⟨(Nat.le_of_ble_eq_true rfl), (Nat.le_of_ble_eq_true rfl)⟩) (pre0_V (q0 := 1) (ci := 1) (wc := [(h1, .inr (1, [.int p7, .ref (ε 1), .int 0]))]) hP hK [1] rfl rfl rfl) rfl rfl hl.1 rfl (lv_room (Nat.le_of_ble_eq_true rfl)) dX6_context_8 ⟨(Nat.le_of_ble_eq_true rfl), (Nat.le_of_ble_eq_true rfl)⟩) (fun r hw => ?_)
  rw [hw]
  refine lv_iload_n hx hb dX6_context_11 rfl (lv_at hl 1 rfl) ?_
  refine lv_iconst (v := 1) hx hb dX6_context_12 (by decide) ?_
  refine lv_isub hx hb dX6_context_13 ?_
  refine tpi (v := 1) (by decide) ?_
  refine vp_callSi (W.runS (As := [.ref h1, .int 0, .int 1]) (rest := []) ⟨hx, hb, hml, hown, hts⟩ (k_X6_ahead_1 l D κ ε h1) (va_cwS 3 hts gX6_context_X6_ahead rfl rfl rfl (by decide +kernel) ⟨(Nat.le_of_ble_eq_true rfl), (Nat.le_of_ble_eq_true rfl)⟩) (pre0_S (wc := []) hP hK [] rfl) rfl rfl hl.1 rfl (lv_room (Nat.le_of_ble_eq_true rfl)) dX6_context_14 ⟨(Nat.le_of_ble_eq_true rfl), (Nat.le_of_ble_eq_true rfl)⟩) (fun r hw => ?_)
  rw [hw]
  refine lv_istore_n (lv' := [(3, .int 0), (0, .ref h0), (1, .int 2), (2, .int 1)]) hx hb dX6_context_17 rfl hl (by decide) rfl (fun ls hl => ?_)
  refine lv_iload_n hx hb dX6_context_18 rfl (lv_at hl 3 rfl) ?_
  refine lv_if_ne (tgt := 37) hx hb dX6_context_19 (by decide) (fun _ => ?_) (fun h => absurd h (by decide))
  refine lv_aload_n hx hb dX6_context_37 rfl (lv_at hl 1 rfl) ?_
  refine va_get (D := D) (ci := 8) (v := .ref h2) (C := RX6) (T := TX6) (N := 11) hx hb hts wi_X6_context_RX6 hown hK hP 0 rfl rfl 4 (by decide) (hts _ wd245_X6_context) (fun _ h9 => h9) rfl dX6_context_38 ?_
  refine lv_iload_n hx hb dX6_context_41 rfl (lv_at hl 2 rfl) ?_
  refine lv_iconst (v := 1) hx hb dX6_context_42 (by decide) ?_
  refine lv_isub hx hb dX6_context_43 ?_
  refine tpi (v := 1) (by decide) ?_
  refine ya_ld2 hx hb hK hP 2 rfl (vpl (by decide)) (v := .ref h5) rfl dX6_context_44 ?_
  refine lv_iload_n hx hb dX6_context_45 rfl (lv_at hl 0 rfl) ?_
  refine vp_callSi (W.runS (As := [.ref h5, .int 0]) (rest := []) ⟨hx, hb, hml, hown, hts⟩ (k_X6_sorts_1 l D κ ε h5) (va_cwS 2 hts gX6_context_X6_sorts rfl rfl rfl (by decide +kernel) ⟨(Nat.le_of_ble_eq_true rfl), (Nat.le_of_ble_eq_true rfl)⟩) (pre0_S (wc := [(h5, .inl (κ 0, 196, .inl (fun _ => 0)))]) hP hK [3] rfl) rfl rfl hl.1 rfl (lv_room (Nat.le_of_ble_eq_true rfl)) dX6_context_46 ⟨(Nat.le_of_ble_eq_true rfl), (Nat.le_of_ble_eq_true rfl)⟩) (fun r hw => ?_)
  rw [hw]
  exact W.iret (v := 0) hx hb hr (fun t ht hW => ⟨0, rfl, rfl, ht⟩) (fun q hq => absurd hq List.not_mem_nil) dX6_context_49

set_option maxHeartbeats 4000000 in
set_option maxRecDepth 100000 in
theorem k_X6_add__8 (l : Launch) (D : va_G) (κ ε : Nat → Nat) : Met l yX6_add_ wsX6_add_ ({ frames := 0, cells := 0, slots := 0, locals := 0 }) (va_Pc [.long 49502650479120443, .long 0] (Pre0 D κ [])) (vp_Sl (fun r => (r = 1534582164852733733))) 0 0 (fun _ => False) := by
  refine Met.ofW (cc := cX6_add_) (maxL := 4) (ret := (some .long)) (by decide) rfl ?_
  intro p e s m args below meth c s₁ B hml hv
  obtain ⟨rfl, hP, hK⟩ := hv
  have hx := B.exec
  have hb := B.bytes
  have hr := B.returns
  have hts := atoms_spec (ws := wsX6_add_) B.pre
  have hown : s.vm.findClass RX6 = some m.cls := findClass_of_methodNamed B.named
  have hlocks := B.notSynchronized
  have hP : va_P D vwCl [] s.heap := hP
  have hl := lv_entry [.long 49502650479120443, .long 0] (n := 4) (Nat.le_of_ble_eq_true rfl)
  rw [lg_entry_eq]
  generalize (lg_sl [.long 49502650479120443, .long 0] ++ List.replicate (4 - (lg_sl [.long 49502650479120443, .long 0]).length) Slot.unset).toArray = ls at hl ⊢
  have hl : lv_has ls 4 [(0, .long 49502650479120443), (2, .long 0)] := hl
  refine lv_lload_n hx hb dX6_add__0 rfl (lv_at hl 0 rfl) ?_
  refine lv_ldc2 (v := 31) hx hb hown (hts _ wd452_X6_add_) dX6_add__1 ?_
  refine lv_lmul hx hb dX6_add__4 ?_
  refine tpl (v := 1534582164852733733) (by decide) ?_
  refine lv_lload_n hx hb dX6_add__5 rfl (lv_at hl 1 rfl) ?_
  refine lv_ladd hx hb dX6_add__6 ?_
  refine tpl (v := 1534582164852733733) (by decide) ?_
  exact W.lret (v := 1534582164852733733) hx hb hr (fun t ht hW => ⟨1534582164852733733, rfl, rfl, ht⟩) (fun q hq => absurd hq List.not_mem_nil) dX6_add__7

set_option maxHeartbeats 4000000 in
set_option maxRecDepth 100000 in
theorem k_X6_add__9 (l : Launch) (D : va_G) (κ ε : Nat → Nat) : Met l yX6_add_ wsX6_add_ ({ frames := 0, cells := 0, slots := 0, locals := 0 }) (va_Pc [.long 1534582164852733733, .long 1000000] (Pre0 D κ [])) (vp_Sl (fun r => (r = (-7768185110692909125)))) 0 0 (fun _ => False) := by
  refine Met.ofW (cc := cX6_add_) (maxL := 4) (ret := (some .long)) (by decide) rfl ?_
  intro p e s m args below meth c s₁ B hml hv
  obtain ⟨rfl, hP, hK⟩ := hv
  have hx := B.exec
  have hb := B.bytes
  have hr := B.returns
  have hts := atoms_spec (ws := wsX6_add_) B.pre
  have hown : s.vm.findClass RX6 = some m.cls := findClass_of_methodNamed B.named
  have hlocks := B.notSynchronized
  have hP : va_P D vwCl [] s.heap := hP
  have hl := lv_entry [.long 1534582164852733733, .long 1000000] (n := 4) (Nat.le_of_ble_eq_true rfl)
  rw [lg_entry_eq]
  generalize (lg_sl [.long 1534582164852733733, .long 1000000] ++ List.replicate (4 - (lg_sl [.long 1534582164852733733, .long 1000000]).length) Slot.unset).toArray = ls at hl ⊢
  have hl : lv_has ls 4 [(0, .long 1534582164852733733), (2, .long 1000000)] := hl
  refine lv_lload_n hx hb dX6_add__0 rfl (lv_at hl 0 rfl) ?_
  refine lv_ldc2 (v := 31) hx hb hown (hts _ wd452_X6_add_) dX6_add__1 ?_
  refine lv_lmul hx hb dX6_add__4 ?_
  refine tpl (v := (-7768185110693909125)) (by decide) ?_
  refine lv_lload_n hx hb dX6_add__5 rfl (lv_at hl 1 rfl) ?_
  refine lv_ladd hx hb dX6_add__6 ?_
  refine tpl (v := (-7768185110692909125)) (by decide) ?_
  exact W.lret (v := (-7768185110692909125)) hx hb hr (fun t ht hW => ⟨(-7768185110692909125), rfl, rfl, ht⟩) (fun q hq => absurd hq List.not_mem_nil) dX6_add__7

set_option maxHeartbeats 4000000 in
set_option maxRecDepth 100000 in
theorem k_X6_add__10 (l : Launch) (D : va_G) (κ ε : Nat → Nat) : Met l yX6_add_ wsX6_add_ ({ frames := 0, cells := 0, slots := 0, locals := 0 }) (va_Pc [.long (-7768185110692909125), .long 0] (Pre0 D κ [])) (vp_Sl (fun r => (r = (-1006065473256011867)))) 0 0 (fun _ => False) := by
  refine Met.ofW (cc := cX6_add_) (maxL := 4) (ret := (some .long)) (by decide) rfl ?_
  intro p e s m args below meth c s₁ B hml hv
  obtain ⟨rfl, hP, hK⟩ := hv
  have hx := B.exec
  have hb := B.bytes
  have hr := B.returns
  have hts := atoms_spec (ws := wsX6_add_) B.pre
  have hown : s.vm.findClass RX6 = some m.cls := findClass_of_methodNamed B.named
  have hlocks := B.notSynchronized
  have hP : va_P D vwCl [] s.heap := hP
  have hl := lv_entry [.long (-7768185110692909125), .long 0] (n := 4) (Nat.le_of_ble_eq_true rfl)
  rw [lg_entry_eq]
  generalize (lg_sl [.long (-7768185110692909125), .long 0] ++ List.replicate (4 - (lg_sl [.long (-7768185110692909125), .long 0]).length) Slot.unset).toArray = ls at hl ⊢
  have hl : lv_has ls 4 [(0, .long (-7768185110692909125)), (2, .long 0)] := hl
  refine lv_lload_n hx hb dX6_add__0 rfl (lv_at hl 0 rfl) ?_
  refine lv_ldc2 (v := 31) hx hb hown (hts _ wd452_X6_add_) dX6_add__1 ?_
  refine lv_lmul hx hb dX6_add__4 ?_
  refine tpl (v := (-1006065473256011867)) (by decide) ?_
  refine lv_lload_n hx hb dX6_add__5 rfl (lv_at hl 1 rfl) ?_
  refine lv_ladd hx hb dX6_add__6 ?_
  refine tpl (v := (-1006065473256011867)) (by decide) ?_
  exact W.lret (v := (-1006065473256011867)) hx hb hr (fun t ht hW => ⟨(-1006065473256011867), rfl, rfl, ht⟩) (fun q hq => absurd hq List.not_mem_nil) dX6_add__7

set_option maxHeartbeats 4000000 in
set_option maxRecDepth 100000 in
theorem k_X6_add__11 (l : Launch) (D : va_G) (κ ε : Nat → Nat) : Met l yX6_add_ wsX6_add_ ({ frames := 0, cells := 0, slots := 0, locals := 0 }) (va_Pc [.long (-1006065473256011867), .long 0] (Pre0 D κ [])) (vp_Sl (fun r => (r = 5705458476482735355))) 0 0 (fun _ => False) := by
  refine Met.ofW (cc := cX6_add_) (maxL := 4) (ret := (some .long)) (by decide) rfl ?_
  intro p e s m args below meth c s₁ B hml hv
  obtain ⟨rfl, hP, hK⟩ := hv
  have hx := B.exec
  have hb := B.bytes
  have hr := B.returns
  have hts := atoms_spec (ws := wsX6_add_) B.pre
  have hown : s.vm.findClass RX6 = some m.cls := findClass_of_methodNamed B.named
  have hlocks := B.notSynchronized
  have hP : va_P D vwCl [] s.heap := hP
  have hl := lv_entry [.long (-1006065473256011867), .long 0] (n := 4) (Nat.le_of_ble_eq_true rfl)
  rw [lg_entry_eq]
  generalize (lg_sl [.long (-1006065473256011867), .long 0] ++ List.replicate (4 - (lg_sl [.long (-1006065473256011867), .long 0]).length) Slot.unset).toArray = ls at hl ⊢
  have hl : lv_has ls 4 [(0, .long (-1006065473256011867)), (2, .long 0)] := hl
  refine lv_lload_n hx hb dX6_add__0 rfl (lv_at hl 0 rfl) ?_
  refine lv_ldc2 (v := 31) hx hb hown (hts _ wd452_X6_add_) dX6_add__1 ?_
  refine lv_lmul hx hb dX6_add__4 ?_
  refine tpl (v := 5705458476482735355) (by decide) ?_
  refine lv_lload_n hx hb dX6_add__5 rfl (lv_at hl 1 rfl) ?_
  refine lv_ladd hx hb dX6_add__6 ?_
  refine tpl (v := 5705458476482735355) (by decide) ?_
  exact W.lret (v := 5705458476482735355) hx hb hr (fun t ht hW => ⟨5705458476482735355, rfl, rfl, ht⟩) (fun q hq => absurd hq List.not_mem_nil) dX6_add__7

set_option maxHeartbeats 4000000 in
set_option maxRecDepth 100000 in
theorem k_X6_add__12 (l : Launch) (D : va_G) (κ ε : Nat → Nat) : Met l yX6_add_ wsX6_add_ ({ frames := 0, cells := 0, slots := 0, locals := 0 }) (va_Pc [.long 5705458476482735355, .long 0] (Pre0 D κ [])) (vp_Sl (fun r => (r = (-7598227966130720155)))) 0 0 (fun _ => False) := by
  refine Met.ofW (cc := cX6_add_) (maxL := 4) (ret := (some .long)) (by decide) rfl ?_
  intro p e s m args below meth c s₁ B hml hv
  obtain ⟨rfl, hP, hK⟩ := hv
  have hx := B.exec
  have hb := B.bytes
  have hr := B.returns
  have hts := atoms_spec (ws := wsX6_add_) B.pre
  have hown : s.vm.findClass RX6 = some m.cls := findClass_of_methodNamed B.named
  have hlocks := B.notSynchronized
  have hP : va_P D vwCl [] s.heap := hP
  have hl := lv_entry [.long 5705458476482735355, .long 0] (n := 4) (Nat.le_of_ble_eq_true rfl)
  rw [lg_entry_eq]
  generalize (lg_sl [.long 5705458476482735355, .long 0] ++ List.replicate (4 - (lg_sl [.long 5705458476482735355, .long 0]).length) Slot.unset).toArray = ls at hl ⊢
  have hl : lv_has ls 4 [(0, .long 5705458476482735355), (2, .long 0)] := hl
  refine lv_lload_n hx hb dX6_add__0 rfl (lv_at hl 0 rfl) ?_
  refine lv_ldc2 (v := 31) hx hb hown (hts _ wd452_X6_add_) dX6_add__1 ?_
  refine lv_lmul hx hb dX6_add__4 ?_
  refine tpl (v := (-7598227966130720155)) (by decide) ?_
  refine lv_lload_n hx hb dX6_add__5 rfl (lv_at hl 1 rfl) ?_
  refine lv_ladd hx hb dX6_add__6 ?_
  refine tpl (v := (-7598227966130720155)) (by decide) ?_
  exact W.lret (v := (-7598227966130720155)) hx hb hr (fun t ht hW => ⟨(-7598227966130720155), rfl, rfl, ht⟩) (fun q hq => absurd hq List.not_mem_nil) dX6_add__7

set_option maxHeartbeats 4000000 in
set_option maxRecDepth 100000 in
theorem k_X6_add__13 (l : Launch) (D : va_G) (κ ε : Nat → Nat) : Met l yX6_add_ wsX6_add_ ({ frames := 0, cells := 0, slots := 0, locals := 0 }) (va_Pc [.long (-7598227966130720155), .long 0] (Pre0 D κ [])) (vp_Sl (fun r => (r = 4262606008171846203))) 0 0 (fun _ => False) := by
  refine Met.ofW (cc := cX6_add_) (maxL := 4) (ret := (some .long)) (by decide) rfl ?_
  intro p e s m args below meth c s₁ B hml hv
  obtain ⟨rfl, hP, hK⟩ := hv
  have hx := B.exec
  have hb := B.bytes
  have hr := B.returns
  have hts := atoms_spec (ws := wsX6_add_) B.pre
  have hown : s.vm.findClass RX6 = some m.cls := findClass_of_methodNamed B.named
  have hlocks := B.notSynchronized
  have hP : va_P D vwCl [] s.heap := hP
  have hl := lv_entry [.long (-7598227966130720155), .long 0] (n := 4) (Nat.le_of_ble_eq_true rfl)
  rw [lg_entry_eq]
  generalize (lg_sl [.long (-7598227966130720155), .long 0] ++ List.replicate (4 - (lg_sl [.long (-7598227966130720155), .long 0]).length) Slot.unset).toArray = ls at hl ⊢
  have hl : lv_has ls 4 [(0, .long (-7598227966130720155)), (2, .long 0)] := hl
  refine lv_lload_n hx hb dX6_add__0 rfl (lv_at hl 0 rfl) ?_
  refine lv_ldc2 (v := 31) hx hb hown (hts _ wd452_X6_add_) dX6_add__1 ?_
  refine lv_lmul hx hb dX6_add__4 ?_
  refine tpl (v := 4262606008171846203) (by decide) ?_
  refine lv_lload_n hx hb dX6_add__5 rfl (lv_at hl 1 rfl) ?_
  refine lv_ladd hx hb dX6_add__6 ?_
  refine tpl (v := 4262606008171846203) (by decide) ?_
  exact W.lret (v := 4262606008171846203) hx hb hr (fun t ht hW => ⟨4262606008171846203, rfl, rfl, ht⟩) (fun q hq => absurd hq List.not_mem_nil) dX6_add__7

set_option maxHeartbeats 4000000 in
set_option maxRecDepth 100000 in
theorem k_X6_add__14 (l : Launch) (D : va_G) (κ ε : Nat → Nat) : Met l yX6_add_ wsX6_add_ ({ frames := 0, cells := 0, slots := 0, locals := 0 }) (va_Pc [.long 4262606008171846203, .long 0] (Pre0 D κ [])) (vp_Sl (fun r => (r = 3013577737360370981))) 0 0 (fun _ => False) := by
  refine Met.ofW (cc := cX6_add_) (maxL := 4) (ret := (some .long)) (by decide) rfl ?_
  intro p e s m args below meth c s₁ B hml hv
  obtain ⟨rfl, hP, hK⟩ := hv
  have hx := B.exec
  have hb := B.bytes
  have hr := B.returns
  have hts := atoms_spec (ws := wsX6_add_) B.pre
  have hown : s.vm.findClass RX6 = some m.cls := findClass_of_methodNamed B.named
  have hlocks := B.notSynchronized
  have hP : va_P D vwCl [] s.heap := hP
  have hl := lv_entry [.long 4262606008171846203, .long 0] (n := 4) (Nat.le_of_ble_eq_true rfl)
  rw [lg_entry_eq]
  generalize (lg_sl [.long 4262606008171846203, .long 0] ++ List.replicate (4 - (lg_sl [.long 4262606008171846203, .long 0]).length) Slot.unset).toArray = ls at hl ⊢
  have hl : lv_has ls 4 [(0, .long 4262606008171846203), (2, .long 0)] := hl
  refine lv_lload_n hx hb dX6_add__0 rfl (lv_at hl 0 rfl) ?_
  refine lv_ldc2 (v := 31) hx hb hown (hts _ wd452_X6_add_) dX6_add__1 ?_
  refine lv_lmul hx hb dX6_add__4 ?_
  refine tpl (v := 3013577737360370981) (by decide) ?_
  refine lv_lload_n hx hb dX6_add__5 rfl (lv_at hl 1 rfl) ?_
  refine lv_ladd hx hb dX6_add__6 ?_
  refine tpl (v := 3013577737360370981) (by decide) ?_
  exact W.lret (v := 3013577737360370981) hx hb hr (fun t ht hW => ⟨3013577737360370981, rfl, rfl, ht⟩) (fun q hq => absurd hq List.not_mem_nil) dX6_add__7

theorem wi_X6_digest_RX6 : ∀ w ∈ u_ws RX6 TX6 11, w ∈ wsX6_digest := by decide +kernel

theorem wd453_X6_digest : (.fieldLink RX6 36 "CanticleModel" "thrown" "I" : Cond) ∈ wsX6_digest := by decide +kernel

theorem wd454_X6_digest : (.constantLong RX6 224 58041 : Cond) ∈ wsX6_digest := by decide +kernel

theorem wd455_X6_digest : (.fieldLink RX6 56 "CanticleModel" "words" "I" : Cond) ∈ wsX6_digest := by decide +kernel

theorem wd456_X6_digest : (.fieldLink RX6 7 "CanticleModel" "order" "I" : Cond) ∈ wsX6_digest := by decide +kernel

theorem wd457_X6_digest : (.fieldLink RX6 16 "CanticleModel" "sentence" "Ljava/util/ArrayList;" : Cond) ∈ wsX6_digest := by decide +kernel

theorem wd458_X6_digest : (.fieldLink RX6 24 "CanticleModel" "counts" "[[I" : Cond) ∈ wsX6_digest := by decide +kernel

theorem wd459_X6_digest : (.fieldLink RX6 196 "CanticleModel" "luck" "I" : Cond) ∈ wsX6_digest := by decide +kernel

theorem wd460_X6_digest : (.fieldLink RX6 204 "CanticleModel" "draws" "I" : Cond) ∈ wsX6_digest := by decide +kernel

theorem wd461_X6_digest : (.fieldLink RX6 215 "CanticleModel" "hasEnded" "Z" : Cond) ∈ wsX6_digest := by decide +kernel

set_option maxHeartbeats 4000000 in
set_option maxRecDepth 100000 in
theorem k_X6_digest_0 (l : Launch) (D : va_G) (κ ε : Nat → Nat) (h0 h1 h2 h3 h4 h5 h6 h7 : Nat) (sz : Nat) : Met l yX6_digest wsX6_digest ({ frames := 4, cells := 1, slots := 1, locals := 102 }) (va_Pc [.ref h0] (Pre2 D κ ε [(h0, .inr (8, [.int 0, .int 0, .int 2, .ref h1, .ref h2, .int 0, .int 500, .int 0, .int 0, .int 0, .ref h3])), (h1, .inr (1, [.int 0, .ref (ε 1), .int 0])), (h2, .inl (κ 4, 4, .inr (.inr (.inr (.inr (sel [h4, h5, h6, h7])))))), (h4, .inl (κ 0, 14, .inl (fun _ => 0))), (h5, .inl (κ 0, 196, .inl (fun _ => 0)))] sz)) (va_Ql (fun r (u : List Value) => (u[0]? = some (.int 0)) ∧ (r = 3013577737360370981)) (fun u t => va_P D vwCl [(h0, .inr (8, u))] t.heap ∧ va_D (va_A [(h0, .inr (8, [.int 0, .int 0, .int 2, .ref h1, .ref h2, .int 0, .int 500, .int 0, .int 0, .int 0, .ref h3])), (h1, .inr (1, [.int 0, .ref (ε 1), .int 0])), (h2, .inl (κ 4, 4, .inr (.inr (.inr (.inr (sel [h4, h5, h6, h7])))))), (h4, .inl (κ 0, 14, .inl (fun _ => 0))), (h5, .inl (κ 0, 196, .inl (fun _ => 0)))] sz) [(h0, .inr (8, u))]) (va_A [(h0, .inr (8, [.int 0, .int 0, .int 2, .ref h1, .ref h2, .int 0, .int 500, .int 0, .int 0, .int 0, .ref h3])), (h1, .inr (1, [.int 0, .ref (ε 1), .int 0])), (h2, .inl (κ 4, 4, .inr (.inr (.inr (.inr (sel [h4, h5, h6, h7])))))), (h4, .inl (κ 0, 14, .inl (fun _ => 0))), (h5, .inl (κ 0, 196, .inl (fun _ => 0)))] sz)) 1 1 (va_A [(h0, .inr (8, [.int 0, .int 0, .int 2, .ref h1, .ref h2, .int 0, .int 500, .int 0, .int 0, .int 0, .ref h3])), (h1, .inr (1, [.int 0, .ref (ε 1), .int 0])), (h2, .inl (κ 4, 4, .inr (.inr (.inr (.inr (sel [h4, h5, h6, h7])))))), (h4, .inl (κ 0, 14, .inl (fun _ => 0))), (h5, .inl (κ 0, 196, .inl (fun _ => 0)))] sz) := by
  refine Met.ofW (cc := cX6_digest) (maxL := 6) (ret := (some .long)) (by decide) rfl ?_
  intro p e s m args below meth c s₁ B hml hv
  obtain ⟨rfl, hsz, hP, hK, hD0, hE9⟩ := hv
  have hx := B.exec
  have hb := B.bytes
  have hr := B.returns
  have hts := atoms_spec (ws := wsX6_digest) B.pre
  have hown : s.vm.findClass RX6 = some m.cls := findClass_of_methodNamed B.named
  have hlocks := B.notSynchronized
  subst hsz
  have hD := hD0.self (sz := s.heap.size)
  generalize hAe : va_A [(h0, .inr (8, [.int 0, .int 0, .int 2, .ref h1, .ref h2, .int 0, .int 500, .int 0, .int 0, .int 0, .ref h3])), (h1, .inr (1, [.int 0, .ref (ε 1), .int 0])), (h2, .inl (κ 4, 4, .inr (.inr (.inr (.inr (sel [h4, h5, h6, h7])))))), (h4, .inl (κ 0, 14, .inl (fun _ => 0))), (h5, .inl (κ 0, 196, .inl (fun _ => 0)))] s.heap.size = A at hD hE9 ⊢
  have hE := hE9.1
  have hDc := hE9.2
  have hA : ∀ q : Nat, s.heap.size ≤ q → A q := fun q h => by rw [← hAe]; exact Or.inr h
  have hS : va_S A s.heap s.heap [] := va_S.rf
  have hP : va_P D vwCl [(h0, .inr (8, [.int 0, .int 0, .int 2, .ref h1, .ref h2, .int 0, .int 500, .int 0, .int 0, .int 0, .ref h3])), (h1, .inr (1, [.int 0, .ref (ε 1), .int 0])), (h2, .inl (κ 4, 4, .inr (.inr (.inr (.inr (sel [h4, h5, h6, h7])))))), (h4, .inl (κ 0, 14, .inl (fun _ => 0))), (h5, .inl (κ 0, 196, .inl (fun _ => 0)))] s.heap := hP
  have hl := lv_entry [.ref h0] (n := 6) (Nat.le_of_ble_eq_true rfl)
  rw [lg_entry_eq]
  generalize (lg_sl [.ref h0] ++ List.replicate (6 - (lg_sl [.ref h0]).length) Slot.unset).toArray = ls at hl ⊢
  have hl : lv_has ls 6 [(0, .ref h0)] := hl
  refine lv_aload_n hx hb dX6_digest_0 rfl (lv_at hl 0 rfl) ?_
  refine lv_iconst (v := 0) hx hb dX6_digest_1 (by decide) ?_
  refine va_put (D := D) (ci := 8) (v := .int 0) (ty := .int) (C := RX6) (T := TX6) (N := 11) hx hb hts wi_X6_digest_RX6 tyX6 tyX6_ok nmX6 hown hK hP hD hS 0 rfl rfl 0 (by decide) (hts _ wd453_X6_digest) (fun _ h9 => h9) rfl (by decide +kernel) rfl rfl (Nat.le_of_ble_eq_true rfl) dX6_digest_2 (fun H locs hP hD hS => ?_)
  have hP : va_P D vwCl [(h0, .inr (8, [.int 0, .int 0, .int 2, .ref h1, .ref h2, .int 0, .int 500, .int 0, .int 0, .int 0, .ref h3])), (h1, .inr (1, [.int 0, .ref (ε 1), .int 0])), (h2, .inl (κ 4, 4, .inr (.inr (.inr (.inr (sel [h4, h5, h6, h7])))))), (h4, .inl (κ 0, 14, .inl (fun _ => 0))), (h5, .inl (κ 0, 196, .inl (fun _ => 0)))] H := hP
  have hD : va_D A [(h0, .inr (8, [.int 0, .int 0, .int 2, .ref h1, .ref h2, .int 0, .int 500, .int 0, .int 0, .int 0, .ref h3])), (h1, .inr (1, [.int 0, .ref (ε 1), .int 0])), (h2, .inl (κ 4, 4, .inr (.inr (.inr (.inr (sel [h4, h5, h6, h7])))))), (h4, .inl (κ 0, 14, .inl (fun _ => 0))), (h5, .inl (κ 0, 196, .inl (fun _ => 0)))] := hD
  refine lv_ldc2 (v := 58041) hx hb hown (hts _ wd454_X6_digest) dX6_digest_5 ?_
  refine lv_aload_n hx hb dX6_digest_8 rfl (lv_at hl 0 rfl) ?_
  refine va_get (D := D) (ci := 8) (v := .int 0) (C := RX6) (T := TX6) (N := 11) hx hb hts wi_X6_digest_RX6 hown hK hP 0 rfl rfl 1 (by decide) (hts _ wd455_X6_digest) (fun _ h9 => h9) rfl dX6_digest_9 ?_
  refine lv_i2l (v := 0) hx hb dX6_digest_12 (by decide) ?_
  refine vp_callSl (W.runS (As := [.long 58041, .long 0]) (rest := []) ⟨hx, hb, hml, hown, hts⟩ (k_X6_add__0 l D κ ε) (va_cwS 2 hts gX6_digest_X6_add_ rfl rfl rfl (by decide +kernel) ⟨(Nat.le_of_ble_eq_true rfl), (Nat.le_of_ble_eq_true rfl)⟩) (pre0_S (wc := []) hP hK [] rfl) rfl rfl hl.1 rfl (lv_room (Nat.le_of_ble_eq_true rfl)) dX6_digest_13 ⟨(Nat.le_of_ble_eq_true rfl), (Nat.le_of_ble_eq_true rfl)⟩) (fun r hw => ?_)
  rw [hw]
  refine lv_aload_n hx hb dX6_digest_16 rfl (lv_at hl 0 rfl) ?_
  refine va_get (D := D) (ci := 8) (v := .int 2) (C := RX6) (T := TX6) (N := 11) hx hb hts wi_X6_digest_RX6 hown hK hP 0 rfl rfl 2 (by decide) (hts _ wd456_X6_digest) (fun _ h9 => h9) rfl dX6_digest_17 ?_
  refine lv_i2l (v := 2) hx hb dX6_digest_20 (by decide) ?_
  refine vp_callSl (W.runS (As := [.long 1799271, .long 2]) (rest := []) ⟨hx, hb, hml, hown, hts⟩ (k_X6_add__1 l D κ ε) (va_cwS 2 hts gX6_digest_X6_add_ rfl rfl rfl (by decide +kernel) ⟨(Nat.le_of_ble_eq_true rfl), (Nat.le_of_ble_eq_true rfl)⟩) (pre0_S (wc := []) hP hK [] rfl) rfl rfl hl.1 rfl (lv_room (Nat.le_of_ble_eq_true rfl)) dX6_digest_21 ⟨(Nat.le_of_ble_eq_true rfl), (Nat.le_of_ble_eq_true rfl)⟩) (fun r hw => ?_)
  rw [hw]
  refine lv_aload_n hx hb dX6_digest_24 rfl (lv_at hl 0 rfl) ?_
  refine va_get (D := D) (ci := 8) (v := .ref h1) (C := RX6) (T := TX6) (N := 11) hx hb hts wi_X6_digest_RX6 hown hK hP 0 rfl rfl 3 (by decide) (hts _ wd457_X6_digest) (fun _ h9 => h9) rfl dX6_digest_25 ?_
  refine vp_callSi (W.runV (As := []) (rest := [.long 55777403]) ⟨hx, hb, hml, hown, hts⟩ (k_Jx4a65c_size_8abf5_0 l D κ ε h1 (0)) (cwV 0 hts gX6_digest_Jx4a65c_size_8abf5 rfl rfl rfl (by decide +kernel) ⟨(Nat.le_of_ble_eq_true rfl), (Nat.le_of_ble_eq_true rfl)⟩) (pre0_V (q0 := 1) (ci := 1) (wc := [(h1, .inr (1, [.int 0, .ref (ε 1), .int 0]))]) hP hK [1] rfl rfl rfl) rfl rfl hl.1 rfl (lv_room (Nat.le_of_ble_eq_true rfl)) dX6_digest_28 ⟨(Nat.le_of_ble_eq_true rfl), (Nat.le_of_ble_eq_true rfl)⟩) (fun r hw => ?_)
  rw [hw]
  refine lv_i2l (v := 0) hx hb dX6_digest_31 (by decide) ?_
  refine vp_callSl (W.runS (As := [.long 55777403, .long 0]) (rest := []) ⟨hx, hb, hml, hown, hts⟩ (k_X6_add__2 l D κ ε) (va_cwS 2 hts gX6_digest_X6_add_ rfl rfl rfl (by decide +kernel) ⟨(Nat.le_of_ble_eq_true rfl), (Nat.le_of_ble_eq_true rfl)⟩) (pre0_S (wc := []) hP hK [] rfl) rfl rfl hl.1 rfl (lv_room (Nat.le_of_ble_eq_true rfl)) dX6_digest_32 ⟨(Nat.le_of_ble_eq_true rfl), (Nat.le_of_ble_eq_true rfl)⟩) (fun r hw => ?_)
  rw [hw]
  refine lv_lstore_n (lv' := [(1, .long 1729099493), (0, .ref h0)]) hx hb dX6_digest_35 rfl hl (by decide) rfl (fun ls hl => ?_)
  refine lv_iconst (v := 0) hx hb dX6_digest_36 (by decide) ?_
  refine lv_istore_n (lv' := [(3, .int 0), (1, .long 1729099493), (0, .ref h0)]) hx hb dX6_digest_37 rfl hl (by decide) rfl (fun ls hl => ?_)
  refine lv_iload_n hx hb dX6_digest_38 rfl (lv_at hl 0 rfl) ?_
  refine lv_aload_n hx hb dX6_digest_39 rfl (lv_at hl 2 rfl) ?_
  refine va_get (D := D) (ci := 8) (v := .ref h1) (C := RX6) (T := TX6) (N := 11) hx hb hts wi_X6_digest_RX6 hown hK hP 0 rfl rfl 3 (by decide) (hts _ wd457_X6_digest) (fun _ h9 => h9) rfl dX6_digest_40 ?_
  refine vp_callSi (W.runV (As := []) (rest := [.int 0]) ⟨hx, hb, hml, hown, hts⟩ (k_Jx4a65c_size_8abf5_0 l D κ ε h1 (0)) (cwV 0 hts gX6_digest_Jx4a65c_size_8abf5 rfl rfl rfl (by decide +kernel) ⟨(Nat.le_of_ble_eq_true rfl), (Nat.le_of_ble_eq_true rfl)⟩) (pre0_V (q0 := 1) (ci := 1) (wc := [(h1, .inr (1, [.int 0, .ref (ε 1), .int 0]))]) hP hK [1] rfl rfl rfl) rfl rfl hl.1 rfl (lv_room (Nat.le_of_ble_eq_true rfl)) dX6_digest_43 ⟨(Nat.le_of_ble_eq_true rfl), (Nat.le_of_ble_eq_true rfl)⟩) (fun r hw => ?_)
  rw [hw]
  refine lv_icmp_ge (tgt := 75) hx hb dX6_digest_46 (by decide) (fun _ => ?_) (fun h => absurd (by decide) h)
  refine lv_iconst (v := 1) hx hb dX6_digest_75 (by decide) ?_
  refine lv_istore_n (lv' := [(3, .int 1), (1, .long 1729099493), (0, .ref h0)]) hx hb dX6_digest_76 rfl hl (by decide) rfl (fun ls hl => ?_)
  refine lv_iload_n hx hb dX6_digest_77 rfl (lv_at hl 0 rfl) ?_
  refine lv_aload_n hx hb dX6_digest_78 rfl (lv_at hl 2 rfl) ?_
  refine va_get (D := D) (ci := 8) (v := .int 2) (C := RX6) (T := TX6) (N := 11) hx hb hts wi_X6_digest_RX6 hown hK hP 0 rfl rfl 2 (by decide) (hts _ wd456_X6_digest) (fun _ h9 => h9) rfl dX6_digest_79 ?_
  refine lv_icmp_gt (tgt := 194) hx hb dX6_digest_82 (by decide) (fun h => absurd h (by decide)) (fun _ => ?_)
  refine lv_lload_n hx hb dX6_digest_85 rfl (lv_at hl 1 rfl) ?_
  refine lv_aload_n hx hb dX6_digest_86 rfl (lv_at hl 2 rfl) ?_
  refine va_get (D := D) (ci := 8) (v := .ref h2) (C := RX6) (T := TX6) (N := 11) hx hb hts wi_X6_digest_RX6 hown hK hP 0 rfl rfl 4 (by decide) (hts _ wd458_X6_digest) (fun _ h9 => h9) rfl dX6_digest_87 ?_
  refine lv_iload_n hx hb dX6_digest_90 rfl (lv_at hl 0 rfl) ?_
  refine lv_iconst (v := 1) hx hb dX6_digest_91 (by decide) ?_
  refine lv_isub hx hb dX6_digest_92 ?_
  refine tpi (v := 0) (by decide) ?_
  refine ya_ld2 hx hb hK hP 2 rfl (vpl (by decide)) (v := .ref h4) rfl dX6_digest_93 ?_
  refine vp_callSi (W.runS (As := [.ref h4]) (rest := [.long 1729099493]) ⟨hx, hb, hml, hown, hts⟩ (k_X6_many_0 l D κ ε h4) (va_cwS 1 hts gX6_digest_X6_many rfl rfl rfl (by decide +kernel) ⟨(Nat.le_of_ble_eq_true rfl), (Nat.le_of_ble_eq_true rfl)⟩) (pre0_S (wc := [(h4, .inl (κ 0, 14, .inl (fun _ => 0)))]) hP hK [3] rfl) rfl rfl hl.1 rfl (lv_room (Nat.le_of_ble_eq_true rfl)) dX6_digest_94 ⟨(Nat.le_of_ble_eq_true rfl), (Nat.le_of_ble_eq_true rfl)⟩) (fun r hw => ?_)
  rw [hw]
  refine lv_i2l (v := 0) hx hb dX6_digest_97 (by decide) ?_
  refine vp_callSl (W.runS (As := [.long 1729099493, .long 0]) (rest := []) ⟨hx, hb, hml, hown, hts⟩ (k_X6_add__3 l D κ ε) (va_cwS 2 hts gX6_digest_X6_add_ rfl rfl rfl (by decide +kernel) ⟨(Nat.le_of_ble_eq_true rfl), (Nat.le_of_ble_eq_true rfl)⟩) (pre0_S (wc := []) hP hK [] rfl) rfl rfl hl.1 rfl (lv_room (Nat.le_of_ble_eq_true rfl)) dX6_digest_98 ⟨(Nat.le_of_ble_eq_true rfl), (Nat.le_of_ble_eq_true rfl)⟩) (fun r hw => ?_)
  rw [hw]
  refine lv_lstore_n (lv' := [(1, .long 53602084283), (3, .int 1), (0, .ref h0)]) hx hb dX6_digest_101 rfl hl (by decide) rfl (fun ls hl => ?_)
  refine lv_iconst (v := 0) hx hb dX6_digest_102 (by decide) ?_
  refine lv_istore (lv' := [(4, .int 0), (1, .long 53602084283), (3, .int 1), (0, .ref h0)]) hx hb dX6_digest_103 hl (by decide) rfl (fun ls hl => ?_)
  refine loop_up (Wp := fun ls => W p l e _ s m _ below meth c H _ _ _ _ (F0 m 105 ls [])) (N := 14) (lv := fun i => [(0, .ref h0), (1, .long 53602084283), (3, .int 1), (4, .int (nI i))]) 0 (by decide) ?_ ?_ ls (lv_sub hl [3, 1, 2, 0] rfl)
  · intro ls hl
    have hl : lv_has ls 6 [(0, .ref h0), (1, .long 53602084283), (3, .int 1), (4, .int 14)] := hl
    refine lv_iload hx hb dX6_digest_105 (lv_at hl 3 rfl) ?_
    refine lv_aload_n hx hb dX6_digest_107 rfl (lv_at hl 0 rfl) ?_
    refine va_get (D := D) (ci := 8) (v := .ref h2) (C := RX6) (T := TX6) (N := 11) hx hb hts wi_X6_digest_RX6 hown hK hP 0 rfl rfl 4 (by decide) (hts _ wd458_X6_digest) (fun _ h9 => h9) rfl dX6_digest_108 ?_
    refine lv_iload_n hx hb dX6_digest_111 rfl (lv_at hl 2 rfl) ?_
    refine lv_iconst (v := 1) hx hb dX6_digest_112 (by decide) ?_
    refine lv_isub hx hb dX6_digest_113 ?_
    refine tpi (v := 0) (by decide) ?_
    refine ya_ld2 hx hb hK hP 2 rfl (vpl (by decide)) (v := .ref h4) rfl dX6_digest_114 ?_
    refine va_alen hx hb hK hP 3 0 rfl rfl (v := 14) (by decide) dX6_digest_115 ?_
    refine lv_icmp_ge (tgt := 188) hx hb dX6_digest_116 (by decide) (fun _ => ?_) (fun h => absurd (by decide) h)
    refine lv_iinc (v := 2) (lv' := [(3, .int 2), (0, .ref h0), (1, .long 53602084283), (4, .int 14)]) hx hb dX6_digest_188 hl (k := 2) rfl (by decide) (by decide) rfl (fun ls hl => ?_)
    refine lv_goto (tgt := 77) hx hb dX6_digest_191 (by decide) ?_
    refine lv_iload_n hx hb dX6_digest_77 rfl (lv_at hl 0 rfl) ?_
    refine lv_aload_n hx hb dX6_digest_78 rfl (lv_at hl 1 rfl) ?_
    refine va_get (D := D) (ci := 8) (v := .int 2) (C := RX6) (T := TX6) (N := 11) hx hb hts wi_X6_digest_RX6 hown hK hP 0 rfl rfl 2 (by decide) (hts _ wd456_X6_digest) (fun _ h9 => h9) rfl dX6_digest_79 ?_
    refine lv_icmp_gt (tgt := 194) hx hb dX6_digest_82 (by decide) (fun h => absurd h (by decide)) (fun _ => ?_)
    refine lv_lload_n hx hb dX6_digest_85 rfl (lv_at hl 2 rfl) ?_
    refine lv_aload_n hx hb dX6_digest_86 rfl (lv_at hl 1 rfl) ?_
    refine va_get (D := D) (ci := 8) (v := .ref h2) (C := RX6) (T := TX6) (N := 11) hx hb hts wi_X6_digest_RX6 hown hK hP 0 rfl rfl 4 (by decide) (hts _ wd458_X6_digest) (fun _ h9 => h9) rfl dX6_digest_87 ?_
    refine lv_iload_n hx hb dX6_digest_90 rfl (lv_at hl 0 rfl) ?_
    refine lv_iconst (v := 1) hx hb dX6_digest_91 (by decide) ?_
    refine lv_isub hx hb dX6_digest_92 ?_
    refine tpi (v := 1) (by decide) ?_
    refine ya_ld2 hx hb hK hP 2 rfl (vpl (by decide)) (v := .ref h5) rfl dX6_digest_93 ?_
    refine vp_callSi (W.runS (As := [.ref h5]) (rest := [.long 53602084283]) ⟨hx, hb, hml, hown, hts⟩ (k_X6_many_1 l D κ ε h5) (va_cwS 1 hts gX6_digest_X6_many rfl rfl rfl (by decide +kernel) ⟨(Nat.le_of_ble_eq_true rfl), (Nat.le_of_ble_eq_true rfl)⟩) (pre0_S (wc := [(h5, .inl (κ 0, 196, .inl (fun _ => 0)))]) hP hK [4] rfl) rfl rfl hl.1 rfl (lv_room (Nat.le_of_ble_eq_true rfl)) dX6_digest_94 ⟨(Nat.le_of_ble_eq_true rfl), (Nat.le_of_ble_eq_true rfl)⟩) (fun r hw => ?_)
    rw [hw]
    refine lv_i2l (v := 0) hx hb dX6_digest_97 (by decide) ?_
    refine vp_callSl (W.runS (As := [.long 53602084283, .long 0]) (rest := []) ⟨hx, hb, hml, hown, hts⟩ (k_X6_add__4 l D κ ε) (va_cwS 2 hts gX6_digest_X6_add_ rfl rfl rfl (by decide +kernel) ⟨(Nat.le_of_ble_eq_true rfl), (Nat.le_of_ble_eq_true rfl)⟩) (pre0_S (wc := []) hP hK [] rfl) rfl rfl hl.1 rfl (lv_room (Nat.le_of_ble_eq_true rfl)) dX6_digest_98 ⟨(Nat.le_of_ble_eq_true rfl), (Nat.le_of_ble_eq_true rfl)⟩) (fun r hw => ?_)
    rw [hw]
    refine lv_lstore_n (lv' := [(1, .long 1661664612773), (3, .int 2), (0, .ref h0), (4, .int 14)]) hx hb dX6_digest_101 rfl hl (by decide) rfl (fun ls hl => ?_)
    refine lv_iconst (v := 0) hx hb dX6_digest_102 (by decide) ?_
    refine lv_istore (lv' := [(4, .int 0), (1, .long 1661664612773), (3, .int 2), (0, .ref h0)]) hx hb dX6_digest_103 hl (by decide) rfl (fun ls hl => ?_)
    refine loop_up (Wp := fun ls => W p l e _ s m _ below meth c H _ _ _ _ (F0 m 105 ls [])) (N := 196) (lv := fun i => [(0, .ref h0), (1, .long 1661664612773), (3, .int 2), (4, .int (nI i))]) 0 (by decide) ?_ ?_ ls (lv_sub hl [3, 1, 2, 0] rfl)
    · intro ls hl
      have hl : lv_has ls 6 [(0, .ref h0), (1, .long 1661664612773), (3, .int 2), (4, .int 196)] := hl
      refine lv_iload hx hb dX6_digest_105 (lv_at hl 3 rfl) ?_
      refine lv_aload_n hx hb dX6_digest_107 rfl (lv_at hl 0 rfl) ?_
      refine va_get (D := D) (ci := 8) (v := .ref h2) (C := RX6) (T := TX6) (N := 11) hx hb hts wi_X6_digest_RX6 hown hK hP 0 rfl rfl 4 (by decide) (hts _ wd458_X6_digest) (fun _ h9 => h9) rfl dX6_digest_108 ?_
      refine lv_iload_n hx hb dX6_digest_111 rfl (lv_at hl 2 rfl) ?_
      refine lv_iconst (v := 1) hx hb dX6_digest_112 (by decide) ?_
      refine lv_isub hx hb dX6_digest_113 ?_
      refine tpi (v := 1) (by decide) ?_
      refine ya_ld2 hx hb hK hP 2 rfl (vpl (by decide)) (v := .ref h5) rfl dX6_digest_114 ?_
      refine va_alen hx hb hK hP 4 0 rfl rfl (v := 196) (by decide) dX6_digest_115 ?_
      refine lv_icmp_ge (tgt := 188) hx hb dX6_digest_116 (by decide) (fun _ => ?_) (fun h => absurd (by decide) h)
      refine lv_iinc (v := 3) (lv' := [(3, .int 3), (0, .ref h0), (1, .long 1661664612773), (4, .int 196)]) hx hb dX6_digest_188 hl (k := 2) rfl (by decide) (by decide) rfl (fun ls hl => ?_)
      refine lv_goto (tgt := 77) hx hb dX6_digest_191 (by decide) ?_
      refine lv_iload_n hx hb dX6_digest_77 rfl (lv_at hl 0 rfl) ?_
      refine lv_aload_n hx hb dX6_digest_78 rfl (lv_at hl 1 rfl) ?_
      refine va_get (D := D) (ci := 8) (v := .int 2) (C := RX6) (T := TX6) (N := 11) hx hb hts wi_X6_digest_RX6 hown hK hP 0 rfl rfl 2 (by decide) (hts _ wd456_X6_digest) (fun _ h9 => h9) rfl dX6_digest_79 ?_
      refine lv_icmp_gt (tgt := 194) hx hb dX6_digest_82 (by decide) (fun _ => ?_) (fun h => absurd (by decide) h)
      refine lv_iconst (v := 1) hx hb dX6_digest_194 (by decide) ?_
      refine lv_istore_n (lv' := [(3, .int 1), (0, .ref h0), (1, .long 1661664612773), (4, .int 196)]) hx hb dX6_digest_195 rfl hl (by decide) rfl (fun ls hl => ?_)
      refine lv_iload_n hx hb dX6_digest_196 rfl (lv_at hl 0 rfl) ?_
      refine lv_aload_n hx hb dX6_digest_197 rfl (lv_at hl 1 rfl) ?_
      refine va_get (D := D) (ci := 8) (v := .int 2) (C := RX6) (T := TX6) (N := 11) hx hb hts wi_X6_digest_RX6 hown hK hP 0 rfl rfl 2 (by decide) (hts _ wd456_X6_digest) (fun _ h9 => h9) rfl dX6_digest_198 ?_
      refine lv_icmp_gt (tgt := 232) hx hb dX6_digest_201 (by decide) (fun h => absurd h (by decide)) (fun _ => ?_)
      refine lv_lload_n hx hb dX6_digest_204 rfl (lv_at hl 2 rfl) ?_
      refine lv_aload_n hx hb dX6_digest_205 rfl (lv_at hl 1 rfl) ?_
      refine lv_iload_n hx hb dX6_digest_206 rfl (lv_at hl 0 rfl) ?_
      refine lv_iconst (v := 0) hx hb dX6_digest_207 (by decide) ?_
      refine vp_callSi (W.runV (As := [.int 1, .int 0]) (rest := [.long 1661664612773]) ⟨hx, hb, hml, hown, hts⟩ (k_X6_context_1 l D κ ε h0 h1 h2 h3 h4 h5 h6 h7 (0) (0) (2) (0) (500) (0) (0) (0)) (cwV 2 hts gX6_digest_X6_context rfl rfl rfl (by decide +kernel) ⟨(Nat.le_of_ble_eq_true rfl), (Nat.le_of_ble_eq_true rfl)⟩) (pre0_V (q0 := 0) (ci := 8) (wc := [(h0, .inr (8, [.int 0, .int 0, .int 2, .ref h1, .ref h2, .int 0, .int 500, .int 0, .int 0, .int 0, .ref h3])), (h1, .inr (1, [.int 0, .ref (ε 1), .int 0])), (h2, .inl (κ 4, 4, .inr (.inr (.inr (.inr (sel [h4, h5, h6, h7])))))), (h4, .inl (κ 0, 14, .inl (fun _ => 0)))]) hP hK [0, 1, 2, 3] rfl rfl rfl) rfl rfl hl.1 rfl (lv_room (Nat.le_of_ble_eq_true rfl)) dX6_digest_208 ⟨(Nat.le_of_ble_eq_true rfl), (Nat.le_of_ble_eq_true rfl)⟩) (fun r hw => ?_)
      rw [hw]
      refine lv_i2l (v := 0) hx hb dX6_digest_211 (by decide) ?_
      refine vp_callSl (W.runS (As := [.long 1661664612773, .long 0]) (rest := []) ⟨hx, hb, hml, hown, hts⟩ (k_X6_add__5 l D κ ε) (va_cwS 2 hts gX6_digest_X6_add_ rfl rfl rfl (by decide +kernel) ⟨(Nat.le_of_ble_eq_true rfl), (Nat.le_of_ble_eq_true rfl)⟩) (pre0_S (wc := []) hP hK [] rfl) rfl rfl hl.1 rfl (lv_room (Nat.le_of_ble_eq_true rfl)) dX6_digest_212 ⟨(Nat.le_of_ble_eq_true rfl), (Nat.le_of_ble_eq_true rfl)⟩) (fun r hw => ?_)
      rw [hw]
      refine lv_aload_n hx hb dX6_digest_215 rfl (lv_at hl 1 rfl) ?_
      refine lv_iload_n hx hb dX6_digest_216 rfl (lv_at hl 0 rfl) ?_
      refine lv_iconst (v := 1) hx hb dX6_digest_217 (by decide) ?_
      refine vp_callSi (W.runV (As := [.int 1, .int 1]) (rest := [.long 51511602995963]) ⟨hx, hb, hml, hown, hts⟩ (k_X6_context_4 l D κ ε h0 h1 h2 h3 h4 h5 h6 h7 (0) (0) (2) (0) (500) (0) (0) (0)) (cwV 2 hts gX6_digest_X6_context rfl rfl rfl (by decide +kernel) ⟨(Nat.le_of_ble_eq_true rfl), (Nat.le_of_ble_eq_true rfl)⟩) (pre0_V (q0 := 0) (ci := 8) (wc := [(h0, .inr (8, [.int 0, .int 0, .int 2, .ref h1, .ref h2, .int 0, .int 500, .int 0, .int 0, .int 0, .ref h3])), (h1, .inr (1, [.int 0, .ref (ε 1), .int 0])), (h2, .inl (κ 4, 4, .inr (.inr (.inr (.inr (sel [h4, h5, h6, h7])))))), (h4, .inl (κ 0, 14, .inl (fun _ => 0)))]) hP hK [0, 1, 2, 3] rfl rfl rfl) rfl rfl hl.1 rfl (lv_room (Nat.le_of_ble_eq_true rfl)) dX6_digest_218 ⟨(Nat.le_of_ble_eq_true rfl), (Nat.le_of_ble_eq_true rfl)⟩) (fun r hw => ?_)
      rw [hw]
      refine lv_i2l (v := 0) hx hb dX6_digest_221 (by decide) ?_
      refine vp_callSl (W.runS (As := [.long 51511602995963, .long 0]) (rest := []) ⟨hx, hb, hml, hown, hts⟩ (k_X6_add__6 l D κ ε) (va_cwS 2 hts gX6_digest_X6_add_ rfl rfl rfl (by decide +kernel) ⟨(Nat.le_of_ble_eq_true rfl), (Nat.le_of_ble_eq_true rfl)⟩) (pre0_S (wc := []) hP hK [] rfl) rfl rfl hl.1 rfl (lv_room (Nat.le_of_ble_eq_true rfl)) dX6_digest_222 ⟨(Nat.le_of_ble_eq_true rfl), (Nat.le_of_ble_eq_true rfl)⟩) (fun r hw => ?_)
      rw [hw]
      refine lv_lstore_n (lv' := [(1, .long 1596859692874853), (3, .int 1), (0, .ref h0), (4, .int 196)]) hx hb dX6_digest_225 rfl hl (by decide) rfl (fun ls hl => ?_)
      refine lv_iinc (v := 2) (lv' := [(3, .int 2), (1, .long 1596859692874853), (0, .ref h0), (4, .int 196)]) hx hb dX6_digest_226 hl (k := 1) rfl (by decide) (by decide) rfl (fun ls hl => ?_)
      refine lv_goto (tgt := 196) hx hb dX6_digest_229 (by decide) ?_
      refine lv_iload_n hx hb dX6_digest_196 rfl (lv_at hl 0 rfl) ?_
      refine lv_aload_n hx hb dX6_digest_197 rfl (lv_at hl 2 rfl) ?_
      refine va_get (D := D) (ci := 8) (v := .int 2) (C := RX6) (T := TX6) (N := 11) hx hb hts wi_X6_digest_RX6 hown hK hP 0 rfl rfl 2 (by decide) (hts _ wd456_X6_digest) (fun _ h9 => h9) rfl dX6_digest_198 ?_
      refine lv_icmp_gt (tgt := 232) hx hb dX6_digest_201 (by decide) (fun h => absurd h (by decide)) (fun _ => ?_)
      refine lv_lload_n hx hb dX6_digest_204 rfl (lv_at hl 1 rfl) ?_
      refine lv_aload_n hx hb dX6_digest_205 rfl (lv_at hl 2 rfl) ?_
      refine lv_iload_n hx hb dX6_digest_206 rfl (lv_at hl 0 rfl) ?_
      refine lv_iconst (v := 0) hx hb dX6_digest_207 (by decide) ?_
      refine vp_callSi (W.runV (As := [.int 2, .int 0]) (rest := [.long 1596859692874853]) ⟨hx, hb, hml, hown, hts⟩ (k_X6_context_3 l D κ ε h0 h1 h2 h3 h4 h5 h6 h7 (0) (0) (2) (0) (500) (0) (0) (0)) (cwV 2 hts gX6_digest_X6_context rfl rfl rfl (by decide +kernel) ⟨(Nat.le_of_ble_eq_true rfl), (Nat.le_of_ble_eq_true rfl)⟩) (pre0_V (q0 := 0) (ci := 8) (wc := [(h0, .inr (8, [.int 0, .int 0, .int 2, .ref h1, .ref h2, .int 0, .int 500, .int 0, .int 0, .int 0, .ref h3])), (h1, .inr (1, [.int 0, .ref (ε 1), .int 0])), (h2, .inl (κ 4, 4, .inr (.inr (.inr (.inr (sel [h4, h5, h6, h7])))))), (h5, .inl (κ 0, 196, .inl (fun _ => 0)))]) hP hK [0, 1, 2, 4] rfl rfl rfl) rfl rfl hl.1 rfl (lv_room (Nat.le_of_ble_eq_true rfl)) dX6_digest_208 ⟨(Nat.le_of_ble_eq_true rfl), (Nat.le_of_ble_eq_true rfl)⟩) (fun r hw => ?_)
      rw [hw]
      refine lv_i2l (v := 0) hx hb dX6_digest_211 (by decide) ?_
      refine vp_callSl (W.runS (As := [.long 1596859692874853, .long 0]) (rest := []) ⟨hx, hb, hml, hown, hts⟩ (k_X6_add__7 l D κ ε) (va_cwS 2 hts gX6_digest_X6_add_ rfl rfl rfl (by decide +kernel) ⟨(Nat.le_of_ble_eq_true rfl), (Nat.le_of_ble_eq_true rfl)⟩) (pre0_S (wc := []) hP hK [] rfl) rfl rfl hl.1 rfl (lv_room (Nat.le_of_ble_eq_true rfl)) dX6_digest_212 ⟨(Nat.le_of_ble_eq_true rfl), (Nat.le_of_ble_eq_true rfl)⟩) (fun r hw => ?_)
      rw [hw]
      refine lv_aload_n hx hb dX6_digest_215 rfl (lv_at hl 2 rfl) ?_
      refine lv_iload_n hx hb dX6_digest_216 rfl (lv_at hl 0 rfl) ?_
      refine lv_iconst (v := 1) hx hb dX6_digest_217 (by decide) ?_
      refine vp_callSi (W.runV (As := [.int 2, .int 1]) (rest := [.long 49502650479120443]) ⟨hx, hb, hml, hown, hts⟩ (k_X6_context_5 l D κ ε h0 h1 h2 h3 h4 h5 h6 h7 (0) (0) (2) (0) (500) (0) (0) (0)) (cwV 2 hts gX6_digest_X6_context rfl rfl rfl (by decide +kernel) ⟨(Nat.le_of_ble_eq_true rfl), (Nat.le_of_ble_eq_true rfl)⟩) (pre0_V (q0 := 0) (ci := 8) (wc := [(h0, .inr (8, [.int 0, .int 0, .int 2, .ref h1, .ref h2, .int 0, .int 500, .int 0, .int 0, .int 0, .ref h3])), (h1, .inr (1, [.int 0, .ref (ε 1), .int 0])), (h2, .inl (κ 4, 4, .inr (.inr (.inr (.inr (sel [h4, h5, h6, h7])))))), (h5, .inl (κ 0, 196, .inl (fun _ => 0)))]) hP hK [0, 1, 2, 4] rfl rfl rfl) rfl rfl hl.1 rfl (lv_room (Nat.le_of_ble_eq_true rfl)) dX6_digest_218 ⟨(Nat.le_of_ble_eq_true rfl), (Nat.le_of_ble_eq_true rfl)⟩) (fun r hw => ?_)
      rw [hw]
      refine lv_i2l (v := 0) hx hb dX6_digest_221 (by decide) ?_
      refine vp_callSl (W.runS (As := [.long 49502650479120443, .long 0]) (rest := []) ⟨hx, hb, hml, hown, hts⟩ (k_X6_add__8 l D κ ε) (va_cwS 2 hts gX6_digest_X6_add_ rfl rfl rfl (by decide +kernel) ⟨(Nat.le_of_ble_eq_true rfl), (Nat.le_of_ble_eq_true rfl)⟩) (pre0_S (wc := []) hP hK [] rfl) rfl rfl hl.1 rfl (lv_room (Nat.le_of_ble_eq_true rfl)) dX6_digest_222 ⟨(Nat.le_of_ble_eq_true rfl), (Nat.le_of_ble_eq_true rfl)⟩) (fun r hw => ?_)
      rw [hw]
      refine lv_lstore_n (lv' := [(1, .long 1534582164852733733), (3, .int 2), (0, .ref h0), (4, .int 196)]) hx hb dX6_digest_225 rfl hl (by decide) rfl (fun ls hl => ?_)
      refine lv_iinc (v := 3) (lv' := [(3, .int 3), (1, .long 1534582164852733733), (0, .ref h0), (4, .int 196)]) hx hb dX6_digest_226 hl (k := 1) rfl (by decide) (by decide) rfl (fun ls hl => ?_)
      refine lv_goto (tgt := 196) hx hb dX6_digest_229 (by decide) ?_
      refine lv_iload_n hx hb dX6_digest_196 rfl (lv_at hl 0 rfl) ?_
      refine lv_aload_n hx hb dX6_digest_197 rfl (lv_at hl 2 rfl) ?_
      refine va_get (D := D) (ci := 8) (v := .int 2) (C := RX6) (T := TX6) (N := 11) hx hb hts wi_X6_digest_RX6 hown hK hP 0 rfl rfl 2 (by decide) (hts _ wd456_X6_digest) (fun _ h9 => h9) rfl dX6_digest_198 ?_
      refine lv_icmp_gt (tgt := 232) hx hb dX6_digest_201 (by decide) (fun _ => ?_) (fun h => absurd (by decide) h)
      refine lv_aload_n hx hb dX6_digest_232 rfl (lv_at hl 2 rfl) ?_
      refine lv_aload_n hx hb dX6_digest_233 rfl (lv_at hl 2 rfl) ?_
      refine va_get (D := D) (ci := 8) (v := .ref h1) (C := RX6) (T := TX6) (N := 11) hx hb hts wi_X6_digest_RX6 hown hK hP 0 rfl rfl 3 (by decide) (hts _ wd457_X6_digest) (fun _ h9 => h9) rfl dX6_digest_234 ?_
      have hF := va_free (wc := [(h0, .inr (8, [.int 0, .int 0, .int 2, .ref h1, .ref h2, .int 0, .int 500, .int 0, .int 0, .int 0, .ref h3]))]) hD hS hA [0] rfl
      refine va_callr (va_runV (As := [.ref h1]) (rest := []) ⟨hx, hb, hml, hown, hts⟩ (k_X6_order__0 l D κ ε h0 h1 h2 h3 H.size (0) (2) (0) (500) (0) (0)) (cwV 1 hts gX6_digest_X6_order_ rfl rfl rfl (by decide +kernel) ⟨(Nat.le_of_ble_eq_true rfl), (Nat.le_of_ble_eq_true rfl)⟩) (pre2_V (q0 := 0) (ci := 8) (wc := [(h0, .inr (8, [.int 0, .int 0, .int 2, .ref h1, .ref h2, .int 0, .int 500, .int 0, .int 0, .int 0, .ref h3]))]) hP hD hK hE9 hS hA [0] (by decide) rfl rfl rfl) rfl rfl hl.1 rfl (lv_room (Nat.le_of_ble_eq_true rfl)) dX6_digest_237 ⟨(Nat.le_of_ble_eq_true rfl), (Nat.le_of_ble_eq_true rfl)⟩) hS (fun q _ h => hF q h) hF (fun u3 ra t H locs ht hvm hw hB hz1 hk1 hS => ?_)
      try dsimp only at hw hB
      obtain ⟨rfl, hB⟩ := hB
      obtain ⟨hP1, hD1⟩ := hB
      rw [ht] at hP1
      obtain ⟨hP, hD⟩ := post_j (ws' := [(h0, .inr (8, [.int 0, .int 0, .int 2, .ref h1, .ref h2, .int 0, .int 500, .int 0, .int 0, .int 0, .ref h3])), (h1, .inr (1, [.int 0, .ref (ε 1), .int 0])), (h2, .inl (κ 4, 4, .inr (.inr (.inr (.inr (sel [h4, h5, h6, h7])))))), (h4, .inl (κ 0, 14, .inl (fun _ => 0))), (h5, .inl (κ 0, 196, .inl (fun _ => 0))), ((u3 0), .inl (κ 0, 1, .inl (fun _ => 0)))]) (wr := [(h1, .inr (1, [.int 0, .ref (ε 1), .int 0])), (h2, .inl (κ 4, 4, .inr (.inr (.inr (.inr (sel [h4, h5, h6, h7])))))), (h4, .inl (κ 0, 14, .inl (fun _ => 0))), (h5, .inl (κ 0, 196, .inl (fun _ => 0)))]) (w1 := [(h0, .inr (8, [.int 0, .int 0, .int 2, .ref h1, .ref h2, .int 0, .int 500, .int 0, .int 0, .int 0, .ref h3])), ((u3 0), .inl (κ 0, 1, .inl (fun _ => 0)))]) hP hD hF [0] rfl [1, 2, 3, 4] rfl (by decide) (by decide) hk1 hP1 hD1 [4, 0, 1, 2, 3, 5] (by decide) rfl
      have hP : va_P D vwCl [(h0, .inr (8, [.int 0, .int 0, .int 2, .ref h1, .ref h2, .int 0, .int 500, .int 0, .int 0, .int 0, .ref h3])), (h1, .inr (1, [.int 0, .ref (ε 1), .int 0])), (h2, .inl (κ 4, 4, .inr (.inr (.inr (.inr (sel [h4, h5, h6, h7])))))), (h4, .inl (κ 0, 14, .inl (fun _ => 0))), (h5, .inl (κ 0, 196, .inl (fun _ => 0))), ((u3 0), .inl (κ 0, 1, .inl (fun _ => 0)))] H := hP
      have hD : va_D A [(h0, .inr (8, [.int 0, .int 0, .int 2, .ref h1, .ref h2, .int 0, .int 500, .int 0, .int 0, .int 0, .ref h3])), (h1, .inr (1, [.int 0, .ref (ε 1), .int 0])), (h2, .inl (κ 4, 4, .inr (.inr (.inr (.inr (sel [h4, h5, h6, h7])))))), (h4, .inl (κ 0, 14, .inl (fun _ => 0))), (h5, .inl (κ 0, 196, .inl (fun _ => 0))), ((u3 0), .inl (κ 0, 1, .inl (fun _ => 0)))] := hD
      refine lv_astore_n (lv' := [(3, .ref (u3 0)), (1, .long 1534582164852733733), (0, .ref h0), (4, .int 196)]) hx hb dX6_digest_240 rfl hl (by decide) rfl (fun ls hl => ?_)
      refine lv_iconst (v := 0) hx hb dX6_digest_241 (by decide) ?_
      refine lv_istore (lv' := [(4, .int 0), (3, .ref (u3 0)), (1, .long 1534582164852733733), (0, .ref h0)]) hx hb dX6_digest_242 hl (by decide) rfl (fun ls hl => ?_)
      refine lv_iload hx hb dX6_digest_244 (lv_at hl 0 rfl) ?_
      refine lv_aload_n hx hb dX6_digest_246 rfl (lv_at hl 3 rfl) ?_
      refine va_get (D := D) (ci := 8) (v := .int 0) (C := RX6) (T := TX6) (N := 11) hx hb hts wi_X6_digest_RX6 hown hK hP 0 rfl rfl 1 (by decide) (hts _ wd455_X6_digest) (fun _ h9 => h9) rfl dX6_digest_247 ?_
      refine lv_icmp_gt (tgt := 274) hx hb dX6_digest_250 (by decide) (fun h => absurd h (by decide)) (fun _ => ?_)
      refine lv_lload_n hx hb dX6_digest_253 rfl (lv_at hl 2 rfl) ?_
      refine lv_aload_n hx hb dX6_digest_254 rfl (lv_at hl 3 rfl) ?_
      refine lv_aload_n hx hb dX6_digest_255 rfl (lv_at hl 3 rfl) ?_
      refine va_get (D := D) (ci := 8) (v := .ref h1) (C := RX6) (T := TX6) (N := 11) hx hb hts wi_X6_digest_RX6 hown hK hP 0 rfl rfl 3 (by decide) (hts _ wd457_X6_digest) (fun _ h9 => h9) rfl dX6_digest_256 ?_
      refine lv_iload hx hb dX6_digest_259 (lv_at hl 0 rfl) ?_
      refine vp_callSl (W.runV (As := [.ref h1, .int 0]) (rest := [.long 1534582164852733733]) ⟨hx, hb, hml, hown, hts⟩ (k_X6_behind_0 l D κ ε h0 h1 h2 h3 h4 h5 h6 h7 (0) (0) (0) (0)) (cwV 2 hts gX6_digest_X6_behind rfl rfl rfl (by decide +kernel) ⟨(Nat.le_of_ble_eq_true rfl), (Nat.le_of_ble_eq_true rfl)⟩) (pre0_V (q0 := 0) (ci := 8) (wc := [(h0, .inr (8, [.int 0, .int 0, .int 2, .ref h1, .ref h2, .int 0, .int 500, .int 0, .int 0, .int 0, .ref h3])), (h1, .inr (1, [.int 0, .ref (ε 1), .int 0])), (h2, .inl (κ 4, 4, .inr (.inr (.inr (.inr (sel [h4, h5, h6, h7])))))), (h5, .inl (κ 0, 196, .inl (fun _ => 0)))]) hP hK [0, 1, 2, 4] rfl rfl rfl) rfl rfl hl.1 rfl (lv_room (Nat.le_of_ble_eq_true rfl)) dX6_digest_261 ⟨(Nat.le_of_ble_eq_true rfl), (Nat.le_of_ble_eq_true rfl)⟩) (fun r hw => ?_)
      rw [hw]
      refine vp_callSl (W.runS (As := [.long 1534582164852733733, .long 1000000]) (rest := []) ⟨hx, hb, hml, hown, hts⟩ (k_X6_add__9 l D κ ε) (va_cwS 2 hts gX6_digest_X6_add_ rfl rfl rfl (by decide +kernel) ⟨(Nat.le_of_ble_eq_true rfl), (Nat.le_of_ble_eq_true rfl)⟩) (pre0_S (wc := []) hP hK [] rfl) rfl rfl hl.1 rfl (lv_room (Nat.le_of_ble_eq_true rfl)) dX6_digest_264 ⟨(Nat.le_of_ble_eq_true rfl), (Nat.le_of_ble_eq_true rfl)⟩) (fun r hw => ?_)
      rw [hw]
      refine lv_lstore_n (lv' := [(1, .long (-7768185110692909125)), (4, .int 0), (3, .ref (u3 0)), (0, .ref h0)]) hx hb dX6_digest_267 rfl hl (by decide) rfl (fun ls hl => ?_)
      refine lv_iinc (v := 1) (lv' := [(4, .int 1), (1, .long (-7768185110692909125)), (3, .ref (u3 0)), (0, .ref h0)]) hx hb dX6_digest_268 hl (k := 1) rfl (by decide) (by decide) rfl (fun ls hl => ?_)
      refine lv_goto (tgt := 244) hx hb dX6_digest_271 (by decide) ?_
      refine lv_iload hx hb dX6_digest_244 (lv_at hl 0 rfl) ?_
      refine lv_aload_n hx hb dX6_digest_246 rfl (lv_at hl 3 rfl) ?_
      refine va_get (D := D) (ci := 8) (v := .int 0) (C := RX6) (T := TX6) (N := 11) hx hb hts wi_X6_digest_RX6 hown hK hP 0 rfl rfl 1 (by decide) (hts _ wd455_X6_digest) (fun _ h9 => h9) rfl dX6_digest_247 ?_
      refine lv_icmp_gt (tgt := 274) hx hb dX6_digest_250 (by decide) (fun _ => ?_) (fun h => absurd (by decide) h)
      refine lv_iconst (v := 0) hx hb dX6_digest_274 (by decide) ?_
      refine lv_istore (lv' := [(4, .int 0), (1, .long (-7768185110692909125)), (3, .ref (u3 0)), (0, .ref h0)]) hx hb dX6_digest_275 hl (by decide) rfl (fun ls hl => ?_)
      refine lv_iload hx hb dX6_digest_277 (lv_at hl 0 rfl) ?_
      refine lv_aload_n hx hb dX6_digest_279 rfl (lv_at hl 3 rfl) ?_
      refine va_get (D := D) (ci := 8) (v := .int 0) (C := RX6) (T := TX6) (N := 11) hx hb hts wi_X6_digest_RX6 hown hK hP 0 rfl rfl 1 (by decide) (hts _ wd455_X6_digest) (fun _ h9 => h9) rfl dX6_digest_280 ?_
      refine lv_icmp_gt (tgt := 302) hx hb dX6_digest_283 (by decide) (fun h => absurd h (by decide)) (fun _ => ?_)
      refine lv_lload_n hx hb dX6_digest_286 rfl (lv_at hl 1 rfl) ?_
      refine lv_aload_n hx hb dX6_digest_287 rfl (lv_at hl 2 rfl) ?_
      refine lv_iload hx hb dX6_digest_288 (lv_at hl 0 rfl) ?_
      refine va_iald (cA := κ 0) (n := 1) (f := (fun _ => 0)) hx hb hK hP 5 0 rfl rfl (vpl (by decide)) dX6_digest_290 ?_
      refine tpi (v := 0) (by decide) ?_
      refine lv_i2l (v := 0) hx hb dX6_digest_291 (by decide) ?_
      refine vp_callSl (W.runS (As := [.long (-7768185110692909125), .long 0]) (rest := []) ⟨hx, hb, hml, hown, hts⟩ (k_X6_add__10 l D κ ε) (va_cwS 2 hts gX6_digest_X6_add_ rfl rfl rfl (by decide +kernel) ⟨(Nat.le_of_ble_eq_true rfl), (Nat.le_of_ble_eq_true rfl)⟩) (pre0_S (wc := []) hP hK [] rfl) rfl rfl hl.1 rfl (lv_room (Nat.le_of_ble_eq_true rfl)) dX6_digest_292 ⟨(Nat.le_of_ble_eq_true rfl), (Nat.le_of_ble_eq_true rfl)⟩) (fun r hw => ?_)
      rw [hw]
      refine lv_lstore_n (lv' := [(1, .long (-1006065473256011867)), (4, .int 0), (3, .ref (u3 0)), (0, .ref h0)]) hx hb dX6_digest_295 rfl hl (by decide) rfl (fun ls hl => ?_)
      refine lv_iinc (v := 1) (lv' := [(4, .int 1), (1, .long (-1006065473256011867)), (3, .ref (u3 0)), (0, .ref h0)]) hx hb dX6_digest_296 hl (k := 1) rfl (by decide) (by decide) rfl (fun ls hl => ?_)
      refine lv_goto (tgt := 277) hx hb dX6_digest_299 (by decide) ?_
      refine lv_iload hx hb dX6_digest_277 (lv_at hl 0 rfl) ?_
      refine lv_aload_n hx hb dX6_digest_279 rfl (lv_at hl 3 rfl) ?_
      refine va_get (D := D) (ci := 8) (v := .int 0) (C := RX6) (T := TX6) (N := 11) hx hb hts wi_X6_digest_RX6 hown hK hP 0 rfl rfl 1 (by decide) (hts _ wd455_X6_digest) (fun _ h9 => h9) rfl dX6_digest_280 ?_
      refine lv_icmp_gt (tgt := 302) hx hb dX6_digest_283 (by decide) (fun _ => ?_) (fun h => absurd (by decide) h)
      refine lv_lload_n hx hb dX6_digest_302 rfl (lv_at hl 1 rfl) ?_
      refine lv_aload_n hx hb dX6_digest_303 rfl (lv_at hl 3 rfl) ?_
      refine vp_callSi (W.runV (As := []) (rest := [.long (-1006065473256011867)]) ⟨hx, hb, hml, hown, hts⟩ (k_X6_scoreNow_0 l D κ ε h0 h1 h2 h3 h4 h5 h6 h7 (0) (0) (0) (0)) (cwV 0 hts gX6_digest_X6_scoreNow rfl rfl rfl (by decide +kernel) ⟨(Nat.le_of_ble_eq_true rfl), (Nat.le_of_ble_eq_true rfl)⟩) (pre0_V (q0 := 0) (ci := 8) (wc := [(h0, .inr (8, [.int 0, .int 0, .int 2, .ref h1, .ref h2, .int 0, .int 500, .int 0, .int 0, .int 0, .ref h3])), (h1, .inr (1, [.int 0, .ref (ε 1), .int 0])), (h2, .inl (κ 4, 4, .inr (.inr (.inr (.inr (sel [h4, h5, h6, h7])))))), (h5, .inl (κ 0, 196, .inl (fun _ => 0)))]) hP hK [0, 1, 2, 4] rfl rfl rfl) rfl rfl hl.1 rfl (lv_room (Nat.le_of_ble_eq_true rfl)) dX6_digest_304 ⟨(Nat.le_of_ble_eq_true rfl), (Nat.le_of_ble_eq_true rfl)⟩) (fun r hw => ?_)
      rw [hw]
      refine lv_i2l (v := 0) hx hb dX6_digest_307 (by decide) ?_
      refine vp_callSl (W.runS (As := [.long (-1006065473256011867), .long 0]) (rest := []) ⟨hx, hb, hml, hown, hts⟩ (k_X6_add__11 l D κ ε) (va_cwS 2 hts gX6_digest_X6_add_ rfl rfl rfl (by decide +kernel) ⟨(Nat.le_of_ble_eq_true rfl), (Nat.le_of_ble_eq_true rfl)⟩) (pre0_S (wc := []) hP hK [] rfl) rfl rfl hl.1 rfl (lv_room (Nat.le_of_ble_eq_true rfl)) dX6_digest_308 ⟨(Nat.le_of_ble_eq_true rfl), (Nat.le_of_ble_eq_true rfl)⟩) (fun r hw => ?_)
      rw [hw]
      refine lv_aload_n hx hb dX6_digest_311 rfl (lv_at hl 3 rfl) ?_
      refine va_get (D := D) (ci := 8) (v := .int 0) (C := RX6) (T := TX6) (N := 11) hx hb hts wi_X6_digest_RX6 hown hK hP 0 rfl rfl 7 (by decide) (hts _ wd459_X6_digest) (fun _ h9 => h9) rfl dX6_digest_312 ?_
      refine lv_i2l (v := 0) hx hb dX6_digest_315 (by decide) ?_
      refine vp_callSl (W.runS (As := [.long 5705458476482735355, .long 0]) (rest := []) ⟨hx, hb, hml, hown, hts⟩ (k_X6_add__12 l D κ ε) (va_cwS 2 hts gX6_digest_X6_add_ rfl rfl rfl (by decide +kernel) ⟨(Nat.le_of_ble_eq_true rfl), (Nat.le_of_ble_eq_true rfl)⟩) (pre0_S (wc := []) hP hK [] rfl) rfl rfl hl.1 rfl (lv_room (Nat.le_of_ble_eq_true rfl)) dX6_digest_316 ⟨(Nat.le_of_ble_eq_true rfl), (Nat.le_of_ble_eq_true rfl)⟩) (fun r hw => ?_)
      rw [hw]
      refine lv_aload_n hx hb dX6_digest_319 rfl (lv_at hl 3 rfl) ?_
      refine va_get (D := D) (ci := 8) (v := .int 0) (C := RX6) (T := TX6) (N := 11) hx hb hts wi_X6_digest_RX6 hown hK hP 0 rfl rfl 8 (by decide) (hts _ wd460_X6_digest) (fun _ h9 => h9) rfl dX6_digest_320 ?_
      refine lv_i2l (v := 0) hx hb dX6_digest_323 (by decide) ?_
      refine vp_callSl (W.runS (As := [.long (-7598227966130720155), .long 0]) (rest := []) ⟨hx, hb, hml, hown, hts⟩ (k_X6_add__13 l D κ ε) (va_cwS 2 hts gX6_digest_X6_add_ rfl rfl rfl (by decide +kernel) ⟨(Nat.le_of_ble_eq_true rfl), (Nat.le_of_ble_eq_true rfl)⟩) (pre0_S (wc := []) hP hK [] rfl) rfl rfl hl.1 rfl (lv_room (Nat.le_of_ble_eq_true rfl)) dX6_digest_324 ⟨(Nat.le_of_ble_eq_true rfl), (Nat.le_of_ble_eq_true rfl)⟩) (fun r hw => ?_)
      rw [hw]
      refine lv_aload_n hx hb dX6_digest_327 rfl (lv_at hl 3 rfl) ?_
      refine va_get (D := D) (ci := 8) (v := .int 0) (C := RX6) (T := TX6) (N := 11) hx hb hts wi_X6_digest_RX6 hown hK hP 0 rfl rfl 9 (by decide) (hts _ wd461_X6_digest) (fun _ h9 => h9) rfl dX6_digest_328 ?_
      refine lv_if_eq (tgt := 338) hx hb dX6_digest_331 (by decide) (fun _ => ?_) (fun h => absurd (by decide) h)
      refine lv_lconst (v := 0) hx hb dX6_digest_338 (by decide) ?_
      refine vp_callSl (W.runS (As := [.long 4262606008171846203, .long 0]) (rest := []) ⟨hx, hb, hml, hown, hts⟩ (k_X6_add__14 l D κ ε) (va_cwS 2 hts gX6_digest_X6_add_ rfl rfl rfl (by decide +kernel) ⟨(Nat.le_of_ble_eq_true rfl), (Nat.le_of_ble_eq_true rfl)⟩) (pre0_S (wc := []) hP hK [] rfl) rfl rfl hl.1 rfl (lv_room (Nat.le_of_ble_eq_true rfl)) dX6_digest_339 ⟨(Nat.le_of_ble_eq_true rfl), (Nat.le_of_ble_eq_true rfl)⟩) (fun r hw => ?_)
      rw [hw]
      have hP9 := hP.sub (ws' := [(h0, .inr (8, [.int 0, .int 0, .int 2, .ref h1, .ref h2, .int 0, .int 500, .int 0, .int 0, .int 0, .ref h3]))]) [0] rfl
      have hD9 := hD.sub (ws' := [(h0, .inr (8, [.int 0, .int 0, .int 2, .ref h1, .ref h2, .int 0, .int 500, .int 0, .int 0, .int 0, .ref h3]))]) [0] (by decide) rfl
      refine W.widen (k := 1) (n := 1) (Nat.le_of_ble_eq_true rfl) (Nat.le_of_ble_eq_true rfl) ?_
      exact W.lret (v := 3013577737360370981) hx hb hr (fun t ht hW => ⟨⟨3013577737360370981, [.int 0, .int 0, .int 2, .ref h1, .ref h2, .int 0, .int 500, .int 0, .int 0, .int 0, .ref h3], rfl, ⟨rfl, rfl⟩, by rw [ht]; exact hP9, hD9⟩, hS.F ht⟩) hS.2.2 dX6_digest_342
    · intro i2 hji2 hii2 ihi2 ls hl
      have hl : lv_has ls 6 [(0, .ref h0), (1, .long 1661664612773), (3, .int 2), (4, .int (nI i2))] := hl
      refine lv_iload hx hb dX6_digest_105 (lv_at hl 3 rfl) ?_
      refine lv_aload_n hx hb dX6_digest_107 rfl (lv_at hl 0 rfl) ?_
      refine va_get (D := D) (ci := 8) (v := .ref h2) (C := RX6) (T := TX6) (N := 11) hx hb hts wi_X6_digest_RX6 hown hK hP 0 rfl rfl 4 (by decide) (hts _ wd458_X6_digest) (fun _ h9 => h9) rfl dX6_digest_108 ?_
      refine lv_iload_n hx hb dX6_digest_111 rfl (lv_at hl 2 rfl) ?_
      refine lv_iconst (v := 1) hx hb dX6_digest_112 (by decide) ?_
      refine lv_isub hx hb dX6_digest_113 ?_
      refine tpi (v := 1) (by decide) ?_
      refine ya_ld2 hx hb hK hP 2 rfl (vpl (by decide)) (v := .ref h5) rfl dX6_digest_114 ?_
      refine va_alen hx hb hK hP 4 0 rfl rfl (v := 196) (by decide) dX6_digest_115 ?_
      refine lv_icmp_ge (tgt := 188) hx hb dX6_digest_116 (by decide) (fun h => absurd h (lp_nge (N := 196) rfl hii2 (by decide))) (fun _ => ?_)
      refine lv_aload_n hx hb dX6_digest_119 rfl (lv_at hl 0 rfl) ?_
      refine va_get (D := D) (ci := 8) (v := .ref h2) (C := RX6) (T := TX6) (N := 11) hx hb hts wi_X6_digest_RX6 hown hK hP 0 rfl rfl 4 (by decide) (hts _ wd458_X6_digest) (fun _ h9 => h9) rfl dX6_digest_120 ?_
      refine lv_iload_n hx hb dX6_digest_123 rfl (lv_at hl 2 rfl) ?_
      refine lv_iconst (v := 1) hx hb dX6_digest_124 (by decide) ?_
      refine lv_isub hx hb dX6_digest_125 ?_
      refine tpi (v := 1) (by decide) ?_
      refine ya_ld2 hx hb hK hP 2 rfl (vpl (by decide)) (v := .ref h5) rfl dX6_digest_126 ?_
      refine lv_iload hx hb dX6_digest_127 (lv_at hl 3 rfl) ?_
      refine va_iald (cA := κ 0) (n := 196) (f := (fun _ => 0)) hx hb hK hP 4 0 rfl rfl (vp_in_nI (Nat.lt_of_lt_of_le hii2 (by decide)) (by decide)) dX6_digest_129 ?_
      refine tpi (v := 0) rfl ?_
      refine lv_if_ne (tgt := 136) hx hb dX6_digest_130 (by decide) (fun h => absurd (by decide) h) (fun _ => ?_)
      refine lv_goto (tgt := 182) hx hb dX6_digest_133 (by decide) ?_
      refine lv_iinc (v := (nI (i2 + 1))) (lv' := [(4, .int (nI (i2 + 1))), (0, .ref h0), (1, .long 1661664612773), (3, .int 2)]) hx hb dX6_digest_182 hl (k := 3) rfl (nI_inc _) (by decide) rfl (fun ls hl => ?_)
      refine lv_goto (tgt := 105) hx hb dX6_digest_185 (by decide) ?_
      exact ihi2 _ (lv_sub hl [1, 2, 3, 0] rfl)
  · intro i1 hji1 hii1 ihi1 ls hl
    have hl : lv_has ls 6 [(0, .ref h0), (1, .long 53602084283), (3, .int 1), (4, .int (nI i1))] := hl
    refine lv_iload hx hb dX6_digest_105 (lv_at hl 3 rfl) ?_
    refine lv_aload_n hx hb dX6_digest_107 rfl (lv_at hl 0 rfl) ?_
    refine va_get (D := D) (ci := 8) (v := .ref h2) (C := RX6) (T := TX6) (N := 11) hx hb hts wi_X6_digest_RX6 hown hK hP 0 rfl rfl 4 (by decide) (hts _ wd458_X6_digest) (fun _ h9 => h9) rfl dX6_digest_108 ?_
    refine lv_iload_n hx hb dX6_digest_111 rfl (lv_at hl 2 rfl) ?_
    refine lv_iconst (v := 1) hx hb dX6_digest_112 (by decide) ?_
    refine lv_isub hx hb dX6_digest_113 ?_
    refine tpi (v := 0) (by decide) ?_
    refine ya_ld2 hx hb hK hP 2 rfl (vpl (by decide)) (v := .ref h4) rfl dX6_digest_114 ?_
    refine va_alen hx hb hK hP 3 0 rfl rfl (v := 14) (by decide) dX6_digest_115 ?_
    refine lv_icmp_ge (tgt := 188) hx hb dX6_digest_116 (by decide) (fun h => absurd h (lp_nge (N := 14) rfl hii1 (by decide))) (fun _ => ?_)
    refine lv_aload_n hx hb dX6_digest_119 rfl (lv_at hl 0 rfl) ?_
    refine va_get (D := D) (ci := 8) (v := .ref h2) (C := RX6) (T := TX6) (N := 11) hx hb hts wi_X6_digest_RX6 hown hK hP 0 rfl rfl 4 (by decide) (hts _ wd458_X6_digest) (fun _ h9 => h9) rfl dX6_digest_120 ?_
    refine lv_iload_n hx hb dX6_digest_123 rfl (lv_at hl 2 rfl) ?_
    refine lv_iconst (v := 1) hx hb dX6_digest_124 (by decide) ?_
    refine lv_isub hx hb dX6_digest_125 ?_
    refine tpi (v := 0) (by decide) ?_
    refine ya_ld2 hx hb hK hP 2 rfl (vpl (by decide)) (v := .ref h4) rfl dX6_digest_126 ?_
    refine lv_iload hx hb dX6_digest_127 (lv_at hl 3 rfl) ?_
    refine va_iald (cA := κ 0) (n := 14) (f := (fun _ => 0)) hx hb hK hP 3 0 rfl rfl (vp_in_nI (Nat.lt_of_lt_of_le hii1 (by decide)) (by decide)) dX6_digest_129 ?_
    refine tpi (v := 0) rfl ?_
    refine lv_if_ne (tgt := 136) hx hb dX6_digest_130 (by decide) (fun h => absurd (by decide) h) (fun _ => ?_)
    refine lv_goto (tgt := 182) hx hb dX6_digest_133 (by decide) ?_
    refine lv_iinc (v := (nI (i1 + 1))) (lv' := [(4, .int (nI (i1 + 1))), (0, .ref h0), (1, .long 53602084283), (3, .int 1)]) hx hb dX6_digest_182 hl (k := 3) rfl (nI_inc _) (by decide) rfl (fun ls hl => ?_)
    refine lv_goto (tgt := 105) hx hb dX6_digest_185 (by decide) ?_
    exact ihi1 _ (lv_sub hl [1, 2, 3, 0] rfl)

set_option maxHeartbeats 4000000 in
set_option maxRecDepth 100000 in
theorem case_33 {p : Program} {e : Env} {s : State} {m : MethodId} {below : List Frame} {meth : Method} {c : Code} (l : Launch) (hst : l.stackTraces = false) {b : Nat} {xs : Nat → Int32} (C0 : lw_At p s m meth c b 4 xs) (D : va_G) (κ ε : Nat → Nat) (hK : va_K D vwCl (tys κ) s) (hE9 : En2 ε (fun q : Nat => s.heap.size ≤ q) s s.heap) (qx qm qo : Nat) (ux um : Nat → Nat) {H : Heap} {locs : List Loc} (hP : va_P D vwCl [(qx, .inr (7, [.ref (ux 0), .ref (ux 27), .ref (ux 30), .ref (ux 31), .ref (ux 35), .ref (ux 36), .int 0, .int 0, .int 0, .int 0])), ((ux 0), .inr (2, [.int 0, .int 2, .ref (ux 1), .ref (ux 2)])), ((ux 1), .inl (κ 3, 4, .inr (.inr (.inr (.inr (sel [(ux 3), (ux 9), (ux 15), (ux 21)])))))), ((ux 3), .inr (6, [.ref (ux 4), .ref (ux 5), .int 0])), ((ux 9), .inr (6, [.ref (ux 10), .ref (ux 11), .int 0])), ((ux 27), .inr (3, [.ref (ux 0), .int 0, .int 500, .ref (ux 28), .ref (ux 29), .long 0, .int 0])), ((ux 28), .inl (κ 0, 13, .inl (fun _ => 0))), ((ux 29), .inl (κ 0, 13, .inl (fun _ => 0))), (qm, .inr (8, [.int 0, .int 0, .int 2, .ref (um 0), .ref (um 1), .int 0, .int 500, .int 0, .int 0, .int 0, .ref (um 6)])), ((um 0), .inr (1, [.int 0, .ref (ε 1), .int 0])), ((um 1), .inl (κ 4, 4, .inr (.inr (.inr (.inr (sel [(um 2), (um 3), (um 4), (um 5)])))))), ((um 2), .inl (κ 0, 14, .inl (fun _ => 0))), ((um 3), .inl (κ 0, 196, .inl (fun _ => 0)))] H) (hD : va_D (fun q : Nat => s.heap.size ≤ q) [(qx, .inr (7, [.ref (ux 0), .ref (ux 27), .ref (ux 30), .ref (ux 31), .ref (ux 35), .ref (ux 36), .int 0, .int 0, .int 0, .int 0])), ((ux 0), .inr (2, [.int 0, .int 2, .ref (ux 1), .ref (ux 2)])), ((ux 1), .inl (κ 3, 4, .inr (.inr (.inr (.inr (sel [(ux 3), (ux 9), (ux 15), (ux 21)])))))), ((ux 3), .inr (6, [.ref (ux 4), .ref (ux 5), .int 0])), ((ux 9), .inr (6, [.ref (ux 10), .ref (ux 11), .int 0])), ((ux 27), .inr (3, [.ref (ux 0), .int 0, .int 500, .ref (ux 28), .ref (ux 29), .long 0, .int 0])), ((ux 28), .inl (κ 0, 13, .inl (fun _ => 0))), ((ux 29), .inl (κ 0, 13, .inl (fun _ => 0))), (qm, .inr (8, [.int 0, .int 0, .int 2, .ref (um 0), .ref (um 1), .int 0, .int 500, .int 0, .int 0, .int 0, .ref (um 6)])), ((um 0), .inr (1, [.int 0, .ref (ε 1), .int 0])), ((um 1), .inl (κ 4, 4, .inr (.inr (.inr (.inr (sel [(um 2), (um 3), (um 4), (um 5)])))))), ((um 2), .inl (κ 0, 14, .inl (fun _ => 0))), ((um 3), .inl (κ 0, 196, .inl (fun _ => 0)))]) (hS : va_S (fun q : Nat => s.heap.size ≤ q) s.heap H locs) {ls : Array Slot} (hl : lv_has ls 9 [(0, .ref b), (1, .ref qx), (2, .ref qm), (3, .ref qo), (4, .int 0)]) : W p l e room_1 s m #[Value.ref b] below meth c H locs 100 120000 (lw_Z below #[Value.ref b] s) (F0 m 1663 ls []) := by
  obtain ⟨hx, hb, hr, hml, hown0, hts0, hX, hbl, hlocks, hgv⟩ := id C0
  have hts : ∀ w ∈ wsL_law, w.before #[Value.ref b] s = true := fun w h => hts0 w (wsL_law_in w h)
  have hown : s.vm.findClass RL = some m.cls := hown0
  have hE := hE9.1
  have hDc := hE9.2
  have hA : ∀ q : Nat, s.heap.size ≤ q → (fun q : Nat => s.heap.size ≤ q) q := fun _ h => h
  have hbA : ¬ (fun q : Nat => s.heap.size ≤ q) b := Nat.not_le.mpr hbl
  refine lv_aload_n hx hb dL_law_1663 rfl (lv_at hl 1 rfl) ?_
  have hF := va_free (wc := [(qx, .inr (7, [.ref (ux 0), .ref (ux 27), .ref (ux 30), .ref (ux 31), .ref (ux 35), .ref (ux 36), .int 0, .int 0, .int 0, .int 0])), ((ux 0), .inr (2, [.int 0, .int 2, .ref (ux 1), .ref (ux 2)])), ((ux 27), .inr (3, [.ref (ux 0), .int 0, .int 500, .ref (ux 28), .ref (ux 29), .long 0, .int 0])), ((ux 1), .inl (κ 3, 4, .inr (.inr (.inr (.inr (sel [(ux 3), (ux 9), (ux 15), (ux 21)])))))), ((ux 28), .inl (κ 0, 13, .inl (fun _ => 0))), ((ux 29), .inl (κ 0, 13, .inl (fun _ => 0))), ((ux 3), .inr (6, [.ref (ux 4), .ref (ux 5), .int 0])), ((ux 9), .inr (6, [.ref (ux 10), .ref (ux 11), .int 0]))]) hD hS hA [0, 1, 5, 2, 6, 7, 3, 4] rfl
  refine va_calll (va_runV (As := []) (rest := []) ⟨hx, hb, hml, hown, hts⟩ (k_X5_digest_0 l D κ ε qx (ux 0) (ux 27) (ux 30) (ux 31) (ux 35) (ux 36) (ux 1) (ux 2) (ux 28) (ux 29) (ux 3) (ux 9) (ux 15) (ux 21) (ux 4) (ux 5) (ux 10) (ux 11) H.size) (cwV 0 hts gL_law_X5_digest rfl rfl rfl (by decide +kernel) ⟨(Nat.le_of_ble_eq_true rfl), (Nat.le_of_ble_eq_true rfl)⟩) (pre2_V (q0 := 0) (ci := 7) (wc := [(qx, .inr (7, [.ref (ux 0), .ref (ux 27), .ref (ux 30), .ref (ux 31), .ref (ux 35), .ref (ux 36), .int 0, .int 0, .int 0, .int 0])), ((ux 0), .inr (2, [.int 0, .int 2, .ref (ux 1), .ref (ux 2)])), ((ux 27), .inr (3, [.ref (ux 0), .int 0, .int 500, .ref (ux 28), .ref (ux 29), .long 0, .int 0])), ((ux 1), .inl (κ 3, 4, .inr (.inr (.inr (.inr (sel [(ux 3), (ux 9), (ux 15), (ux 21)])))))), ((ux 28), .inl (κ 0, 13, .inl (fun _ => 0))), ((ux 29), .inl (κ 0, 13, .inl (fun _ => 0))), ((ux 3), .inr (6, [.ref (ux 4), .ref (ux 5), .int 0])), ((ux 9), .inr (6, [.ref (ux 10), .ref (ux 11), .int 0]))]) hP hD hK hE9 hS hA [0, 1, 5, 2, 6, 7, 3, 4] (by decide) rfl rfl rfl) rfl rfl hl.1 rfl (lv_room (Nat.le_of_ble_eq_true rfl)) dL_law_1664 ⟨(Nat.le_of_ble_eq_true rfl), (Nat.le_of_ble_eq_true rfl)⟩) hS (fun q _ h => hF q h) hF (fun r u1 t H locs ht hvm hw hB hz1 hk1 hS => ?_)
  try dsimp only at hw hB
  have hP1 : va_P D vwCl [] H := P_nil
  obtain ⟨hP, hD⟩ := post_j (ws' := [(qm, .inr (8, [.int 0, .int 0, .int 2, .ref (um 0), .ref (um 1), .int 0, .int 500, .int 0, .int 0, .int 0, .ref (um 6)])), ((um 0), .inr (1, [.int 0, .ref (ε 1), .int 0])), ((um 1), .inl (κ 4, 4, .inr (.inr (.inr (.inr (sel [(um 2), (um 3), (um 4), (um 5)])))))), ((um 2), .inl (κ 0, 14, .inl (fun _ => 0))), ((um 3), .inl (κ 0, 196, .inl (fun _ => 0)))]) (wr := [(qm, .inr (8, [.int 0, .int 0, .int 2, .ref (um 0), .ref (um 1), .int 0, .int 500, .int 0, .int 0, .int 0, .ref (um 6)])), ((um 0), .inr (1, [.int 0, .ref (ε 1), .int 0])), ((um 1), .inl (κ 4, 4, .inr (.inr (.inr (.inr (sel [(um 2), (um 3), (um 4), (um 5)])))))), ((um 2), .inl (κ 0, 14, .inl (fun _ => 0))), ((um 3), .inl (κ 0, 196, .inl (fun _ => 0)))]) (w1 := []) hP hD hF [0, 1, 5, 2, 6, 7, 3, 4] rfl [8, 9, 10, 11, 12] rfl (by decide) (by decide) hk1 hP1 D_nil [0, 1, 2, 3, 4] (by decide) rfl
  have hP : va_P D vwCl [(qm, .inr (8, [.int 0, .int 0, .int 2, .ref (um 0), .ref (um 1), .int 0, .int 500, .int 0, .int 0, .int 0, .ref (um 6)])), ((um 0), .inr (1, [.int 0, .ref (ε 1), .int 0])), ((um 1), .inl (κ 4, 4, .inr (.inr (.inr (.inr (sel [(um 2), (um 3), (um 4), (um 5)])))))), ((um 2), .inl (κ 0, 14, .inl (fun _ => 0))), ((um 3), .inl (κ 0, 196, .inl (fun _ => 0)))] H := hP
  have hD : va_D (fun q : Nat => s.heap.size ≤ q) [(qm, .inr (8, [.int 0, .int 0, .int 2, .ref (um 0), .ref (um 1), .int 0, .int 500, .int 0, .int 0, .int 0, .ref (um 6)])), ((um 0), .inr (1, [.int 0, .ref (ε 1), .int 0])), ((um 1), .inl (κ 4, 4, .inr (.inr (.inr (.inr (sel [(um 2), (um 3), (um 4), (um 5)])))))), ((um 2), .inl (κ 0, 14, .inl (fun _ => 0))), ((um 3), .inl (κ 0, 196, .inl (fun _ => 0)))] := hD
  rw [hw]
  refine lv_aload_n hx hb dL_law_1667 rfl (lv_at hl 2 rfl) ?_
  have hF := va_free (wc := [(qm, .inr (8, [.int 0, .int 0, .int 2, .ref (um 0), .ref (um 1), .int 0, .int 500, .int 0, .int 0, .int 0, .ref (um 6)])), ((um 0), .inr (1, [.int 0, .ref (ε 1), .int 0])), ((um 1), .inl (κ 4, 4, .inr (.inr (.inr (.inr (sel [(um 2), (um 3), (um 4), (um 5)])))))), ((um 2), .inl (κ 0, 14, .inl (fun _ => 0))), ((um 3), .inl (κ 0, 196, .inl (fun _ => 0)))]) hD hS hA [0, 1, 2, 3, 4] rfl
  refine va_calll (va_runV (As := []) (rest := [.long 3013577737360370981]) ⟨hx, hb, hml, hown, hts⟩ (k_X6_digest_0 l D κ ε qm (um 0) (um 1) (um 6) (um 2) (um 3) (um 4) (um 5) H.size) (cwV 0 hts gL_law_X6_digest rfl rfl rfl (by decide +kernel) ⟨(Nat.le_of_ble_eq_true rfl), (Nat.le_of_ble_eq_true rfl)⟩) (pre2_V (q0 := 0) (ci := 8) (wc := [(qm, .inr (8, [.int 0, .int 0, .int 2, .ref (um 0), .ref (um 1), .int 0, .int 500, .int 0, .int 0, .int 0, .ref (um 6)])), ((um 0), .inr (1, [.int 0, .ref (ε 1), .int 0])), ((um 1), .inl (κ 4, 4, .inr (.inr (.inr (.inr (sel [(um 2), (um 3), (um 4), (um 5)])))))), ((um 2), .inl (κ 0, 14, .inl (fun _ => 0))), ((um 3), .inl (κ 0, 196, .inl (fun _ => 0)))]) hP hD hK hE9 hS hA [0, 1, 2, 3, 4] (by decide) rfl rfl rfl) rfl rfl hl.1 rfl (lv_room (Nat.le_of_ble_eq_true rfl)) dL_law_1668 ⟨(Nat.le_of_ble_eq_true rfl), (Nat.le_of_ble_eq_true rfl)⟩) hS (fun q _ h => hF q h) hF (fun r u2 t H locs ht hvm hw hB hz1 hk1 hS => ?_)
  try dsimp only at hw hB
  obtain ⟨hP1, hD1⟩ := hB
  rw [ht] at hP1
  obtain ⟨hP, hD⟩ := post_j (ws' := [(qm, .inr (8, u2))]) (wr := []) (w1 := [(qm, .inr (8, u2))]) hP hD hF [0, 1, 2, 3, 4] rfl [] rfl (by decide) (by decide) hk1 hP1 hD1 [0] (by decide) rfl
  have hP : va_P D vwCl [(qm, .inr (8, u2))] H := hP
  have hD : va_D (fun q : Nat => s.heap.size ≤ q) [(qm, .inr (8, u2))] := hD
  obtain ⟨hu3, rfl⟩ := hw
  refine W.lcmp hx hb dL_law_1671 ?_
  refine tpi (v := 0) (by decide) ?_
  refine lv_if_eq (tgt := 1677) hx hb dL_law_1672 (by decide) (fun _ => ?_) (fun h => absurd (by decide) h)
  exact law_end C0 (Nat.le_of_ble_eq_true rfl) (Nat.le_of_ble_eq_true rfl) hS (lv_sub hl [0, 4] rfl)
