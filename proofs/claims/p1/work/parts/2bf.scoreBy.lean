set_option maxHeartbeats 4000000 in
set_option maxRecDepth 100000 in
theorem k_X5_isWay_1 (l : Launch) (D : va_G) (κ ε : Nat → Nat) (p0 : Int32) : Met l yX5_isWay wsX5_isWay ({ frames := 0, cells := 0, slots := 0, locals := 0 }) (va_Pc [.int 0, .int p0] (Pre0 D κ [])) (vp_Si (fun r => ((p0 < 1) ∧ (r = 0)) ∨ ((¬ p0 < 1) ∧ (1000 < p0) ∧ (r = 0)) ∨ ((¬ p0 < 1) ∧ (¬ 1000 < p0) ∧ (r = 1)))) 0 0 (fun _ => False) := by
  refine Met.ofW (cc := cX5_isWay) (maxL := 2) (ret := (some .boolean)) (by decide) rfl ?_
  intro p e s m args below meth c s₁ B hml hv
  obtain ⟨rfl, hP, hK⟩ := hv
  have hx := B.exec
  have hb := B.bytes
  have hr := B.returns
  have hts := atoms_spec (ws := wsX5_isWay) B.pre
  have hown : s.vm.findClass RX5 = some m.cls := findClass_of_methodNamed B.named
  have hlocks := B.notSynchronized
  have hP : va_P D vwCl [] s.heap := hP
  have hl := lv_entry [.int 0, .int p0] (n := 2) (Nat.le_of_ble_eq_true rfl)
  rw [lg_entry_eq]
  generalize (lg_sl [.int 0, .int p0] ++ List.replicate (2 - (lg_sl [.int 0, .int p0]).length) Slot.unset).toArray = ls at hl ⊢
  have hl : lv_has ls 2 [(0, .int 0), (1, .int p0)] := hl
  refine lv_iload_n hx hb dX5_isWay_0 rfl (lv_at hl 0 rfl) ?_
  refine lv_if_lt (tgt := 25) hx hb dX5_isWay_1 (by decide) (fun h => absurd h (by decide)) (fun _ => ?_)
  refine lv_iload_n hx hb dX5_isWay_4 rfl (lv_at hl 0 rfl) ?_
  refine lv_iconst (v := 4) hx hb dX5_isWay_5 (by decide) ?_
  refine lv_icmp_gt (tgt := 25) hx hb dX5_isWay_6 (by decide) (fun h => absurd h (by decide)) (fun _ => ?_)
  refine lv_iload_n hx hb dX5_isWay_9 rfl (lv_at hl 1 rfl) ?_
  refine lv_iconst (v := 1) hx hb dX5_isWay_10 (by decide) ?_
  refine lv_icmp_lt (tgt := 25) hx hb dX5_isWay_11 (by decide) (fun c1 => ?_) (fun c1 => ?_)
  · skip
    refine lv_iconst (v := 0) hx hb dX5_isWay_25 (by decide) ?_
    exact W.zret (v := 0) hx hb hr rfl (fun t ht hW => ⟨0, rfl, (Or.inl ⟨c1, rfl⟩), ht⟩) (fun q hq => absurd hq List.not_mem_nil) dX5_isWay_26
  · skip
    refine lv_iload_n hx hb dX5_isWay_14 rfl (lv_at hl 1 rfl) ?_
    refine lv_sipush (v := 1000) hx hb dX5_isWay_15 (by decide) ?_
    refine lv_icmp_gt (tgt := 25) hx hb dX5_isWay_18 (by decide) (fun c2 => ?_) (fun c2 => ?_)
    · skip
      refine lv_iconst (v := 0) hx hb dX5_isWay_25 (by decide) ?_
      exact W.zret (v := 0) hx hb hr rfl (fun t ht hW => ⟨0, rfl, (Or.inr (Or.inl ⟨c1, c2, rfl⟩)), ht⟩) (fun q hq => absurd hq List.not_mem_nil) dX5_isWay_26
    · skip
      refine lv_iconst (v := 1) hx hb dX5_isWay_21 (by decide) ?_
      refine lv_goto (tgt := 26) hx hb dX5_isWay_22 (by decide) ?_
      exact W.zret (v := 1) hx hb hr rfl (fun t ht hW => ⟨1, rfl, (Or.inr (Or.inr ⟨c1, c2, rfl⟩)), ht⟩) (fun q hq => absurd hq List.not_mem_nil) dX5_isWay_26

theorem iv322 (x : Int32) (h0 : ¬ x < 1) : ¬ x < 1 := by
  have e0 : (1 : Int32).toInt = 1 := by decide
  simp only [Int32.lt_iff_toInt_lt, Int32.le_iff_toInt_le, ← Int32.toInt_inj, e0] at *
  omega

theorem iv323 (x : Int32) (h0 : ¬ 1000 < x) : ¬ 1000 < x := by
  have e0 : (1000 : Int32).toInt = 1000 := by decide
  simp only [Int32.lt_iff_toInt_lt, Int32.le_iff_toInt_le, ← Int32.toInt_inj, e0] at *
  omega

set_option maxHeartbeats 4000000 in
set_option maxRecDepth 100000 in
theorem k_X1_blend_1 (l : Launch) (D : va_G) (κ ε : Nat → Nat) (h0 h1 h2 h3 h4 h5 : Nat) (p0 : Int32) (p1 : Int32) (p2 : Int32) (hf0 : ¬ p0 < 1) (hf1 : ¬ 1000 < p0) : Met l yX1_blend wsX1_blend ({ frames := 0, cells := 0, slots := 0, locals := 0 }) (va_Pc [.ref h0, .long 0, .long 1000000] (Pre0 D κ [(h0, .inr (3, [.ref h1, .int 0, .int p0, .ref h2, .ref h3, .long 0, .int p1])), (h1, .inr (2, [.int 0, .int p2, .ref h4, .ref h5]))])) (vp_Sl (fun r => (r = 1000000))) 0 0 (fun _ => False) := by
  refine Met.ofW (cc := cX1_blend) (maxL := 7) (ret := (some .long)) (by decide) rfl ?_
  intro p e s m args below meth c s₁ B hml hv
  obtain ⟨rfl, hP, hK⟩ := hv
  have hx := B.exec
  have hb := B.bytes
  have hr := B.returns
  have hts := atoms_spec (ws := wsX1_blend) B.pre
  have hown : s.vm.findClass RX1 = some m.cls := findClass_of_methodNamed B.named
  have hlocks := B.notSynchronized
  have hP : va_P D vwCl [(h0, .inr (3, [.ref h1, .int 0, .int p0, .ref h2, .ref h3, .long 0, .int p1])), (h1, .inr (2, [.int 0, .int p2, .ref h4, .ref h5]))] s.heap := hP
  have hl := lv_entry [.ref h0, .long 0, .long 1000000] (n := 7) (Nat.le_of_ble_eq_true rfl)
  rw [lg_entry_eq]
  generalize (lg_sl [.ref h0, .long 0, .long 1000000] ++ List.replicate (7 - (lg_sl [.ref h0, .long 0, .long 1000000]).length) Slot.unset).toArray = ls at hl ⊢
  have hl : lv_has ls 7 [(0, .ref h0), (1, .long 0), (3, .long 1000000)] := hl
  refine lv_aload_n hx hb dX1_blend_0 rfl (lv_at hl 0 rfl) ?_
  refine va_get (D := D) (ci := 3) (v := .int 0) (C := RX1) (T := TX1) (N := 7) hx hb hts wi_X1_blend_RX1 hown hK hP 0 rfl rfl 1 (by decide) (hts _ wd280_X1_blend) (fun _ h9 => h9) rfl dX1_blend_1 ?_
  refine lv_tableIn (tgt := 32) (off := 28) hx hb dX1_blend_4 (by decide) (by decide) (by decide) (by decide) ?_
  refine lv_lload_n hx hb dX1_blend_32 rfl (lv_at hl 1 rfl) ?_
  refine lv_ldc2 (v := 1000) hx hb hown (hts _ wd281_X1_blend) dX1_blend_33 ?_
  refine lv_lmul hx hb dX1_blend_36 ?_
  refine tpl (v := 0) (by decide) ?_
  refine lv_aload_n hx hb dX1_blend_37 rfl (lv_at hl 0 rfl) ?_
  refine va_get (D := D) (ci := 3) (v := .int p0) (C := RX1) (T := TX1) (N := 7) hx hb hts wi_X1_blend_RX1 hown hK hP 0 rfl rfl 2 (by decide) (hts _ wd282_X1_blend) (fun _ h9 => h9) rfl dX1_blend_38 ?_
  refine lv_i2l (v := (p0).toInt64) hx hb dX1_blend_41 rfl ?_
  refine lv_ladd hx hb dX1_blend_42 ?_
  refine tpl (v := (p0).toInt64) (Int64.zero_add _) ?_
  refine lv_ldc2 (v := 1000000) hx hb hown (hts _ wd283_X1_blend) dX1_blend_43 ?_
  refine lv_lmul hx hb dX1_blend_46 ?_
  refine lv_aload_n hx hb dX1_blend_47 rfl (lv_at hl 0 rfl) ?_
  refine va_get (D := D) (ci := 3) (v := .long 0) (C := RX1) (T := TX1) (N := 7) hx hb hts wi_X1_blend_RX1 hown hK hP 0 rfl rfl 5 (by decide) (hts _ wd284_X1_blend) (fun _ h9 => h9) rfl dX1_blend_48 ?_
  refine lv_ldc2 (v := 1000) hx hb hown (hts _ wd281_X1_blend) dX1_blend_51 ?_
  refine lv_lmul hx hb dX1_blend_54 ?_
  refine tpl (v := 0) (by decide) ?_
  refine lv_aload_n hx hb dX1_blend_55 rfl (lv_at hl 0 rfl) ?_
  refine va_get (D := D) (ci := 3) (v := .int p0) (C := RX1) (T := TX1) (N := 7) hx hb hts wi_X1_blend_RX1 hown hK hP 0 rfl rfl 2 (by decide) (hts _ wd282_X1_blend) (fun _ h9 => h9) rfl dX1_blend_56 ?_
  refine lv_aload_n hx hb dX1_blend_59 rfl (lv_at hl 0 rfl) ?_
  refine va_get (D := D) (ci := 3) (v := .ref h1) (C := RX1) (T := TX1) (N := 7) hx hb hts wi_X1_blend_RX1 hown hK hP 0 rfl rfl 0 (by decide) (hts _ wd285_X1_blend) (fun _ h9 => h9) rfl dX1_blend_60 ?_
  refine va_get (D := D) (ci := 2) (v := .int 0) (C := RX0) (T := TX0) (N := 4) hx hb hts wi_X1_blend_RX0 hown hK hP 1 rfl rfl 0 (by decide) (hts _ wd286_X1_blend) (fun _ h9 => h9) rfl dX1_blend_63 ?_
  refine lv_iconst (v := 1) hx hb dX1_blend_66 (by decide) ?_
  refine lv_iadd hx hb dX1_blend_67 ?_
  refine tpi (v := 1) (by decide) ?_
  refine lv_imul hx hb dX1_blend_68 ?_
  refine tpi (v := p0) (Int32.mul_one _) ?_
  refine lv_i2l (v := (p0).toInt64) hx hb dX1_blend_69 rfl ?_
  refine lv_ladd hx hb dX1_blend_70 ?_
  refine tpl (v := (p0).toInt64) (Int64.zero_add _) ?_
  refine lv_ldiv hx hb dX1_blend_71 (bl_ne (iv322 _ hf0) (iv323 _ hf1)) ?_
  refine tpl (v := 1000000) (bl_one (iv322 _ hf0) (iv323 _ hf1)) ?_
  exact W.lret (v := 1000000) hx hb hr (fun t ht hW => ⟨1000000, rfl, rfl, ht⟩) (fun q hq => absurd hq List.not_mem_nil) dX1_blend_72

set_option maxHeartbeats 4000000 in
set_option maxRecDepth 100000 in
theorem k_X1_refine_1 (l : Launch) (D : va_G) (κ ε : Nat → Nat) (h0 h1 h2 h3 h4 h5 h6 h7 h8 h9 h10 h11 : Nat) (sz : Nat) (p0 : Int32) (p1 : Int32) (p2 : Int32) (hf0 : ¬ p0 < 1) (hf1 : ¬ 1000 < p0) : Met l yX1_refine wsX1_refine ({ frames := 2, cells := 0, slots := 0, locals := 48 }) (va_Pc [.ref h0, .int 2, .int 0] (Pre2 D κ ε [(h0, .inr (3, [.ref h1, .int 0, .int p0, .ref h2, .ref h3, .long 0, .int p1])), (h1, .inr (2, [.int 0, .int p2, .ref h4, .ref h5])), (h2, .inl (κ 0, 13, .inl (upd (upd (upd (upd (upd (upd (upd (upd (upd (upd (upd (upd (upd (fun _ => 0) 0 1000000) 1 1000000) 2 1000000) 3 1000000) 4 1000000) 5 1000000) 6 1000000) 7 1000000) 8 1000000) 9 1000000) 10 1000000) 11 1000000) 12 1000000))), (h3, .inl (κ 0, 13, .inl (fun _ => 0))), (h4, .inl (κ 3, 4, .inr (.inr (.inr (.inr (sel [h6, h7, h8, h9])))))), (h7, .inr (6, [.ref h10, .ref h11, .int 0]))] sz)) (va_Qv (fun u : Unit => True) (fun u t => va_P D vwCl [(h0, .inr (3, [.ref h1, .int 0, .int p0, .ref h2, .ref h3, .long 0, .int 0])), (h1, .inr (2, [.int 0, .int p2, .ref h4, .ref h5])), (h2, .inl (κ 0, 13, .inl (upd (upd (upd (upd (upd (upd (upd (upd (upd (upd (upd (upd (upd (upd (fun _ => 0) 0 1000000) 1 1000000) 2 1000000) 3 1000000) 4 1000000) 5 1000000) 6 1000000) 7 1000000) 8 1000000) 9 1000000) 10 1000000) 11 1000000) 12 1000000) 0 1000000))), (h3, .inl (κ 0, 13, .inl (fun _ => 0))), (h4, .inl (κ 3, 4, .inr (.inr (.inr (.inr (sel [h6, h7, h8, h9])))))), (h7, .inr (6, [.ref h10, .ref h11, .int 0]))] t.heap ∧ va_D (va_A [(h0, .inr (3, [.ref h1, .int 0, .int p0, .ref h2, .ref h3, .long 0, .int p1])), (h1, .inr (2, [.int 0, .int p2, .ref h4, .ref h5])), (h2, .inl (κ 0, 13, .inl (upd (upd (upd (upd (upd (upd (upd (upd (upd (upd (upd (upd (upd (fun _ => 0) 0 1000000) 1 1000000) 2 1000000) 3 1000000) 4 1000000) 5 1000000) 6 1000000) 7 1000000) 8 1000000) 9 1000000) 10 1000000) 11 1000000) 12 1000000))), (h3, .inl (κ 0, 13, .inl (fun _ => 0))), (h4, .inl (κ 3, 4, .inr (.inr (.inr (.inr (sel [h6, h7, h8, h9])))))), (h7, .inr (6, [.ref h10, .ref h11, .int 0]))] sz) [(h0, .inr (3, [.ref h1, .int 0, .int p0, .ref h2, .ref h3, .long 0, .int 0])), (h1, .inr (2, [.int 0, .int p2, .ref h4, .ref h5])), (h2, .inl (κ 0, 13, .inl (upd (upd (upd (upd (upd (upd (upd (upd (upd (upd (upd (upd (upd (upd (fun _ => 0) 0 1000000) 1 1000000) 2 1000000) 3 1000000) 4 1000000) 5 1000000) 6 1000000) 7 1000000) 8 1000000) 9 1000000) 10 1000000) 11 1000000) 12 1000000) 0 1000000))), (h3, .inl (κ 0, 13, .inl (fun _ => 0))), (h4, .inl (κ 3, 4, .inr (.inr (.inr (.inr (sel [h6, h7, h8, h9])))))), (h7, .inr (6, [.ref h10, .ref h11, .int 0]))]) (va_A [(h0, .inr (3, [.ref h1, .int 0, .int p0, .ref h2, .ref h3, .long 0, .int p1])), (h1, .inr (2, [.int 0, .int p2, .ref h4, .ref h5])), (h2, .inl (κ 0, 13, .inl (upd (upd (upd (upd (upd (upd (upd (upd (upd (upd (upd (upd (upd (fun _ => 0) 0 1000000) 1 1000000) 2 1000000) 3 1000000) 4 1000000) 5 1000000) 6 1000000) 7 1000000) 8 1000000) 9 1000000) 10 1000000) 11 1000000) 12 1000000))), (h3, .inl (κ 0, 13, .inl (fun _ => 0))), (h4, .inl (κ 3, 4, .inr (.inr (.inr (.inr (sel [h6, h7, h8, h9])))))), (h7, .inr (6, [.ref h10, .ref h11, .int 0]))] sz)) 0 0 (va_A [(h0, .inr (3, [.ref h1, .int 0, .int p0, .ref h2, .ref h3, .long 0, .int p1])), (h1, .inr (2, [.int 0, .int p2, .ref h4, .ref h5])), (h2, .inl (κ 0, 13, .inl (upd (upd (upd (upd (upd (upd (upd (upd (upd (upd (upd (upd (upd (fun _ => 0) 0 1000000) 1 1000000) 2 1000000) 3 1000000) 4 1000000) 5 1000000) 6 1000000) 7 1000000) 8 1000000) 9 1000000) 10 1000000) 11 1000000) 12 1000000))), (h3, .inl (κ 0, 13, .inl (fun _ => 0))), (h4, .inl (κ 3, 4, .inr (.inr (.inr (.inr (sel [h6, h7, h8, h9])))))), (h7, .inr (6, [.ref h10, .ref h11, .int 0]))] sz) := by
  refine Met.ofW (cc := cX1_refine) (maxL := 5) (ret := none) (by decide) rfl ?_
  intro p e s m args below meth c s₁ B hml hv
  obtain ⟨rfl, hsz, hP, hK, hD0, hE9⟩ := hv
  have hx := B.exec
  have hb := B.bytes
  have hr := B.returns
  have hts := atoms_spec (ws := wsX1_refine) B.pre
  have hown : s.vm.findClass RX1 = some m.cls := findClass_of_methodNamed B.named
  have hlocks := B.notSynchronized
  subst hsz
  have hD := hD0.self (sz := s.heap.size)
  generalize hAe : va_A [(h0, .inr (3, [.ref h1, .int 0, .int p0, .ref h2, .ref h3, .long 0, .int p1])), (h1, .inr (2, [.int 0, .int p2, .ref h4, .ref h5])), (h2, .inl (κ 0, 13, .inl (upd (upd (upd (upd (upd (upd (upd (upd (upd (upd (upd (upd (upd (fun _ => 0) 0 1000000) 1 1000000) 2 1000000) 3 1000000) 4 1000000) 5 1000000) 6 1000000) 7 1000000) 8 1000000) 9 1000000) 10 1000000) 11 1000000) 12 1000000))), (h3, .inl (κ 0, 13, .inl (fun _ => 0))), (h4, .inl (κ 3, 4, .inr (.inr (.inr (.inr (sel [h6, h7, h8, h9])))))), (h7, .inr (6, [.ref h10, .ref h11, .int 0]))] s.heap.size = A at hD hE9 ⊢
  have hE := hE9.1
  have hDc := hE9.2
  have hA : ∀ q : Nat, s.heap.size ≤ q → A q := fun q h => by rw [← hAe]; exact Or.inr h
  have hS : va_S A s.heap s.heap [] := va_S.rf
  have hP : va_P D vwCl [(h0, .inr (3, [.ref h1, .int 0, .int p0, .ref h2, .ref h3, .long 0, .int p1])), (h1, .inr (2, [.int 0, .int p2, .ref h4, .ref h5])), (h2, .inl (κ 0, 13, .inl (upd (upd (upd (upd (upd (upd (upd (upd (upd (upd (upd (upd (upd (fun _ => 0) 0 1000000) 1 1000000) 2 1000000) 3 1000000) 4 1000000) 5 1000000) 6 1000000) 7 1000000) 8 1000000) 9 1000000) 10 1000000) 11 1000000) 12 1000000))), (h3, .inl (κ 0, 13, .inl (fun _ => 0))), (h4, .inl (κ 3, 4, .inr (.inr (.inr (.inr (sel [h6, h7, h8, h9])))))), (h7, .inr (6, [.ref h10, .ref h11, .int 0]))] s.heap := hP
  have hl := lv_entry [.ref h0, .int 2, .int 0] (n := 5) (Nat.le_of_ble_eq_true rfl)
  rw [lg_entry_eq]
  generalize (lg_sl [.ref h0, .int 2, .int 0] ++ List.replicate (5 - (lg_sl [.ref h0, .int 2, .int 0]).length) Slot.unset).toArray = ls at hl ⊢
  have hl : lv_has ls 5 [(0, .ref h0), (1, .int 2), (2, .int 0)] := hl
  refine lv_aload_n hx hb dX1_refine_0 rfl (lv_at hl 0 rfl) ?_
  refine va_get (D := D) (ci := 3) (v := .int 0) (C := RX1) (T := TX1) (N := 7) hx hb hts wi_X1_refine_RX1 hown hK hP 0 rfl rfl 1 (by decide) (hts _ wd287_X1_refine) (fun _ h9 => h9) rfl dX1_refine_1 ?_
  refine lv_iconst (v := 4) hx hb dX1_refine_4 (by decide) ?_
  refine lv_icmp_ne (tgt := 23) hx hb dX1_refine_5 (by decide) (fun _ => ?_) (fun h => absurd h (by decide))
  refine lv_iconst (v := 0) hx hb dX1_refine_23 (by decide) ?_
  refine lv_istore_n (lv' := [(3, .int 0), (0, .ref h0), (1, .int 2), (2, .int 0)]) hx hb dX1_refine_24 rfl hl (by decide) rfl (fun ls hl => ?_)
  refine lv_aload_n hx hb dX1_refine_25 rfl (lv_at hl 1 rfl) ?_
  refine lv_iload_n hx hb dX1_refine_26 rfl (lv_at hl 0 rfl) ?_
  refine lv_if_eq (tgt := 41) hx hb dX1_refine_27 (by decide) (fun _ => ?_) (fun h => absurd (by decide) h)
  refine lv_aload_n hx hb dX1_refine_41 rfl (lv_at hl 1 rfl) ?_
  refine va_get (D := D) (ci := 3) (v := .ref h1) (C := RX1) (T := TX1) (N := 7) hx hb hts wi_X1_refine_RX1 hown hK hP 0 rfl rfl 0 (by decide) (hts _ wd288_X1_refine) (fun _ h9 => h9) rfl dX1_refine_42 ?_
  refine lv_iload_n hx hb dX1_refine_45 rfl (lv_at hl 2 rfl) ?_
  refine va_csr (W.runV (As := [.int 2]) (rest := [.ref h0]) ⟨hx, hb, hml, hown, hts⟩ (k_X0_countsOf_1 l D κ ε h1 h4 h5 h6 h7 h8 h9 (0) (p2)) (cwV 1 hts gX1_refine_X0_countsOf rfl rfl rfl (by decide +kernel) ⟨(Nat.le_of_ble_eq_true rfl), (Nat.le_of_ble_eq_true rfl)⟩) (pre0_V (q0 := 1) (ci := 2) (wc := [(h1, .inr (2, [.int 0, .int p2, .ref h4, .ref h5])), (h4, .inl (κ 3, 4, .inr (.inr (.inr (.inr (sel [h6, h7, h8, h9]))))))]) hP hK [1, 4] rfl rfl rfl) rfl rfl hl.1 rfl (lv_room (Nat.le_of_ble_eq_true rfl)) dX1_refine_46 ⟨(Nat.le_of_ble_eq_true rfl), (Nat.le_of_ble_eq_true rfl)⟩) (fun r hw => ?_)
  rw [hw]
  refine lv_iload_n hx hb dX1_refine_49 rfl (lv_at hl 3 rfl) ?_
  have hF := va_free (wc := [(h0, .inr (3, [.ref h1, .int 0, .int p0, .ref h2, .ref h3, .long 0, .int p1])), (h7, .inr (6, [.ref h10, .ref h11, .int 0])), (h3, .inl (κ 0, 13, .inl (fun _ => 0)))]) hD hS hA [0, 5, 3] rfl
  refine va_callv (va_runV (As := [.ref h7, .int 0]) (rest := []) ⟨hx, hb, hml, hown, hts⟩ (k_X1_gather_0 l D κ ε h0 h7 h1 h2 h3 h10 h11 s.heap.size (0) (p0) (0) (p1)) (cwV 2 hts gX1_refine_X1_gather rfl rfl rfl (by decide +kernel) ⟨(Nat.le_of_ble_eq_true rfl), (Nat.le_of_ble_eq_true rfl)⟩) (pre2_V (q0 := 0) (ci := 3) (wc := [(h0, .inr (3, [.ref h1, .int 0, .int p0, .ref h2, .ref h3, .long 0, .int p1])), (h7, .inr (6, [.ref h10, .ref h11, .int 0])), (h3, .inl (κ 0, 13, .inl (fun _ => 0)))]) hP hD hK hE9 hS hA [0, 5, 3] (by decide) rfl rfl rfl) rfl rfl hl.1 rfl (lv_room (Nat.le_of_ble_eq_true rfl)) dX1_refine_50 ⟨(Nat.le_of_ble_eq_true rfl), (Nat.le_of_ble_eq_true rfl)⟩) hS (fun q _ h => hF q h) hF (fun u1 t H locs ht hvm hw hB hz1 hk1 hS => ?_)
  try dsimp only at hw hB
  obtain ⟨hP1, hD1⟩ := hB
  rw [ht] at hP1
  obtain ⟨hP, hD⟩ := post_j (ws' := [(h0, .inr (3, [.ref h1, .int 0, .int p0, .ref h2, .ref h3, .long 0, .int 0])), (h1, .inr (2, [.int 0, .int p2, .ref h4, .ref h5])), (h2, .inl (κ 0, 13, .inl (upd (upd (upd (upd (upd (upd (upd (upd (upd (upd (upd (upd (upd (fun _ => 0) 0 1000000) 1 1000000) 2 1000000) 3 1000000) 4 1000000) 5 1000000) 6 1000000) 7 1000000) 8 1000000) 9 1000000) 10 1000000) 11 1000000) 12 1000000))), (h3, .inl (κ 0, 13, .inl (fun _ => 0))), (h4, .inl (κ 3, 4, .inr (.inr (.inr (.inr (sel [h6, h7, h8, h9])))))), (h7, .inr (6, [.ref h10, .ref h11, .int 0]))]) (wr := [(h1, .inr (2, [.int 0, .int p2, .ref h4, .ref h5])), (h2, .inl (κ 0, 13, .inl (upd (upd (upd (upd (upd (upd (upd (upd (upd (upd (upd (upd (upd (fun _ => 0) 0 1000000) 1 1000000) 2 1000000) 3 1000000) 4 1000000) 5 1000000) 6 1000000) 7 1000000) 8 1000000) 9 1000000) 10 1000000) 11 1000000) 12 1000000))), (h4, .inl (κ 3, 4, .inr (.inr (.inr (.inr (sel [h6, h7, h8, h9]))))))]) (w1 := [(h0, .inr (3, [.ref h1, .int 0, .int p0, .ref h2, .ref h3, .long 0, .int 0])), (h7, .inr (6, [.ref h10, .ref h11, .int 0])), (h3, .inl (κ 0, 13, .inl (fun _ => 0)))]) hP hD hF [0, 5, 3] rfl [1, 2, 4] rfl (by decide) (by decide) hk1 hP1 hD1 [3, 0, 1, 5, 2, 4] (by decide) rfl
  have hP : va_P D vwCl [(h0, .inr (3, [.ref h1, .int 0, .int p0, .ref h2, .ref h3, .long 0, .int 0])), (h1, .inr (2, [.int 0, .int p2, .ref h4, .ref h5])), (h2, .inl (κ 0, 13, .inl (upd (upd (upd (upd (upd (upd (upd (upd (upd (upd (upd (upd (upd (fun _ => 0) 0 1000000) 1 1000000) 2 1000000) 3 1000000) 4 1000000) 5 1000000) 6 1000000) 7 1000000) 8 1000000) 9 1000000) 10 1000000) 11 1000000) 12 1000000))), (h3, .inl (κ 0, 13, .inl (fun _ => 0))), (h4, .inl (κ 3, 4, .inr (.inr (.inr (.inr (sel [h6, h7, h8, h9])))))), (h7, .inr (6, [.ref h10, .ref h11, .int 0]))] H := hP
  have hD : va_D A [(h0, .inr (3, [.ref h1, .int 0, .int p0, .ref h2, .ref h3, .long 0, .int 0])), (h1, .inr (2, [.int 0, .int p2, .ref h4, .ref h5])), (h2, .inl (κ 0, 13, .inl (upd (upd (upd (upd (upd (upd (upd (upd (upd (upd (upd (upd (upd (fun _ => 0) 0 1000000) 1 1000000) 2 1000000) 3 1000000) 4 1000000) 5 1000000) 6 1000000) 7 1000000) 8 1000000) 9 1000000) 10 1000000) 11 1000000) 12 1000000))), (h3, .inl (κ 0, 13, .inl (fun _ => 0))), (h4, .inl (κ 3, 4, .inr (.inr (.inr (.inr (sel [h6, h7, h8, h9])))))), (h7, .inr (6, [.ref h10, .ref h11, .int 0]))] := hD
  refine lv_aload_n hx hb dX1_refine_53 rfl (lv_at hl 1 rfl) ?_
  refine va_get (D := D) (ci := 3) (v := .int 0) (C := RX1) (T := TX1) (N := 7) hx hb hts wi_X1_refine_RX1 hown hK hP 0 rfl rfl 1 (by decide) (hts _ wd287_X1_refine) (fun _ h9 => h9) rfl dX1_refine_54 ?_
  refine lv_if_eq (tgt := 70) hx hb dX1_refine_57 (by decide) (fun _ => ?_) (fun h => absurd (by decide) h)
  refine lv_iconst (v := 0) hx hb dX1_refine_70 (by decide) ?_
  refine lv_istore (lv' := [(4, .int 0), (3, .int 0), (0, .ref h0), (1, .int 2), (2, .int 0)]) hx hb dX1_refine_71 hl (by decide) rfl (fun ls hl => ?_)
  refine lv_iload hx hb dX1_refine_73 (lv_at hl 0 rfl) ?_
  refine lv_aload_n hx hb dX1_refine_75 rfl (lv_at hl 2 rfl) ?_
  refine va_get (D := D) (ci := 3) (v := .ref h1) (C := RX1) (T := TX1) (N := 7) hx hb hts wi_X1_refine_RX1 hown hK hP 0 rfl rfl 0 (by decide) (hts _ wd288_X1_refine) (fun _ h9 => h9) rfl dX1_refine_76 ?_
  refine va_get (D := D) (ci := 2) (v := .int 0) (C := RX0) (T := TX0) (N := 4) hx hb hts wi_X1_refine_RX0 hown hK hP 1 rfl rfl 0 (by decide) (hts _ wd289_X1_refine) (fun _ h9 => h9) rfl dX1_refine_79 ?_
  refine lv_icmp_gt (tgt := 119) hx hb dX1_refine_82 (by decide) (fun h => absurd h (by decide)) (fun _ => ?_)
  refine lv_aload_n hx hb dX1_refine_85 rfl (lv_at hl 2 rfl) ?_
  refine va_get (D := D) (ci := 3) (v := .ref h2) (C := RX1) (T := TX1) (N := 7) hx hb hts wi_X1_refine_RX1 hown hK hP 0 rfl rfl 3 (by decide) (hts _ wd290_X1_refine) (fun _ h9 => h9) rfl dX1_refine_86 ?_
  refine lv_iload hx hb dX1_refine_89 (lv_at hl 0 rfl) ?_
  refine lv_aload_n hx hb dX1_refine_91 rfl (lv_at hl 2 rfl) ?_
  refine lv_aload_n hx hb dX1_refine_92 rfl (lv_at hl 2 rfl) ?_
  refine va_get (D := D) (ci := 3) (v := .ref h3) (C := RX1) (T := TX1) (N := 7) hx hb hts wi_X1_refine_RX1 hown hK hP 0 rfl rfl 4 (by decide) (hts _ wd291_X1_refine) (fun _ h9 => h9) rfl dX1_refine_93 ?_
  refine lv_iload hx hb dX1_refine_96 (lv_at hl 0 rfl) ?_
  refine va_iald (cA := κ 0) (n := 13) (f := (fun _ => 0)) hx hb hK hP 3 0 rfl rfl (vpl (by decide)) dX1_refine_98 ?_
  refine tpi (v := 0) (by decide) ?_
  refine lv_i2l (v := 0) hx hb dX1_refine_99 (by decide) ?_
  refine lv_aload_n hx hb dX1_refine_100 rfl (lv_at hl 2 rfl) ?_
  refine va_get (D := D) (ci := 3) (v := .ref h2) (C := RX1) (T := TX1) (N := 7) hx hb hts wi_X1_refine_RX1 hown hK hP 0 rfl rfl 3 (by decide) (hts _ wd290_X1_refine) (fun _ h9 => h9) rfl dX1_refine_101 ?_
  refine lv_iload hx hb dX1_refine_104 (lv_at hl 0 rfl) ?_
  refine va_iald (cA := κ 0) (n := 13) (f := (upd (upd (upd (upd (upd (upd (upd (upd (upd (upd (upd (upd (upd (fun _ => 0) 0 1000000) 1 1000000) 2 1000000) 3 1000000) 4 1000000) 5 1000000) 6 1000000) 7 1000000) 8 1000000) 9 1000000) 10 1000000) 11 1000000) 12 1000000)) hx hb hK hP 2 0 rfl rfl (vpl (by decide)) dX1_refine_106 ?_
  refine tpi (v := 1000000) (by decide) ?_
  refine lv_i2l (v := 1000000) hx hb dX1_refine_107 (by decide) ?_
  refine vp_callSl (W.runV (As := [.long 0, .long 1000000]) (rest := [.int 0, .ref h2]) ⟨hx, hb, hml, hown, hts⟩ (k_X1_blend_1 l D κ ε h0 h1 h2 h3 h4 h5 (p0) (0) (p2) hf0 hf1) (cwV 2 hts gX1_refine_X1_blend rfl rfl rfl (by decide +kernel) ⟨(Nat.le_of_ble_eq_true rfl), (Nat.le_of_ble_eq_true rfl)⟩) (pre0_V (q0 := 0) (ci := 3) (wc := [(h0, .inr (3, [.ref h1, .int 0, .int p0, .ref h2, .ref h3, .long 0, .int 0])), (h1, .inr (2, [.int 0, .int p2, .ref h4, .ref h5]))]) hP hK [0, 1] rfl rfl rfl) rfl rfl hl.1 rfl (lv_room (Nat.le_of_ble_eq_true rfl)) dX1_refine_108 ⟨(Nat.le_of_ble_eq_true rfl), (Nat.le_of_ble_eq_true rfl)⟩) (fun r hw => ?_)
  rw [hw]
  refine lv_l2i (v := 1000000) hx hb dX1_refine_111 (by decide) ?_
  refine va_iast (cA := κ 0) (n := 13) (f := (upd (upd (upd (upd (upd (upd (upd (upd (upd (upd (upd (upd (upd (fun _ => 0) 0 1000000) 1 1000000) 2 1000000) 3 1000000) 4 1000000) 5 1000000) 6 1000000) 7 1000000) 8 1000000) 9 1000000) 10 1000000) 11 1000000) 12 1000000)) hx hb hK hP hD hS 2 0 rfl rfl (vpl (by decide)) dX1_refine_112 (fun H locs hP hD hS => ?_)
  have hP : va_P D vwCl [(h0, .inr (3, [.ref h1, .int 0, .int p0, .ref h2, .ref h3, .long 0, .int 0])), (h1, .inr (2, [.int 0, .int p2, .ref h4, .ref h5])), (h2, .inl (κ 0, 13, .inl (upd (upd (upd (upd (upd (upd (upd (upd (upd (upd (upd (upd (upd (upd (fun _ => 0) 0 1000000) 1 1000000) 2 1000000) 3 1000000) 4 1000000) 5 1000000) 6 1000000) 7 1000000) 8 1000000) 9 1000000) 10 1000000) 11 1000000) 12 1000000) 0 1000000))), (h3, .inl (κ 0, 13, .inl (fun _ => 0))), (h4, .inl (κ 3, 4, .inr (.inr (.inr (.inr (sel [h6, h7, h8, h9])))))), (h7, .inr (6, [.ref h10, .ref h11, .int 0]))] H := hP
  have hD : va_D A [(h0, .inr (3, [.ref h1, .int 0, .int p0, .ref h2, .ref h3, .long 0, .int 0])), (h1, .inr (2, [.int 0, .int p2, .ref h4, .ref h5])), (h2, .inl (κ 0, 13, .inl (upd (upd (upd (upd (upd (upd (upd (upd (upd (upd (upd (upd (upd (upd (fun _ => 0) 0 1000000) 1 1000000) 2 1000000) 3 1000000) 4 1000000) 5 1000000) 6 1000000) 7 1000000) 8 1000000) 9 1000000) 10 1000000) 11 1000000) 12 1000000) 0 1000000))), (h3, .inl (κ 0, 13, .inl (fun _ => 0))), (h4, .inl (κ 3, 4, .inr (.inr (.inr (.inr (sel [h6, h7, h8, h9])))))), (h7, .inr (6, [.ref h10, .ref h11, .int 0]))] := hD
  refine lv_iinc (v := 1) (lv' := [(4, .int 1), (3, .int 0), (0, .ref h0), (1, .int 2), (2, .int 0)]) hx hb dX1_refine_113 hl (k := 0) rfl (by decide) (by decide) rfl (fun ls hl => ?_)
  refine lv_goto (tgt := 73) hx hb dX1_refine_116 (by decide) ?_
  refine lv_iload hx hb dX1_refine_73 (lv_at hl 0 rfl) ?_
  refine lv_aload_n hx hb dX1_refine_75 rfl (lv_at hl 2 rfl) ?_
  refine va_get (D := D) (ci := 3) (v := .ref h1) (C := RX1) (T := TX1) (N := 7) hx hb hts wi_X1_refine_RX1 hown hK hP 0 rfl rfl 0 (by decide) (hts _ wd288_X1_refine) (fun _ h9 => h9) rfl dX1_refine_76 ?_
  refine va_get (D := D) (ci := 2) (v := .int 0) (C := RX0) (T := TX0) (N := 4) hx hb hts wi_X1_refine_RX0 hown hK hP 1 rfl rfl 0 (by decide) (hts _ wd289_X1_refine) (fun _ h9 => h9) rfl dX1_refine_79 ?_
  refine lv_icmp_gt (tgt := 119) hx hb dX1_refine_82 (by decide) (fun _ => ?_) (fun h => absurd (by decide) h)
  have hP9 := hP
  have hD9 := hD
  exact W.vret hx hb hr (fun t ht hW => ⟨⟨(), rfl, trivial, by rw [ht]; exact hP9, hD9⟩, hS.F ht⟩) hS.2.2 dX1_refine_119

set_option maxHeartbeats 4000000 in
set_option maxRecDepth 100000 in
theorem k_X1_reckon_1 (l : Launch) (D : va_G) (κ ε : Nat → Nat) (h0 h1 h2 h3 h4 h5 h6 h7 h8 h9 h10 h11 : Nat) (sz : Nat) (p0 : Int32) (p1 : Int32) (p2 : Int32) (hf0 : ¬ p0 < 1) (hf1 : ¬ 1000 < p0) : Met l yX1_reckon wsX1_reckon ({ frames := 3, cells := 0, slots := 0, locals := 72 }) (va_Pc [.ref h0, .int 2, .int 0] (Pre2 D κ ε [(h0, .inr (3, [.ref h1, .int 0, .int p0, .ref h2, .ref h3, .long 0, .int p1])), (h1, .inr (2, [.int 0, .int p2, .ref h4, .ref h5])), (h2, .inl (κ 0, 13, .inl (fun _ => 0))), (h3, .inl (κ 0, 13, .inl (fun _ => 0))), (h4, .inl (κ 3, 4, .inr (.inr (.inr (.inr (sel [h6, h7, h8, h9])))))), (h7, .inr (6, [.ref h10, .ref h11, .int 0]))] sz)) (va_Qv (fun u : Unit => True) (fun u t => va_P D vwCl [(h0, .inr (3, [.ref h1, .int 0, .int p0, .ref h2, .ref h3, .long 0, .int 0])), (h1, .inr (2, [.int 0, .int p2, .ref h4, .ref h5])), (h2, .inl (κ 0, 13, .inl (upd (upd (upd (upd (upd (upd (upd (upd (upd (upd (upd (upd (upd (upd (fun _ => 0) 0 1000000) 1 1000000) 2 1000000) 3 1000000) 4 1000000) 5 1000000) 6 1000000) 7 1000000) 8 1000000) 9 1000000) 10 1000000) 11 1000000) 12 1000000) 0 1000000))), (h3, .inl (κ 0, 13, .inl (fun _ => 0))), (h4, .inl (κ 3, 4, .inr (.inr (.inr (.inr (sel [h6, h7, h8, h9])))))), (h7, .inr (6, [.ref h10, .ref h11, .int 0]))] t.heap ∧ va_D (va_A [(h0, .inr (3, [.ref h1, .int 0, .int p0, .ref h2, .ref h3, .long 0, .int p1])), (h1, .inr (2, [.int 0, .int p2, .ref h4, .ref h5])), (h2, .inl (κ 0, 13, .inl (fun _ => 0))), (h3, .inl (κ 0, 13, .inl (fun _ => 0))), (h4, .inl (κ 3, 4, .inr (.inr (.inr (.inr (sel [h6, h7, h8, h9])))))), (h7, .inr (6, [.ref h10, .ref h11, .int 0]))] sz) [(h0, .inr (3, [.ref h1, .int 0, .int p0, .ref h2, .ref h3, .long 0, .int 0])), (h1, .inr (2, [.int 0, .int p2, .ref h4, .ref h5])), (h2, .inl (κ 0, 13, .inl (upd (upd (upd (upd (upd (upd (upd (upd (upd (upd (upd (upd (upd (upd (fun _ => 0) 0 1000000) 1 1000000) 2 1000000) 3 1000000) 4 1000000) 5 1000000) 6 1000000) 7 1000000) 8 1000000) 9 1000000) 10 1000000) 11 1000000) 12 1000000) 0 1000000))), (h3, .inl (κ 0, 13, .inl (fun _ => 0))), (h4, .inl (κ 3, 4, .inr (.inr (.inr (.inr (sel [h6, h7, h8, h9])))))), (h7, .inr (6, [.ref h10, .ref h11, .int 0]))]) (va_A [(h0, .inr (3, [.ref h1, .int 0, .int p0, .ref h2, .ref h3, .long 0, .int p1])), (h1, .inr (2, [.int 0, .int p2, .ref h4, .ref h5])), (h2, .inl (κ 0, 13, .inl (fun _ => 0))), (h3, .inl (κ 0, 13, .inl (fun _ => 0))), (h4, .inl (κ 3, 4, .inr (.inr (.inr (.inr (sel [h6, h7, h8, h9])))))), (h7, .inr (6, [.ref h10, .ref h11, .int 0]))] sz)) 0 0 (va_A [(h0, .inr (3, [.ref h1, .int 0, .int p0, .ref h2, .ref h3, .long 0, .int p1])), (h1, .inr (2, [.int 0, .int p2, .ref h4, .ref h5])), (h2, .inl (κ 0, 13, .inl (fun _ => 0))), (h3, .inl (κ 0, 13, .inl (fun _ => 0))), (h4, .inl (κ 3, 4, .inr (.inr (.inr (.inr (sel [h6, h7, h8, h9])))))), (h7, .inr (6, [.ref h10, .ref h11, .int 0]))] sz) := by
  refine Met.ofW (cc := cX1_reckon) (maxL := 4) (ret := none) (by decide) rfl ?_
  intro p e s m args below meth c s₁ B hml hv
  obtain ⟨rfl, hsz, hP, hK, hD0, hE9⟩ := hv
  have hx := B.exec
  have hb := B.bytes
  have hr := B.returns
  have hts := atoms_spec (ws := wsX1_reckon) B.pre
  have hown : s.vm.findClass RX1 = some m.cls := findClass_of_methodNamed B.named
  have hlocks := B.notSynchronized
  subst hsz
  have hD := hD0.self (sz := s.heap.size)
  generalize hAe : va_A [(h0, .inr (3, [.ref h1, .int 0, .int p0, .ref h2, .ref h3, .long 0, .int p1])), (h1, .inr (2, [.int 0, .int p2, .ref h4, .ref h5])), (h2, .inl (κ 0, 13, .inl (fun _ => 0))), (h3, .inl (κ 0, 13, .inl (fun _ => 0))), (h4, .inl (κ 3, 4, .inr (.inr (.inr (.inr (sel [h6, h7, h8, h9])))))), (h7, .inr (6, [.ref h10, .ref h11, .int 0]))] s.heap.size = A at hD hE9 ⊢
  have hE := hE9.1
  have hDc := hE9.2
  have hA : ∀ q : Nat, s.heap.size ≤ q → A q := fun q h => by rw [← hAe]; exact Or.inr h
  have hS : va_S A s.heap s.heap [] := va_S.rf
  have hP : va_P D vwCl [(h0, .inr (3, [.ref h1, .int 0, .int p0, .ref h2, .ref h3, .long 0, .int p1])), (h1, .inr (2, [.int 0, .int p2, .ref h4, .ref h5])), (h2, .inl (κ 0, 13, .inl (fun _ => 0))), (h3, .inl (κ 0, 13, .inl (fun _ => 0))), (h4, .inl (κ 3, 4, .inr (.inr (.inr (.inr (sel [h6, h7, h8, h9])))))), (h7, .inr (6, [.ref h10, .ref h11, .int 0]))] s.heap := hP
  have hl := lv_entry [.ref h0, .int 2, .int 0] (n := 4) (Nat.le_of_ble_eq_true rfl)
  rw [lg_entry_eq]
  generalize (lg_sl [.ref h0, .int 2, .int 0] ++ List.replicate (4 - (lg_sl [.ref h0, .int 2, .int 0]).length) Slot.unset).toArray = ls at hl ⊢
  have hl : lv_has ls 4 [(0, .ref h0), (1, .int 2), (2, .int 0)] := hl
  refine lv_aload_n hx hb dX1_reckon_0 rfl (lv_at hl 0 rfl) ?_
  refine va_get (D := D) (ci := 3) (v := .ref h2) (C := RX1) (T := TX1) (N := 7) hx hb hts wi_X1_reckon_RX1 hown hK hP 0 rfl rfl 3 (by decide) (hts _ wd292_X1_reckon) (fun _ h9 => h9) rfl dX1_reckon_1 ?_
  refine lv_ldc (v := 1000000) hx hb hown (hts _ wd293_X1_reckon) dX1_reckon_4 ?_
  refine lv_aload_n hx hb dX1_reckon_6 rfl (lv_at hl 0 rfl) ?_
  refine va_get (D := D) (ci := 3) (v := .ref h1) (C := RX1) (T := TX1) (N := 7) hx hb hts wi_X1_reckon_RX1 hown hK hP 0 rfl rfl 0 (by decide) (hts _ wd294_X1_reckon) (fun _ h9 => h9) rfl dX1_reckon_7 ?_
  refine va_get (D := D) (ci := 2) (v := .int 0) (C := RX0) (T := TX0) (N := 4) hx hb hts wi_X1_reckon_RX0 hown hK hP 1 rfl rfl 0 (by decide) (hts _ wd295_X1_reckon) (fun _ h9 => h9) rfl dX1_reckon_10 ?_
  refine lv_iconst (v := 1) hx hb dX1_reckon_13 (by decide) ?_
  refine lv_iadd hx hb dX1_reckon_14 ?_
  refine tpi (v := 1) (by decide) ?_
  refine lv_idiv hx hb dX1_reckon_15 (by decide) ?_
  refine tpi (v := 1000000) (by decide) ?_
  have hF := va_free (wc := [(h2, .inl (κ 0, 13, .inl (fun _ => 0)))]) hD hS hA [2] rfl
  refine va_callv (va_runS (As := [.ref h2, .int 1000000]) (rest := []) ⟨hx, hb, hml, hown, hts⟩ (k_J7_fill_53178_1 l D κ ε h2 s.heap.size) (va_cwS 2 hts gX1_reckon_J7_fill_53178 rfl rfl rfl (by decide +kernel) ⟨(Nat.le_of_ble_eq_true rfl), (Nat.le_of_ble_eq_true rfl)⟩) (pre2_S (wc := [(h2, .inl (κ 0, 13, .inl (fun _ => 0)))]) hP hD hK hE9 hS hA [2] (by decide) rfl) rfl rfl hl.1 rfl (lv_room (Nat.le_of_ble_eq_true rfl)) dX1_reckon_16 ⟨(Nat.le_of_ble_eq_true rfl), (Nat.le_of_ble_eq_true rfl)⟩) hS (fun q _ h => hF q h) hF (fun u1 t H locs ht hvm hw hB hz1 hk1 hS => ?_)
  try dsimp only at hw hB
  obtain ⟨hP1, hD1⟩ := hB
  rw [ht] at hP1
  obtain ⟨hP, hD⟩ := post_j (ws' := [(h0, .inr (3, [.ref h1, .int 0, .int p0, .ref h2, .ref h3, .long 0, .int p1])), (h1, .inr (2, [.int 0, .int p2, .ref h4, .ref h5])), (h2, .inl (κ 0, 13, .inl (upd (upd (upd (upd (upd (upd (upd (upd (upd (upd (upd (upd (upd (fun _ => 0) 0 1000000) 1 1000000) 2 1000000) 3 1000000) 4 1000000) 5 1000000) 6 1000000) 7 1000000) 8 1000000) 9 1000000) 10 1000000) 11 1000000) 12 1000000))), (h3, .inl (κ 0, 13, .inl (fun _ => 0))), (h4, .inl (κ 3, 4, .inr (.inr (.inr (.inr (sel [h6, h7, h8, h9])))))), (h7, .inr (6, [.ref h10, .ref h11, .int 0]))]) (wr := [(h0, .inr (3, [.ref h1, .int 0, .int p0, .ref h2, .ref h3, .long 0, .int p1])), (h1, .inr (2, [.int 0, .int p2, .ref h4, .ref h5])), (h3, .inl (κ 0, 13, .inl (fun _ => 0))), (h4, .inl (κ 3, 4, .inr (.inr (.inr (.inr (sel [h6, h7, h8, h9])))))), (h7, .inr (6, [.ref h10, .ref h11, .int 0]))]) (w1 := [(h2, .inl (κ 0, 13, .inl (upd (upd (upd (upd (upd (upd (upd (upd (upd (upd (upd (upd (upd (fun _ => 0) 0 1000000) 1 1000000) 2 1000000) 3 1000000) 4 1000000) 5 1000000) 6 1000000) 7 1000000) 8 1000000) 9 1000000) 10 1000000) 11 1000000) 12 1000000)))]) hP hD hF [2] rfl [0, 1, 3, 4, 5] rfl (by decide) (by decide) hk1 hP1 hD1 [0, 1, 5, 2, 3, 4] (by decide) rfl
  have hP : va_P D vwCl [(h0, .inr (3, [.ref h1, .int 0, .int p0, .ref h2, .ref h3, .long 0, .int p1])), (h1, .inr (2, [.int 0, .int p2, .ref h4, .ref h5])), (h2, .inl (κ 0, 13, .inl (upd (upd (upd (upd (upd (upd (upd (upd (upd (upd (upd (upd (upd (fun _ => 0) 0 1000000) 1 1000000) 2 1000000) 3 1000000) 4 1000000) 5 1000000) 6 1000000) 7 1000000) 8 1000000) 9 1000000) 10 1000000) 11 1000000) 12 1000000))), (h3, .inl (κ 0, 13, .inl (fun _ => 0))), (h4, .inl (κ 3, 4, .inr (.inr (.inr (.inr (sel [h6, h7, h8, h9])))))), (h7, .inr (6, [.ref h10, .ref h11, .int 0]))] H := hP
  have hD : va_D A [(h0, .inr (3, [.ref h1, .int 0, .int p0, .ref h2, .ref h3, .long 0, .int p1])), (h1, .inr (2, [.int 0, .int p2, .ref h4, .ref h5])), (h2, .inl (κ 0, 13, .inl (upd (upd (upd (upd (upd (upd (upd (upd (upd (upd (upd (upd (upd (fun _ => 0) 0 1000000) 1 1000000) 2 1000000) 3 1000000) 4 1000000) 5 1000000) 6 1000000) 7 1000000) 8 1000000) 9 1000000) 10 1000000) 11 1000000) 12 1000000))), (h3, .inl (κ 0, 13, .inl (fun _ => 0))), (h4, .inl (κ 3, 4, .inr (.inr (.inr (.inr (sel [h6, h7, h8, h9])))))), (h7, .inr (6, [.ref h10, .ref h11, .int 0]))] := hD
  refine lv_aload_n hx hb dX1_reckon_19 rfl (lv_at hl 0 rfl) ?_
  refine va_get (D := D) (ci := 3) (v := .int 0) (C := RX1) (T := TX1) (N := 7) hx hb hts wi_X1_reckon_RX1 hown hK hP 0 rfl rfl 1 (by decide) (hts _ wd296_X1_reckon) (fun _ h9 => h9) rfl dX1_reckon_20 ?_
  refine lv_if_ne (tgt := 30) hx hb dX1_reckon_23 (by decide) (fun h => absurd (by decide) h) (fun _ => ?_)
  refine lv_iload_n hx hb dX1_reckon_26 rfl (lv_at hl 1 rfl) ?_
  refine lv_goto (tgt := 31) hx hb dX1_reckon_27 (by decide) ?_
  refine lv_istore_n (lv' := [(3, .int 2), (0, .ref h0), (1, .int 2), (2, .int 0)]) hx hb dX1_reckon_31 rfl hl (by decide) rfl (fun ls hl => ?_)
  refine lv_iload_n hx hb dX1_reckon_32 rfl (lv_at hl 0 rfl) ?_
  refine lv_iload_n hx hb dX1_reckon_33 rfl (lv_at hl 2 rfl) ?_
  refine lv_icmp_gt (tgt := 57) hx hb dX1_reckon_34 (by decide) (fun h => absurd h (by decide)) (fun _ => ?_)
  refine lv_aload_n hx hb dX1_reckon_37 rfl (lv_at hl 1 rfl) ?_
  refine lv_iload_n hx hb dX1_reckon_38 rfl (lv_at hl 0 rfl) ?_
  refine lv_iload_n hx hb dX1_reckon_39 rfl (lv_at hl 3 rfl) ?_
  refine va_getsN hx hb hE.2.2.1 hS hown (va_Nw.use rfl hE.2.2.2.2.2.2.2.1) (fun _ h9 => h9) dX1_reckon_40 ?_
  refine lv_iload_n hx hb dX1_reckon_43 rfl (lv_at hl 0 rfl) ?_
  refine lv_iconst (v := 1) hx hb dX1_reckon_44 (by decide) ?_
  refine lv_isub hx hb dX1_reckon_45 ?_
  refine tpi (v := 1) (by decide) ?_
  refine va_ti hx hb hE.2.2.2.1 hS (vpl (by decide)) (v := .int 14) rfl dX1_reckon_46 ?_
  refine lv_irem hx hb dX1_reckon_47 (by decide) ?_
  refine tpi (v := 0) (by decide) ?_
  have hF := va_free (wc := [(h0, .inr (3, [.ref h1, .int 0, .int p0, .ref h2, .ref h3, .long 0, .int p1])), (h1, .inr (2, [.int 0, .int p2, .ref h4, .ref h5])), (h2, .inl (κ 0, 13, .inl (upd (upd (upd (upd (upd (upd (upd (upd (upd (upd (upd (upd (upd (fun _ => 0) 0 1000000) 1 1000000) 2 1000000) 3 1000000) 4 1000000) 5 1000000) 6 1000000) 7 1000000) 8 1000000) 9 1000000) 10 1000000) 11 1000000) 12 1000000))), (h3, .inl (κ 0, 13, .inl (fun _ => 0))), (h4, .inl (κ 3, 4, .inr (.inr (.inr (.inr (sel [h6, h7, h8, h9])))))), (h7, .inr (6, [.ref h10, .ref h11, .int 0]))]) hD hS hA [0, 1, 2, 3, 4, 5] rfl
  refine va_callv (va_runV (As := [.int 2, .int 0]) (rest := []) ⟨hx, hb, hml, hown, hts⟩ (k_X1_refine_1 l D κ ε h0 h1 h2 h3 h4 h5 h6 h7 h8 h9 h10 h11 H.size (p0) (p1) (p2) hf0 hf1) (cwV 2 hts gX1_reckon_X1_refine rfl rfl rfl (by decide +kernel) ⟨(Nat.le_of_ble_eq_true rfl), (Nat.le_of_ble_eq_true rfl)⟩) (pre2_V (q0 := 0) (ci := 3) (wc := [(h0, .inr (3, [.ref h1, .int 0, .int p0, .ref h2, .ref h3, .long 0, .int p1])), (h1, .inr (2, [.int 0, .int p2, .ref h4, .ref h5])), (h2, .inl (κ 0, 13, .inl (upd (upd (upd (upd (upd (upd (upd (upd (upd (upd (upd (upd (upd (fun _ => 0) 0 1000000) 1 1000000) 2 1000000) 3 1000000) 4 1000000) 5 1000000) 6 1000000) 7 1000000) 8 1000000) 9 1000000) 10 1000000) 11 1000000) 12 1000000))), (h3, .inl (κ 0, 13, .inl (fun _ => 0))), (h4, .inl (κ 3, 4, .inr (.inr (.inr (.inr (sel [h6, h7, h8, h9])))))), (h7, .inr (6, [.ref h10, .ref h11, .int 0]))]) hP hD hK hE9 hS hA [0, 1, 2, 3, 4, 5] (by decide) rfl rfl rfl) rfl rfl hl.1 rfl (lv_room (Nat.le_of_ble_eq_true rfl)) dX1_reckon_48 ⟨(Nat.le_of_ble_eq_true rfl), (Nat.le_of_ble_eq_true rfl)⟩) hS (fun q _ h => hF q h) hF (fun u2 t H locs ht hvm hw hB hz1 hk1 hS => ?_)
  try dsimp only at hw hB
  obtain ⟨hP1, hD1⟩ := hB
  rw [ht] at hP1
  obtain ⟨hP, hD⟩ := post_j (ws' := [(h0, .inr (3, [.ref h1, .int 0, .int p0, .ref h2, .ref h3, .long 0, .int 0])), (h1, .inr (2, [.int 0, .int p2, .ref h4, .ref h5])), (h2, .inl (κ 0, 13, .inl (upd (upd (upd (upd (upd (upd (upd (upd (upd (upd (upd (upd (upd (upd (fun _ => 0) 0 1000000) 1 1000000) 2 1000000) 3 1000000) 4 1000000) 5 1000000) 6 1000000) 7 1000000) 8 1000000) 9 1000000) 10 1000000) 11 1000000) 12 1000000) 0 1000000))), (h3, .inl (κ 0, 13, .inl (fun _ => 0))), (h4, .inl (κ 3, 4, .inr (.inr (.inr (.inr (sel [h6, h7, h8, h9])))))), (h7, .inr (6, [.ref h10, .ref h11, .int 0]))]) (wr := []) (w1 := [(h0, .inr (3, [.ref h1, .int 0, .int p0, .ref h2, .ref h3, .long 0, .int 0])), (h1, .inr (2, [.int 0, .int p2, .ref h4, .ref h5])), (h2, .inl (κ 0, 13, .inl (upd (upd (upd (upd (upd (upd (upd (upd (upd (upd (upd (upd (upd (upd (fun _ => 0) 0 1000000) 1 1000000) 2 1000000) 3 1000000) 4 1000000) 5 1000000) 6 1000000) 7 1000000) 8 1000000) 9 1000000) 10 1000000) 11 1000000) 12 1000000) 0 1000000))), (h3, .inl (κ 0, 13, .inl (fun _ => 0))), (h4, .inl (κ 3, 4, .inr (.inr (.inr (.inr (sel [h6, h7, h8, h9])))))), (h7, .inr (6, [.ref h10, .ref h11, .int 0]))]) hP hD hF [0, 1, 2, 3, 4, 5] rfl [] rfl (by decide) (by decide) hk1 hP1 hD1 [0, 1, 2, 3, 4, 5] (by decide) rfl
  have hP : va_P D vwCl [(h0, .inr (3, [.ref h1, .int 0, .int p0, .ref h2, .ref h3, .long 0, .int 0])), (h1, .inr (2, [.int 0, .int p2, .ref h4, .ref h5])), (h2, .inl (κ 0, 13, .inl (upd (upd (upd (upd (upd (upd (upd (upd (upd (upd (upd (upd (upd (upd (fun _ => 0) 0 1000000) 1 1000000) 2 1000000) 3 1000000) 4 1000000) 5 1000000) 6 1000000) 7 1000000) 8 1000000) 9 1000000) 10 1000000) 11 1000000) 12 1000000) 0 1000000))), (h3, .inl (κ 0, 13, .inl (fun _ => 0))), (h4, .inl (κ 3, 4, .inr (.inr (.inr (.inr (sel [h6, h7, h8, h9])))))), (h7, .inr (6, [.ref h10, .ref h11, .int 0]))] H := hP
  have hD : va_D A [(h0, .inr (3, [.ref h1, .int 0, .int p0, .ref h2, .ref h3, .long 0, .int 0])), (h1, .inr (2, [.int 0, .int p2, .ref h4, .ref h5])), (h2, .inl (κ 0, 13, .inl (upd (upd (upd (upd (upd (upd (upd (upd (upd (upd (upd (upd (upd (upd (fun _ => 0) 0 1000000) 1 1000000) 2 1000000) 3 1000000) 4 1000000) 5 1000000) 6 1000000) 7 1000000) 8 1000000) 9 1000000) 10 1000000) 11 1000000) 12 1000000) 0 1000000))), (h3, .inl (κ 0, 13, .inl (fun _ => 0))), (h4, .inl (κ 3, 4, .inr (.inr (.inr (.inr (sel [h6, h7, h8, h9])))))), (h7, .inr (6, [.ref h10, .ref h11, .int 0]))] := hD
  refine lv_iinc (v := 3) (lv' := [(3, .int 3), (0, .ref h0), (1, .int 2), (2, .int 0)]) hx hb dX1_reckon_51 hl (k := 0) rfl (by decide) (by decide) rfl (fun ls hl => ?_)
  refine lv_goto (tgt := 32) hx hb dX1_reckon_54 (by decide) ?_
  refine lv_iload_n hx hb dX1_reckon_32 rfl (lv_at hl 0 rfl) ?_
  refine lv_iload_n hx hb dX1_reckon_33 rfl (lv_at hl 2 rfl) ?_
  refine lv_icmp_gt (tgt := 57) hx hb dX1_reckon_34 (by decide) (fun _ => ?_) (fun h => absurd (by decide) h)
  have hP9 := hP
  have hD9 := hD
  exact W.vret hx hb hr (fun t ht hW => ⟨⟨(), rfl, trivial, by rw [ht]; exact hP9, hD9⟩, hS.F ht⟩) hS.2.2 dX1_reckon_57

set_option maxHeartbeats 4000000 in
set_option maxRecDepth 100000 in
theorem k_X5_sumOfCosts_1 (l : Launch) (D : va_G) (κ ε : Nat → Nat) (h0 h1 h2 h3 h4 h5 h6 h7 h8 h9 h10 h11 h12 h13 h14 h15 h16 : Nat) (sz : Nat) (p0 : Int32) (p1 : Int32) (p2 : Int32) (p3 : Int32) (hf0 : ¬ p2 < 1) (hf1 : ¬ 1000 < p2) : Met l yX5_sumOfCosts wsX5_sumOfCosts ({ frames := 4, cells := 0, slots := 0, locals := 95 }) (va_Pc [.ref h0] (Pre2 D κ ε [(h0, .inr (7, [.ref h1, .ref h2, .ref h3, .ref h4, .ref h5, .ref h6, .int 0, .int p0, .int p1, .int 0])), (h1, .inr (2, [.int 0, .int 2, .ref h7, .ref h8])), (h2, .inr (3, [.ref h1, .int 0, .int p2, .ref h9, .ref h10, .long 0, .int p3])), (h7, .inl (κ 3, 4, .inr (.inr (.inr (.inr (sel [h11, h12, h13, h14])))))), (h9, .inl (κ 0, 13, .inl (fun _ => 0))), (h10, .inl (κ 0, 13, .inl (fun _ => 0))), (h12, .inr (6, [.ref h15, .ref h16, .int 0]))] sz)) (va_Qi (fun r (u : Unit) => (r = 0)) (fun u t => va_P D vwCl [(h0, .inr (7, [.ref h1, .ref h2, .ref h3, .ref h4, .ref h5, .ref h6, .int 0, .int p0, .int p1, .int 0])), (h1, .inr (2, [.int 0, .int 2, .ref h7, .ref h8])), (h2, .inr (3, [.ref h1, .int 0, .int p2, .ref h9, .ref h10, .long 0, .int 0])), (h7, .inl (κ 3, 4, .inr (.inr (.inr (.inr (sel [h11, h12, h13, h14])))))), (h9, .inl (κ 0, 13, .inl (upd (upd (upd (upd (upd (upd (upd (upd (upd (upd (upd (upd (upd (upd (fun _ => 0) 0 1000000) 1 1000000) 2 1000000) 3 1000000) 4 1000000) 5 1000000) 6 1000000) 7 1000000) 8 1000000) 9 1000000) 10 1000000) 11 1000000) 12 1000000) 0 1000000))), (h10, .inl (κ 0, 13, .inl (fun _ => 0))), (h12, .inr (6, [.ref h15, .ref h16, .int 0]))] t.heap ∧ va_D (va_A [(h0, .inr (7, [.ref h1, .ref h2, .ref h3, .ref h4, .ref h5, .ref h6, .int 0, .int p0, .int p1, .int 0])), (h1, .inr (2, [.int 0, .int 2, .ref h7, .ref h8])), (h2, .inr (3, [.ref h1, .int 0, .int p2, .ref h9, .ref h10, .long 0, .int p3])), (h7, .inl (κ 3, 4, .inr (.inr (.inr (.inr (sel [h11, h12, h13, h14])))))), (h9, .inl (κ 0, 13, .inl (fun _ => 0))), (h10, .inl (κ 0, 13, .inl (fun _ => 0))), (h12, .inr (6, [.ref h15, .ref h16, .int 0]))] sz) [(h0, .inr (7, [.ref h1, .ref h2, .ref h3, .ref h4, .ref h5, .ref h6, .int 0, .int p0, .int p1, .int 0])), (h1, .inr (2, [.int 0, .int 2, .ref h7, .ref h8])), (h2, .inr (3, [.ref h1, .int 0, .int p2, .ref h9, .ref h10, .long 0, .int 0])), (h7, .inl (κ 3, 4, .inr (.inr (.inr (.inr (sel [h11, h12, h13, h14])))))), (h9, .inl (κ 0, 13, .inl (upd (upd (upd (upd (upd (upd (upd (upd (upd (upd (upd (upd (upd (upd (fun _ => 0) 0 1000000) 1 1000000) 2 1000000) 3 1000000) 4 1000000) 5 1000000) 6 1000000) 7 1000000) 8 1000000) 9 1000000) 10 1000000) 11 1000000) 12 1000000) 0 1000000))), (h10, .inl (κ 0, 13, .inl (fun _ => 0))), (h12, .inr (6, [.ref h15, .ref h16, .int 0]))]) (va_A [(h0, .inr (7, [.ref h1, .ref h2, .ref h3, .ref h4, .ref h5, .ref h6, .int 0, .int p0, .int p1, .int 0])), (h1, .inr (2, [.int 0, .int 2, .ref h7, .ref h8])), (h2, .inr (3, [.ref h1, .int 0, .int p2, .ref h9, .ref h10, .long 0, .int p3])), (h7, .inl (κ 3, 4, .inr (.inr (.inr (.inr (sel [h11, h12, h13, h14])))))), (h9, .inl (κ 0, 13, .inl (fun _ => 0))), (h10, .inl (κ 0, 13, .inl (fun _ => 0))), (h12, .inr (6, [.ref h15, .ref h16, .int 0]))] sz)) 0 0 (va_A [(h0, .inr (7, [.ref h1, .ref h2, .ref h3, .ref h4, .ref h5, .ref h6, .int 0, .int p0, .int p1, .int 0])), (h1, .inr (2, [.int 0, .int 2, .ref h7, .ref h8])), (h2, .inr (3, [.ref h1, .int 0, .int p2, .ref h9, .ref h10, .long 0, .int p3])), (h7, .inl (κ 3, 4, .inr (.inr (.inr (.inr (sel [h11, h12, h13, h14])))))), (h9, .inl (κ 0, 13, .inl (fun _ => 0))), (h10, .inl (κ 0, 13, .inl (fun _ => 0))), (h12, .inr (6, [.ref h15, .ref h16, .int 0]))] sz) := by
  refine Met.ofW (cc := cX5_sumOfCosts) (maxL := 4) (ret := (some .int)) (by decide) rfl ?_
  intro p e s m args below meth c s₁ B hml hv
  obtain ⟨rfl, hsz, hP, hK, hD0, hE9⟩ := hv
  have hx := B.exec
  have hb := B.bytes
  have hr := B.returns
  have hts := atoms_spec (ws := wsX5_sumOfCosts) B.pre
  have hown : s.vm.findClass RX5 = some m.cls := findClass_of_methodNamed B.named
  have hlocks := B.notSynchronized
  subst hsz
  have hD := hD0.self (sz := s.heap.size)
  generalize hAe : va_A [(h0, .inr (7, [.ref h1, .ref h2, .ref h3, .ref h4, .ref h5, .ref h6, .int 0, .int p0, .int p1, .int 0])), (h1, .inr (2, [.int 0, .int 2, .ref h7, .ref h8])), (h2, .inr (3, [.ref h1, .int 0, .int p2, .ref h9, .ref h10, .long 0, .int p3])), (h7, .inl (κ 3, 4, .inr (.inr (.inr (.inr (sel [h11, h12, h13, h14])))))), (h9, .inl (κ 0, 13, .inl (fun _ => 0))), (h10, .inl (κ 0, 13, .inl (fun _ => 0))), (h12, .inr (6, [.ref h15, .ref h16, .int 0]))] s.heap.size = A at hD hE9 ⊢
  have hE := hE9.1
  have hDc := hE9.2
  have hA : ∀ q : Nat, s.heap.size ≤ q → A q := fun q h => by rw [← hAe]; exact Or.inr h
  have hS : va_S A s.heap s.heap [] := va_S.rf
  have hP : va_P D vwCl [(h0, .inr (7, [.ref h1, .ref h2, .ref h3, .ref h4, .ref h5, .ref h6, .int 0, .int p0, .int p1, .int 0])), (h1, .inr (2, [.int 0, .int 2, .ref h7, .ref h8])), (h2, .inr (3, [.ref h1, .int 0, .int p2, .ref h9, .ref h10, .long 0, .int p3])), (h7, .inl (κ 3, 4, .inr (.inr (.inr (.inr (sel [h11, h12, h13, h14])))))), (h9, .inl (κ 0, 13, .inl (fun _ => 0))), (h10, .inl (κ 0, 13, .inl (fun _ => 0))), (h12, .inr (6, [.ref h15, .ref h16, .int 0]))] s.heap := hP
  have hl := lv_entry [.ref h0] (n := 4) (Nat.le_of_ble_eq_true rfl)
  rw [lg_entry_eq]
  generalize (lg_sl [.ref h0] ++ List.replicate (4 - (lg_sl [.ref h0]).length) Slot.unset).toArray = ls at hl ⊢
  have hl : lv_has ls 4 [(0, .ref h0)] := hl
  refine lv_iconst (v := 0) hx hb dX5_sumOfCosts_0 (by decide) ?_
  refine lv_istore_n (lv' := [(1, .int 0), (0, .ref h0)]) hx hb dX5_sumOfCosts_1 rfl hl (by decide) rfl (fun ls hl => ?_)
  refine lv_iconst (v := 0) hx hb dX5_sumOfCosts_2 (by decide) ?_
  refine lv_istore_n (lv' := [(2, .int 0), (1, .int 0), (0, .ref h0)]) hx hb dX5_sumOfCosts_3 rfl hl (by decide) rfl (fun ls hl => ?_)
  refine lv_iload_n hx hb dX5_sumOfCosts_4 rfl (lv_at hl 0 rfl) ?_
  refine lv_aload_n hx hb dX5_sumOfCosts_5 rfl (lv_at hl 2 rfl) ?_
  refine va_get (D := D) (ci := 7) (v := .int 0) (C := RX5) (T := TX5) (N := 10) hx hb hts wi_X5_sumOfCosts_RX5 hown hK hP 0 rfl rfl 6 (by decide) (hts _ wd335_X5_sumOfCosts) (fun _ h9 => h9) rfl dX5_sumOfCosts_6 ?_
  refine lv_icmp_gt (tgt := 81) hx hb dX5_sumOfCosts_9 (by decide) (fun h => absurd h (by decide)) (fun _ => ?_)
  refine lv_aload_n hx hb dX5_sumOfCosts_12 rfl (lv_at hl 2 rfl) ?_
  refine va_get (D := D) (ci := 7) (v := .ref h2) (C := RX5) (T := TX5) (N := 10) hx hb hts wi_X5_sumOfCosts_RX5 hown hK hP 0 rfl rfl 1 (by decide) (hts _ wd336_X5_sumOfCosts) (fun _ h9 => h9) rfl dX5_sumOfCosts_13 ?_
  refine lv_aload_n hx hb dX5_sumOfCosts_16 rfl (lv_at hl 2 rfl) ?_
  refine va_get (D := D) (ci := 7) (v := .ref h1) (C := RX5) (T := TX5) (N := 10) hx hb hts wi_X5_sumOfCosts_RX5 hown hK hP 0 rfl rfl 0 (by decide) (hts _ wd337_X5_sumOfCosts) (fun _ h9 => h9) rfl dX5_sumOfCosts_17 ?_
  refine va_get (D := D) (ci := 2) (v := .int 2) (C := RX0) (T := TX0) (N := 4) hx hb hts wi_X5_sumOfCosts_RX0 hown hK hP 1 rfl rfl 1 (by decide) (hts _ wd338_X5_sumOfCosts) (fun _ h9 => h9) rfl dX5_sumOfCosts_20 ?_
  refine lv_aload_n hx hb dX5_sumOfCosts_23 rfl (lv_at hl 2 rfl) ?_
  refine lv_iload_n hx hb dX5_sumOfCosts_24 rfl (lv_at hl 0 rfl) ?_
  refine lv_iconst (v := 1) hx hb dX5_sumOfCosts_25 (by decide) ?_
  refine lv_isub hx hb dX5_sumOfCosts_26 ?_
  refine tpi (v := (-1)) (by decide) ?_
  refine lv_aload_n hx hb dX5_sumOfCosts_27 rfl (lv_at hl 2 rfl) ?_
  refine va_get (D := D) (ci := 7) (v := .ref h1) (C := RX5) (T := TX5) (N := 10) hx hb hts wi_X5_sumOfCosts_RX5 hown hK hP 0 rfl rfl 0 (by decide) (hts _ wd337_X5_sumOfCosts) (fun _ h9 => h9) rfl dX5_sumOfCosts_28 ?_
  refine va_get (D := D) (ci := 2) (v := .int 2) (C := RX0) (T := TX0) (N := 4) hx hb hts wi_X5_sumOfCosts_RX0 hown hK hP 1 rfl rfl 1 (by decide) (hts _ wd338_X5_sumOfCosts) (fun _ h9 => h9) rfl dX5_sumOfCosts_31 ?_
  refine lv_iconst (v := 1) hx hb dX5_sumOfCosts_34 (by decide) ?_
  refine lv_isub hx hb dX5_sumOfCosts_35 ?_
  refine tpi (v := 1) (by decide) ?_
  refine vp_callSi (W.runV (As := [.int (-1), .int 1]) (rest := [.int 2, .ref h2]) ⟨hx, hb, hml, hown, hts⟩ (k_X5_keyUpTo_2 l D κ ε h0 h1 h2 h3 h4 h5 h6 (0) (p0) (p1)) (cwV 2 hts gX5_sumOfCosts_X5_keyUpTo rfl rfl rfl (by decide +kernel) ⟨(Nat.le_of_ble_eq_true rfl), (Nat.le_of_ble_eq_true rfl)⟩) (pre0_V (q0 := 0) (ci := 7) (wc := [(h0, .inr (7, [.ref h1, .ref h2, .ref h3, .ref h4, .ref h5, .ref h6, .int 0, .int p0, .int p1, .int 0]))]) hP hK [0] rfl rfl rfl) rfl rfl hl.1 rfl (lv_room (Nat.le_of_ble_eq_true rfl)) dX5_sumOfCosts_36 ⟨(Nat.le_of_ble_eq_true rfl), (Nat.le_of_ble_eq_true rfl)⟩) (fun r hw => ?_)
  rw [hw]
  have hF := va_free (wc := [(h2, .inr (3, [.ref h1, .int 0, .int p2, .ref h9, .ref h10, .long 0, .int p3])), (h1, .inr (2, [.int 0, .int 2, .ref h7, .ref h8])), (h9, .inl (κ 0, 13, .inl (fun _ => 0))), (h10, .inl (κ 0, 13, .inl (fun _ => 0))), (h7, .inl (κ 3, 4, .inr (.inr (.inr (.inr (sel [h11, h12, h13, h14])))))), (h12, .inr (6, [.ref h15, .ref h16, .int 0]))]) hD hS hA [2, 1, 4, 5, 3, 6] rfl
  refine va_callv (va_runV (As := [.int 2, .int 0]) (rest := []) ⟨hx, hb, hml, hown, hts⟩ (k_X1_reckon_1 l D κ ε h2 h1 h9 h10 h7 h8 h11 h12 h13 h14 h15 h16 s.heap.size (p2) (p3) (2) hf0 hf1) (cwV 2 hts gX5_sumOfCosts_X1_reckon rfl rfl rfl (by decide +kernel) ⟨(Nat.le_of_ble_eq_true rfl), (Nat.le_of_ble_eq_true rfl)⟩) (pre2_V (q0 := 2) (ci := 3) (wc := [(h2, .inr (3, [.ref h1, .int 0, .int p2, .ref h9, .ref h10, .long 0, .int p3])), (h1, .inr (2, [.int 0, .int 2, .ref h7, .ref h8])), (h9, .inl (κ 0, 13, .inl (fun _ => 0))), (h10, .inl (κ 0, 13, .inl (fun _ => 0))), (h7, .inl (κ 3, 4, .inr (.inr (.inr (.inr (sel [h11, h12, h13, h14])))))), (h12, .inr (6, [.ref h15, .ref h16, .int 0]))]) hP hD hK hE9 hS hA [2, 1, 4, 5, 3, 6] (by decide) rfl rfl rfl) rfl rfl hl.1 rfl (lv_room (Nat.le_of_ble_eq_true rfl)) dX5_sumOfCosts_39 ⟨(Nat.le_of_ble_eq_true rfl), (Nat.le_of_ble_eq_true rfl)⟩) hS (fun q _ h => hF q h) hF (fun u1 t H locs ht hvm hw hB hz1 hk1 hS => ?_)
  try dsimp only at hw hB
  obtain ⟨hP1, hD1⟩ := hB
  rw [ht] at hP1
  obtain ⟨hP, hD⟩ := post_j (ws' := [(h0, .inr (7, [.ref h1, .ref h2, .ref h3, .ref h4, .ref h5, .ref h6, .int 0, .int p0, .int p1, .int 0])), (h1, .inr (2, [.int 0, .int 2, .ref h7, .ref h8])), (h2, .inr (3, [.ref h1, .int 0, .int p2, .ref h9, .ref h10, .long 0, .int 0])), (h7, .inl (κ 3, 4, .inr (.inr (.inr (.inr (sel [h11, h12, h13, h14])))))), (h9, .inl (κ 0, 13, .inl (upd (upd (upd (upd (upd (upd (upd (upd (upd (upd (upd (upd (upd (upd (fun _ => 0) 0 1000000) 1 1000000) 2 1000000) 3 1000000) 4 1000000) 5 1000000) 6 1000000) 7 1000000) 8 1000000) 9 1000000) 10 1000000) 11 1000000) 12 1000000) 0 1000000))), (h10, .inl (κ 0, 13, .inl (fun _ => 0))), (h12, .inr (6, [.ref h15, .ref h16, .int 0]))]) (wr := [(h0, .inr (7, [.ref h1, .ref h2, .ref h3, .ref h4, .ref h5, .ref h6, .int 0, .int p0, .int p1, .int 0]))]) (w1 := [(h2, .inr (3, [.ref h1, .int 0, .int p2, .ref h9, .ref h10, .long 0, .int 0])), (h1, .inr (2, [.int 0, .int 2, .ref h7, .ref h8])), (h9, .inl (κ 0, 13, .inl (upd (upd (upd (upd (upd (upd (upd (upd (upd (upd (upd (upd (upd (upd (fun _ => 0) 0 1000000) 1 1000000) 2 1000000) 3 1000000) 4 1000000) 5 1000000) 6 1000000) 7 1000000) 8 1000000) 9 1000000) 10 1000000) 11 1000000) 12 1000000) 0 1000000))), (h10, .inl (κ 0, 13, .inl (fun _ => 0))), (h7, .inl (κ 3, 4, .inr (.inr (.inr (.inr (sel [h11, h12, h13, h14])))))), (h12, .inr (6, [.ref h15, .ref h16, .int 0]))]) hP hD hF [2, 1, 4, 5, 3, 6] rfl [0] rfl (by decide) (by decide) hk1 hP1 hD1 [0, 2, 1, 5, 3, 4, 6] (by decide) rfl
  have hP : va_P D vwCl [(h0, .inr (7, [.ref h1, .ref h2, .ref h3, .ref h4, .ref h5, .ref h6, .int 0, .int p0, .int p1, .int 0])), (h1, .inr (2, [.int 0, .int 2, .ref h7, .ref h8])), (h2, .inr (3, [.ref h1, .int 0, .int p2, .ref h9, .ref h10, .long 0, .int 0])), (h7, .inl (κ 3, 4, .inr (.inr (.inr (.inr (sel [h11, h12, h13, h14])))))), (h9, .inl (κ 0, 13, .inl (upd (upd (upd (upd (upd (upd (upd (upd (upd (upd (upd (upd (upd (upd (fun _ => 0) 0 1000000) 1 1000000) 2 1000000) 3 1000000) 4 1000000) 5 1000000) 6 1000000) 7 1000000) 8 1000000) 9 1000000) 10 1000000) 11 1000000) 12 1000000) 0 1000000))), (h10, .inl (κ 0, 13, .inl (fun _ => 0))), (h12, .inr (6, [.ref h15, .ref h16, .int 0]))] H := hP
  have hD : va_D A [(h0, .inr (7, [.ref h1, .ref h2, .ref h3, .ref h4, .ref h5, .ref h6, .int 0, .int p0, .int p1, .int 0])), (h1, .inr (2, [.int 0, .int 2, .ref h7, .ref h8])), (h2, .inr (3, [.ref h1, .int 0, .int p2, .ref h9, .ref h10, .long 0, .int 0])), (h7, .inl (κ 3, 4, .inr (.inr (.inr (.inr (sel [h11, h12, h13, h14])))))), (h9, .inl (κ 0, 13, .inl (upd (upd (upd (upd (upd (upd (upd (upd (upd (upd (upd (upd (upd (upd (fun _ => 0) 0 1000000) 1 1000000) 2 1000000) 3 1000000) 4 1000000) 5 1000000) 6 1000000) 7 1000000) 8 1000000) 9 1000000) 10 1000000) 11 1000000) 12 1000000) 0 1000000))), (h10, .inl (κ 0, 13, .inl (fun _ => 0))), (h12, .inr (6, [.ref h15, .ref h16, .int 0]))] := hD
  refine lv_aload_n hx hb dX5_sumOfCosts_42 rfl (lv_at hl 2 rfl) ?_
  refine lv_iload_n hx hb dX5_sumOfCosts_43 rfl (lv_at hl 0 rfl) ?_
  refine vp_callSi (W.runV (As := [.int 0]) (rest := []) ⟨hx, hb, hml, hown, hts⟩ (k_X5_digitAt_0 l D κ ε h0 h1 h2 h3 h4 h5 h6 h7 h8 (p0) (p1) (2)) (cwV 1 hts gX5_sumOfCosts_X5_digitAt rfl rfl rfl (by decide +kernel) ⟨(Nat.le_of_ble_eq_true rfl), (Nat.le_of_ble_eq_true rfl)⟩) (pre0_V (q0 := 0) (ci := 7) (wc := [(h0, .inr (7, [.ref h1, .ref h2, .ref h3, .ref h4, .ref h5, .ref h6, .int 0, .int p0, .int p1, .int 0])), (h1, .inr (2, [.int 0, .int 2, .ref h7, .ref h8]))]) hP hK [0, 1] rfl rfl rfl) rfl rfl hl.1 rfl (lv_room (Nat.le_of_ble_eq_true rfl)) dX5_sumOfCosts_44 ⟨(Nat.le_of_ble_eq_true rfl), (Nat.le_of_ble_eq_true rfl)⟩) (fun r hw => ?_)
  rw [hw]
  refine lv_iconst (v := 1) hx hb dX5_sumOfCosts_47 (by decide) ?_
  refine lv_isub hx hb dX5_sumOfCosts_48 ?_
  refine tpi (v := 0) (by decide) ?_
  refine lv_istore_n (lv' := [(3, .int 0), (2, .int 0), (1, .int 0), (0, .ref h0)]) hx hb dX5_sumOfCosts_49 rfl hl (by decide) rfl (fun ls hl => ?_)
  refine lv_iload_n hx hb dX5_sumOfCosts_50 rfl (lv_at hl 0 rfl) ?_
  refine lv_if_lt (tgt := 75) hx hb dX5_sumOfCosts_51 (by decide) (fun h => absurd h (by decide)) (fun _ => ?_)
  refine lv_iload_n hx hb dX5_sumOfCosts_54 rfl (lv_at hl 0 rfl) ?_
  refine lv_bipush (v := 12) hx hb dX5_sumOfCosts_55 (by decide) ?_
  refine lv_icmp_gt (tgt := 75) hx hb dX5_sumOfCosts_57 (by decide) (fun h => absurd h (by decide)) (fun _ => ?_)
  refine lv_iload_n hx hb dX5_sumOfCosts_60 rfl (lv_at hl 2 rfl) ?_
  refine lv_aload_n hx hb dX5_sumOfCosts_61 rfl (lv_at hl 3 rfl) ?_
  refine va_get (D := D) (ci := 7) (v := .ref h2) (C := RX5) (T := TX5) (N := 10) hx hb hts wi_X5_sumOfCosts_RX5 hown hK hP 0 rfl rfl 1 (by decide) (hts _ wd336_X5_sumOfCosts) (fun _ h9 => h9) rfl dX5_sumOfCosts_62 ?_
  refine va_get (D := D) (ci := 3) (v := .ref h9) (C := RX1) (T := TX1) (N := 7) hx hb hts wi_X5_sumOfCosts_RX1 hown hK hP 2 rfl rfl 3 (by decide) (hts _ wd339_X5_sumOfCosts) (fun _ h9 => h9) rfl dX5_sumOfCosts_65 ?_
  refine lv_iload_n hx hb dX5_sumOfCosts_68 rfl (lv_at hl 0 rfl) ?_
  refine va_iald (cA := κ 0) (n := 13) (f := (upd (upd (upd (upd (upd (upd (upd (upd (upd (upd (upd (upd (upd (upd (fun _ => 0) 0 1000000) 1 1000000) 2 1000000) 3 1000000) 4 1000000) 5 1000000) 6 1000000) 7 1000000) 8 1000000) 9 1000000) 10 1000000) 11 1000000) 12 1000000) 0 1000000)) hx hb hK hP 4 0 rfl rfl (vpl (by decide)) dX5_sumOfCosts_69 ?_
  refine tpi (v := 1000000) (by decide) ?_
  refine vp_callSi (W.runS (As := [.int 1000000]) (rest := [.int 0]) ⟨hx, hb, hml, hown, hts⟩ (k_X5_cost_1 l D κ ε) (va_cwS 1 hts gX5_sumOfCosts_X5_cost rfl rfl rfl (by decide +kernel) ⟨(Nat.le_of_ble_eq_true rfl), (Nat.le_of_ble_eq_true rfl)⟩) (pre0_S (wc := []) hP hK [] rfl) rfl rfl hl.1 rfl (lv_room (Nat.le_of_ble_eq_true rfl)) dX5_sumOfCosts_70 ⟨(Nat.le_of_ble_eq_true rfl), (Nat.le_of_ble_eq_true rfl)⟩) (fun r hw => ?_)
  rw [hw]
  refine lv_iadd hx hb dX5_sumOfCosts_73 ?_
  refine tpi (v := 0) (by decide) ?_
  refine lv_istore_n (lv' := [(1, .int 0), (3, .int 0), (2, .int 0), (0, .ref h0)]) hx hb dX5_sumOfCosts_74 rfl hl (by decide) rfl (fun ls hl => ?_)
  refine lv_iinc (v := 1) (lv' := [(2, .int 1), (1, .int 0), (3, .int 0), (0, .ref h0)]) hx hb dX5_sumOfCosts_75 hl (k := 2) rfl (by decide) (by decide) rfl (fun ls hl => ?_)
  refine lv_goto (tgt := 4) hx hb dX5_sumOfCosts_78 (by decide) ?_
  refine lv_iload_n hx hb dX5_sumOfCosts_4 rfl (lv_at hl 0 rfl) ?_
  refine lv_aload_n hx hb dX5_sumOfCosts_5 rfl (lv_at hl 3 rfl) ?_
  refine va_get (D := D) (ci := 7) (v := .int 0) (C := RX5) (T := TX5) (N := 10) hx hb hts wi_X5_sumOfCosts_RX5 hown hK hP 0 rfl rfl 6 (by decide) (hts _ wd335_X5_sumOfCosts) (fun _ h9 => h9) rfl dX5_sumOfCosts_6 ?_
  refine lv_icmp_gt (tgt := 81) hx hb dX5_sumOfCosts_9 (by decide) (fun _ => ?_) (fun h => absurd (by decide) h)
  refine lv_iload_n hx hb dX5_sumOfCosts_81 rfl (lv_at hl 1 rfl) ?_
  have hP9 := hP
  have hD9 := hD
  exact W.iret (v := 0) hx hb hr (fun t ht hW => ⟨⟨0, (), rfl, rfl, by rw [ht]; exact hP9, hD9⟩, hS.F ht⟩) hS.2.2 dX5_sumOfCosts_82

theorem at1_X5_scoreBy_82 : ∀ w ∈ (vx_atS RX5 82 "java/lang/IllegalArgumentException" ["java/lang/RuntimeException", "java/lang/Exception"]).filter goodWord, w ∈ wsX5_scoreBy := by decide +kernel

theorem wd420_X5_scoreBy : (.classLink RX5 78 "java/lang/IllegalArgumentException" : Cond) ∈ wsX5_scoreBy := by decide +kernel

theorem wd421_X5_scoreBy : (.initialized "java/lang/IllegalArgumentException" : Cond) ∈ wsX5_scoreBy := by decide +kernel

theorem wi_X5_scoreBy_RX5 : ∀ w ∈ u_ws RX5 TX5 10, w ∈ wsX5_scoreBy := by decide +kernel

theorem wd422_X5_scoreBy : (.fieldLink RX5 21 "Canticle" "reckoner" "LCanticle$Reckoner;" : Cond) ∈ wsX5_scoreBy := by decide +kernel

theorem wi_X5_scoreBy_RX1 : ∀ w ∈ u_ws RX1 TX1 7, w ∈ wsX5_scoreBy := by decide +kernel

theorem wd423_X5_scoreBy : (.fieldLink RX5 175 "Canticle$Reckoner" "way" "I" : Cond) ∈ wsX5_scoreBy := by decide +kernel

theorem wd424_X5_scoreBy : (.fieldLink RX5 178 "Canticle$Reckoner" "number" "I" : Cond) ∈ wsX5_scoreBy := by decide +kernel

set_option maxHeartbeats 4000000 in
set_option maxRecDepth 100000 in
theorem k_X5_scoreBy_0 (l : Launch) (hst : l.stackTraces = false) (D : va_G) (κ ε : Nat → Nat) (h0 h1 h2 h3 h4 h5 h6 h7 h8 h9 h10 h11 h12 h13 h14 h15 h16 : Nat) (sz : Nat) (p0 : Int32) : vx_Met l yX5_scoreBy wsX5_scoreBy ({ frames := 6, cells := 1, slots := 6, locals := 120 }) (va_Pc [.ref h0, .int 0, .int p0] (Pre2 D κ ε [(h0, .inr (7, [.ref h1, .ref h2, .ref h3, .ref h4, .ref h5, .ref h6, .int 0, .int 0, .int 0, .int 0])), (h1, .inr (2, [.int 0, .int 2, .ref h7, .ref h8])), (h2, .inr (3, [.ref h1, .int 0, .int 500, .ref h9, .ref h10, .long 0, .int 0])), (h7, .inl (κ 3, 4, .inr (.inr (.inr (.inr (sel [h11, h12, h13, h14])))))), (h9, .inl (κ 0, 13, .inl (fun _ => 0))), (h10, .inl (κ 0, 13, .inl (fun _ => 0))), (h12, .inr (6, [.ref h15, .ref h16, .int 0]))] sz)) (va_Qi (fun r (u : Unit) => (¬ p0 < 1) ∧ (¬ 1000 < p0) ∧ (r = 0)) (fun _ _ => True) (va_A [(h0, .inr (7, [.ref h1, .ref h2, .ref h3, .ref h4, .ref h5, .ref h6, .int 0, .int 0, .int 0, .int 0])), (h1, .inr (2, [.int 0, .int 2, .ref h7, .ref h8])), (h2, .inr (3, [.ref h1, .int 0, .int 500, .ref h9, .ref h10, .long 0, .int 0])), (h7, .inl (κ 3, 4, .inr (.inr (.inr (.inr (sel [h11, h12, h13, h14])))))), (h9, .inl (κ 0, 13, .inl (fun _ => 0))), (h10, .inl (κ 0, 13, .inl (fun _ => 0))), (h12, .inr (6, [.ref h15, .ref h16, .int 0]))] sz)) (vx_X (fun _ : Unit => True) (fun E _ _ => ((p0 < 1) ∧ E = "java/lang/IllegalArgumentException") ∨ ((¬ p0 < 1) ∧ (1000 < p0) ∧ E = "java/lang/IllegalArgumentException")) (va_A [(h0, .inr (7, [.ref h1, .ref h2, .ref h3, .ref h4, .ref h5, .ref h6, .int 0, .int 0, .int 0, .int 0])), (h1, .inr (2, [.int 0, .int 2, .ref h7, .ref h8])), (h2, .inr (3, [.ref h1, .int 0, .int 500, .ref h9, .ref h10, .long 0, .int 0])), (h7, .inl (κ 3, 4, .inr (.inr (.inr (.inr (sel [h11, h12, h13, h14])))))), (h9, .inl (κ 0, 13, .inl (fun _ => 0))), (h10, .inl (κ 0, 13, .inl (fun _ => 0))), (h12, .inr (6, [.ref h15, .ref h16, .int 0]))] sz)) 1 6 (va_A [(h0, .inr (7, [.ref h1, .ref h2, .ref h3, .ref h4, .ref h5, .ref h6, .int 0, .int 0, .int 0, .int 0])), (h1, .inr (2, [.int 0, .int 2, .ref h7, .ref h8])), (h2, .inr (3, [.ref h1, .int 0, .int 500, .ref h9, .ref h10, .long 0, .int 0])), (h7, .inl (κ 3, 4, .inr (.inr (.inr (.inr (sel [h11, h12, h13, h14])))))), (h9, .inl (κ 0, 13, .inl (fun _ => 0))), (h10, .inl (κ 0, 13, .inl (fun _ => 0))), (h12, .inr (6, [.ref h15, .ref h16, .int 0]))] sz) := by
  refine vx_ofW (cc := cX5_scoreBy) (maxL := 6) (ret := (some .int)) (by decide) rfl ?_
  intro p e s m args below meth c s₁ B hml hnx hv
  obtain ⟨rfl, hsz, hP, hK, hD0, hE9⟩ := hv
  have hx := B.exec
  have hb := B.bytes
  have hr := B.returns
  have hts := atoms_spec (ws := wsX5_scoreBy) B.pre
  have hown : s.vm.findClass RX5 = some m.cls := findClass_of_methodNamed B.named
  have hlocks := B.notSynchronized
  subst hsz
  have hD := hD0.self (sz := s.heap.size)
  generalize hAe : va_A [(h0, .inr (7, [.ref h1, .ref h2, .ref h3, .ref h4, .ref h5, .ref h6, .int 0, .int 0, .int 0, .int 0])), (h1, .inr (2, [.int 0, .int 2, .ref h7, .ref h8])), (h2, .inr (3, [.ref h1, .int 0, .int 500, .ref h9, .ref h10, .long 0, .int 0])), (h7, .inl (κ 3, 4, .inr (.inr (.inr (.inr (sel [h11, h12, h13, h14])))))), (h9, .inl (κ 0, 13, .inl (fun _ => 0))), (h10, .inl (κ 0, 13, .inl (fun _ => 0))), (h12, .inr (6, [.ref h15, .ref h16, .int 0]))] s.heap.size = A at hD hE9 ⊢
  have hE := hE9.1
  have hDc := hE9.2
  have hA : ∀ q : Nat, s.heap.size ≤ q → A q := fun q h => by rw [← hAe]; exact Or.inr h
  have hS : va_S A s.heap s.heap [] := va_S.rf
  have hP : va_P D vwCl [(h0, .inr (7, [.ref h1, .ref h2, .ref h3, .ref h4, .ref h5, .ref h6, .int 0, .int 0, .int 0, .int 0])), (h1, .inr (2, [.int 0, .int 2, .ref h7, .ref h8])), (h2, .inr (3, [.ref h1, .int 0, .int 500, .ref h9, .ref h10, .long 0, .int 0])), (h7, .inl (κ 3, 4, .inr (.inr (.inr (.inr (sel [h11, h12, h13, h14])))))), (h9, .inl (κ 0, 13, .inl (fun _ => 0))), (h10, .inl (κ 0, 13, .inl (fun _ => 0))), (h12, .inr (6, [.ref h15, .ref h16, .int 0]))] s.heap := hP
  have hl := lv_entry [.ref h0, .int 0, .int p0] (n := 6) (Nat.le_of_ble_eq_true rfl)
  rw [lg_entry_eq]
  generalize (lg_sl [.ref h0, .int 0, .int p0] ++ List.replicate (6 - (lg_sl [.ref h0, .int 0, .int p0]).length) Slot.unset).toArray = ls at hl ⊢
  have hl : lv_has ls 6 [(0, .ref h0), (1, .int 0), (2, .int p0)] := hl
  refine lv_iload_n hx hb dX5_scoreBy_0 rfl (lv_at hl 1 rfl) ?_
  refine lv_iload_n hx hb dX5_scoreBy_1 rfl (lv_at hl 2 rfl) ?_
  refine vp_callSi (W.runS (As := [.int 0, .int p0]) (rest := []) ⟨hx, hb, hml, hown, hts⟩ (k_X5_isWay_1 l D κ ε (p0)) (va_cwS 2 hts gX5_scoreBy_X5_isWay rfl rfl rfl (by decide +kernel) ⟨(Nat.le_of_ble_eq_true rfl), (Nat.le_of_ble_eq_true rfl)⟩) (pre0_S (wc := []) hP hK [] rfl) rfl rfl hl.1 rfl (lv_room (Nat.le_of_ble_eq_true rfl)) dX5_scoreBy_2 ⟨(Nat.le_of_ble_eq_true rfl), (Nat.le_of_ble_eq_true rfl)⟩) (fun r hw => ?_)
  rcases hw with ⟨c1, rfl⟩ | ⟨c2, c3, rfl⟩ | ⟨c4, c5, rfl⟩
  · skip
    refine lv_if_ne (tgt := 18) hx hb dX5_scoreBy_5 (by decide) (fun h => absurd (by decide) h) (fun _ => ?_)
    exact vx_throwS (names := ["java/lang/RuntimeException", "java/lang/Exception"]) (sa := ε 25) hx hb hst hown (by decide +kernel) (by decide +kernel) (hts _ wd420_X5_scoreBy) (hts _ wd421_X5_scoreBy) (hE.2.2.2.2.2.2.1 _ (List.mem_of_getElem? (i := 15) rfl)) (vx_hat (B := [.castable "java/lang/IllegalArgumentException" "java/lang/IllegalArgumentException", .declares (Bundle.initS "java/lang/RuntimeException"), .declares (Bundle.initS "java/lang/Exception"), .declares (Bundle.initS "java/lang/Throwable")]) (fun w hw => hts w (at1_X5_scoreBy_82 w hw)) at2_RX5_82 (vx_c (va_Nw.use rfl hE.2.2.2.2.2.2.2.2.2.2.2.2.2.2.1) (vx_c (va_Nw.use rfl hDc.1) (vx_c (va_Nw.use rfl hDc.2.1) (vx_c (va_Nw.use rfl hDc.2.2) vx_n))))) at2_RX5_82g hE.1 hE.2.1 hS (by rw [hml]; exact hl.1) dX5_scoreBy_8 dX5_scoreBy_11 dX5_scoreBy_12 dX5_scoreBy_14 dX5_scoreBy_17 (fun x hx => (hnx x hx).elim) (by decide) (by decide) (Nat.le_of_ble_eq_true rfl) (Nat.le_of_ble_eq_true rfl) hlocks (fun t _ h1 h2 => ⟨(), trivial, (Or.inl ⟨c1, rfl⟩), thF (H0 := s.heap) hS h1 h2⟩) hS.2.2 (Nat.le_of_ble_eq_true rfl) (Nat.le_of_ble_eq_true rfl)
  · skip
    refine lv_if_ne (tgt := 18) hx hb dX5_scoreBy_5 (by decide) (fun h => absurd (by decide) h) (fun _ => ?_)
    exact vx_throwS (names := ["java/lang/RuntimeException", "java/lang/Exception"]) (sa := ε 25) hx hb hst hown (by decide +kernel) (by decide +kernel) (hts _ wd420_X5_scoreBy) (hts _ wd421_X5_scoreBy) (hE.2.2.2.2.2.2.1 _ (List.mem_of_getElem? (i := 15) rfl)) (vx_hat (B := [.castable "java/lang/IllegalArgumentException" "java/lang/IllegalArgumentException", .declares (Bundle.initS "java/lang/RuntimeException"), .declares (Bundle.initS "java/lang/Exception"), .declares (Bundle.initS "java/lang/Throwable")]) (fun w hw => hts w (at1_X5_scoreBy_82 w hw)) at2_RX5_82 (vx_c (va_Nw.use rfl hE.2.2.2.2.2.2.2.2.2.2.2.2.2.2.1) (vx_c (va_Nw.use rfl hDc.1) (vx_c (va_Nw.use rfl hDc.2.1) (vx_c (va_Nw.use rfl hDc.2.2) vx_n))))) at2_RX5_82g hE.1 hE.2.1 hS (by rw [hml]; exact hl.1) dX5_scoreBy_8 dX5_scoreBy_11 dX5_scoreBy_12 dX5_scoreBy_14 dX5_scoreBy_17 (fun x hx => (hnx x hx).elim) (by decide) (by decide) (Nat.le_of_ble_eq_true rfl) (Nat.le_of_ble_eq_true rfl) hlocks (fun t _ h1 h2 => ⟨(), trivial, (Or.inr ⟨c2, c3, rfl⟩), thF (H0 := s.heap) hS h1 h2⟩) hS.2.2 (Nat.le_of_ble_eq_true rfl) (Nat.le_of_ble_eq_true rfl)
  · skip
    refine lv_if_ne (tgt := 18) hx hb dX5_scoreBy_5 (by decide) (fun _ => ?_) (fun h => absurd h (by decide))
    refine lv_aload_n hx hb dX5_scoreBy_18 rfl (lv_at hl 0 rfl) ?_
    refine va_get (D := D) (ci := 7) (v := .ref h2) (C := RX5) (T := TX5) (N := 10) hx hb hts wi_X5_scoreBy_RX5 hown hK hP 0 rfl rfl 1 (by decide) (hts _ wd422_X5_scoreBy) (fun _ h9 => h9) rfl dX5_scoreBy_19 ?_
    refine va_get (D := D) (ci := 3) (v := .int 0) (C := RX1) (T := TX1) (N := 7) hx hb hts wi_X5_scoreBy_RX1 hown hK hP 2 rfl rfl 1 (by decide) (hts _ wd423_X5_scoreBy) (fun _ h9 => h9) rfl dX5_scoreBy_22 ?_
    refine lv_istore_n (lv' := [(3, .int 0), (0, .ref h0), (1, .int 0), (2, .int p0)]) hx hb dX5_scoreBy_25 rfl hl (by decide) rfl (fun ls hl => ?_)
    refine lv_aload_n hx hb dX5_scoreBy_26 rfl (lv_at hl 1 rfl) ?_
    refine va_get (D := D) (ci := 7) (v := .ref h2) (C := RX5) (T := TX5) (N := 10) hx hb hts wi_X5_scoreBy_RX5 hown hK hP 0 rfl rfl 1 (by decide) (hts _ wd422_X5_scoreBy) (fun _ h9 => h9) rfl dX5_scoreBy_27 ?_
    refine va_get (D := D) (ci := 3) (v := .int 500) (C := RX1) (T := TX1) (N := 7) hx hb hts wi_X5_scoreBy_RX1 hown hK hP 2 rfl rfl 2 (by decide) (hts _ wd424_X5_scoreBy) (fun _ h9 => h9) rfl dX5_scoreBy_30 ?_
    refine lv_istore (lv' := [(4, .int 500), (3, .int 0), (0, .ref h0), (1, .int 0), (2, .int p0)]) hx hb dX5_scoreBy_33 hl (by decide) rfl (fun ls hl => ?_)
    refine lv_aload_n hx hb dX5_scoreBy_35 rfl (lv_at hl 2 rfl) ?_
    refine va_get (D := D) (ci := 7) (v := .ref h2) (C := RX5) (T := TX5) (N := 10) hx hb hts wi_X5_scoreBy_RX5 hown hK hP 0 rfl rfl 1 (by decide) (hts _ wd422_X5_scoreBy) (fun _ h9 => h9) rfl dX5_scoreBy_36 ?_
    refine lv_iload_n hx hb dX5_scoreBy_39 rfl (lv_at hl 3 rfl) ?_
    refine va_put (D := D) (ci := 3) (v := .int 0) (ty := .int) (C := RX1) (T := TX1) (N := 7) hx hb hts wi_X5_scoreBy_RX1 tyX1 tyX1_ok nmX1 hown hK hP hD hS 2 rfl rfl 1 (by decide) (hts _ wd423_X5_scoreBy) (fun _ h9 => h9) rfl (by decide +kernel) rfl rfl (Nat.le_of_ble_eq_true rfl) dX5_scoreBy_40 (fun H locs hP hD hS => ?_)
    have hP : va_P D vwCl [(h0, .inr (7, [.ref h1, .ref h2, .ref h3, .ref h4, .ref h5, .ref h6, .int 0, .int 0, .int 0, .int 0])), (h1, .inr (2, [.int 0, .int 2, .ref h7, .ref h8])), (h2, .inr (3, [.ref h1, .int 0, .int 500, .ref h9, .ref h10, .long 0, .int 0])), (h7, .inl (κ 3, 4, .inr (.inr (.inr (.inr (sel [h11, h12, h13, h14])))))), (h9, .inl (κ 0, 13, .inl (fun _ => 0))), (h10, .inl (κ 0, 13, .inl (fun _ => 0))), (h12, .inr (6, [.ref h15, .ref h16, .int 0]))] H := hP
    have hD : va_D A [(h0, .inr (7, [.ref h1, .ref h2, .ref h3, .ref h4, .ref h5, .ref h6, .int 0, .int 0, .int 0, .int 0])), (h1, .inr (2, [.int 0, .int 2, .ref h7, .ref h8])), (h2, .inr (3, [.ref h1, .int 0, .int 500, .ref h9, .ref h10, .long 0, .int 0])), (h7, .inl (κ 3, 4, .inr (.inr (.inr (.inr (sel [h11, h12, h13, h14])))))), (h9, .inl (κ 0, 13, .inl (fun _ => 0))), (h10, .inl (κ 0, 13, .inl (fun _ => 0))), (h12, .inr (6, [.ref h15, .ref h16, .int 0]))] := hD
    refine lv_aload_n hx hb dX5_scoreBy_43 rfl (lv_at hl 2 rfl) ?_
    refine va_get (D := D) (ci := 7) (v := .ref h2) (C := RX5) (T := TX5) (N := 10) hx hb hts wi_X5_scoreBy_RX5 hown hK hP 0 rfl rfl 1 (by decide) (hts _ wd422_X5_scoreBy) (fun _ h9 => h9) rfl dX5_scoreBy_44 ?_
    refine lv_iload_n hx hb dX5_scoreBy_47 rfl (lv_at hl 4 rfl) ?_
    refine va_put (D := D) (ci := 3) (v := .int p0) (ty := .int) (C := RX1) (T := TX1) (N := 7) hx hb hts wi_X5_scoreBy_RX1 tyX1 tyX1_ok nmX1 hown hK hP hD hS 2 rfl rfl 2 (by decide) (hts _ wd424_X5_scoreBy) (fun _ h9 => h9) rfl (by decide +kernel) rfl rfl (Nat.le_of_ble_eq_true rfl) dX5_scoreBy_48 (fun H locs hP hD hS => ?_)
    have hP : va_P D vwCl [(h0, .inr (7, [.ref h1, .ref h2, .ref h3, .ref h4, .ref h5, .ref h6, .int 0, .int 0, .int 0, .int 0])), (h1, .inr (2, [.int 0, .int 2, .ref h7, .ref h8])), (h2, .inr (3, [.ref h1, .int 0, .int p0, .ref h9, .ref h10, .long 0, .int 0])), (h7, .inl (κ 3, 4, .inr (.inr (.inr (.inr (sel [h11, h12, h13, h14])))))), (h9, .inl (κ 0, 13, .inl (fun _ => 0))), (h10, .inl (κ 0, 13, .inl (fun _ => 0))), (h12, .inr (6, [.ref h15, .ref h16, .int 0]))] H := hP
    have hD : va_D A [(h0, .inr (7, [.ref h1, .ref h2, .ref h3, .ref h4, .ref h5, .ref h6, .int 0, .int 0, .int 0, .int 0])), (h1, .inr (2, [.int 0, .int 2, .ref h7, .ref h8])), (h2, .inr (3, [.ref h1, .int 0, .int p0, .ref h9, .ref h10, .long 0, .int 0])), (h7, .inl (κ 3, 4, .inr (.inr (.inr (.inr (sel [h11, h12, h13, h14])))))), (h9, .inl (κ 0, 13, .inl (fun _ => 0))), (h10, .inl (κ 0, 13, .inl (fun _ => 0))), (h12, .inr (6, [.ref h15, .ref h16, .int 0]))] := hD
    refine lv_aload_n hx hb dX5_scoreBy_51 rfl (lv_at hl 2 rfl) ?_
    have hF := va_free (wc := [(h0, .inr (7, [.ref h1, .ref h2, .ref h3, .ref h4, .ref h5, .ref h6, .int 0, .int 0, .int 0, .int 0])), (h1, .inr (2, [.int 0, .int 2, .ref h7, .ref h8])), (h2, .inr (3, [.ref h1, .int 0, .int p0, .ref h9, .ref h10, .long 0, .int 0])), (h7, .inl (κ 3, 4, .inr (.inr (.inr (.inr (sel [h11, h12, h13, h14])))))), (h9, .inl (κ 0, 13, .inl (fun _ => 0))), (h10, .inl (κ 0, 13, .inl (fun _ => 0))), (h12, .inr (6, [.ref h15, .ref h16, .int 0]))]) hD hS hA [0, 1, 2, 3, 4, 5, 6] rfl
    refine va_calli (va_runV (As := []) (rest := []) ⟨hx, hb, hml, hown, hts⟩ (k_X5_sumOfCosts_1 l D κ ε h0 h1 h2 h3 h4 h5 h6 h7 h8 h9 h10 h11 h12 h13 h14 h15 h16 H.size (0) (0) (p0) (0) c4 c5) (cwV 0 hts gX5_scoreBy_X5_sumOfCosts rfl rfl rfl (by decide +kernel) ⟨(Nat.le_of_ble_eq_true rfl), (Nat.le_of_ble_eq_true rfl)⟩) (pre2_V (q0 := 0) (ci := 7) (wc := [(h0, .inr (7, [.ref h1, .ref h2, .ref h3, .ref h4, .ref h5, .ref h6, .int 0, .int 0, .int 0, .int 0])), (h1, .inr (2, [.int 0, .int 2, .ref h7, .ref h8])), (h2, .inr (3, [.ref h1, .int 0, .int p0, .ref h9, .ref h10, .long 0, .int 0])), (h7, .inl (κ 3, 4, .inr (.inr (.inr (.inr (sel [h11, h12, h13, h14])))))), (h9, .inl (κ 0, 13, .inl (fun _ => 0))), (h10, .inl (κ 0, 13, .inl (fun _ => 0))), (h12, .inr (6, [.ref h15, .ref h16, .int 0]))]) hP hD hK hE9 hS hA [0, 1, 2, 3, 4, 5, 6] (by decide) rfl rfl rfl) rfl rfl hl.1 rfl (lv_room (Nat.le_of_ble_eq_true rfl)) dX5_scoreBy_52 ⟨(Nat.le_of_ble_eq_true rfl), (Nat.le_of_ble_eq_true rfl)⟩) hS (fun q _ h => hF q h) hF (fun r u6 t H locs ht hvm hw hB hz1 hk1 hS => ?_)
    try dsimp only at hw hB
    obtain ⟨hP1, hD1⟩ := hB
    rw [ht] at hP1
    obtain ⟨hP, hD⟩ := post_j (ws' := [(h0, .inr (7, [.ref h1, .ref h2, .ref h3, .ref h4, .ref h5, .ref h6, .int 0, .int 0, .int 0, .int 0])), (h1, .inr (2, [.int 0, .int 2, .ref h7, .ref h8])), (h2, .inr (3, [.ref h1, .int 0, .int p0, .ref h9, .ref h10, .long 0, .int 0])), (h7, .inl (κ 3, 4, .inr (.inr (.inr (.inr (sel [h11, h12, h13, h14])))))), (h9, .inl (κ 0, 13, .inl (upd (upd (upd (upd (upd (upd (upd (upd (upd (upd (upd (upd (upd (upd (fun _ => 0) 0 1000000) 1 1000000) 2 1000000) 3 1000000) 4 1000000) 5 1000000) 6 1000000) 7 1000000) 8 1000000) 9 1000000) 10 1000000) 11 1000000) 12 1000000) 0 1000000))), (h10, .inl (κ 0, 13, .inl (fun _ => 0))), (h12, .inr (6, [.ref h15, .ref h16, .int 0]))]) (wr := []) (w1 := [(h0, .inr (7, [.ref h1, .ref h2, .ref h3, .ref h4, .ref h5, .ref h6, .int 0, .int 0, .int 0, .int 0])), (h1, .inr (2, [.int 0, .int 2, .ref h7, .ref h8])), (h2, .inr (3, [.ref h1, .int 0, .int p0, .ref h9, .ref h10, .long 0, .int 0])), (h7, .inl (κ 3, 4, .inr (.inr (.inr (.inr (sel [h11, h12, h13, h14])))))), (h9, .inl (κ 0, 13, .inl (upd (upd (upd (upd (upd (upd (upd (upd (upd (upd (upd (upd (upd (upd (fun _ => 0) 0 1000000) 1 1000000) 2 1000000) 3 1000000) 4 1000000) 5 1000000) 6 1000000) 7 1000000) 8 1000000) 9 1000000) 10 1000000) 11 1000000) 12 1000000) 0 1000000))), (h10, .inl (κ 0, 13, .inl (fun _ => 0))), (h12, .inr (6, [.ref h15, .ref h16, .int 0]))]) hP hD hF [0, 1, 2, 3, 4, 5, 6] rfl [] rfl (by decide) (by decide) hk1 hP1 hD1 [0, 1, 2, 3, 4, 5, 6] (by decide) rfl
    have hP : va_P D vwCl [(h0, .inr (7, [.ref h1, .ref h2, .ref h3, .ref h4, .ref h5, .ref h6, .int 0, .int 0, .int 0, .int 0])), (h1, .inr (2, [.int 0, .int 2, .ref h7, .ref h8])), (h2, .inr (3, [.ref h1, .int 0, .int p0, .ref h9, .ref h10, .long 0, .int 0])), (h7, .inl (κ 3, 4, .inr (.inr (.inr (.inr (sel [h11, h12, h13, h14])))))), (h9, .inl (κ 0, 13, .inl (upd (upd (upd (upd (upd (upd (upd (upd (upd (upd (upd (upd (upd (upd (fun _ => 0) 0 1000000) 1 1000000) 2 1000000) 3 1000000) 4 1000000) 5 1000000) 6 1000000) 7 1000000) 8 1000000) 9 1000000) 10 1000000) 11 1000000) 12 1000000) 0 1000000))), (h10, .inl (κ 0, 13, .inl (fun _ => 0))), (h12, .inr (6, [.ref h15, .ref h16, .int 0]))] H := hP
    have hD : va_D A [(h0, .inr (7, [.ref h1, .ref h2, .ref h3, .ref h4, .ref h5, .ref h6, .int 0, .int 0, .int 0, .int 0])), (h1, .inr (2, [.int 0, .int 2, .ref h7, .ref h8])), (h2, .inr (3, [.ref h1, .int 0, .int p0, .ref h9, .ref h10, .long 0, .int 0])), (h7, .inl (κ 3, 4, .inr (.inr (.inr (.inr (sel [h11, h12, h13, h14])))))), (h9, .inl (κ 0, 13, .inl (upd (upd (upd (upd (upd (upd (upd (upd (upd (upd (upd (upd (upd (upd (fun _ => 0) 0 1000000) 1 1000000) 2 1000000) 3 1000000) 4 1000000) 5 1000000) 6 1000000) 7 1000000) 8 1000000) 9 1000000) 10 1000000) 11 1000000) 12 1000000) 0 1000000))), (h10, .inl (κ 0, 13, .inl (fun _ => 0))), (h12, .inr (6, [.ref h15, .ref h16, .int 0]))] := hD
    rw [hw]
    refine lv_istore (lv' := [(5, .int 0), (4, .int 500), (3, .int 0), (0, .ref h0), (1, .int 0), (2, .int p0)]) hx hb dX5_scoreBy_55 hl (by decide) rfl (fun ls hl => ?_)
    refine lv_aload_n hx hb dX5_scoreBy_57 rfl (lv_at hl 3 rfl) ?_
    refine va_get (D := D) (ci := 7) (v := .ref h2) (C := RX5) (T := TX5) (N := 10) hx hb hts wi_X5_scoreBy_RX5 hown hK hP 0 rfl rfl 1 (by decide) (hts _ wd422_X5_scoreBy) (fun _ h9 => h9) rfl dX5_scoreBy_58 ?_
    refine lv_iload_n hx hb dX5_scoreBy_61 rfl (lv_at hl 2 rfl) ?_
    refine va_put (D := D) (ci := 3) (v := .int 0) (ty := .int) (C := RX1) (T := TX1) (N := 7) hx hb hts wi_X5_scoreBy_RX1 tyX1 tyX1_ok nmX1 hown hK hP hD hS 2 rfl rfl 1 (by decide) (hts _ wd423_X5_scoreBy) (fun _ h9 => h9) rfl (by decide +kernel) rfl rfl (Nat.le_of_ble_eq_true rfl) dX5_scoreBy_62 (fun H locs hP hD hS => ?_)
    have hP : va_P D vwCl [(h0, .inr (7, [.ref h1, .ref h2, .ref h3, .ref h4, .ref h5, .ref h6, .int 0, .int 0, .int 0, .int 0])), (h1, .inr (2, [.int 0, .int 2, .ref h7, .ref h8])), (h2, .inr (3, [.ref h1, .int 0, .int p0, .ref h9, .ref h10, .long 0, .int 0])), (h7, .inl (κ 3, 4, .inr (.inr (.inr (.inr (sel [h11, h12, h13, h14])))))), (h9, .inl (κ 0, 13, .inl (upd (upd (upd (upd (upd (upd (upd (upd (upd (upd (upd (upd (upd (upd (fun _ => 0) 0 1000000) 1 1000000) 2 1000000) 3 1000000) 4 1000000) 5 1000000) 6 1000000) 7 1000000) 8 1000000) 9 1000000) 10 1000000) 11 1000000) 12 1000000) 0 1000000))), (h10, .inl (κ 0, 13, .inl (fun _ => 0))), (h12, .inr (6, [.ref h15, .ref h16, .int 0]))] H := hP
    have hD : va_D A [(h0, .inr (7, [.ref h1, .ref h2, .ref h3, .ref h4, .ref h5, .ref h6, .int 0, .int 0, .int 0, .int 0])), (h1, .inr (2, [.int 0, .int 2, .ref h7, .ref h8])), (h2, .inr (3, [.ref h1, .int 0, .int p0, .ref h9, .ref h10, .long 0, .int 0])), (h7, .inl (κ 3, 4, .inr (.inr (.inr (.inr (sel [h11, h12, h13, h14])))))), (h9, .inl (κ 0, 13, .inl (upd (upd (upd (upd (upd (upd (upd (upd (upd (upd (upd (upd (upd (upd (fun _ => 0) 0 1000000) 1 1000000) 2 1000000) 3 1000000) 4 1000000) 5 1000000) 6 1000000) 7 1000000) 8 1000000) 9 1000000) 10 1000000) 11 1000000) 12 1000000) 0 1000000))), (h10, .inl (κ 0, 13, .inl (fun _ => 0))), (h12, .inr (6, [.ref h15, .ref h16, .int 0]))] := hD
    refine lv_aload_n hx hb dX5_scoreBy_65 rfl (lv_at hl 3 rfl) ?_
    refine va_get (D := D) (ci := 7) (v := .ref h2) (C := RX5) (T := TX5) (N := 10) hx hb hts wi_X5_scoreBy_RX5 hown hK hP 0 rfl rfl 1 (by decide) (hts _ wd422_X5_scoreBy) (fun _ h9 => h9) rfl dX5_scoreBy_66 ?_
    refine lv_iload hx hb dX5_scoreBy_69 (lv_at hl 1 rfl) ?_
    refine va_put (D := D) (ci := 3) (v := .int 500) (ty := .int) (C := RX1) (T := TX1) (N := 7) hx hb hts wi_X5_scoreBy_RX1 tyX1 tyX1_ok nmX1 hown hK hP hD hS 2 rfl rfl 2 (by decide) (hts _ wd424_X5_scoreBy) (fun _ h9 => h9) rfl (by decide +kernel) rfl rfl (Nat.le_of_ble_eq_true rfl) dX5_scoreBy_71 (fun H locs hP hD hS => ?_)
    have hP : va_P D vwCl [(h0, .inr (7, [.ref h1, .ref h2, .ref h3, .ref h4, .ref h5, .ref h6, .int 0, .int 0, .int 0, .int 0])), (h1, .inr (2, [.int 0, .int 2, .ref h7, .ref h8])), (h2, .inr (3, [.ref h1, .int 0, .int 500, .ref h9, .ref h10, .long 0, .int 0])), (h7, .inl (κ 3, 4, .inr (.inr (.inr (.inr (sel [h11, h12, h13, h14])))))), (h9, .inl (κ 0, 13, .inl (upd (upd (upd (upd (upd (upd (upd (upd (upd (upd (upd (upd (upd (upd (fun _ => 0) 0 1000000) 1 1000000) 2 1000000) 3 1000000) 4 1000000) 5 1000000) 6 1000000) 7 1000000) 8 1000000) 9 1000000) 10 1000000) 11 1000000) 12 1000000) 0 1000000))), (h10, .inl (κ 0, 13, .inl (fun _ => 0))), (h12, .inr (6, [.ref h15, .ref h16, .int 0]))] H := hP
    have hD : va_D A [(h0, .inr (7, [.ref h1, .ref h2, .ref h3, .ref h4, .ref h5, .ref h6, .int 0, .int 0, .int 0, .int 0])), (h1, .inr (2, [.int 0, .int 2, .ref h7, .ref h8])), (h2, .inr (3, [.ref h1, .int 0, .int 500, .ref h9, .ref h10, .long 0, .int 0])), (h7, .inl (κ 3, 4, .inr (.inr (.inr (.inr (sel [h11, h12, h13, h14])))))), (h9, .inl (κ 0, 13, .inl (upd (upd (upd (upd (upd (upd (upd (upd (upd (upd (upd (upd (upd (upd (fun _ => 0) 0 1000000) 1 1000000) 2 1000000) 3 1000000) 4 1000000) 5 1000000) 6 1000000) 7 1000000) 8 1000000) 9 1000000) 10 1000000) 11 1000000) 12 1000000) 0 1000000))), (h10, .inl (κ 0, 13, .inl (fun _ => 0))), (h12, .inr (6, [.ref h15, .ref h16, .int 0]))] := hD
    refine lv_iload hx hb dX5_scoreBy_74 (lv_at hl 0 rfl) ?_
    refine W.widen (k := 1) (n := 6) (Nat.le_of_ble_eq_true rfl) (Nat.le_of_ble_eq_true rfl) ?_
    refine vx_ret ?_
    exact W.iret (v := 0) hx hb hr (fun t ht hW => ⟨⟨0, (), rfl, ⟨c4, c5, rfl⟩, trivial⟩, hS.F ht⟩) hS.2.2 dX5_scoreBy_76

theorem wd425_L_scoreBy : (.classLink RL 19 "java/lang/IllegalArgumentException" : Cond) ∈ wsL_scoreBy := by decide +kernel

set_option maxHeartbeats 4000000 in
set_option maxRecDepth 100000 in
theorem k_L_scoreBy_0 (l : Launch) (hst : l.stackTraces = false) (D : va_G) (κ ε : Nat → Nat) (h0 h1 h2 h3 h4 h5 h6 h7 h8 h9 h10 h11 h12 h13 h14 h15 h16 h17 : Nat) (sz : Nat) (p0 : Int32) : Met l yL_scoreBy wsL_scoreBy ({ frames := 7, cells := 1, slots := 6, locals := 145 }) (va_Pc [.ref h0, .int 0, .int p0, .ref h1] (Pre2 D κ ε [(h0, .inr (7, [.ref h2, .ref h3, .ref h4, .ref h5, .ref h6, .ref h7, .int 0, .int 0, .int 0, .int 0])), (h1, .inl (κ 2, 1, .inr (.inl (fun _ => 0)))), (h2, .inr (2, [.int 0, .int 2, .ref h8, .ref h9])), (h3, .inr (3, [.ref h2, .int 0, .int 500, .ref h10, .ref h11, .long 0, .int 0])), (h8, .inl (κ 3, 4, .inr (.inr (.inr (.inr (sel [h12, h13, h14, h15])))))), (h10, .inl (κ 0, 13, .inl (fun _ => 0))), (h11, .inl (κ 0, 13, .inl (fun _ => 0))), (h13, .inr (6, [.ref h16, .ref h17, .int 0]))] sz)) (va_Qi (fun r (u : Nat → Int64) => ((p0 < 1) ∧ (r = 1)) ∨ ((¬ p0 < 1) ∧ (1000 < p0) ∧ (r = 1)) ∨ ((¬ p0 < 1) ∧ (¬ 1000 < p0) ∧ (u 0 = 0) ∧ (r = 0))) (fun u t => va_P D vwCl [(h1, .inl (κ 2, 1, .inr (.inl u)))] t.heap ∧ va_D (va_A [(h0, .inr (7, [.ref h2, .ref h3, .ref h4, .ref h5, .ref h6, .ref h7, .int 0, .int 0, .int 0, .int 0])), (h1, .inl (κ 2, 1, .inr (.inl (fun _ => 0)))), (h2, .inr (2, [.int 0, .int 2, .ref h8, .ref h9])), (h3, .inr (3, [.ref h2, .int 0, .int 500, .ref h10, .ref h11, .long 0, .int 0])), (h8, .inl (κ 3, 4, .inr (.inr (.inr (.inr (sel [h12, h13, h14, h15])))))), (h10, .inl (κ 0, 13, .inl (fun _ => 0))), (h11, .inl (κ 0, 13, .inl (fun _ => 0))), (h13, .inr (6, [.ref h16, .ref h17, .int 0]))] sz) [(h1, .inl (κ 2, 1, .inr (.inl u)))]) (va_A [(h0, .inr (7, [.ref h2, .ref h3, .ref h4, .ref h5, .ref h6, .ref h7, .int 0, .int 0, .int 0, .int 0])), (h1, .inl (κ 2, 1, .inr (.inl (fun _ => 0)))), (h2, .inr (2, [.int 0, .int 2, .ref h8, .ref h9])), (h3, .inr (3, [.ref h2, .int 0, .int 500, .ref h10, .ref h11, .long 0, .int 0])), (h8, .inl (κ 3, 4, .inr (.inr (.inr (.inr (sel [h12, h13, h14, h15])))))), (h10, .inl (κ 0, 13, .inl (fun _ => 0))), (h11, .inl (κ 0, 13, .inl (fun _ => 0))), (h13, .inr (6, [.ref h16, .ref h17, .int 0]))] sz)) 1 6 (va_A [(h0, .inr (7, [.ref h2, .ref h3, .ref h4, .ref h5, .ref h6, .ref h7, .int 0, .int 0, .int 0, .int 0])), (h1, .inl (κ 2, 1, .inr (.inl (fun _ => 0)))), (h2, .inr (2, [.int 0, .int 2, .ref h8, .ref h9])), (h3, .inr (3, [.ref h2, .int 0, .int 500, .ref h10, .ref h11, .long 0, .int 0])), (h8, .inl (κ 3, 4, .inr (.inr (.inr (.inr (sel [h12, h13, h14, h15])))))), (h10, .inl (κ 0, 13, .inl (fun _ => 0))), (h11, .inl (κ 0, 13, .inl (fun _ => 0))), (h13, .inr (6, [.ref h16, .ref h17, .int 0]))] sz) := by
  refine va_MetW (cc := cL_scoreBy) (maxL := 5) (ret := (some .int)) (hh := [(0, 10, 13, 19)]) (by decide) rfl ?_
  intro p e s m args below meth c s₁ B hml hv
  obtain ⟨rfl, hsz, hP, hK, hD0, hE9⟩ := hv
  have hx := B.exec
  have hb := B.bytes
  have hr := B.returns
  have hts := atoms_spec (ws := wsL_scoreBy) B.pre
  have hown : s.vm.findClass RL = some m.cls := findClass_of_methodNamed B.named
  have hlocks := B.notSynchronized
  have htab : c.exceptionTable.toList = tableOf [(0, 10, 13, 19)] := vx_table (x := yL_scoreBy) B (hts (.codeWith yL_scoreBy cL_scoreBy 5 (some .int) [(0, 10, 13, 19)]) List.mem_cons_self)
  subst hsz
  have hD := hD0.self (sz := s.heap.size)
  generalize hAe : va_A [(h0, .inr (7, [.ref h2, .ref h3, .ref h4, .ref h5, .ref h6, .ref h7, .int 0, .int 0, .int 0, .int 0])), (h1, .inl (κ 2, 1, .inr (.inl (fun _ => 0)))), (h2, .inr (2, [.int 0, .int 2, .ref h8, .ref h9])), (h3, .inr (3, [.ref h2, .int 0, .int 500, .ref h10, .ref h11, .long 0, .int 0])), (h8, .inl (κ 3, 4, .inr (.inr (.inr (.inr (sel [h12, h13, h14, h15])))))), (h10, .inl (κ 0, 13, .inl (fun _ => 0))), (h11, .inl (κ 0, 13, .inl (fun _ => 0))), (h13, .inr (6, [.ref h16, .ref h17, .int 0]))] s.heap.size = A at hD hE9 ⊢
  have hE := hE9.1
  have hDc := hE9.2
  have hA : ∀ q : Nat, s.heap.size ≤ q → A q := fun q h => by rw [← hAe]; exact Or.inr h
  have hS : va_S A s.heap s.heap [] := va_S.rf
  have hP : va_P D vwCl [(h0, .inr (7, [.ref h2, .ref h3, .ref h4, .ref h5, .ref h6, .ref h7, .int 0, .int 0, .int 0, .int 0])), (h1, .inl (κ 2, 1, .inr (.inl (fun _ => 0)))), (h2, .inr (2, [.int 0, .int 2, .ref h8, .ref h9])), (h3, .inr (3, [.ref h2, .int 0, .int 500, .ref h10, .ref h11, .long 0, .int 0])), (h8, .inl (κ 3, 4, .inr (.inr (.inr (.inr (sel [h12, h13, h14, h15])))))), (h10, .inl (κ 0, 13, .inl (fun _ => 0))), (h11, .inl (κ 0, 13, .inl (fun _ => 0))), (h13, .inr (6, [.ref h16, .ref h17, .int 0]))] s.heap := hP
  have hl := lv_entry [.ref h0, .int 0, .int p0, .ref h1] (n := 5) (Nat.le_of_ble_eq_true rfl)
  rw [lg_entry_eq]
  generalize (lg_sl [.ref h0, .int 0, .int p0, .ref h1] ++ List.replicate (5 - (lg_sl [.ref h0, .int 0, .int p0, .ref h1]).length) Slot.unset).toArray = ls at hl ⊢
  have hl : lv_has ls 5 [(0, .ref h0), (1, .int 0), (2, .int p0), (3, .ref h1)] := hl
  refine lv_aload_n hx hb dL_scoreBy_0 rfl (lv_at hl 3 rfl) ?_
  refine lv_iconst (v := 0) hx hb dL_scoreBy_1 (by decide) ?_
  refine lv_aload_n hx hb dL_scoreBy_2 rfl (lv_at hl 0 rfl) ?_
  refine lv_iload_n hx hb dL_scoreBy_3 rfl (lv_at hl 1 rfl) ?_
  refine lv_iload_n hx hb dL_scoreBy_4 rfl (lv_at hl 2 rfl) ?_
  have hF := va_free (wc := [(h0, .inr (7, [.ref h2, .ref h3, .ref h4, .ref h5, .ref h6, .ref h7, .int 0, .int 0, .int 0, .int 0])), (h2, .inr (2, [.int 0, .int 2, .ref h8, .ref h9])), (h3, .inr (3, [.ref h2, .int 0, .int 500, .ref h10, .ref h11, .long 0, .int 0])), (h8, .inl (κ 3, 4, .inr (.inr (.inr (.inr (sel [h12, h13, h14, h15])))))), (h10, .inl (κ 0, 13, .inl (fun _ => 0))), (h11, .inl (κ 0, 13, .inl (fun _ => 0))), (h13, .inr (6, [.ref h16, .ref h17, .int 0]))]) hD hS hA [0, 2, 3, 4, 5, 6, 7] rfl
  refine vx_calli (vx_runV (As := [.int 0, .int p0]) (rest := [.int 0, .ref h1]) ⟨hx, hb, hml, hown, hts⟩ (k_X5_scoreBy_0 l hst D κ ε h0 h2 h3 h4 h5 h6 h7 h8 h9 h10 h11 h12 h13 h14 h15 h16 h17 s.heap.size (p0)) (cwV 2 hts gL_scoreBy_X5_scoreBy rfl rfl rfl (by decide +kernel) ⟨(Nat.le_of_ble_eq_true rfl), (Nat.le_of_ble_eq_true rfl)⟩) (pre2_V (q0 := 0) (ci := 7) (wc := [(h0, .inr (7, [.ref h2, .ref h3, .ref h4, .ref h5, .ref h6, .ref h7, .int 0, .int 0, .int 0, .int 0])), (h2, .inr (2, [.int 0, .int 2, .ref h8, .ref h9])), (h3, .inr (3, [.ref h2, .int 0, .int 500, .ref h10, .ref h11, .long 0, .int 0])), (h8, .inl (κ 3, 4, .inr (.inr (.inr (.inr (sel [h12, h13, h14, h15])))))), (h10, .inl (κ 0, 13, .inl (fun _ => 0))), (h11, .inl (κ 0, 13, .inl (fun _ => 0))), (h13, .inr (6, [.ref h16, .ref h17, .int 0]))]) hP hD hK hE9 hS hA [0, 2, 3, 4, 5, 6, 7] (by decide) rfl rfl rfl) rfl rfl hl.1 rfl (lv_room (Nat.le_of_ble_eq_true rfl)) dL_scoreBy_5 ⟨(Nat.le_of_ble_eq_true rfl), (Nat.le_of_ble_eq_true rfl)⟩) hS (fun q _ h => hF q h) hF (fun q _ h => hF q h) (fun E9 ce q9 u t H locs ht hvm hw hB hz1 hk1 hS hce hcv hcl => ?_) (fun r u t H locs ht hvm hw hB hz1 hk1 hS => ?_)
  · try dsimp only at hB
    have hP1 : va_P D vwCl [] H := P_nil
    obtain ⟨hP, hD⟩ := post_j (ws' := [(h1, .inl (κ 2, 1, .inr (.inl (fun _ => 0))))]) (wr := [(h1, .inl (κ 2, 1, .inr (.inl (fun _ => 0))))]) (w1 := []) hP hD hF [0, 2, 3, 4, 5, 6, 7] rfl [1] rfl (by decide) (by decide) hk1 hP1 D_nil [0] (by decide) rfl
    have hP : va_P D vwCl [(h1, .inl (κ 2, 1, .inr (.inl (fun _ => 0))))] H := hP
    have hD : va_D A [(h1, .inl (κ 2, 1, .inr (.inl (fun _ => 0))))] := hD
    rcases hB with ⟨c2, rfl⟩ | ⟨c3, c4, rfl⟩
    · skip
      refine vx_catch (name := "java/lang/IllegalArgumentException") hown [] ⟨0, 10, 13, 19⟩ [] (htab.trans rfl) (fun z hz => nomatch hz) (by decide) (by decide) (hts _ wd425_L_scoreBy) (va_Nw.use rfl hE.2.2.2.2.2.2.2.2.2.2.2.2.2.2.1) hce hcv hcl ?_
      refine lv_astore (lv' := [(4, .ref q9), (0, .ref h0), (1, .int 0), (2, .int p0), (3, .ref h1)]) hx hb dL_scoreBy_13 hl (by decide) rfl (fun ls hl => ?_)
      refine lv_iconst (v := 1) hx hb dL_scoreBy_15 (by decide) ?_
      have hP9 := hP.sub (ws' := [(h1, .inl (κ 2, 1, .inr (.inl (fun _ => 0))))]) [0] rfl
      have hD9 := hD.sub (ws' := [(h1, .inl (κ 2, 1, .inr (.inl (fun _ => 0))))]) [0] (by decide) rfl
      refine W.widen (k := 1) (n := 6) (Nat.le_of_ble_eq_true rfl) (Nat.le_of_ble_eq_true rfl) ?_
      exact W.iret (v := 1) hx hb hr (fun t ht hW => ⟨⟨1, (fun _ => 0), rfl, (Or.inl ⟨c2, rfl⟩), by rw [ht]; exact hP9, hD9⟩, hS.F ht⟩) hS.2.2 dL_scoreBy_16
    · skip
      refine vx_catch (name := "java/lang/IllegalArgumentException") hown [] ⟨0, 10, 13, 19⟩ [] (htab.trans rfl) (fun z hz => nomatch hz) (by decide) (by decide) (hts _ wd425_L_scoreBy) (va_Nw.use rfl hE.2.2.2.2.2.2.2.2.2.2.2.2.2.2.1) hce hcv hcl ?_
      refine lv_astore (lv' := [(4, .ref q9), (0, .ref h0), (1, .int 0), (2, .int p0), (3, .ref h1)]) hx hb dL_scoreBy_13 hl (by decide) rfl (fun ls hl => ?_)
      refine lv_iconst (v := 1) hx hb dL_scoreBy_15 (by decide) ?_
      have hP9 := hP.sub (ws' := [(h1, .inl (κ 2, 1, .inr (.inl (fun _ => 0))))]) [0] rfl
      have hD9 := hD.sub (ws' := [(h1, .inl (κ 2, 1, .inr (.inl (fun _ => 0))))]) [0] (by decide) rfl
      refine W.widen (k := 1) (n := 6) (Nat.le_of_ble_eq_true rfl) (Nat.le_of_ble_eq_true rfl) ?_
      exact W.iret (v := 1) hx hb hr (fun t ht hW => ⟨⟨1, (fun _ => 0), rfl, (Or.inr (Or.inl ⟨c3, c4, rfl⟩)), by rw [ht]; exact hP9, hD9⟩, hS.F ht⟩) hS.2.2 dL_scoreBy_16
  · try dsimp only at hw hB
    have hP1 : va_P D vwCl [] H := P_nil
    obtain ⟨hP, hD⟩ := post_j (ws' := [(h1, .inl (κ 2, 1, .inr (.inl (fun _ => 0))))]) (wr := [(h1, .inl (κ 2, 1, .inr (.inl (fun _ => 0))))]) (w1 := []) hP hD hF [0, 2, 3, 4, 5, 6, 7] rfl [1] rfl (by decide) (by decide) hk1 hP1 D_nil [0] (by decide) rfl
    have hP : va_P D vwCl [(h1, .inl (κ 2, 1, .inr (.inl (fun _ => 0))))] H := hP
    have hD : va_D A [(h1, .inl (κ 2, 1, .inr (.inl (fun _ => 0))))] := hD
    obtain ⟨c5, c6, rfl⟩ := hw
    refine lv_i2l (v := 0) hx hb dL_scoreBy_8 (by decide) ?_
    refine va_last (cA := κ 2) (n := 1) (f := (fun _ => 0)) hx hb hK hP hD hS 0 2 rfl rfl (vpl (by decide)) dL_scoreBy_9 (fun H locs hP hD hS => ?_)
    have hP : va_P D vwCl [(h1, .inl (κ 2, 1, .inr (.inl (vp_updL (fun _ => 0) 0 0))))] H := hP
    have hD : va_D A [(h1, .inl (κ 2, 1, .inr (.inl (vp_updL (fun _ => 0) 0 0))))] := hD
    refine lv_goto (tgt := 17) hx hb dL_scoreBy_10 (by decide) ?_
    refine lv_iconst (v := 0) hx hb dL_scoreBy_17 (by decide) ?_
    have hP9 := hP.sub (ws' := [(h1, .inl (κ 2, 1, .inr (.inl (vp_updL (fun _ => 0) 0 0))))]) [0] rfl
    have hD9 := hD.sub (ws' := [(h1, .inl (κ 2, 1, .inr (.inl (vp_updL (fun _ => 0) 0 0))))]) [0] (by decide) rfl
    refine W.widen (k := 1) (n := 6) (Nat.le_of_ble_eq_true rfl) (Nat.le_of_ble_eq_true rfl) ?_
    exact W.iret (v := 0) hx hb hr (fun t ht hW => ⟨⟨0, (vp_updL (fun _ => 0) 0 0), rfl, (Or.inr (Or.inr ⟨c5, c6, rfl, rfl⟩)), by rw [ht]; exact hP9, hD9⟩, hS.F ht⟩) hS.2.2 dL_scoreBy_18

set_option maxHeartbeats 4000000 in
set_option maxRecDepth 100000 in
theorem k_X6_isIn_50 (l : Launch) (D : va_G) (κ ε : Nat → Nat) : Met l yX6_isIn wsX6_isIn ({ frames := 0, cells := 0, slots := 0, locals := 0 }) (va_Pc [.int 0, .int 0, .int 4] (Pre0 D κ [])) (vp_Si (fun r => (r = 1))) 0 0 (fun _ => False) := by
  refine Met.ofW (cc := cX6_isIn) (maxL := 3) (ret := (some .boolean)) (by decide) rfl ?_
  intro p e s m args below meth c s₁ B hml hv
  obtain ⟨rfl, hP, hK⟩ := hv
  have hx := B.exec
  have hb := B.bytes
  have hr := B.returns
  have hts := atoms_spec (ws := wsX6_isIn) B.pre
  have hown : s.vm.findClass RX6 = some m.cls := findClass_of_methodNamed B.named
  have hlocks := B.notSynchronized
  have hP : va_P D vwCl [] s.heap := hP
  have hl := lv_entry [.int 0, .int 0, .int 4] (n := 3) (Nat.le_of_ble_eq_true rfl)
  rw [lg_entry_eq]
  generalize (lg_sl [.int 0, .int 0, .int 4] ++ List.replicate (3 - (lg_sl [.int 0, .int 0, .int 4]).length) Slot.unset).toArray = ls at hl ⊢
  have hl : lv_has ls 3 [(0, .int 0), (1, .int 0), (2, .int 4)] := hl
  refine lv_iload_n hx hb dX6_isIn_0 rfl (lv_at hl 0 rfl) ?_
  refine lv_iload_n hx hb dX6_isIn_1 rfl (lv_at hl 1 rfl) ?_
  refine lv_icmp_lt (tgt := 14) hx hb dX6_isIn_2 (by decide) (fun h => absurd h (by decide)) (fun _ => ?_)
  refine lv_iload_n hx hb dX6_isIn_5 rfl (lv_at hl 0 rfl) ?_
  refine lv_iload_n hx hb dX6_isIn_6 rfl (lv_at hl 2 rfl) ?_
  refine lv_icmp_gt (tgt := 14) hx hb dX6_isIn_7 (by decide) (fun h => absurd h (by decide)) (fun _ => ?_)
  refine lv_iconst (v := 1) hx hb dX6_isIn_10 (by decide) ?_
  refine lv_goto (tgt := 15) hx hb dX6_isIn_11 (by decide) ?_
  exact W.zret (v := 1) hx hb hr rfl (fun t ht hW => ⟨1, rfl, rfl, ht⟩) (fun q hq => absurd hq List.not_mem_nil) dX6_isIn_15

set_option maxHeartbeats 4000000 in
set_option maxRecDepth 100000 in
theorem k_X6_scoreBy_0 (l : Launch) (D : va_G) (κ ε : Nat → Nat) (h0 h1 h2 h3 : Nat) (sz : Nat) (p0 : Int32) (hf0 : p0 < 1) : Met l yX6_scoreBy wsX6_scoreBy ({ frames := 2, cells := 0, slots := 0, locals := 44 }) (va_Pc [.ref h0, .int 0, .int p0] (Pre2 D κ ε [(h0, .inr (8, [.int 0, .int 0, .int 2, .ref h1, .ref h2, .int 0, .int 500, .int 0, .int 0, .int 0, .ref h3]))] sz)) (va_Qi (fun r (u : List Value) => (u[0]? = some (.int 1)) ∧ (r = 0)) (fun u t => va_P D vwCl [(h0, .inr (8, u))] t.heap ∧ va_D (va_A [(h0, .inr (8, [.int 0, .int 0, .int 2, .ref h1, .ref h2, .int 0, .int 500, .int 0, .int 0, .int 0, .ref h3]))] sz) [(h0, .inr (8, u))]) (va_A [(h0, .inr (8, [.int 0, .int 0, .int 2, .ref h1, .ref h2, .int 0, .int 500, .int 0, .int 0, .int 0, .ref h3]))] sz)) 0 0 (va_A [(h0, .inr (8, [.int 0, .int 0, .int 2, .ref h1, .ref h2, .int 0, .int 500, .int 0, .int 0, .int 0, .ref h3]))] sz) := by
  refine Met.ofW (cc := cX6_scoreBy) (maxL := 3) (ret := (some .int)) (by decide) rfl ?_
  intro p e s m args below meth c s₁ B hml hv
  obtain ⟨rfl, hsz, hP, hK, hD0, hE9⟩ := hv
  have hx := B.exec
  have hb := B.bytes
  have hr := B.returns
  have hts := atoms_spec (ws := wsX6_scoreBy) B.pre
  have hown : s.vm.findClass RX6 = some m.cls := findClass_of_methodNamed B.named
  have hlocks := B.notSynchronized
  subst hsz
  have hD := hD0.self (sz := s.heap.size)
  generalize hAe : va_A [(h0, .inr (8, [.int 0, .int 0, .int 2, .ref h1, .ref h2, .int 0, .int 500, .int 0, .int 0, .int 0, .ref h3]))] s.heap.size = A at hD hE9 ⊢
  have hE := hE9.1
  have hDc := hE9.2
  have hA : ∀ q : Nat, s.heap.size ≤ q → A q := fun q h => by rw [← hAe]; exact Or.inr h
  have hS : va_S A s.heap s.heap [] := va_S.rf
  have hP : va_P D vwCl [(h0, .inr (8, [.int 0, .int 0, .int 2, .ref h1, .ref h2, .int 0, .int 500, .int 0, .int 0, .int 0, .ref h3]))] s.heap := hP
  have hl := lv_entry [.ref h0, .int 0, .int p0] (n := 3) (Nat.le_of_ble_eq_true rfl)
  rw [lg_entry_eq]
  generalize (lg_sl [.ref h0, .int 0, .int p0] ++ List.replicate (3 - (lg_sl [.ref h0, .int 0, .int p0]).length) Slot.unset).toArray = ls at hl ⊢
  have hl : lv_has ls 3 [(0, .ref h0), (1, .int 0), (2, .int p0)] := hl
  refine lv_aload_n hx hb dX6_scoreBy_0 rfl (lv_at hl 0 rfl) ?_
  refine lv_iload_n hx hb dX6_scoreBy_1 rfl (lv_at hl 1 rfl) ?_
  refine lv_iconst (v := 0) hx hb dX6_scoreBy_2 (by decide) ?_
  refine lv_iconst (v := 4) hx hb dX6_scoreBy_3 (by decide) ?_
  refine vp_callSi (W.runS (As := [.int 0, .int 0, .int 4]) (rest := [.ref h0]) ⟨hx, hb, hml, hown, hts⟩ (k_X6_isIn_50 l D κ ε) (va_cwS 3 hts gX6_scoreBy_X6_isIn rfl rfl rfl (by decide +kernel) ⟨(Nat.le_of_ble_eq_true rfl), (Nat.le_of_ble_eq_true rfl)⟩) (pre0_S (wc := []) hP hK [] rfl) rfl rfl hl.1 rfl (lv_room (Nat.le_of_ble_eq_true rfl)) dX6_scoreBy_4 ⟨(Nat.le_of_ble_eq_true rfl), (Nat.le_of_ble_eq_true rfl)⟩) (fun r hw => ?_)
  rw [hw]
  refine lv_if_eq (tgt := 21) hx hb dX6_scoreBy_7 (by decide) (fun h => absurd h (by decide)) (fun _ => ?_)
  refine lv_iload_n hx hb dX6_scoreBy_10 rfl (lv_at hl 2 rfl) ?_
  refine lv_iconst (v := 1) hx hb dX6_scoreBy_11 (by decide) ?_
  refine lv_sipush (v := 1000) hx hb dX6_scoreBy_12 (by decide) ?_
  refine vp_callSi (W.runS (As := [.int p0, .int 1, .int 1000]) (rest := [.ref h0]) ⟨hx, hb, hml, hown, hts⟩ (k_X6_isIn_17 l D κ ε (p0) hf0) (va_cwS 3 hts gX6_scoreBy_X6_isIn rfl rfl rfl (by decide +kernel) ⟨(Nat.le_of_ble_eq_true rfl), (Nat.le_of_ble_eq_true rfl)⟩) (pre0_S (wc := []) hP hK [] rfl) rfl rfl hl.1 rfl (lv_room (Nat.le_of_ble_eq_true rfl)) dX6_scoreBy_15 ⟨(Nat.le_of_ble_eq_true rfl), (Nat.le_of_ble_eq_true rfl)⟩) (fun r hw => ?_)
  rw [hw]
  refine lv_if_ne (tgt := 25) hx hb dX6_scoreBy_18 (by decide) (fun h => absurd (by decide) h) (fun _ => ?_)
  refine lv_iconst (v := 1) hx hb dX6_scoreBy_21 (by decide) ?_
  refine lv_goto (tgt := 26) hx hb dX6_scoreBy_22 (by decide) ?_
  refine lv_iconst (v := 1) hx hb dX6_scoreBy_26 (by decide) ?_
  have hF := va_free (wc := [(h0, .inr (8, [.int 0, .int 0, .int 2, .ref h1, .ref h2, .int 0, .int 500, .int 0, .int 0, .int 0, .ref h3]))]) hD hS hA [0] rfl
  refine va_calli (va_runV (As := [.int 1, .int 1]) (rest := []) ⟨hx, hb, hml, hown, hts⟩ (k_X6_start_1 l D κ ε h0 h1 h2 h3 s.heap.size (0) (2) (0) (500) (0) (0)) (cwV 2 hts gX6_scoreBy_X6_start rfl rfl rfl (by decide +kernel) ⟨(Nat.le_of_ble_eq_true rfl), (Nat.le_of_ble_eq_true rfl)⟩) (pre2_V (q0 := 0) (ci := 8) (wc := [(h0, .inr (8, [.int 0, .int 0, .int 2, .ref h1, .ref h2, .int 0, .int 500, .int 0, .int 0, .int 0, .ref h3]))]) hP hD hK hE9 hS hA [0] (by decide) rfl rfl rfl) rfl rfl hl.1 rfl (lv_room (Nat.le_of_ble_eq_true rfl)) dX6_scoreBy_27 ⟨(Nat.le_of_ble_eq_true rfl), (Nat.le_of_ble_eq_true rfl)⟩) hS (fun q _ h => hF q h) hF (fun r u1 t H locs ht hvm hw hB hz1 hk1 hS => ?_)
  try dsimp only at hw hB
  obtain ⟨hP1, hD1⟩ := hB
  rw [ht] at hP1
  obtain ⟨hP, hD⟩ := post_j (ws' := [(h0, .inr (8, [.int 1, .int 0, .int 2, .ref h1, .ref h2, .int 0, .int 500, .int 0, .int 0, .int 0, .ref h3]))]) (wr := []) (w1 := [(h0, .inr (8, [.int 1, .int 0, .int 2, .ref h1, .ref h2, .int 0, .int 500, .int 0, .int 0, .int 0, .ref h3]))]) hP hD hF [0] rfl [] rfl (by decide) (by decide) hk1 hP1 hD1 [0] (by decide) rfl
  have hP : va_P D vwCl [(h0, .inr (8, [.int 1, .int 0, .int 2, .ref h1, .ref h2, .int 0, .int 500, .int 0, .int 0, .int 0, .ref h3]))] H := hP
  have hD : va_D A [(h0, .inr (8, [.int 1, .int 0, .int 2, .ref h1, .ref h2, .int 0, .int 500, .int 0, .int 0, .int 0, .ref h3]))] := hD
  rw [hw]
  refine lv_if_eq (tgt := 37) hx hb dX6_scoreBy_30 (by decide) (fun h => absurd h (by decide)) (fun _ => ?_)
  refine lv_iconst (v := 0) hx hb dX6_scoreBy_33 (by decide) ?_
  refine lv_goto (tgt := 47) hx hb dX6_scoreBy_34 (by decide) ?_
  have hP9 := hP.sub (ws' := [(h0, .inr (8, [.int 1, .int 0, .int 2, .ref h1, .ref h2, .int 0, .int 500, .int 0, .int 0, .int 0, .ref h3]))]) [0] rfl
  have hD9 := hD.sub (ws' := [(h0, .inr (8, [.int 1, .int 0, .int 2, .ref h1, .ref h2, .int 0, .int 500, .int 0, .int 0, .int 0, .ref h3]))]) [0] (by decide) rfl
  exact W.iret (v := 0) hx hb hr (fun t ht hW => ⟨⟨0, [.int 1, .int 0, .int 2, .ref h1, .ref h2, .int 0, .int 500, .int 0, .int 0, .int 0, .ref h3], rfl, ⟨rfl, rfl⟩, by rw [ht]; exact hP9, hD9⟩, hS.F ht⟩) hS.2.2 dX6_scoreBy_47

set_option maxHeartbeats 4000000 in
set_option maxRecDepth 100000 in
theorem k_X6_scoreBy_1 (l : Launch) (D : va_G) (κ ε : Nat → Nat) (h0 h1 h2 h3 : Nat) (sz : Nat) (p0 : Int32) (hf0 : ¬ p0 < 1) (hf1 : 1000 < p0) : Met l yX6_scoreBy wsX6_scoreBy ({ frames := 2, cells := 0, slots := 0, locals := 44 }) (va_Pc [.ref h0, .int 0, .int p0] (Pre2 D κ ε [(h0, .inr (8, [.int 0, .int 0, .int 2, .ref h1, .ref h2, .int 0, .int 500, .int 0, .int 0, .int 0, .ref h3]))] sz)) (va_Qi (fun r (u : List Value) => (u[0]? = some (.int 1)) ∧ (r = 0)) (fun u t => va_P D vwCl [(h0, .inr (8, u))] t.heap ∧ va_D (va_A [(h0, .inr (8, [.int 0, .int 0, .int 2, .ref h1, .ref h2, .int 0, .int 500, .int 0, .int 0, .int 0, .ref h3]))] sz) [(h0, .inr (8, u))]) (va_A [(h0, .inr (8, [.int 0, .int 0, .int 2, .ref h1, .ref h2, .int 0, .int 500, .int 0, .int 0, .int 0, .ref h3]))] sz)) 0 0 (va_A [(h0, .inr (8, [.int 0, .int 0, .int 2, .ref h1, .ref h2, .int 0, .int 500, .int 0, .int 0, .int 0, .ref h3]))] sz) := by
  refine Met.ofW (cc := cX6_scoreBy) (maxL := 3) (ret := (some .int)) (by decide) rfl ?_
  intro p e s m args below meth c s₁ B hml hv
  obtain ⟨rfl, hsz, hP, hK, hD0, hE9⟩ := hv
  have hx := B.exec
  have hb := B.bytes
  have hr := B.returns
  have hts := atoms_spec (ws := wsX6_scoreBy) B.pre
  have hown : s.vm.findClass RX6 = some m.cls := findClass_of_methodNamed B.named
  have hlocks := B.notSynchronized
  subst hsz
  have hD := hD0.self (sz := s.heap.size)
  generalize hAe : va_A [(h0, .inr (8, [.int 0, .int 0, .int 2, .ref h1, .ref h2, .int 0, .int 500, .int 0, .int 0, .int 0, .ref h3]))] s.heap.size = A at hD hE9 ⊢
  have hE := hE9.1
  have hDc := hE9.2
  have hA : ∀ q : Nat, s.heap.size ≤ q → A q := fun q h => by rw [← hAe]; exact Or.inr h
  have hS : va_S A s.heap s.heap [] := va_S.rf
  have hP : va_P D vwCl [(h0, .inr (8, [.int 0, .int 0, .int 2, .ref h1, .ref h2, .int 0, .int 500, .int 0, .int 0, .int 0, .ref h3]))] s.heap := hP
  have hl := lv_entry [.ref h0, .int 0, .int p0] (n := 3) (Nat.le_of_ble_eq_true rfl)
  rw [lg_entry_eq]
  generalize (lg_sl [.ref h0, .int 0, .int p0] ++ List.replicate (3 - (lg_sl [.ref h0, .int 0, .int p0]).length) Slot.unset).toArray = ls at hl ⊢
  have hl : lv_has ls 3 [(0, .ref h0), (1, .int 0), (2, .int p0)] := hl
  refine lv_aload_n hx hb dX6_scoreBy_0 rfl (lv_at hl 0 rfl) ?_
  refine lv_iload_n hx hb dX6_scoreBy_1 rfl (lv_at hl 1 rfl) ?_
  refine lv_iconst (v := 0) hx hb dX6_scoreBy_2 (by decide) ?_
  refine lv_iconst (v := 4) hx hb dX6_scoreBy_3 (by decide) ?_
  refine vp_callSi (W.runS (As := [.int 0, .int 0, .int 4]) (rest := [.ref h0]) ⟨hx, hb, hml, hown, hts⟩ (k_X6_isIn_50 l D κ ε) (va_cwS 3 hts gX6_scoreBy_X6_isIn rfl rfl rfl (by decide +kernel) ⟨(Nat.le_of_ble_eq_true rfl), (Nat.le_of_ble_eq_true rfl)⟩) (pre0_S (wc := []) hP hK [] rfl) rfl rfl hl.1 rfl (lv_room (Nat.le_of_ble_eq_true rfl)) dX6_scoreBy_4 ⟨(Nat.le_of_ble_eq_true rfl), (Nat.le_of_ble_eq_true rfl)⟩) (fun r hw => ?_)
  rw [hw]
  refine lv_if_eq (tgt := 21) hx hb dX6_scoreBy_7 (by decide) (fun h => absurd h (by decide)) (fun _ => ?_)
  refine lv_iload_n hx hb dX6_scoreBy_10 rfl (lv_at hl 2 rfl) ?_
  refine lv_iconst (v := 1) hx hb dX6_scoreBy_11 (by decide) ?_
  refine lv_sipush (v := 1000) hx hb dX6_scoreBy_12 (by decide) ?_
  refine vp_callSi (W.runS (As := [.int p0, .int 1, .int 1000]) (rest := [.ref h0]) ⟨hx, hb, hml, hown, hts⟩ (k_X6_isIn_28 l D κ ε (p0) hf0 hf1) (va_cwS 3 hts gX6_scoreBy_X6_isIn rfl rfl rfl (by decide +kernel) ⟨(Nat.le_of_ble_eq_true rfl), (Nat.le_of_ble_eq_true rfl)⟩) (pre0_S (wc := []) hP hK [] rfl) rfl rfl hl.1 rfl (lv_room (Nat.le_of_ble_eq_true rfl)) dX6_scoreBy_15 ⟨(Nat.le_of_ble_eq_true rfl), (Nat.le_of_ble_eq_true rfl)⟩) (fun r hw => ?_)
  rw [hw]
  refine lv_if_ne (tgt := 25) hx hb dX6_scoreBy_18 (by decide) (fun h => absurd (by decide) h) (fun _ => ?_)
  refine lv_iconst (v := 1) hx hb dX6_scoreBy_21 (by decide) ?_
  refine lv_goto (tgt := 26) hx hb dX6_scoreBy_22 (by decide) ?_
  refine lv_iconst (v := 1) hx hb dX6_scoreBy_26 (by decide) ?_
  have hF := va_free (wc := [(h0, .inr (8, [.int 0, .int 0, .int 2, .ref h1, .ref h2, .int 0, .int 500, .int 0, .int 0, .int 0, .ref h3]))]) hD hS hA [0] rfl
  refine va_calli (va_runV (As := [.int 1, .int 1]) (rest := []) ⟨hx, hb, hml, hown, hts⟩ (k_X6_start_1 l D κ ε h0 h1 h2 h3 s.heap.size (0) (2) (0) (500) (0) (0)) (cwV 2 hts gX6_scoreBy_X6_start rfl rfl rfl (by decide +kernel) ⟨(Nat.le_of_ble_eq_true rfl), (Nat.le_of_ble_eq_true rfl)⟩) (pre2_V (q0 := 0) (ci := 8) (wc := [(h0, .inr (8, [.int 0, .int 0, .int 2, .ref h1, .ref h2, .int 0, .int 500, .int 0, .int 0, .int 0, .ref h3]))]) hP hD hK hE9 hS hA [0] (by decide) rfl rfl rfl) rfl rfl hl.1 rfl (lv_room (Nat.le_of_ble_eq_true rfl)) dX6_scoreBy_27 ⟨(Nat.le_of_ble_eq_true rfl), (Nat.le_of_ble_eq_true rfl)⟩) hS (fun q _ h => hF q h) hF (fun r u1 t H locs ht hvm hw hB hz1 hk1 hS => ?_)
  try dsimp only at hw hB
  obtain ⟨hP1, hD1⟩ := hB
  rw [ht] at hP1
  obtain ⟨hP, hD⟩ := post_j (ws' := [(h0, .inr (8, [.int 1, .int 0, .int 2, .ref h1, .ref h2, .int 0, .int 500, .int 0, .int 0, .int 0, .ref h3]))]) (wr := []) (w1 := [(h0, .inr (8, [.int 1, .int 0, .int 2, .ref h1, .ref h2, .int 0, .int 500, .int 0, .int 0, .int 0, .ref h3]))]) hP hD hF [0] rfl [] rfl (by decide) (by decide) hk1 hP1 hD1 [0] (by decide) rfl
  have hP : va_P D vwCl [(h0, .inr (8, [.int 1, .int 0, .int 2, .ref h1, .ref h2, .int 0, .int 500, .int 0, .int 0, .int 0, .ref h3]))] H := hP
  have hD : va_D A [(h0, .inr (8, [.int 1, .int 0, .int 2, .ref h1, .ref h2, .int 0, .int 500, .int 0, .int 0, .int 0, .ref h3]))] := hD
  rw [hw]
  refine lv_if_eq (tgt := 37) hx hb dX6_scoreBy_30 (by decide) (fun h => absurd h (by decide)) (fun _ => ?_)
  refine lv_iconst (v := 0) hx hb dX6_scoreBy_33 (by decide) ?_
  refine lv_goto (tgt := 47) hx hb dX6_scoreBy_34 (by decide) ?_
  have hP9 := hP.sub (ws' := [(h0, .inr (8, [.int 1, .int 0, .int 2, .ref h1, .ref h2, .int 0, .int 500, .int 0, .int 0, .int 0, .ref h3]))]) [0] rfl
  have hD9 := hD.sub (ws' := [(h0, .inr (8, [.int 1, .int 0, .int 2, .ref h1, .ref h2, .int 0, .int 500, .int 0, .int 0, .int 0, .ref h3]))]) [0] (by decide) rfl
  exact W.iret (v := 0) hx hb hr (fun t ht hW => ⟨⟨0, [.int 1, .int 0, .int 2, .ref h1, .ref h2, .int 0, .int 500, .int 0, .int 0, .int 0, .ref h3], rfl, ⟨rfl, rfl⟩, by rw [ht]; exact hP9, hD9⟩, hS.F ht⟩) hS.2.2 dX6_scoreBy_47

set_option maxHeartbeats 4000000 in
set_option maxRecDepth 100000 in
theorem k_X6_chance_1 (l : Launch) (D : va_G) (κ ε : Nat → Nat) (h0 h1 h2 h3 h4 h5 h6 h7 : Nat) (p0 : Int32) (p1 : Int32) (p2 : Int32) (p3 : Int32) (p4 : Int32) (p5 : Int32) (p6 : Int32) (hf0 : ¬ p0 < 1) (hf1 : ¬ 1000 < p0) : Met l yX6_chance wsX6_chance ({ frames := 1, cells := 0, slots := 0, locals := 23 }) (va_Pc [.ref h0, .ref h1, .int 0, .int p0, .int 0, .int 0, .int 1] (Pre0 D κ [(h0, .inr (8, [.int p1, .int 0, .int p2, .ref h2, .ref h1, .int p3, .int p4, .int p5, .int p6, .int 0, .ref h3])), (h1, .inl (κ 4, 4, .inr (.inr (.inr (.inr (sel [h4, h5, h6, h7])))))), (h5, .inl (κ 0, 196, .inl (fun _ => 0)))])) (vp_Sl (fun r => (r = 1000000))) 0 0 (fun _ => False) := by
  refine Met.ofW (cc := cX6_chance) (maxL := 15) (ret := (some .long)) (by decide) rfl ?_
  intro p e s m args below meth c s₁ B hml hv
  obtain ⟨rfl, hP, hK⟩ := hv
  have hx := B.exec
  have hb := B.bytes
  have hr := B.returns
  have hts := atoms_spec (ws := wsX6_chance) B.pre
  have hown : s.vm.findClass RX6 = some m.cls := findClass_of_methodNamed B.named
  have hlocks := B.notSynchronized
  have hP : va_P D vwCl [(h0, .inr (8, [.int p1, .int 0, .int p2, .ref h2, .ref h1, .int p3, .int p4, .int p5, .int p6, .int 0, .ref h3])), (h1, .inl (κ 4, 4, .inr (.inr (.inr (.inr (sel [h4, h5, h6, h7])))))), (h5, .inl (κ 0, 196, .inl (fun _ => 0)))] s.heap := hP
  have hl := lv_entry [.ref h0, .ref h1, .int 0, .int p0, .int 0, .int 0, .int 1] (n := 15) (Nat.le_of_ble_eq_true rfl)
  rw [lg_entry_eq]
  generalize (lg_sl [.ref h0, .ref h1, .int 0, .int p0, .int 0, .int 0, .int 1] ++ List.replicate (15 - (lg_sl [.ref h0, .ref h1, .int 0, .int p0, .int 0, .int 0, .int 1]).length) Slot.unset).toArray = ls at hl ⊢
  have hl : lv_has ls 15 [(0, .ref h0), (1, .ref h1), (2, .int 0), (3, .int p0), (4, .int 0), (5, .int 0), (6, .int 1)] := hl
  refine lv_lconst (v := 0) hx hb dX6_chance_0 (by decide) ?_
  refine lv_lstore (lv' := [(7, .long 0), (0, .ref h0), (1, .ref h1), (2, .int 0), (3, .int p0), (4, .int 0), (5, .int 0), (6, .int 1)]) hx hb dX6_chance_1 hl (by decide) rfl (fun ls hl => ?_)
  refine lv_lconst (v := 0) hx hb dX6_chance_3 (by decide) ?_
  refine lv_lstore (lv' := [(9, .long 0), (7, .long 0), (0, .ref h0), (1, .ref h1), (2, .int 0), (3, .int p0), (4, .int 0), (5, .int 0), (6, .int 1)]) hx hb dX6_chance_4 hl (by decide) rfl (fun ls hl => ?_)
  refine lv_lconst (v := 0) hx hb dX6_chance_6 (by decide) ?_
  refine lv_lstore (lv' := [(11, .long 0), (9, .long 0), (7, .long 0), (0, .ref h0), (1, .ref h1), (2, .int 0), (3, .int p0), (4, .int 0), (5, .int 0), (6, .int 1)]) hx hb dX6_chance_7 hl (by decide) rfl (fun ls hl => ?_)
  refine lv_iload_n hx hb dX6_chance_9 rfl (lv_at hl 5 rfl) ?_
  refine lv_iconst (v := 4) hx hb dX6_chance_10 (by decide) ?_
  refine lv_icmp_ne (tgt := 106) hx hb dX6_chance_11 (by decide) (fun _ => ?_) (fun h => absurd h (by decide))
  refine lv_aload_n hx hb dX6_chance_106 rfl (lv_at hl 4 rfl) ?_
  refine lv_iload hx hb dX6_chance_107 (lv_at hl 9 rfl) ?_
  refine ya_ld2 hx hb hK hP 1 rfl (vpl (by decide)) (v := .ref h5) rfl dX6_chance_109 ?_
  refine lv_iload hx hb dX6_chance_110 (lv_at hl 8 rfl) ?_
  refine lv_bipush (v := 14) hx hb dX6_chance_112 (by decide) ?_
  refine lv_imul hx hb dX6_chance_114 ?_
  refine tpi (v := 0) (by decide) ?_
  refine lv_iload hx hb dX6_chance_115 (lv_at hl 7 rfl) ?_
  refine lv_iadd hx hb dX6_chance_117 ?_
  refine tpi (v := 0) (by decide) ?_
  refine lv_iconst (v := 1) hx hb dX6_chance_118 (by decide) ?_
  refine lv_iadd hx hb dX6_chance_119 ?_
  refine tpi (v := 1) (by decide) ?_
  refine va_iald (cA := κ 0) (n := 196) (f := (fun _ => 0)) hx hb hK hP 2 0 rfl rfl (vpl (by decide)) dX6_chance_120 ?_
  refine tpi (v := 0) (by decide) ?_
  refine lv_i2l (v := 0) hx hb dX6_chance_121 (by decide) ?_
  refine lv_lstore (lv' := [(7, .long 0), (11, .long 0), (9, .long 0), (0, .ref h0), (1, .ref h1), (2, .int 0), (3, .int p0), (4, .int 0), (5, .int 0), (6, .int 1)]) hx hb dX6_chance_122 hl (by decide) rfl (fun ls hl => ?_)
  refine lv_aload_n hx hb dX6_chance_124 rfl (lv_at hl 4 rfl) ?_
  refine lv_iload hx hb dX6_chance_125 (lv_at hl 9 rfl) ?_
  refine ya_ld2 hx hb hK hP 1 rfl (vpl (by decide)) (v := .ref h5) rfl dX6_chance_127 ?_
  refine lv_iload hx hb dX6_chance_128 (lv_at hl 8 rfl) ?_
  refine vp_callSi (W.runS (As := [.ref h5, .int 0]) (rest := []) ⟨hx, hb, hml, hown, hts⟩ (k_X6_sum_1 l D κ ε h5) (va_cwS 2 hts gX6_chance_X6_sum rfl rfl rfl (by decide +kernel) ⟨(Nat.le_of_ble_eq_true rfl), (Nat.le_of_ble_eq_true rfl)⟩) (pre0_S (wc := [(h5, .inl (κ 0, 196, .inl (fun _ => 0)))]) hP hK [2] rfl) rfl rfl hl.1 rfl (lv_room (Nat.le_of_ble_eq_true rfl)) dX6_chance_130 ⟨(Nat.le_of_ble_eq_true rfl), (Nat.le_of_ble_eq_true rfl)⟩) (fun r hw => ?_)
  rw [hw]
  refine lv_i2l (v := 0) hx hb dX6_chance_133 (by decide) ?_
  refine lv_lstore (lv' := [(9, .long 0), (7, .long 0), (11, .long 0), (0, .ref h0), (1, .ref h1), (2, .int 0), (3, .int p0), (4, .int 0), (5, .int 0), (6, .int 1)]) hx hb dX6_chance_134 hl (by decide) rfl (fun ls hl => ?_)
  refine lv_aload_n hx hb dX6_chance_136 rfl (lv_at hl 4 rfl) ?_
  refine lv_iload hx hb dX6_chance_137 (lv_at hl 9 rfl) ?_
  refine ya_ld2 hx hb hK hP 1 rfl (vpl (by decide)) (v := .ref h5) rfl dX6_chance_139 ?_
  refine lv_iload hx hb dX6_chance_140 (lv_at hl 8 rfl) ?_
  refine vp_callSi (W.runS (As := [.ref h5, .int 0]) (rest := []) ⟨hx, hb, hml, hown, hts⟩ (k_X6_sorts_1 l D κ ε h5) (va_cwS 2 hts gX6_chance_X6_sorts rfl rfl rfl (by decide +kernel) ⟨(Nat.le_of_ble_eq_true rfl), (Nat.le_of_ble_eq_true rfl)⟩) (pre0_S (wc := [(h5, .inl (κ 0, 196, .inl (fun _ => 0)))]) hP hK [2] rfl) rfl rfl hl.1 rfl (lv_room (Nat.le_of_ble_eq_true rfl)) dX6_chance_142 ⟨(Nat.le_of_ble_eq_true rfl), (Nat.le_of_ble_eq_true rfl)⟩) (fun r hw => ?_)
  rw [hw]
  refine lv_i2l (v := 0) hx hb dX6_chance_145 (by decide) ?_
  refine lv_lstore (lv' := [(11, .long 0), (9, .long 0), (7, .long 0), (0, .ref h0), (1, .ref h1), (2, .int 0), (3, .int p0), (4, .int 0), (5, .int 0), (6, .int 1)]) hx hb dX6_chance_146 hl (by decide) rfl (fun ls hl => ?_)
  refine lv_iload_n hx hb dX6_chance_148 rfl (lv_at hl 5 rfl) ?_
  refine lv_if_ne (tgt := 184) hx hb dX6_chance_149 (by decide) (fun h => absurd (by decide) h) (fun _ => ?_)
  refine lv_lload hx hb dX6_chance_152 (lv_at hl 2 rfl) ?_
  refine lv_ldc2 (v := 1000) hx hb hown (hts _ wd305_X6_chance) dX6_chance_154 ?_
  refine lv_lmul hx hb dX6_chance_157 ?_
  refine tpl (v := 0) (by decide) ?_
  refine lv_iload_n hx hb dX6_chance_158 rfl (lv_at hl 6 rfl) ?_
  refine lv_i2l (v := (p0).toInt64) hx hb dX6_chance_159 rfl ?_
  refine lv_ladd hx hb dX6_chance_160 ?_
  refine tpl (v := (p0).toInt64) (Int64.zero_add _) ?_
  refine lv_ldc2 (v := 1000000) hx hb hown (hts _ wd306_X6_chance) dX6_chance_161 ?_
  refine lv_lmul hx hb dX6_chance_164 ?_
  refine lv_lload hx hb dX6_chance_165 (lv_at hl 1 rfl) ?_
  refine lv_ldc2 (v := 1000) hx hb hown (hts _ wd305_X6_chance) dX6_chance_167 ?_
  refine lv_lmul hx hb dX6_chance_170 ?_
  refine tpl (v := 0) (by decide) ?_
  refine lv_iload_n hx hb dX6_chance_171 rfl (lv_at hl 6 rfl) ?_
  refine lv_i2l (v := (p0).toInt64) hx hb dX6_chance_172 rfl ?_
  refine lv_aload_n hx hb dX6_chance_173 rfl (lv_at hl 3 rfl) ?_
  refine va_get (D := D) (ci := 8) (v := .int 0) (C := RX6) (T := TX6) (N := 11) hx hb hts wi_X6_chance_RX6 hown hK hP 0 rfl rfl 1 (by decide) (hts _ wd307_X6_chance) (fun _ h9 => h9) rfl dX6_chance_174 ?_
  refine lv_iconst (v := 1) hx hb dX6_chance_177 (by decide) ?_
  refine lv_iadd hx hb dX6_chance_178 ?_
  refine tpi (v := 1) (by decide) ?_
  refine lv_i2l (v := 1) hx hb dX6_chance_179 (by decide) ?_
  refine lv_lmul hx hb dX6_chance_180 ?_
  refine tpl (v := (p0).toInt64) (Int64.mul_one _) ?_
  refine lv_ladd hx hb dX6_chance_181 ?_
  refine tpl (v := (p0).toInt64) (Int64.zero_add _) ?_
  refine lv_ldiv hx hb dX6_chance_182 (bl_ne (iv322 _ hf0) (iv323 _ hf1)) ?_
  refine tpl (v := 1000000) (bl_one (iv322 _ hf0) (iv323 _ hf1)) ?_
  exact W.lret (v := 1000000) hx hb hr (fun t ht hW => ⟨1000000, rfl, rfl, ht⟩) (fun q hq => absurd hq List.not_mem_nil) dX6_chance_183

set_option maxHeartbeats 4000000 in
set_option maxRecDepth 100000 in
theorem k_X6_score_1 (l : Launch) (D : va_G) (κ ε : Nat → Nat) (h0 h1 h2 h3 h4 h5 h6 h7 : Nat) (p0 : Int32) (p1 : Int32) (p2 : Int32) (p3 : Int32) (p4 : Int32) (p5 : Int32) (p6 : Int32) (hf0 : ¬ p0 < 1) (hf1 : ¬ 1000 < p0) : Met l yX6_score wsX6_score ({ frames := 2, cells := 0, slots := 0, locals := 57 }) (va_Pc [.ref h0, .ref h1, .int 0, .int p0] (Pre0 D κ [(h0, .inr (8, [.int p1, .int 0, .int 2, .ref h2, .ref h1, .int p2, .int p3, .int p4, .int p5, .int 0, .ref h3])), (h1, .inl (κ 4, 4, .inr (.inr (.inr (.inr (sel [h4, h5, h6, h7])))))), (h2, .inr (1, [.int p6, .ref (ε 1), .int 0])), (h5, .inl (κ 0, 196, .inl (fun _ => 0)))])) (vp_Si (fun r => (r = 0))) 0 0 (fun _ => False) := by
  refine Met.ofW (cc := cX6_score) (maxL := 6) (ret := (some .int)) (by decide) rfl ?_
  intro p e s m args below meth c s₁ B hml hv
  obtain ⟨rfl, hP, hK⟩ := hv
  have hx := B.exec
  have hb := B.bytes
  have hr := B.returns
  have hts := atoms_spec (ws := wsX6_score) B.pre
  have hown : s.vm.findClass RX6 = some m.cls := findClass_of_methodNamed B.named
  have hlocks := B.notSynchronized
  have hP : va_P D vwCl [(h0, .inr (8, [.int p1, .int 0, .int 2, .ref h2, .ref h1, .int p2, .int p3, .int p4, .int p5, .int 0, .ref h3])), (h1, .inl (κ 4, 4, .inr (.inr (.inr (.inr (sel [h4, h5, h6, h7])))))), (h2, .inr (1, [.int p6, .ref (ε 1), .int 0])), (h5, .inl (κ 0, 196, .inl (fun _ => 0)))] s.heap := hP
  have hl := lv_entry [.ref h0, .ref h1, .int 0, .int p0] (n := 6) (Nat.le_of_ble_eq_true rfl)
  rw [lg_entry_eq]
  generalize (lg_sl [.ref h0, .ref h1, .int 0, .int p0] ++ List.replicate (6 - (lg_sl [.ref h0, .ref h1, .int 0, .int p0]).length) Slot.unset).toArray = ls at hl ⊢
  have hl : lv_has ls 6 [(0, .ref h0), (1, .ref h1), (2, .int 0), (3, .int p0)] := hl
  refine lv_iconst (v := 0) hx hb dX6_score_0 (by decide) ?_
  refine lv_istore (lv' := [(4, .int 0), (0, .ref h0), (1, .ref h1), (2, .int 0), (3, .int p0)]) hx hb dX6_score_1 hl (by decide) rfl (fun ls hl => ?_)
  refine lv_iconst (v := 0) hx hb dX6_score_3 (by decide) ?_
  refine lv_istore (lv' := [(5, .int 0), (4, .int 0), (0, .ref h0), (1, .ref h1), (2, .int 0), (3, .int p0)]) hx hb dX6_score_4 hl (by decide) rfl (fun ls hl => ?_)
  refine lv_iload hx hb dX6_score_6 (lv_at hl 0 rfl) ?_
  refine lv_aload_n hx hb dX6_score_8 rfl (lv_at hl 2 rfl) ?_
  refine va_get (D := D) (ci := 8) (v := .ref h2) (C := RX6) (T := TX6) (N := 11) hx hb hts wi_X6_score_RX6 hown hK hP 0 rfl rfl 3 (by decide) (hts _ wd340_X6_score) (fun _ h9 => h9) rfl dX6_score_9 ?_
  refine vp_callSi (W.runV (As := []) (rest := [.int 0]) ⟨hx, hb, hml, hown, hts⟩ (k_Jx4a65c_size_8abf5_0 l D κ ε h2 (p6)) (cwV 0 hts gX6_score_Jx4a65c_size_8abf5 rfl rfl rfl (by decide +kernel) ⟨(Nat.le_of_ble_eq_true rfl), (Nat.le_of_ble_eq_true rfl)⟩) (pre0_V (q0 := 2) (ci := 1) (wc := [(h2, .inr (1, [.int p6, .ref (ε 1), .int 0]))]) hP hK [2] rfl rfl rfl) rfl rfl hl.1 rfl (lv_room (Nat.le_of_ble_eq_true rfl)) dX6_score_12 ⟨(Nat.le_of_ble_eq_true rfl), (Nat.le_of_ble_eq_true rfl)⟩) (fun r hw => ?_)
  rw [hw]
  refine lv_icmp_gt (tgt := 70) hx hb dX6_score_15 (by decide) (fun h => absurd h (by decide)) (fun _ => ?_)
  refine lv_iload hx hb dX6_score_18 (lv_at hl 1 rfl) ?_
  refine lv_aload_n hx hb dX6_score_20 rfl (lv_at hl 2 rfl) ?_
  refine lv_aload_n hx hb dX6_score_21 rfl (lv_at hl 3 rfl) ?_
  refine lv_iload_n hx hb dX6_score_22 rfl (lv_at hl 4 rfl) ?_
  refine lv_iload_n hx hb dX6_score_23 rfl (lv_at hl 5 rfl) ?_
  refine lv_aload_n hx hb dX6_score_24 rfl (lv_at hl 2 rfl) ?_
  refine lv_aload_n hx hb dX6_score_25 rfl (lv_at hl 2 rfl) ?_
  refine va_get (D := D) (ci := 8) (v := .ref h2) (C := RX6) (T := TX6) (N := 11) hx hb hts wi_X6_score_RX6 hown hK hP 0 rfl rfl 3 (by decide) (hts _ wd340_X6_score) (fun _ h9 => h9) rfl dX6_score_26 ?_
  refine lv_iload hx hb dX6_score_29 (lv_at hl 0 rfl) ?_
  refine vp_callSi (W.runV (As := [.ref h2, .int 0]) (rest := [.int p0, .int 0, .ref h1, .ref h0, .int 0]) ⟨hx, hb, hml, hown, hts⟩ (k_X6_at_0 l D κ ε h0 h2 h1 h3 (p1) (2) (p2) (p3) (p4) (p5) (p6)) (cwV 2 hts gX6_score_X6_at rfl rfl rfl (by decide +kernel) ⟨(Nat.le_of_ble_eq_true rfl), (Nat.le_of_ble_eq_true rfl)⟩) (pre0_V (q0 := 0) (ci := 8) (wc := [(h0, .inr (8, [.int p1, .int 0, .int 2, .ref h2, .ref h1, .int p2, .int p3, .int p4, .int p5, .int 0, .ref h3])), (h2, .inr (1, [.int p6, .ref (ε 1), .int 0]))]) hP hK [0, 2] rfl rfl rfl) rfl rfl hl.1 rfl (lv_room (Nat.le_of_ble_eq_true rfl)) dX6_score_31 ⟨(Nat.le_of_ble_eq_true rfl), (Nat.le_of_ble_eq_true rfl)⟩) (fun r hw => ?_)
  rw [hw]
  refine lv_aload_n hx hb dX6_score_34 rfl (lv_at hl 2 rfl) ?_
  refine va_get (D := D) (ci := 8) (v := .ref h2) (C := RX6) (T := TX6) (N := 11) hx hb hts wi_X6_score_RX6 hown hK hP 0 rfl rfl 3 (by decide) (hts _ wd340_X6_score) (fun _ h9 => h9) rfl dX6_score_35 ?_
  refine lv_iload hx hb dX6_score_38 (lv_at hl 0 rfl) ?_
  refine lv_aload_n hx hb dX6_score_40 rfl (lv_at hl 2 rfl) ?_
  refine va_get (D := D) (ci := 8) (v := .int 2) (C := RX6) (T := TX6) (N := 11) hx hb hts wi_X6_score_RX6 hown hK hP 0 rfl rfl 2 (by decide) (hts _ wd341_X6_score) (fun _ h9 => h9) rfl dX6_score_41 ?_
  refine lv_iconst (v := 1) hx hb dX6_score_44 (by decide) ?_
  refine lv_isub hx hb dX6_score_45 ?_
  refine tpi (v := 1) (by decide) ?_
  refine vp_callSi (W.runS (As := [.ref h2, .int 0, .int 1]) (rest := [.int 0, .int p0, .int 0, .ref h1, .ref h0, .int 0]) ⟨hx, hb, hml, hown, hts⟩ (k_X6_ahead_1 l D κ ε h2) (va_cwS 3 hts gX6_score_X6_ahead rfl rfl rfl (by decide +kernel) ⟨(Nat.le_of_ble_eq_true rfl), (Nat.le_of_ble_eq_true rfl)⟩) (pre0_S (wc := []) hP hK [] rfl) rfl rfl hl.1 rfl (lv_room (Nat.le_of_ble_eq_true rfl)) dX6_score_46 ⟨(Nat.le_of_ble_eq_true rfl), (Nat.le_of_ble_eq_true rfl)⟩) (fun r hw => ?_)
  rw [hw]
  refine lv_aload_n hx hb dX6_score_49 rfl (lv_at hl 2 rfl) ?_
  refine va_get (D := D) (ci := 8) (v := .int 2) (C := RX6) (T := TX6) (N := 11) hx hb hts wi_X6_score_RX6 hown hK hP 0 rfl rfl 2 (by decide) (hts _ wd341_X6_score) (fun _ h9 => h9) rfl dX6_score_50 ?_
  refine lv_iconst (v := 1) hx hb dX6_score_53 (by decide) ?_
  refine lv_isub hx hb dX6_score_54 ?_
  refine tpi (v := 1) (by decide) ?_
  refine vp_callSl (W.runV (As := [.ref h1, .int 0, .int p0, .int 0, .int 0, .int 1]) (rest := [.int 0]) ⟨hx, hb, hml, hown, hts⟩ (k_X6_chance_1 l D κ ε h0 h1 h2 h3 h4 h5 h6 h7 (p0) (p1) (2) (p2) (p3) (p4) (p5) hf0 hf1) (cwV 6 hts gX6_score_X6_chance rfl rfl rfl (by decide +kernel) ⟨(Nat.le_of_ble_eq_true rfl), (Nat.le_of_ble_eq_true rfl)⟩) (pre0_V (q0 := 0) (ci := 8) (wc := [(h0, .inr (8, [.int p1, .int 0, .int 2, .ref h2, .ref h1, .int p2, .int p3, .int p4, .int p5, .int 0, .ref h3])), (h1, .inl (κ 4, 4, .inr (.inr (.inr (.inr (sel [h4, h5, h6, h7])))))), (h5, .inl (κ 0, 196, .inl (fun _ => 0)))]) hP hK [0, 1, 3] rfl rfl rfl) rfl rfl hl.1 rfl (lv_room (Nat.le_of_ble_eq_true rfl)) dX6_score_55 ⟨(Nat.le_of_ble_eq_true rfl), (Nat.le_of_ble_eq_true rfl)⟩) (fun r hw => ?_)
  rw [hw]
  refine vp_callSi (W.runS (As := [.long 1000000]) (rest := [.int 0]) ⟨hx, hb, hml, hown, hts⟩ (k_X6_cost_1 l D κ ε) (va_cwS 1 hts gX6_score_X6_cost rfl rfl rfl (by decide +kernel) ⟨(Nat.le_of_ble_eq_true rfl), (Nat.le_of_ble_eq_true rfl)⟩) (pre0_S (wc := []) hP hK [] rfl) rfl rfl hl.1 rfl (lv_room (Nat.le_of_ble_eq_true rfl)) dX6_score_58 ⟨(Nat.le_of_ble_eq_true rfl), (Nat.le_of_ble_eq_true rfl)⟩) (fun r hw => ?_)
  rw [hw]
  refine lv_iadd hx hb dX6_score_61 ?_
  refine tpi (v := 0) (by decide) ?_
  refine lv_istore (lv' := [(4, .int 0), (5, .int 0), (0, .ref h0), (1, .ref h1), (2, .int 0), (3, .int p0)]) hx hb dX6_score_62 hl (by decide) rfl (fun ls hl => ?_)
  refine lv_iinc (v := 1) (lv' := [(5, .int 1), (4, .int 0), (0, .ref h0), (1, .ref h1), (2, .int 0), (3, .int p0)]) hx hb dX6_score_64 hl (k := 1) rfl (by decide) (by decide) rfl (fun ls hl => ?_)
  refine lv_goto (tgt := 6) hx hb dX6_score_67 (by decide) ?_
  refine lv_iload hx hb dX6_score_6 (lv_at hl 0 rfl) ?_
  refine lv_aload_n hx hb dX6_score_8 rfl (lv_at hl 2 rfl) ?_
  refine va_get (D := D) (ci := 8) (v := .ref h2) (C := RX6) (T := TX6) (N := 11) hx hb hts wi_X6_score_RX6 hown hK hP 0 rfl rfl 3 (by decide) (hts _ wd340_X6_score) (fun _ h9 => h9) rfl dX6_score_9 ?_
  refine vp_callSi (W.runV (As := []) (rest := [.int 1]) ⟨hx, hb, hml, hown, hts⟩ (k_Jx4a65c_size_8abf5_0 l D κ ε h2 (p6)) (cwV 0 hts gX6_score_Jx4a65c_size_8abf5 rfl rfl rfl (by decide +kernel) ⟨(Nat.le_of_ble_eq_true rfl), (Nat.le_of_ble_eq_true rfl)⟩) (pre0_V (q0 := 2) (ci := 1) (wc := [(h2, .inr (1, [.int p6, .ref (ε 1), .int 0]))]) hP hK [2] rfl rfl rfl) rfl rfl hl.1 rfl (lv_room (Nat.le_of_ble_eq_true rfl)) dX6_score_12 ⟨(Nat.le_of_ble_eq_true rfl), (Nat.le_of_ble_eq_true rfl)⟩) (fun r hw => ?_)
  rw [hw]
  refine lv_icmp_gt (tgt := 70) hx hb dX6_score_15 (by decide) (fun _ => ?_) (fun h => absurd (by decide) h)
  refine lv_iload hx hb dX6_score_70 (lv_at hl 1 rfl) ?_
  exact W.iret (v := 0) hx hb hr (fun t ht hW => ⟨0, rfl, rfl, ht⟩) (fun q hq => absurd hq List.not_mem_nil) dX6_score_72

theorem wi_X6_scoreBy_RX6 : ∀ w ∈ u_ws RX6 TX6 11, w ∈ wsX6_scoreBy := by decide +kernel

theorem wd426_X6_scoreBy : (.fieldLink RX6 24 "CanticleModel" "counts" "[[I" : Cond) ∈ wsX6_scoreBy := by decide +kernel

set_option maxHeartbeats 4000000 in
set_option maxRecDepth 100000 in
theorem k_X6_scoreBy_2 (l : Launch) (D : va_G) (κ ε : Nat → Nat) (h0 h1 h2 h3 h4 h5 h6 h7 : Nat) (sz : Nat) (p0 : Int32) (hf0 : ¬ p0 < 1) (hf1 : ¬ 1000 < p0) : Met l yX6_scoreBy wsX6_scoreBy ({ frames := 3, cells := 0, slots := 0, locals := 82 }) (va_Pc [.ref h0, .int 0, .int p0] (Pre2 D κ ε [(h0, .inr (8, [.int 0, .int 0, .int 2, .ref h1, .ref h2, .int 0, .int 500, .int 0, .int 0, .int 0, .ref h3])), (h1, .inr (1, [.int 0, .ref (ε 1), .int 0])), (h2, .inl (κ 4, 4, .inr (.inr (.inr (.inr (sel [h4, h5, h6, h7])))))), (h5, .inl (κ 0, 196, .inl (fun _ => 0)))] sz)) (va_Qi (fun r (u : List Value) => (u[0]? = some (.int 0)) ∧ (r = 0)) (fun u t => va_P D vwCl [(h0, .inr (8, u))] t.heap ∧ va_D (va_A [(h0, .inr (8, [.int 0, .int 0, .int 2, .ref h1, .ref h2, .int 0, .int 500, .int 0, .int 0, .int 0, .ref h3])), (h1, .inr (1, [.int 0, .ref (ε 1), .int 0])), (h2, .inl (κ 4, 4, .inr (.inr (.inr (.inr (sel [h4, h5, h6, h7])))))), (h5, .inl (κ 0, 196, .inl (fun _ => 0)))] sz) [(h0, .inr (8, u))]) (va_A [(h0, .inr (8, [.int 0, .int 0, .int 2, .ref h1, .ref h2, .int 0, .int 500, .int 0, .int 0, .int 0, .ref h3])), (h1, .inr (1, [.int 0, .ref (ε 1), .int 0])), (h2, .inl (κ 4, 4, .inr (.inr (.inr (.inr (sel [h4, h5, h6, h7])))))), (h5, .inl (κ 0, 196, .inl (fun _ => 0)))] sz)) 0 0 (va_A [(h0, .inr (8, [.int 0, .int 0, .int 2, .ref h1, .ref h2, .int 0, .int 500, .int 0, .int 0, .int 0, .ref h3])), (h1, .inr (1, [.int 0, .ref (ε 1), .int 0])), (h2, .inl (κ 4, 4, .inr (.inr (.inr (.inr (sel [h4, h5, h6, h7])))))), (h5, .inl (κ 0, 196, .inl (fun _ => 0)))] sz) := by
  refine Met.ofW (cc := cX6_scoreBy) (maxL := 3) (ret := (some .int)) (by decide) rfl ?_
  intro p e s m args below meth c s₁ B hml hv
  obtain ⟨rfl, hsz, hP, hK, hD0, hE9⟩ := hv
  have hx := B.exec
  have hb := B.bytes
  have hr := B.returns
  have hts := atoms_spec (ws := wsX6_scoreBy) B.pre
  have hown : s.vm.findClass RX6 = some m.cls := findClass_of_methodNamed B.named
  have hlocks := B.notSynchronized
  subst hsz
  have hD := hD0.self (sz := s.heap.size)
  generalize hAe : va_A [(h0, .inr (8, [.int 0, .int 0, .int 2, .ref h1, .ref h2, .int 0, .int 500, .int 0, .int 0, .int 0, .ref h3])), (h1, .inr (1, [.int 0, .ref (ε 1), .int 0])), (h2, .inl (κ 4, 4, .inr (.inr (.inr (.inr (sel [h4, h5, h6, h7])))))), (h5, .inl (κ 0, 196, .inl (fun _ => 0)))] s.heap.size = A at hD hE9 ⊢
  have hE := hE9.1
  have hDc := hE9.2
  have hA : ∀ q : Nat, s.heap.size ≤ q → A q := fun q h => by rw [← hAe]; exact Or.inr h
  have hS : va_S A s.heap s.heap [] := va_S.rf
  have hP : va_P D vwCl [(h0, .inr (8, [.int 0, .int 0, .int 2, .ref h1, .ref h2, .int 0, .int 500, .int 0, .int 0, .int 0, .ref h3])), (h1, .inr (1, [.int 0, .ref (ε 1), .int 0])), (h2, .inl (κ 4, 4, .inr (.inr (.inr (.inr (sel [h4, h5, h6, h7])))))), (h5, .inl (κ 0, 196, .inl (fun _ => 0)))] s.heap := hP
  have hl := lv_entry [.ref h0, .int 0, .int p0] (n := 3) (Nat.le_of_ble_eq_true rfl)
  rw [lg_entry_eq]
  generalize (lg_sl [.ref h0, .int 0, .int p0] ++ List.replicate (3 - (lg_sl [.ref h0, .int 0, .int p0]).length) Slot.unset).toArray = ls at hl ⊢
  have hl : lv_has ls 3 [(0, .ref h0), (1, .int 0), (2, .int p0)] := hl
  refine lv_aload_n hx hb dX6_scoreBy_0 rfl (lv_at hl 0 rfl) ?_
  refine lv_iload_n hx hb dX6_scoreBy_1 rfl (lv_at hl 1 rfl) ?_
  refine lv_iconst (v := 0) hx hb dX6_scoreBy_2 (by decide) ?_
  refine lv_iconst (v := 4) hx hb dX6_scoreBy_3 (by decide) ?_
  refine vp_callSi (W.runS (As := [.int 0, .int 0, .int 4]) (rest := [.ref h0]) ⟨hx, hb, hml, hown, hts⟩ (k_X6_isIn_50 l D κ ε) (va_cwS 3 hts gX6_scoreBy_X6_isIn rfl rfl rfl (by decide +kernel) ⟨(Nat.le_of_ble_eq_true rfl), (Nat.le_of_ble_eq_true rfl)⟩) (pre0_S (wc := []) hP hK [] rfl) rfl rfl hl.1 rfl (lv_room (Nat.le_of_ble_eq_true rfl)) dX6_scoreBy_4 ⟨(Nat.le_of_ble_eq_true rfl), (Nat.le_of_ble_eq_true rfl)⟩) (fun r hw => ?_)
  rw [hw]
  refine lv_if_eq (tgt := 21) hx hb dX6_scoreBy_7 (by decide) (fun h => absurd h (by decide)) (fun _ => ?_)
  refine lv_iload_n hx hb dX6_scoreBy_10 rfl (lv_at hl 2 rfl) ?_
  refine lv_iconst (v := 1) hx hb dX6_scoreBy_11 (by decide) ?_
  refine lv_sipush (v := 1000) hx hb dX6_scoreBy_12 (by decide) ?_
  refine vp_callSi (W.runS (As := [.int p0, .int 1, .int 1000]) (rest := [.ref h0]) ⟨hx, hb, hml, hown, hts⟩ (k_X6_isIn_29 l D κ ε (p0) hf0 hf1) (va_cwS 3 hts gX6_scoreBy_X6_isIn rfl rfl rfl (by decide +kernel) ⟨(Nat.le_of_ble_eq_true rfl), (Nat.le_of_ble_eq_true rfl)⟩) (pre0_S (wc := []) hP hK [] rfl) rfl rfl hl.1 rfl (lv_room (Nat.le_of_ble_eq_true rfl)) dX6_scoreBy_15 ⟨(Nat.le_of_ble_eq_true rfl), (Nat.le_of_ble_eq_true rfl)⟩) (fun r hw => ?_)
  rw [hw]
  refine lv_if_ne (tgt := 25) hx hb dX6_scoreBy_18 (by decide) (fun _ => ?_) (fun h => absurd h (by decide))
  refine lv_iconst (v := 0) hx hb dX6_scoreBy_25 (by decide) ?_
  refine lv_iconst (v := 1) hx hb dX6_scoreBy_26 (by decide) ?_
  have hF := va_free (wc := [(h0, .inr (8, [.int 0, .int 0, .int 2, .ref h1, .ref h2, .int 0, .int 500, .int 0, .int 0, .int 0, .ref h3]))]) hD hS hA [0] rfl
  refine va_calli (va_runV (As := [.int 0, .int 1]) (rest := []) ⟨hx, hb, hml, hown, hts⟩ (k_X6_start_0 l D κ ε h0 h1 h2 h3 s.heap.size (0) (2) (0) (500) (0) (0)) (cwV 2 hts gX6_scoreBy_X6_start rfl rfl rfl (by decide +kernel) ⟨(Nat.le_of_ble_eq_true rfl), (Nat.le_of_ble_eq_true rfl)⟩) (pre2_V (q0 := 0) (ci := 8) (wc := [(h0, .inr (8, [.int 0, .int 0, .int 2, .ref h1, .ref h2, .int 0, .int 500, .int 0, .int 0, .int 0, .ref h3]))]) hP hD hK hE9 hS hA [0] (by decide) rfl rfl rfl) rfl rfl hl.1 rfl (lv_room (Nat.le_of_ble_eq_true rfl)) dX6_scoreBy_27 ⟨(Nat.le_of_ble_eq_true rfl), (Nat.le_of_ble_eq_true rfl)⟩) hS (fun q _ h => hF q h) hF (fun r u1 t H locs ht hvm hw hB hz1 hk1 hS => ?_)
  try dsimp only at hw hB
  obtain ⟨hP1, hD1⟩ := hB
  rw [ht] at hP1
  obtain ⟨hP, hD⟩ := post_j (ws' := [(h0, .inr (8, [.int 0, .int 0, .int 2, .ref h1, .ref h2, .int 0, .int 500, .int 0, .int 0, .int 0, .ref h3])), (h1, .inr (1, [.int 0, .ref (ε 1), .int 0])), (h2, .inl (κ 4, 4, .inr (.inr (.inr (.inr (sel [h4, h5, h6, h7])))))), (h5, .inl (κ 0, 196, .inl (fun _ => 0)))]) (wr := [(h1, .inr (1, [.int 0, .ref (ε 1), .int 0])), (h2, .inl (κ 4, 4, .inr (.inr (.inr (.inr (sel [h4, h5, h6, h7])))))), (h5, .inl (κ 0, 196, .inl (fun _ => 0)))]) (w1 := [(h0, .inr (8, [.int 0, .int 0, .int 2, .ref h1, .ref h2, .int 0, .int 500, .int 0, .int 0, .int 0, .ref h3]))]) hP hD hF [0] rfl [1, 2, 3] rfl (by decide) (by decide) hk1 hP1 hD1 [3, 0, 1, 2] (by decide) rfl
  have hP : va_P D vwCl [(h0, .inr (8, [.int 0, .int 0, .int 2, .ref h1, .ref h2, .int 0, .int 500, .int 0, .int 0, .int 0, .ref h3])), (h1, .inr (1, [.int 0, .ref (ε 1), .int 0])), (h2, .inl (κ 4, 4, .inr (.inr (.inr (.inr (sel [h4, h5, h6, h7])))))), (h5, .inl (κ 0, 196, .inl (fun _ => 0)))] H := hP
  have hD : va_D A [(h0, .inr (8, [.int 0, .int 0, .int 2, .ref h1, .ref h2, .int 0, .int 500, .int 0, .int 0, .int 0, .ref h3])), (h1, .inr (1, [.int 0, .ref (ε 1), .int 0])), (h2, .inl (κ 4, 4, .inr (.inr (.inr (.inr (sel [h4, h5, h6, h7])))))), (h5, .inl (κ 0, 196, .inl (fun _ => 0)))] := hD
  rw [hw]
  refine lv_if_eq (tgt := 37) hx hb dX6_scoreBy_30 (by decide) (fun _ => ?_) (fun h => absurd (by decide) h)
  refine lv_aload_n hx hb dX6_scoreBy_37 rfl (lv_at hl 0 rfl) ?_
  refine lv_aload_n hx hb dX6_scoreBy_38 rfl (lv_at hl 0 rfl) ?_
  refine va_get (D := D) (ci := 8) (v := .ref h2) (C := RX6) (T := TX6) (N := 11) hx hb hts wi_X6_scoreBy_RX6 hown hK hP 0 rfl rfl 4 (by decide) (hts _ wd426_X6_scoreBy) (fun _ h9 => h9) rfl dX6_scoreBy_39 ?_
  refine lv_iload_n hx hb dX6_scoreBy_42 rfl (lv_at hl 1 rfl) ?_
  refine lv_iload_n hx hb dX6_scoreBy_43 rfl (lv_at hl 2 rfl) ?_
  refine vp_callSi (W.runV (As := [.ref h2, .int 0, .int p0]) (rest := []) ⟨hx, hb, hml, hown, hts⟩ (k_X6_score_1 l D κ ε h0 h2 h1 h3 h4 h5 h6 h7 (p0) (0) (0) (500) (0) (0) (0) hf0 hf1) (cwV 3 hts gX6_scoreBy_X6_score rfl rfl rfl (by decide +kernel) ⟨(Nat.le_of_ble_eq_true rfl), (Nat.le_of_ble_eq_true rfl)⟩) (pre0_V (q0 := 0) (ci := 8) (wc := [(h0, .inr (8, [.int 0, .int 0, .int 2, .ref h1, .ref h2, .int 0, .int 500, .int 0, .int 0, .int 0, .ref h3])), (h2, .inl (κ 4, 4, .inr (.inr (.inr (.inr (sel [h4, h5, h6, h7])))))), (h1, .inr (1, [.int 0, .ref (ε 1), .int 0])), (h5, .inl (κ 0, 196, .inl (fun _ => 0)))]) hP hK [0, 2, 1, 3] rfl rfl rfl) rfl rfl hl.1 rfl (lv_room (Nat.le_of_ble_eq_true rfl)) dX6_scoreBy_44 ⟨(Nat.le_of_ble_eq_true rfl), (Nat.le_of_ble_eq_true rfl)⟩) (fun r hw => ?_)
  rw [hw]
  have hP9 := hP.sub (ws' := [(h0, .inr (8, [.int 0, .int 0, .int 2, .ref h1, .ref h2, .int 0, .int 500, .int 0, .int 0, .int 0, .ref h3]))]) [0] rfl
  have hD9 := hD.sub (ws' := [(h0, .inr (8, [.int 0, .int 0, .int 2, .ref h1, .ref h2, .int 0, .int 500, .int 0, .int 0, .int 0, .ref h3]))]) [0] (by decide) rfl
  exact W.iret (v := 0) hx hb hr (fun t ht hW => ⟨⟨0, [.int 0, .int 0, .int 2, .ref h1, .ref h2, .int 0, .int 500, .int 0, .int 0, .int 0, .ref h3], rfl, ⟨rfl, rfl⟩, by rw [ht]; exact hP9, hD9⟩, hS.F ht⟩) hS.2.2 dX6_scoreBy_47

set_option maxHeartbeats 4000000 in
set_option maxRecDepth 100000 in
theorem k_X5_isWay_2 (l : Launch) (D : va_G) (κ ε : Nat → Nat) (p0 : Int32) : Met l yX5_isWay wsX5_isWay ({ frames := 0, cells := 0, slots := 0, locals := 0 }) (va_Pc [.int 1, .int p0] (Pre0 D κ [])) (vp_Si (fun r => ((p0 < 1) ∧ (r = 0)) ∨ ((¬ p0 < 1) ∧ (1000 < p0) ∧ (r = 0)) ∨ ((¬ p0 < 1) ∧ (¬ 1000 < p0) ∧ (r = 1)))) 0 0 (fun _ => False) := by
  refine Met.ofW (cc := cX5_isWay) (maxL := 2) (ret := (some .boolean)) (by decide) rfl ?_
  intro p e s m args below meth c s₁ B hml hv
  obtain ⟨rfl, hP, hK⟩ := hv
  have hx := B.exec
  have hb := B.bytes
  have hr := B.returns
  have hts := atoms_spec (ws := wsX5_isWay) B.pre
  have hown : s.vm.findClass RX5 = some m.cls := findClass_of_methodNamed B.named
  have hlocks := B.notSynchronized
  have hP : va_P D vwCl [] s.heap := hP
  have hl := lv_entry [.int 1, .int p0] (n := 2) (Nat.le_of_ble_eq_true rfl)
  rw [lg_entry_eq]
  generalize (lg_sl [.int 1, .int p0] ++ List.replicate (2 - (lg_sl [.int 1, .int p0]).length) Slot.unset).toArray = ls at hl ⊢
  have hl : lv_has ls 2 [(0, .int 1), (1, .int p0)] := hl
  refine lv_iload_n hx hb dX5_isWay_0 rfl (lv_at hl 0 rfl) ?_
  refine lv_if_lt (tgt := 25) hx hb dX5_isWay_1 (by decide) (fun h => absurd h (by decide)) (fun _ => ?_)
  refine lv_iload_n hx hb dX5_isWay_4 rfl (lv_at hl 0 rfl) ?_
  refine lv_iconst (v := 4) hx hb dX5_isWay_5 (by decide) ?_
  refine lv_icmp_gt (tgt := 25) hx hb dX5_isWay_6 (by decide) (fun h => absurd h (by decide)) (fun _ => ?_)
  refine lv_iload_n hx hb dX5_isWay_9 rfl (lv_at hl 1 rfl) ?_
  refine lv_iconst (v := 1) hx hb dX5_isWay_10 (by decide) ?_
  refine lv_icmp_lt (tgt := 25) hx hb dX5_isWay_11 (by decide) (fun c1 => ?_) (fun c1 => ?_)
  · skip
    refine lv_iconst (v := 0) hx hb dX5_isWay_25 (by decide) ?_
    exact W.zret (v := 0) hx hb hr rfl (fun t ht hW => ⟨0, rfl, (Or.inl ⟨c1, rfl⟩), ht⟩) (fun q hq => absurd hq List.not_mem_nil) dX5_isWay_26
  · skip
    refine lv_iload_n hx hb dX5_isWay_14 rfl (lv_at hl 1 rfl) ?_
    refine lv_sipush (v := 1000) hx hb dX5_isWay_15 (by decide) ?_
    refine lv_icmp_gt (tgt := 25) hx hb dX5_isWay_18 (by decide) (fun c2 => ?_) (fun c2 => ?_)
    · skip
      refine lv_iconst (v := 0) hx hb dX5_isWay_25 (by decide) ?_
      exact W.zret (v := 0) hx hb hr rfl (fun t ht hW => ⟨0, rfl, (Or.inr (Or.inl ⟨c1, c2, rfl⟩)), ht⟩) (fun q hq => absurd hq List.not_mem_nil) dX5_isWay_26
    · skip
      refine lv_iconst (v := 1) hx hb dX5_isWay_21 (by decide) ?_
      refine lv_goto (tgt := 26) hx hb dX5_isWay_22 (by decide) ?_
      exact W.zret (v := 1) hx hb hr rfl (fun t ht hW => ⟨1, rfl, (Or.inr (Or.inr ⟨c1, c2, rfl⟩)), ht⟩) (fun q hq => absurd hq List.not_mem_nil) dX5_isWay_26

theorem wd427_X1_refine : (.fieldLink RX1 25 "Canticle$Reckoner" "sum" "J" : Cond) ∈ wsX1_refine := by decide +kernel

set_option maxHeartbeats 4000000 in
set_option maxRecDepth 100000 in
theorem k_X1_refine_2 (l : Launch) (D : va_G) (κ ε : Nat → Nat) (h0 h1 h2 h3 h4 h5 h6 h7 h8 h9 h10 h11 : Nat) (sz : Nat) (p0 : Int32) (p1 : Int32) (p2 : Int32) (p3 : Int32) : Met l yX1_refine wsX1_refine ({ frames := 2, cells := 0, slots := 0, locals := 48 }) (va_Pc [.ref h0, .int 1, .int 0] (Pre2 D κ ε [(h0, .inr (3, [.ref h1, .int 1, .int p0, .ref h2, .ref h3, .long 0, .int p1])), (h1, .inr (2, [.int p2, .int p3, .ref h4, .ref h5])), (h3, .inl (κ 0, 13, .inl (fun _ => 0))), (h4, .inl (κ 3, 4, .inr (.inr (.inr (.inr (sel [h6, h7, h8, h9])))))), (h6, .inr (6, [.ref h10, .ref h11, .int 0]))] sz)) (va_Qv (fun u : Unit => True) (fun u t => va_P D vwCl [(h0, .inr (3, [.ref h1, .int 1, .int p0, .ref h2, .ref h3, .long 0, .int 0])), (h1, .inr (2, [.int p2, .int p3, .ref h4, .ref h5])), (h3, .inl (κ 0, 13, .inl (fun _ => 0))), (h4, .inl (κ 3, 4, .inr (.inr (.inr (.inr (sel [h6, h7, h8, h9])))))), (h6, .inr (6, [.ref h10, .ref h11, .int 0]))] t.heap ∧ va_D (va_A [(h0, .inr (3, [.ref h1, .int 1, .int p0, .ref h2, .ref h3, .long 0, .int p1])), (h1, .inr (2, [.int p2, .int p3, .ref h4, .ref h5])), (h3, .inl (κ 0, 13, .inl (fun _ => 0))), (h4, .inl (κ 3, 4, .inr (.inr (.inr (.inr (sel [h6, h7, h8, h9])))))), (h6, .inr (6, [.ref h10, .ref h11, .int 0]))] sz) [(h0, .inr (3, [.ref h1, .int 1, .int p0, .ref h2, .ref h3, .long 0, .int 0])), (h1, .inr (2, [.int p2, .int p3, .ref h4, .ref h5])), (h3, .inl (κ 0, 13, .inl (fun _ => 0))), (h4, .inl (κ 3, 4, .inr (.inr (.inr (.inr (sel [h6, h7, h8, h9])))))), (h6, .inr (6, [.ref h10, .ref h11, .int 0]))]) (va_A [(h0, .inr (3, [.ref h1, .int 1, .int p0, .ref h2, .ref h3, .long 0, .int p1])), (h1, .inr (2, [.int p2, .int p3, .ref h4, .ref h5])), (h3, .inl (κ 0, 13, .inl (fun _ => 0))), (h4, .inl (κ 3, 4, .inr (.inr (.inr (.inr (sel [h6, h7, h8, h9])))))), (h6, .inr (6, [.ref h10, .ref h11, .int 0]))] sz)) 0 0 (va_A [(h0, .inr (3, [.ref h1, .int 1, .int p0, .ref h2, .ref h3, .long 0, .int p1])), (h1, .inr (2, [.int p2, .int p3, .ref h4, .ref h5])), (h3, .inl (κ 0, 13, .inl (fun _ => 0))), (h4, .inl (κ 3, 4, .inr (.inr (.inr (.inr (sel [h6, h7, h8, h9])))))), (h6, .inr (6, [.ref h10, .ref h11, .int 0]))] sz) := by
  refine Met.ofW (cc := cX1_refine) (maxL := 5) (ret := none) (by decide) rfl ?_
  intro p e s m args below meth c s₁ B hml hv
  obtain ⟨rfl, hsz, hP, hK, hD0, hE9⟩ := hv
  have hx := B.exec
  have hb := B.bytes
  have hr := B.returns
  have hts := atoms_spec (ws := wsX1_refine) B.pre
  have hown : s.vm.findClass RX1 = some m.cls := findClass_of_methodNamed B.named
  have hlocks := B.notSynchronized
  subst hsz
  have hD := hD0.self (sz := s.heap.size)
  generalize hAe : va_A [(h0, .inr (3, [.ref h1, .int 1, .int p0, .ref h2, .ref h3, .long 0, .int p1])), (h1, .inr (2, [.int p2, .int p3, .ref h4, .ref h5])), (h3, .inl (κ 0, 13, .inl (fun _ => 0))), (h4, .inl (κ 3, 4, .inr (.inr (.inr (.inr (sel [h6, h7, h8, h9])))))), (h6, .inr (6, [.ref h10, .ref h11, .int 0]))] s.heap.size = A at hD hE9 ⊢
  have hE := hE9.1
  have hDc := hE9.2
  have hA : ∀ q : Nat, s.heap.size ≤ q → A q := fun q h => by rw [← hAe]; exact Or.inr h
  have hS : va_S A s.heap s.heap [] := va_S.rf
  have hP : va_P D vwCl [(h0, .inr (3, [.ref h1, .int 1, .int p0, .ref h2, .ref h3, .long 0, .int p1])), (h1, .inr (2, [.int p2, .int p3, .ref h4, .ref h5])), (h3, .inl (κ 0, 13, .inl (fun _ => 0))), (h4, .inl (κ 3, 4, .inr (.inr (.inr (.inr (sel [h6, h7, h8, h9])))))), (h6, .inr (6, [.ref h10, .ref h11, .int 0]))] s.heap := hP
  have hl := lv_entry [.ref h0, .int 1, .int 0] (n := 5) (Nat.le_of_ble_eq_true rfl)
  rw [lg_entry_eq]
  generalize (lg_sl [.ref h0, .int 1, .int 0] ++ List.replicate (5 - (lg_sl [.ref h0, .int 1, .int 0]).length) Slot.unset).toArray = ls at hl ⊢
  have hl : lv_has ls 5 [(0, .ref h0), (1, .int 1), (2, .int 0)] := hl
  refine lv_aload_n hx hb dX1_refine_0 rfl (lv_at hl 0 rfl) ?_
  refine va_get (D := D) (ci := 3) (v := .int 1) (C := RX1) (T := TX1) (N := 7) hx hb hts wi_X1_refine_RX1 hown hK hP 0 rfl rfl 1 (by decide) (hts _ wd287_X1_refine) (fun _ h9 => h9) rfl dX1_refine_1 ?_
  refine lv_iconst (v := 4) hx hb dX1_refine_4 (by decide) ?_
  refine lv_icmp_ne (tgt := 23) hx hb dX1_refine_5 (by decide) (fun _ => ?_) (fun h => absurd h (by decide))
  refine lv_iconst (v := 0) hx hb dX1_refine_23 (by decide) ?_
  refine lv_istore_n (lv' := [(3, .int 0), (0, .ref h0), (1, .int 1), (2, .int 0)]) hx hb dX1_refine_24 rfl hl (by decide) rfl (fun ls hl => ?_)
  refine lv_aload_n hx hb dX1_refine_25 rfl (lv_at hl 1 rfl) ?_
  refine lv_iload_n hx hb dX1_refine_26 rfl (lv_at hl 0 rfl) ?_
  refine lv_if_eq (tgt := 41) hx hb dX1_refine_27 (by decide) (fun _ => ?_) (fun h => absurd (by decide) h)
  refine lv_aload_n hx hb dX1_refine_41 rfl (lv_at hl 1 rfl) ?_
  refine va_get (D := D) (ci := 3) (v := .ref h1) (C := RX1) (T := TX1) (N := 7) hx hb hts wi_X1_refine_RX1 hown hK hP 0 rfl rfl 0 (by decide) (hts _ wd288_X1_refine) (fun _ h9 => h9) rfl dX1_refine_42 ?_
  refine lv_iload_n hx hb dX1_refine_45 rfl (lv_at hl 2 rfl) ?_
  refine va_csr (W.runV (As := [.int 1]) (rest := [.ref h0]) ⟨hx, hb, hml, hown, hts⟩ (k_X0_countsOf_0 l D κ ε h1 h4 h5 h6 h7 h8 h9 (p2) (p3)) (cwV 1 hts gX1_refine_X0_countsOf rfl rfl rfl (by decide +kernel) ⟨(Nat.le_of_ble_eq_true rfl), (Nat.le_of_ble_eq_true rfl)⟩) (pre0_V (q0 := 1) (ci := 2) (wc := [(h1, .inr (2, [.int p2, .int p3, .ref h4, .ref h5])), (h4, .inl (κ 3, 4, .inr (.inr (.inr (.inr (sel [h6, h7, h8, h9]))))))]) hP hK [1, 3] rfl rfl rfl) rfl rfl hl.1 rfl (lv_room (Nat.le_of_ble_eq_true rfl)) dX1_refine_46 ⟨(Nat.le_of_ble_eq_true rfl), (Nat.le_of_ble_eq_true rfl)⟩) (fun r hw => ?_)
  rw [hw]
  refine lv_iload_n hx hb dX1_refine_49 rfl (lv_at hl 3 rfl) ?_
  have hF := va_free (wc := [(h0, .inr (3, [.ref h1, .int 1, .int p0, .ref h2, .ref h3, .long 0, .int p1])), (h6, .inr (6, [.ref h10, .ref h11, .int 0])), (h3, .inl (κ 0, 13, .inl (fun _ => 0)))]) hD hS hA [0, 4, 2] rfl
  refine va_callv (va_runV (As := [.ref h6, .int 0]) (rest := []) ⟨hx, hb, hml, hown, hts⟩ (k_X1_gather_0 l D κ ε h0 h6 h1 h2 h3 h10 h11 s.heap.size (1) (p0) (0) (p1)) (cwV 2 hts gX1_refine_X1_gather rfl rfl rfl (by decide +kernel) ⟨(Nat.le_of_ble_eq_true rfl), (Nat.le_of_ble_eq_true rfl)⟩) (pre2_V (q0 := 0) (ci := 3) (wc := [(h0, .inr (3, [.ref h1, .int 1, .int p0, .ref h2, .ref h3, .long 0, .int p1])), (h6, .inr (6, [.ref h10, .ref h11, .int 0])), (h3, .inl (κ 0, 13, .inl (fun _ => 0)))]) hP hD hK hE9 hS hA [0, 4, 2] (by decide) rfl rfl rfl) rfl rfl hl.1 rfl (lv_room (Nat.le_of_ble_eq_true rfl)) dX1_refine_50 ⟨(Nat.le_of_ble_eq_true rfl), (Nat.le_of_ble_eq_true rfl)⟩) hS (fun q _ h => hF q h) hF (fun u1 t H locs ht hvm hw hB hz1 hk1 hS => ?_)
  try dsimp only at hw hB
  obtain ⟨hP1, hD1⟩ := hB
  rw [ht] at hP1
  obtain ⟨hP, hD⟩ := post_j (ws' := [(h0, .inr (3, [.ref h1, .int 1, .int p0, .ref h2, .ref h3, .long 0, .int 0])), (h1, .inr (2, [.int p2, .int p3, .ref h4, .ref h5])), (h3, .inl (κ 0, 13, .inl (fun _ => 0))), (h4, .inl (κ 3, 4, .inr (.inr (.inr (.inr (sel [h6, h7, h8, h9])))))), (h6, .inr (6, [.ref h10, .ref h11, .int 0]))]) (wr := [(h1, .inr (2, [.int p2, .int p3, .ref h4, .ref h5])), (h4, .inl (κ 3, 4, .inr (.inr (.inr (.inr (sel [h6, h7, h8, h9]))))))]) (w1 := [(h0, .inr (3, [.ref h1, .int 1, .int p0, .ref h2, .ref h3, .long 0, .int 0])), (h6, .inr (6, [.ref h10, .ref h11, .int 0])), (h3, .inl (κ 0, 13, .inl (fun _ => 0)))]) hP hD hF [0, 4, 2] rfl [1, 3] rfl (by decide) (by decide) hk1 hP1 hD1 [2, 0, 4, 1, 3] (by decide) rfl
  have hP : va_P D vwCl [(h0, .inr (3, [.ref h1, .int 1, .int p0, .ref h2, .ref h3, .long 0, .int 0])), (h1, .inr (2, [.int p2, .int p3, .ref h4, .ref h5])), (h3, .inl (κ 0, 13, .inl (fun _ => 0))), (h4, .inl (κ 3, 4, .inr (.inr (.inr (.inr (sel [h6, h7, h8, h9])))))), (h6, .inr (6, [.ref h10, .ref h11, .int 0]))] H := hP
  have hD : va_D A [(h0, .inr (3, [.ref h1, .int 1, .int p0, .ref h2, .ref h3, .long 0, .int 0])), (h1, .inr (2, [.int p2, .int p3, .ref h4, .ref h5])), (h3, .inl (κ 0, 13, .inl (fun _ => 0))), (h4, .inl (κ 3, 4, .inr (.inr (.inr (.inr (sel [h6, h7, h8, h9])))))), (h6, .inr (6, [.ref h10, .ref h11, .int 0]))] := hD
  refine lv_aload_n hx hb dX1_refine_53 rfl (lv_at hl 1 rfl) ?_
  refine va_get (D := D) (ci := 3) (v := .int 1) (C := RX1) (T := TX1) (N := 7) hx hb hts wi_X1_refine_RX1 hown hK hP 0 rfl rfl 1 (by decide) (hts _ wd287_X1_refine) (fun _ h9 => h9) rfl dX1_refine_54 ?_
  refine lv_if_eq (tgt := 70) hx hb dX1_refine_57 (by decide) (fun h => absurd h (by decide)) (fun _ => ?_)
  refine lv_aload_n hx hb dX1_refine_60 rfl (lv_at hl 1 rfl) ?_
  refine va_get (D := D) (ci := 3) (v := .long 0) (C := RX1) (T := TX1) (N := 7) hx hb hts wi_X1_refine_RX1 hown hK hP 0 rfl rfl 5 (by decide) (hts _ wd427_X1_refine) (fun _ h9 => h9) rfl dX1_refine_61 ?_
  refine lv_lconst (v := 0) hx hb dX1_refine_64 (by decide) ?_
  refine W.lcmp hx hb dX1_refine_65 ?_
  refine tpi (v := 0) (by decide) ?_
  refine lv_if_gt (tgt := 70) hx hb dX1_refine_66 (by decide) (fun h => absurd h (by decide)) (fun _ => ?_)
  have hP9 := hP
  have hD9 := hD
  exact W.vret hx hb hr (fun t ht hW => ⟨⟨(), rfl, trivial, by rw [ht]; exact hP9, hD9⟩, hS.F ht⟩) hS.2.2 dX1_refine_69

set_option maxHeartbeats 4000000 in
set_option maxRecDepth 100000 in
theorem k_X1_refine_3 (l : Launch) (D : va_G) (κ ε : Nat → Nat) (h0 h1 h2 h3 h4 h5 h6 h7 h8 h9 h10 h11 : Nat) (sz : Nat) (p0 : Int32) (p1 : Int32) (p2 : Int32) (p3 : Int32) : Met l yX1_refine wsX1_refine ({ frames := 2, cells := 0, slots := 0, locals := 48 }) (va_Pc [.ref h0, .int 2, .int 0] (Pre2 D κ ε [(h0, .inr (3, [.ref h1, .int 1, .int p0, .ref h2, .ref h3, .long 0, .int p1])), (h1, .inr (2, [.int p2, .int p3, .ref h4, .ref h5])), (h3, .inl (κ 0, 13, .inl (fun _ => 0))), (h4, .inl (κ 3, 4, .inr (.inr (.inr (.inr (sel [h6, h7, h8, h9])))))), (h7, .inr (6, [.ref h10, .ref h11, .int 0]))] sz)) (va_Qv (fun u : Unit => True) (fun u t => va_P D vwCl [(h0, .inr (3, [.ref h1, .int 1, .int p0, .ref h2, .ref h3, .long 0, .int 0])), (h1, .inr (2, [.int p2, .int p3, .ref h4, .ref h5])), (h3, .inl (κ 0, 13, .inl (fun _ => 0))), (h4, .inl (κ 3, 4, .inr (.inr (.inr (.inr (sel [h6, h7, h8, h9])))))), (h7, .inr (6, [.ref h10, .ref h11, .int 0]))] t.heap ∧ va_D (va_A [(h0, .inr (3, [.ref h1, .int 1, .int p0, .ref h2, .ref h3, .long 0, .int p1])), (h1, .inr (2, [.int p2, .int p3, .ref h4, .ref h5])), (h3, .inl (κ 0, 13, .inl (fun _ => 0))), (h4, .inl (κ 3, 4, .inr (.inr (.inr (.inr (sel [h6, h7, h8, h9])))))), (h7, .inr (6, [.ref h10, .ref h11, .int 0]))] sz) [(h0, .inr (3, [.ref h1, .int 1, .int p0, .ref h2, .ref h3, .long 0, .int 0])), (h1, .inr (2, [.int p2, .int p3, .ref h4, .ref h5])), (h3, .inl (κ 0, 13, .inl (fun _ => 0))), (h4, .inl (κ 3, 4, .inr (.inr (.inr (.inr (sel [h6, h7, h8, h9])))))), (h7, .inr (6, [.ref h10, .ref h11, .int 0]))]) (va_A [(h0, .inr (3, [.ref h1, .int 1, .int p0, .ref h2, .ref h3, .long 0, .int p1])), (h1, .inr (2, [.int p2, .int p3, .ref h4, .ref h5])), (h3, .inl (κ 0, 13, .inl (fun _ => 0))), (h4, .inl (κ 3, 4, .inr (.inr (.inr (.inr (sel [h6, h7, h8, h9])))))), (h7, .inr (6, [.ref h10, .ref h11, .int 0]))] sz)) 0 0 (va_A [(h0, .inr (3, [.ref h1, .int 1, .int p0, .ref h2, .ref h3, .long 0, .int p1])), (h1, .inr (2, [.int p2, .int p3, .ref h4, .ref h5])), (h3, .inl (κ 0, 13, .inl (fun _ => 0))), (h4, .inl (κ 3, 4, .inr (.inr (.inr (.inr (sel [h6, h7, h8, h9])))))), (h7, .inr (6, [.ref h10, .ref h11, .int 0]))] sz) := by
  refine Met.ofW (cc := cX1_refine) (maxL := 5) (ret := none) (by decide) rfl ?_
  intro p e s m args below meth c s₁ B hml hv
  obtain ⟨rfl, hsz, hP, hK, hD0, hE9⟩ := hv
  have hx := B.exec
  have hb := B.bytes
  have hr := B.returns
  have hts := atoms_spec (ws := wsX1_refine) B.pre
  have hown : s.vm.findClass RX1 = some m.cls := findClass_of_methodNamed B.named
  have hlocks := B.notSynchronized
  subst hsz
  have hD := hD0.self (sz := s.heap.size)
  generalize hAe : va_A [(h0, .inr (3, [.ref h1, .int 1, .int p0, .ref h2, .ref h3, .long 0, .int p1])), (h1, .inr (2, [.int p2, .int p3, .ref h4, .ref h5])), (h3, .inl (κ 0, 13, .inl (fun _ => 0))), (h4, .inl (κ 3, 4, .inr (.inr (.inr (.inr (sel [h6, h7, h8, h9])))))), (h7, .inr (6, [.ref h10, .ref h11, .int 0]))] s.heap.size = A at hD hE9 ⊢
  have hE := hE9.1
  have hDc := hE9.2
  have hA : ∀ q : Nat, s.heap.size ≤ q → A q := fun q h => by rw [← hAe]; exact Or.inr h
  have hS : va_S A s.heap s.heap [] := va_S.rf
  have hP : va_P D vwCl [(h0, .inr (3, [.ref h1, .int 1, .int p0, .ref h2, .ref h3, .long 0, .int p1])), (h1, .inr (2, [.int p2, .int p3, .ref h4, .ref h5])), (h3, .inl (κ 0, 13, .inl (fun _ => 0))), (h4, .inl (κ 3, 4, .inr (.inr (.inr (.inr (sel [h6, h7, h8, h9])))))), (h7, .inr (6, [.ref h10, .ref h11, .int 0]))] s.heap := hP
  have hl := lv_entry [.ref h0, .int 2, .int 0] (n := 5) (Nat.le_of_ble_eq_true rfl)
  rw [lg_entry_eq]
  generalize (lg_sl [.ref h0, .int 2, .int 0] ++ List.replicate (5 - (lg_sl [.ref h0, .int 2, .int 0]).length) Slot.unset).toArray = ls at hl ⊢
  have hl : lv_has ls 5 [(0, .ref h0), (1, .int 2), (2, .int 0)] := hl
  refine lv_aload_n hx hb dX1_refine_0 rfl (lv_at hl 0 rfl) ?_
  refine va_get (D := D) (ci := 3) (v := .int 1) (C := RX1) (T := TX1) (N := 7) hx hb hts wi_X1_refine_RX1 hown hK hP 0 rfl rfl 1 (by decide) (hts _ wd287_X1_refine) (fun _ h9 => h9) rfl dX1_refine_1 ?_
  refine lv_iconst (v := 4) hx hb dX1_refine_4 (by decide) ?_
  refine lv_icmp_ne (tgt := 23) hx hb dX1_refine_5 (by decide) (fun _ => ?_) (fun h => absurd h (by decide))
  refine lv_iconst (v := 0) hx hb dX1_refine_23 (by decide) ?_
  refine lv_istore_n (lv' := [(3, .int 0), (0, .ref h0), (1, .int 2), (2, .int 0)]) hx hb dX1_refine_24 rfl hl (by decide) rfl (fun ls hl => ?_)
  refine lv_aload_n hx hb dX1_refine_25 rfl (lv_at hl 1 rfl) ?_
  refine lv_iload_n hx hb dX1_refine_26 rfl (lv_at hl 0 rfl) ?_
  refine lv_if_eq (tgt := 41) hx hb dX1_refine_27 (by decide) (fun _ => ?_) (fun h => absurd (by decide) h)
  refine lv_aload_n hx hb dX1_refine_41 rfl (lv_at hl 1 rfl) ?_
  refine va_get (D := D) (ci := 3) (v := .ref h1) (C := RX1) (T := TX1) (N := 7) hx hb hts wi_X1_refine_RX1 hown hK hP 0 rfl rfl 0 (by decide) (hts _ wd288_X1_refine) (fun _ h9 => h9) rfl dX1_refine_42 ?_
  refine lv_iload_n hx hb dX1_refine_45 rfl (lv_at hl 2 rfl) ?_
  refine va_csr (W.runV (As := [.int 2]) (rest := [.ref h0]) ⟨hx, hb, hml, hown, hts⟩ (k_X0_countsOf_1 l D κ ε h1 h4 h5 h6 h7 h8 h9 (p2) (p3)) (cwV 1 hts gX1_refine_X0_countsOf rfl rfl rfl (by decide +kernel) ⟨(Nat.le_of_ble_eq_true rfl), (Nat.le_of_ble_eq_true rfl)⟩) (pre0_V (q0 := 1) (ci := 2) (wc := [(h1, .inr (2, [.int p2, .int p3, .ref h4, .ref h5])), (h4, .inl (κ 3, 4, .inr (.inr (.inr (.inr (sel [h6, h7, h8, h9]))))))]) hP hK [1, 3] rfl rfl rfl) rfl rfl hl.1 rfl (lv_room (Nat.le_of_ble_eq_true rfl)) dX1_refine_46 ⟨(Nat.le_of_ble_eq_true rfl), (Nat.le_of_ble_eq_true rfl)⟩) (fun r hw => ?_)
  rw [hw]
  refine lv_iload_n hx hb dX1_refine_49 rfl (lv_at hl 3 rfl) ?_
  have hF := va_free (wc := [(h0, .inr (3, [.ref h1, .int 1, .int p0, .ref h2, .ref h3, .long 0, .int p1])), (h7, .inr (6, [.ref h10, .ref h11, .int 0])), (h3, .inl (κ 0, 13, .inl (fun _ => 0)))]) hD hS hA [0, 4, 2] rfl
  refine va_callv (va_runV (As := [.ref h7, .int 0]) (rest := []) ⟨hx, hb, hml, hown, hts⟩ (k_X1_gather_0 l D κ ε h0 h7 h1 h2 h3 h10 h11 s.heap.size (1) (p0) (0) (p1)) (cwV 2 hts gX1_refine_X1_gather rfl rfl rfl (by decide +kernel) ⟨(Nat.le_of_ble_eq_true rfl), (Nat.le_of_ble_eq_true rfl)⟩) (pre2_V (q0 := 0) (ci := 3) (wc := [(h0, .inr (3, [.ref h1, .int 1, .int p0, .ref h2, .ref h3, .long 0, .int p1])), (h7, .inr (6, [.ref h10, .ref h11, .int 0])), (h3, .inl (κ 0, 13, .inl (fun _ => 0)))]) hP hD hK hE9 hS hA [0, 4, 2] (by decide) rfl rfl rfl) rfl rfl hl.1 rfl (lv_room (Nat.le_of_ble_eq_true rfl)) dX1_refine_50 ⟨(Nat.le_of_ble_eq_true rfl), (Nat.le_of_ble_eq_true rfl)⟩) hS (fun q _ h => hF q h) hF (fun u1 t H locs ht hvm hw hB hz1 hk1 hS => ?_)
  try dsimp only at hw hB
  obtain ⟨hP1, hD1⟩ := hB
  rw [ht] at hP1
  obtain ⟨hP, hD⟩ := post_j (ws' := [(h0, .inr (3, [.ref h1, .int 1, .int p0, .ref h2, .ref h3, .long 0, .int 0])), (h1, .inr (2, [.int p2, .int p3, .ref h4, .ref h5])), (h3, .inl (κ 0, 13, .inl (fun _ => 0))), (h4, .inl (κ 3, 4, .inr (.inr (.inr (.inr (sel [h6, h7, h8, h9])))))), (h7, .inr (6, [.ref h10, .ref h11, .int 0]))]) (wr := [(h1, .inr (2, [.int p2, .int p3, .ref h4, .ref h5])), (h4, .inl (κ 3, 4, .inr (.inr (.inr (.inr (sel [h6, h7, h8, h9]))))))]) (w1 := [(h0, .inr (3, [.ref h1, .int 1, .int p0, .ref h2, .ref h3, .long 0, .int 0])), (h7, .inr (6, [.ref h10, .ref h11, .int 0])), (h3, .inl (κ 0, 13, .inl (fun _ => 0)))]) hP hD hF [0, 4, 2] rfl [1, 3] rfl (by decide) (by decide) hk1 hP1 hD1 [2, 0, 4, 1, 3] (by decide) rfl
  have hP : va_P D vwCl [(h0, .inr (3, [.ref h1, .int 1, .int p0, .ref h2, .ref h3, .long 0, .int 0])), (h1, .inr (2, [.int p2, .int p3, .ref h4, .ref h5])), (h3, .inl (κ 0, 13, .inl (fun _ => 0))), (h4, .inl (κ 3, 4, .inr (.inr (.inr (.inr (sel [h6, h7, h8, h9])))))), (h7, .inr (6, [.ref h10, .ref h11, .int 0]))] H := hP
  have hD : va_D A [(h0, .inr (3, [.ref h1, .int 1, .int p0, .ref h2, .ref h3, .long 0, .int 0])), (h1, .inr (2, [.int p2, .int p3, .ref h4, .ref h5])), (h3, .inl (κ 0, 13, .inl (fun _ => 0))), (h4, .inl (κ 3, 4, .inr (.inr (.inr (.inr (sel [h6, h7, h8, h9])))))), (h7, .inr (6, [.ref h10, .ref h11, .int 0]))] := hD
  refine lv_aload_n hx hb dX1_refine_53 rfl (lv_at hl 1 rfl) ?_
  refine va_get (D := D) (ci := 3) (v := .int 1) (C := RX1) (T := TX1) (N := 7) hx hb hts wi_X1_refine_RX1 hown hK hP 0 rfl rfl 1 (by decide) (hts _ wd287_X1_refine) (fun _ h9 => h9) rfl dX1_refine_54 ?_
  refine lv_if_eq (tgt := 70) hx hb dX1_refine_57 (by decide) (fun h => absurd h (by decide)) (fun _ => ?_)
  refine lv_aload_n hx hb dX1_refine_60 rfl (lv_at hl 1 rfl) ?_
  refine va_get (D := D) (ci := 3) (v := .long 0) (C := RX1) (T := TX1) (N := 7) hx hb hts wi_X1_refine_RX1 hown hK hP 0 rfl rfl 5 (by decide) (hts _ wd427_X1_refine) (fun _ h9 => h9) rfl dX1_refine_61 ?_
  refine lv_lconst (v := 0) hx hb dX1_refine_64 (by decide) ?_
  refine W.lcmp hx hb dX1_refine_65 ?_
  refine tpi (v := 0) (by decide) ?_
  refine lv_if_gt (tgt := 70) hx hb dX1_refine_66 (by decide) (fun h => absurd h (by decide)) (fun _ => ?_)
  have hP9 := hP
  have hD9 := hD
  exact W.vret hx hb hr (fun t ht hW => ⟨⟨(), rfl, trivial, by rw [ht]; exact hP9, hD9⟩, hS.F ht⟩) hS.2.2 dX1_refine_69

set_option maxHeartbeats 4000000 in
set_option maxRecDepth 100000 in
theorem k_X1_reckon_2 (l : Launch) (D : va_G) (κ ε : Nat → Nat) (h0 h1 h2 h3 h4 h5 h6 h7 h8 h9 h10 h11 h12 h13 : Nat) (sz : Nat) (p0 : Int32) (p1 : Int32) (p2 : Int32) : Met l yX1_reckon wsX1_reckon ({ frames := 3, cells := 0, slots := 0, locals := 72 }) (va_Pc [.ref h0, .int 2, .int 0] (Pre2 D κ ε [(h0, .inr (3, [.ref h1, .int 1, .int p0, .ref h2, .ref h3, .long 0, .int p1])), (h1, .inr (2, [.int 0, .int p2, .ref h4, .ref h5])), (h2, .inl (κ 0, 13, .inl (fun _ => 0))), (h3, .inl (κ 0, 13, .inl (fun _ => 0))), (h4, .inl (κ 3, 4, .inr (.inr (.inr (.inr (sel [h6, h7, h8, h9])))))), (h6, .inr (6, [.ref h10, .ref h11, .int 0])), (h7, .inr (6, [.ref h12, .ref h13, .int 0]))] sz)) (va_Qv (fun u : Unit => True) (fun u t => va_P D vwCl [(h0, .inr (3, [.ref h1, .int 1, .int p0, .ref h2, .ref h3, .long 0, .int 0])), (h1, .inr (2, [.int 0, .int p2, .ref h4, .ref h5])), (h2, .inl (κ 0, 13, .inl (upd (upd (upd (upd (upd (upd (upd (upd (upd (upd (upd (upd (upd (fun _ => 0) 0 1000000) 1 1000000) 2 1000000) 3 1000000) 4 1000000) 5 1000000) 6 1000000) 7 1000000) 8 1000000) 9 1000000) 10 1000000) 11 1000000) 12 1000000))), (h3, .inl (κ 0, 13, .inl (fun _ => 0))), (h4, .inl (κ 3, 4, .inr (.inr (.inr (.inr (sel [h6, h7, h8, h9])))))), (h6, .inr (6, [.ref h10, .ref h11, .int 0])), (h7, .inr (6, [.ref h12, .ref h13, .int 0]))] t.heap ∧ va_D (va_A [(h0, .inr (3, [.ref h1, .int 1, .int p0, .ref h2, .ref h3, .long 0, .int p1])), (h1, .inr (2, [.int 0, .int p2, .ref h4, .ref h5])), (h2, .inl (κ 0, 13, .inl (fun _ => 0))), (h3, .inl (κ 0, 13, .inl (fun _ => 0))), (h4, .inl (κ 3, 4, .inr (.inr (.inr (.inr (sel [h6, h7, h8, h9])))))), (h6, .inr (6, [.ref h10, .ref h11, .int 0])), (h7, .inr (6, [.ref h12, .ref h13, .int 0]))] sz) [(h0, .inr (3, [.ref h1, .int 1, .int p0, .ref h2, .ref h3, .long 0, .int 0])), (h1, .inr (2, [.int 0, .int p2, .ref h4, .ref h5])), (h2, .inl (κ 0, 13, .inl (upd (upd (upd (upd (upd (upd (upd (upd (upd (upd (upd (upd (upd (fun _ => 0) 0 1000000) 1 1000000) 2 1000000) 3 1000000) 4 1000000) 5 1000000) 6 1000000) 7 1000000) 8 1000000) 9 1000000) 10 1000000) 11 1000000) 12 1000000))), (h3, .inl (κ 0, 13, .inl (fun _ => 0))), (h4, .inl (κ 3, 4, .inr (.inr (.inr (.inr (sel [h6, h7, h8, h9])))))), (h6, .inr (6, [.ref h10, .ref h11, .int 0])), (h7, .inr (6, [.ref h12, .ref h13, .int 0]))]) (va_A [(h0, .inr (3, [.ref h1, .int 1, .int p0, .ref h2, .ref h3, .long 0, .int p1])), (h1, .inr (2, [.int 0, .int p2, .ref h4, .ref h5])), (h2, .inl (κ 0, 13, .inl (fun _ => 0))), (h3, .inl (κ 0, 13, .inl (fun _ => 0))), (h4, .inl (κ 3, 4, .inr (.inr (.inr (.inr (sel [h6, h7, h8, h9])))))), (h6, .inr (6, [.ref h10, .ref h11, .int 0])), (h7, .inr (6, [.ref h12, .ref h13, .int 0]))] sz)) 0 0 (va_A [(h0, .inr (3, [.ref h1, .int 1, .int p0, .ref h2, .ref h3, .long 0, .int p1])), (h1, .inr (2, [.int 0, .int p2, .ref h4, .ref h5])), (h2, .inl (κ 0, 13, .inl (fun _ => 0))), (h3, .inl (κ 0, 13, .inl (fun _ => 0))), (h4, .inl (κ 3, 4, .inr (.inr (.inr (.inr (sel [h6, h7, h8, h9])))))), (h6, .inr (6, [.ref h10, .ref h11, .int 0])), (h7, .inr (6, [.ref h12, .ref h13, .int 0]))] sz) := by
  refine Met.ofW (cc := cX1_reckon) (maxL := 4) (ret := none) (by decide) rfl ?_
  intro p e s m args below meth c s₁ B hml hv
  obtain ⟨rfl, hsz, hP, hK, hD0, hE9⟩ := hv
  have hx := B.exec
  have hb := B.bytes
  have hr := B.returns
  have hts := atoms_spec (ws := wsX1_reckon) B.pre
  have hown : s.vm.findClass RX1 = some m.cls := findClass_of_methodNamed B.named
  have hlocks := B.notSynchronized
  subst hsz
  have hD := hD0.self (sz := s.heap.size)
  generalize hAe : va_A [(h0, .inr (3, [.ref h1, .int 1, .int p0, .ref h2, .ref h3, .long 0, .int p1])), (h1, .inr (2, [.int 0, .int p2, .ref h4, .ref h5])), (h2, .inl (κ 0, 13, .inl (fun _ => 0))), (h3, .inl (κ 0, 13, .inl (fun _ => 0))), (h4, .inl (κ 3, 4, .inr (.inr (.inr (.inr (sel [h6, h7, h8, h9])))))), (h6, .inr (6, [.ref h10, .ref h11, .int 0])), (h7, .inr (6, [.ref h12, .ref h13, .int 0]))] s.heap.size = A at hD hE9 ⊢
  have hE := hE9.1
  have hDc := hE9.2
  have hA : ∀ q : Nat, s.heap.size ≤ q → A q := fun q h => by rw [← hAe]; exact Or.inr h
  have hS : va_S A s.heap s.heap [] := va_S.rf
  have hP : va_P D vwCl [(h0, .inr (3, [.ref h1, .int 1, .int p0, .ref h2, .ref h3, .long 0, .int p1])), (h1, .inr (2, [.int 0, .int p2, .ref h4, .ref h5])), (h2, .inl (κ 0, 13, .inl (fun _ => 0))), (h3, .inl (κ 0, 13, .inl (fun _ => 0))), (h4, .inl (κ 3, 4, .inr (.inr (.inr (.inr (sel [h6, h7, h8, h9])))))), (h6, .inr (6, [.ref h10, .ref h11, .int 0])), (h7, .inr (6, [.ref h12, .ref h13, .int 0]))] s.heap := hP
  have hl := lv_entry [.ref h0, .int 2, .int 0] (n := 4) (Nat.le_of_ble_eq_true rfl)
  rw [lg_entry_eq]
  generalize (lg_sl [.ref h0, .int 2, .int 0] ++ List.replicate (4 - (lg_sl [.ref h0, .int 2, .int 0]).length) Slot.unset).toArray = ls at hl ⊢
  have hl : lv_has ls 4 [(0, .ref h0), (1, .int 2), (2, .int 0)] := hl
  refine lv_aload_n hx hb dX1_reckon_0 rfl (lv_at hl 0 rfl) ?_
  refine va_get (D := D) (ci := 3) (v := .ref h2) (C := RX1) (T := TX1) (N := 7) hx hb hts wi_X1_reckon_RX1 hown hK hP 0 rfl rfl 3 (by decide) (hts _ wd292_X1_reckon) (fun _ h9 => h9) rfl dX1_reckon_1 ?_
  refine lv_ldc (v := 1000000) hx hb hown (hts _ wd293_X1_reckon) dX1_reckon_4 ?_
  refine lv_aload_n hx hb dX1_reckon_6 rfl (lv_at hl 0 rfl) ?_
  refine va_get (D := D) (ci := 3) (v := .ref h1) (C := RX1) (T := TX1) (N := 7) hx hb hts wi_X1_reckon_RX1 hown hK hP 0 rfl rfl 0 (by decide) (hts _ wd294_X1_reckon) (fun _ h9 => h9) rfl dX1_reckon_7 ?_
  refine va_get (D := D) (ci := 2) (v := .int 0) (C := RX0) (T := TX0) (N := 4) hx hb hts wi_X1_reckon_RX0 hown hK hP 1 rfl rfl 0 (by decide) (hts _ wd295_X1_reckon) (fun _ h9 => h9) rfl dX1_reckon_10 ?_
  refine lv_iconst (v := 1) hx hb dX1_reckon_13 (by decide) ?_
  refine lv_iadd hx hb dX1_reckon_14 ?_
  refine tpi (v := 1) (by decide) ?_
  refine lv_idiv hx hb dX1_reckon_15 (by decide) ?_
  refine tpi (v := 1000000) (by decide) ?_
  have hF := va_free (wc := [(h2, .inl (κ 0, 13, .inl (fun _ => 0)))]) hD hS hA [2] rfl
  refine va_callv (va_runS (As := [.ref h2, .int 1000000]) (rest := []) ⟨hx, hb, hml, hown, hts⟩ (k_J7_fill_53178_1 l D κ ε h2 s.heap.size) (va_cwS 2 hts gX1_reckon_J7_fill_53178 rfl rfl rfl (by decide +kernel) ⟨(Nat.le_of_ble_eq_true rfl), (Nat.le_of_ble_eq_true rfl)⟩) (pre2_S (wc := [(h2, .inl (κ 0, 13, .inl (fun _ => 0)))]) hP hD hK hE9 hS hA [2] (by decide) rfl) rfl rfl hl.1 rfl (lv_room (Nat.le_of_ble_eq_true rfl)) dX1_reckon_16 ⟨(Nat.le_of_ble_eq_true rfl), (Nat.le_of_ble_eq_true rfl)⟩) hS (fun q _ h => hF q h) hF (fun u1 t H locs ht hvm hw hB hz1 hk1 hS => ?_)
  try dsimp only at hw hB
  obtain ⟨hP1, hD1⟩ := hB
  rw [ht] at hP1
  obtain ⟨hP, hD⟩ := post_j (ws' := [(h0, .inr (3, [.ref h1, .int 1, .int p0, .ref h2, .ref h3, .long 0, .int p1])), (h1, .inr (2, [.int 0, .int p2, .ref h4, .ref h5])), (h2, .inl (κ 0, 13, .inl (upd (upd (upd (upd (upd (upd (upd (upd (upd (upd (upd (upd (upd (fun _ => 0) 0 1000000) 1 1000000) 2 1000000) 3 1000000) 4 1000000) 5 1000000) 6 1000000) 7 1000000) 8 1000000) 9 1000000) 10 1000000) 11 1000000) 12 1000000))), (h3, .inl (κ 0, 13, .inl (fun _ => 0))), (h4, .inl (κ 3, 4, .inr (.inr (.inr (.inr (sel [h6, h7, h8, h9])))))), (h6, .inr (6, [.ref h10, .ref h11, .int 0])), (h7, .inr (6, [.ref h12, .ref h13, .int 0]))]) (wr := [(h0, .inr (3, [.ref h1, .int 1, .int p0, .ref h2, .ref h3, .long 0, .int p1])), (h1, .inr (2, [.int 0, .int p2, .ref h4, .ref h5])), (h3, .inl (κ 0, 13, .inl (fun _ => 0))), (h4, .inl (κ 3, 4, .inr (.inr (.inr (.inr (sel [h6, h7, h8, h9])))))), (h6, .inr (6, [.ref h10, .ref h11, .int 0])), (h7, .inr (6, [.ref h12, .ref h13, .int 0]))]) (w1 := [(h2, .inl (κ 0, 13, .inl (upd (upd (upd (upd (upd (upd (upd (upd (upd (upd (upd (upd (upd (fun _ => 0) 0 1000000) 1 1000000) 2 1000000) 3 1000000) 4 1000000) 5 1000000) 6 1000000) 7 1000000) 8 1000000) 9 1000000) 10 1000000) 11 1000000) 12 1000000)))]) hP hD hF [2] rfl [0, 1, 3, 4, 5, 6] rfl (by decide) (by decide) hk1 hP1 hD1 [0, 1, 6, 2, 3, 4, 5] (by decide) rfl
  have hP : va_P D vwCl [(h0, .inr (3, [.ref h1, .int 1, .int p0, .ref h2, .ref h3, .long 0, .int p1])), (h1, .inr (2, [.int 0, .int p2, .ref h4, .ref h5])), (h2, .inl (κ 0, 13, .inl (upd (upd (upd (upd (upd (upd (upd (upd (upd (upd (upd (upd (upd (fun _ => 0) 0 1000000) 1 1000000) 2 1000000) 3 1000000) 4 1000000) 5 1000000) 6 1000000) 7 1000000) 8 1000000) 9 1000000) 10 1000000) 11 1000000) 12 1000000))), (h3, .inl (κ 0, 13, .inl (fun _ => 0))), (h4, .inl (κ 3, 4, .inr (.inr (.inr (.inr (sel [h6, h7, h8, h9])))))), (h6, .inr (6, [.ref h10, .ref h11, .int 0])), (h7, .inr (6, [.ref h12, .ref h13, .int 0]))] H := hP
  have hD : va_D A [(h0, .inr (3, [.ref h1, .int 1, .int p0, .ref h2, .ref h3, .long 0, .int p1])), (h1, .inr (2, [.int 0, .int p2, .ref h4, .ref h5])), (h2, .inl (κ 0, 13, .inl (upd (upd (upd (upd (upd (upd (upd (upd (upd (upd (upd (upd (upd (fun _ => 0) 0 1000000) 1 1000000) 2 1000000) 3 1000000) 4 1000000) 5 1000000) 6 1000000) 7 1000000) 8 1000000) 9 1000000) 10 1000000) 11 1000000) 12 1000000))), (h3, .inl (κ 0, 13, .inl (fun _ => 0))), (h4, .inl (κ 3, 4, .inr (.inr (.inr (.inr (sel [h6, h7, h8, h9])))))), (h6, .inr (6, [.ref h10, .ref h11, .int 0])), (h7, .inr (6, [.ref h12, .ref h13, .int 0]))] := hD
  refine lv_aload_n hx hb dX1_reckon_19 rfl (lv_at hl 0 rfl) ?_
  refine va_get (D := D) (ci := 3) (v := .int 1) (C := RX1) (T := TX1) (N := 7) hx hb hts wi_X1_reckon_RX1 hown hK hP 0 rfl rfl 1 (by decide) (hts _ wd296_X1_reckon) (fun _ h9 => h9) rfl dX1_reckon_20 ?_
  refine lv_if_ne (tgt := 30) hx hb dX1_reckon_23 (by decide) (fun _ => ?_) (fun h => absurd h (by decide))
  refine lv_iconst (v := 1) hx hb dX1_reckon_30 (by decide) ?_
  refine lv_istore_n (lv' := [(3, .int 1), (0, .ref h0), (1, .int 2), (2, .int 0)]) hx hb dX1_reckon_31 rfl hl (by decide) rfl (fun ls hl => ?_)
  refine lv_iload_n hx hb dX1_reckon_32 rfl (lv_at hl 0 rfl) ?_
  refine lv_iload_n hx hb dX1_reckon_33 rfl (lv_at hl 2 rfl) ?_
  refine lv_icmp_gt (tgt := 57) hx hb dX1_reckon_34 (by decide) (fun h => absurd h (by decide)) (fun _ => ?_)
  refine lv_aload_n hx hb dX1_reckon_37 rfl (lv_at hl 1 rfl) ?_
  refine lv_iload_n hx hb dX1_reckon_38 rfl (lv_at hl 0 rfl) ?_
  refine lv_iload_n hx hb dX1_reckon_39 rfl (lv_at hl 3 rfl) ?_
  refine va_getsN hx hb hE.2.2.1 hS hown (va_Nw.use rfl hE.2.2.2.2.2.2.2.1) (fun _ h9 => h9) dX1_reckon_40 ?_
  refine lv_iload_n hx hb dX1_reckon_43 rfl (lv_at hl 0 rfl) ?_
  refine lv_iconst (v := 1) hx hb dX1_reckon_44 (by decide) ?_
  refine lv_isub hx hb dX1_reckon_45 ?_
  refine tpi (v := 0) (by decide) ?_
  refine va_ti hx hb hE.2.2.2.1 hS (vpl (by decide)) (v := .int 1) rfl dX1_reckon_46 ?_
  refine lv_irem hx hb dX1_reckon_47 (by decide) ?_
  refine tpi (v := 0) (by decide) ?_
  have hF := va_free (wc := [(h0, .inr (3, [.ref h1, .int 1, .int p0, .ref h2, .ref h3, .long 0, .int p1])), (h1, .inr (2, [.int 0, .int p2, .ref h4, .ref h5])), (h3, .inl (κ 0, 13, .inl (fun _ => 0))), (h4, .inl (κ 3, 4, .inr (.inr (.inr (.inr (sel [h6, h7, h8, h9])))))), (h6, .inr (6, [.ref h10, .ref h11, .int 0]))]) hD hS hA [0, 1, 3, 4, 5] rfl
  refine va_callv (va_runV (As := [.int 1, .int 0]) (rest := []) ⟨hx, hb, hml, hown, hts⟩ (k_X1_refine_2 l D κ ε h0 h1 h2 h3 h4 h5 h6 h7 h8 h9 h10 h11 H.size (p0) (p1) (0) (p2)) (cwV 2 hts gX1_reckon_X1_refine rfl rfl rfl (by decide +kernel) ⟨(Nat.le_of_ble_eq_true rfl), (Nat.le_of_ble_eq_true rfl)⟩) (pre2_V (q0 := 0) (ci := 3) (wc := [(h0, .inr (3, [.ref h1, .int 1, .int p0, .ref h2, .ref h3, .long 0, .int p1])), (h1, .inr (2, [.int 0, .int p2, .ref h4, .ref h5])), (h3, .inl (κ 0, 13, .inl (fun _ => 0))), (h4, .inl (κ 3, 4, .inr (.inr (.inr (.inr (sel [h6, h7, h8, h9])))))), (h6, .inr (6, [.ref h10, .ref h11, .int 0]))]) hP hD hK hE9 hS hA [0, 1, 3, 4, 5] (by decide) rfl rfl rfl) rfl rfl hl.1 rfl (lv_room (Nat.le_of_ble_eq_true rfl)) dX1_reckon_48 ⟨(Nat.le_of_ble_eq_true rfl), (Nat.le_of_ble_eq_true rfl)⟩) hS (fun q _ h => hF q h) hF (fun u2 t H locs ht hvm hw hB hz1 hk1 hS => ?_)
  try dsimp only at hw hB
  obtain ⟨hP1, hD1⟩ := hB
  rw [ht] at hP1
  obtain ⟨hP, hD⟩ := post_j (ws' := [(h0, .inr (3, [.ref h1, .int 1, .int p0, .ref h2, .ref h3, .long 0, .int 0])), (h1, .inr (2, [.int 0, .int p2, .ref h4, .ref h5])), (h2, .inl (κ 0, 13, .inl (upd (upd (upd (upd (upd (upd (upd (upd (upd (upd (upd (upd (upd (fun _ => 0) 0 1000000) 1 1000000) 2 1000000) 3 1000000) 4 1000000) 5 1000000) 6 1000000) 7 1000000) 8 1000000) 9 1000000) 10 1000000) 11 1000000) 12 1000000))), (h3, .inl (κ 0, 13, .inl (fun _ => 0))), (h4, .inl (κ 3, 4, .inr (.inr (.inr (.inr (sel [h6, h7, h8, h9])))))), (h6, .inr (6, [.ref h10, .ref h11, .int 0])), (h7, .inr (6, [.ref h12, .ref h13, .int 0]))]) (wr := [(h2, .inl (κ 0, 13, .inl (upd (upd (upd (upd (upd (upd (upd (upd (upd (upd (upd (upd (upd (fun _ => 0) 0 1000000) 1 1000000) 2 1000000) 3 1000000) 4 1000000) 5 1000000) 6 1000000) 7 1000000) 8 1000000) 9 1000000) 10 1000000) 11 1000000) 12 1000000))), (h7, .inr (6, [.ref h12, .ref h13, .int 0]))]) (w1 := [(h0, .inr (3, [.ref h1, .int 1, .int p0, .ref h2, .ref h3, .long 0, .int 0])), (h1, .inr (2, [.int 0, .int p2, .ref h4, .ref h5])), (h3, .inl (κ 0, 13, .inl (fun _ => 0))), (h4, .inl (κ 3, 4, .inr (.inr (.inr (.inr (sel [h6, h7, h8, h9])))))), (h6, .inr (6, [.ref h10, .ref h11, .int 0]))]) hP hD hF [0, 1, 3, 4, 5] rfl [2, 6] rfl (by decide) (by decide) hk1 hP1 hD1 [2, 3, 0, 4, 5, 6, 1] (by decide) rfl
  have hP : va_P D vwCl [(h0, .inr (3, [.ref h1, .int 1, .int p0, .ref h2, .ref h3, .long 0, .int 0])), (h1, .inr (2, [.int 0, .int p2, .ref h4, .ref h5])), (h2, .inl (κ 0, 13, .inl (upd (upd (upd (upd (upd (upd (upd (upd (upd (upd (upd (upd (upd (fun _ => 0) 0 1000000) 1 1000000) 2 1000000) 3 1000000) 4 1000000) 5 1000000) 6 1000000) 7 1000000) 8 1000000) 9 1000000) 10 1000000) 11 1000000) 12 1000000))), (h3, .inl (κ 0, 13, .inl (fun _ => 0))), (h4, .inl (κ 3, 4, .inr (.inr (.inr (.inr (sel [h6, h7, h8, h9])))))), (h6, .inr (6, [.ref h10, .ref h11, .int 0])), (h7, .inr (6, [.ref h12, .ref h13, .int 0]))] H := hP
  have hD : va_D A [(h0, .inr (3, [.ref h1, .int 1, .int p0, .ref h2, .ref h3, .long 0, .int 0])), (h1, .inr (2, [.int 0, .int p2, .ref h4, .ref h5])), (h2, .inl (κ 0, 13, .inl (upd (upd (upd (upd (upd (upd (upd (upd (upd (upd (upd (upd (upd (fun _ => 0) 0 1000000) 1 1000000) 2 1000000) 3 1000000) 4 1000000) 5 1000000) 6 1000000) 7 1000000) 8 1000000) 9 1000000) 10 1000000) 11 1000000) 12 1000000))), (h3, .inl (κ 0, 13, .inl (fun _ => 0))), (h4, .inl (κ 3, 4, .inr (.inr (.inr (.inr (sel [h6, h7, h8, h9])))))), (h6, .inr (6, [.ref h10, .ref h11, .int 0])), (h7, .inr (6, [.ref h12, .ref h13, .int 0]))] := hD
  refine lv_iinc (v := 2) (lv' := [(3, .int 2), (0, .ref h0), (1, .int 2), (2, .int 0)]) hx hb dX1_reckon_51 hl (k := 0) rfl (by decide) (by decide) rfl (fun ls hl => ?_)
  refine lv_goto (tgt := 32) hx hb dX1_reckon_54 (by decide) ?_
  refine lv_iload_n hx hb dX1_reckon_32 rfl (lv_at hl 0 rfl) ?_
  refine lv_iload_n hx hb dX1_reckon_33 rfl (lv_at hl 2 rfl) ?_
  refine lv_icmp_gt (tgt := 57) hx hb dX1_reckon_34 (by decide) (fun h => absurd h (by decide)) (fun _ => ?_)
  refine lv_aload_n hx hb dX1_reckon_37 rfl (lv_at hl 1 rfl) ?_
  refine lv_iload_n hx hb dX1_reckon_38 rfl (lv_at hl 0 rfl) ?_
  refine lv_iload_n hx hb dX1_reckon_39 rfl (lv_at hl 3 rfl) ?_
  refine va_getsN hx hb hE.2.2.1 hS hown (va_Nw.use rfl hE.2.2.2.2.2.2.2.1) (fun _ h9 => h9) dX1_reckon_40 ?_
  refine lv_iload_n hx hb dX1_reckon_43 rfl (lv_at hl 0 rfl) ?_
  refine lv_iconst (v := 1) hx hb dX1_reckon_44 (by decide) ?_
  refine lv_isub hx hb dX1_reckon_45 ?_
  refine tpi (v := 1) (by decide) ?_
  refine va_ti hx hb hE.2.2.2.1 hS (vpl (by decide)) (v := .int 14) rfl dX1_reckon_46 ?_
  refine lv_irem hx hb dX1_reckon_47 (by decide) ?_
  refine tpi (v := 0) (by decide) ?_
  have hF := va_free (wc := [(h0, .inr (3, [.ref h1, .int 1, .int p0, .ref h2, .ref h3, .long 0, .int 0])), (h1, .inr (2, [.int 0, .int p2, .ref h4, .ref h5])), (h3, .inl (κ 0, 13, .inl (fun _ => 0))), (h4, .inl (κ 3, 4, .inr (.inr (.inr (.inr (sel [h6, h7, h8, h9])))))), (h7, .inr (6, [.ref h12, .ref h13, .int 0]))]) hD hS hA [0, 1, 3, 4, 6] rfl
  refine va_callv (va_runV (As := [.int 2, .int 0]) (rest := []) ⟨hx, hb, hml, hown, hts⟩ (k_X1_refine_3 l D κ ε h0 h1 h2 h3 h4 h5 h6 h7 h8 h9 h12 h13 H.size (p0) (0) (0) (p2)) (cwV 2 hts gX1_reckon_X1_refine rfl rfl rfl (by decide +kernel) ⟨(Nat.le_of_ble_eq_true rfl), (Nat.le_of_ble_eq_true rfl)⟩) (pre2_V (q0 := 0) (ci := 3) (wc := [(h0, .inr (3, [.ref h1, .int 1, .int p0, .ref h2, .ref h3, .long 0, .int 0])), (h1, .inr (2, [.int 0, .int p2, .ref h4, .ref h5])), (h3, .inl (κ 0, 13, .inl (fun _ => 0))), (h4, .inl (κ 3, 4, .inr (.inr (.inr (.inr (sel [h6, h7, h8, h9])))))), (h7, .inr (6, [.ref h12, .ref h13, .int 0]))]) hP hD hK hE9 hS hA [0, 1, 3, 4, 6] (by decide) rfl rfl rfl) rfl rfl hl.1 rfl (lv_room (Nat.le_of_ble_eq_true rfl)) dX1_reckon_48 ⟨(Nat.le_of_ble_eq_true rfl), (Nat.le_of_ble_eq_true rfl)⟩) hS (fun q _ h => hF q h) hF (fun u3 t H locs ht hvm hw hB hz1 hk1 hS => ?_)
  try dsimp only at hw hB
  obtain ⟨hP1, hD1⟩ := hB
  rw [ht] at hP1
  obtain ⟨hP, hD⟩ := post_j (ws' := [(h0, .inr (3, [.ref h1, .int 1, .int p0, .ref h2, .ref h3, .long 0, .int 0])), (h1, .inr (2, [.int 0, .int p2, .ref h4, .ref h5])), (h2, .inl (κ 0, 13, .inl (upd (upd (upd (upd (upd (upd (upd (upd (upd (upd (upd (upd (upd (fun _ => 0) 0 1000000) 1 1000000) 2 1000000) 3 1000000) 4 1000000) 5 1000000) 6 1000000) 7 1000000) 8 1000000) 9 1000000) 10 1000000) 11 1000000) 12 1000000))), (h3, .inl (κ 0, 13, .inl (fun _ => 0))), (h4, .inl (κ 3, 4, .inr (.inr (.inr (.inr (sel [h6, h7, h8, h9])))))), (h6, .inr (6, [.ref h10, .ref h11, .int 0])), (h7, .inr (6, [.ref h12, .ref h13, .int 0]))]) (wr := [(h2, .inl (κ 0, 13, .inl (upd (upd (upd (upd (upd (upd (upd (upd (upd (upd (upd (upd (upd (fun _ => 0) 0 1000000) 1 1000000) 2 1000000) 3 1000000) 4 1000000) 5 1000000) 6 1000000) 7 1000000) 8 1000000) 9 1000000) 10 1000000) 11 1000000) 12 1000000))), (h6, .inr (6, [.ref h10, .ref h11, .int 0]))]) (w1 := [(h0, .inr (3, [.ref h1, .int 1, .int p0, .ref h2, .ref h3, .long 0, .int 0])), (h1, .inr (2, [.int 0, .int p2, .ref h4, .ref h5])), (h3, .inl (κ 0, 13, .inl (fun _ => 0))), (h4, .inl (κ 3, 4, .inr (.inr (.inr (.inr (sel [h6, h7, h8, h9])))))), (h7, .inr (6, [.ref h12, .ref h13, .int 0]))]) hP hD hF [0, 1, 3, 4, 6] rfl [2, 5] rfl (by decide) (by decide) hk1 hP1 hD1 [2, 3, 0, 4, 5, 1, 6] (by decide) rfl
  have hP : va_P D vwCl [(h0, .inr (3, [.ref h1, .int 1, .int p0, .ref h2, .ref h3, .long 0, .int 0])), (h1, .inr (2, [.int 0, .int p2, .ref h4, .ref h5])), (h2, .inl (κ 0, 13, .inl (upd (upd (upd (upd (upd (upd (upd (upd (upd (upd (upd (upd (upd (fun _ => 0) 0 1000000) 1 1000000) 2 1000000) 3 1000000) 4 1000000) 5 1000000) 6 1000000) 7 1000000) 8 1000000) 9 1000000) 10 1000000) 11 1000000) 12 1000000))), (h3, .inl (κ 0, 13, .inl (fun _ => 0))), (h4, .inl (κ 3, 4, .inr (.inr (.inr (.inr (sel [h6, h7, h8, h9])))))), (h6, .inr (6, [.ref h10, .ref h11, .int 0])), (h7, .inr (6, [.ref h12, .ref h13, .int 0]))] H := hP
  have hD : va_D A [(h0, .inr (3, [.ref h1, .int 1, .int p0, .ref h2, .ref h3, .long 0, .int 0])), (h1, .inr (2, [.int 0, .int p2, .ref h4, .ref h5])), (h2, .inl (κ 0, 13, .inl (upd (upd (upd (upd (upd (upd (upd (upd (upd (upd (upd (upd (upd (fun _ => 0) 0 1000000) 1 1000000) 2 1000000) 3 1000000) 4 1000000) 5 1000000) 6 1000000) 7 1000000) 8 1000000) 9 1000000) 10 1000000) 11 1000000) 12 1000000))), (h3, .inl (κ 0, 13, .inl (fun _ => 0))), (h4, .inl (κ 3, 4, .inr (.inr (.inr (.inr (sel [h6, h7, h8, h9])))))), (h6, .inr (6, [.ref h10, .ref h11, .int 0])), (h7, .inr (6, [.ref h12, .ref h13, .int 0]))] := hD
  refine lv_iinc (v := 3) (lv' := [(3, .int 3), (0, .ref h0), (1, .int 2), (2, .int 0)]) hx hb dX1_reckon_51 hl (k := 0) rfl (by decide) (by decide) rfl (fun ls hl => ?_)
  refine lv_goto (tgt := 32) hx hb dX1_reckon_54 (by decide) ?_
  refine lv_iload_n hx hb dX1_reckon_32 rfl (lv_at hl 0 rfl) ?_
  refine lv_iload_n hx hb dX1_reckon_33 rfl (lv_at hl 2 rfl) ?_
  refine lv_icmp_gt (tgt := 57) hx hb dX1_reckon_34 (by decide) (fun _ => ?_) (fun h => absurd (by decide) h)
  have hP9 := hP
  have hD9 := hD
  exact W.vret hx hb hr (fun t ht hW => ⟨⟨(), rfl, trivial, by rw [ht]; exact hP9, hD9⟩, hS.F ht⟩) hS.2.2 dX1_reckon_57

set_option maxHeartbeats 4000000 in
set_option maxRecDepth 100000 in
theorem k_X5_sumOfCosts_2 (l : Launch) (D : va_G) (κ ε : Nat → Nat) (h0 h1 h2 h3 h4 h5 h6 h7 h8 h9 h10 h11 h12 h13 h14 h15 h16 h17 h18 : Nat) (sz : Nat) (p0 : Int32) (p1 : Int32) (p2 : Int32) (p3 : Int32) : Met l yX5_sumOfCosts wsX5_sumOfCosts ({ frames := 4, cells := 0, slots := 0, locals := 95 }) (va_Pc [.ref h0] (Pre2 D κ ε [(h0, .inr (7, [.ref h1, .ref h2, .ref h3, .ref h4, .ref h5, .ref h6, .int 0, .int p0, .int p1, .int 0])), (h1, .inr (2, [.int 0, .int 2, .ref h7, .ref h8])), (h2, .inr (3, [.ref h1, .int 1, .int p2, .ref h9, .ref h10, .long 0, .int p3])), (h7, .inl (κ 3, 4, .inr (.inr (.inr (.inr (sel [h11, h12, h13, h14])))))), (h9, .inl (κ 0, 13, .inl (fun _ => 0))), (h10, .inl (κ 0, 13, .inl (fun _ => 0))), (h11, .inr (6, [.ref h15, .ref h16, .int 0])), (h12, .inr (6, [.ref h17, .ref h18, .int 0]))] sz)) (va_Qi (fun r (u : Unit) => (r = 0)) (fun u t => va_P D vwCl [(h0, .inr (7, [.ref h1, .ref h2, .ref h3, .ref h4, .ref h5, .ref h6, .int 0, .int p0, .int p1, .int 0])), (h1, .inr (2, [.int 0, .int 2, .ref h7, .ref h8])), (h2, .inr (3, [.ref h1, .int 1, .int p2, .ref h9, .ref h10, .long 0, .int 0])), (h7, .inl (κ 3, 4, .inr (.inr (.inr (.inr (sel [h11, h12, h13, h14])))))), (h9, .inl (κ 0, 13, .inl (upd (upd (upd (upd (upd (upd (upd (upd (upd (upd (upd (upd (upd (fun _ => 0) 0 1000000) 1 1000000) 2 1000000) 3 1000000) 4 1000000) 5 1000000) 6 1000000) 7 1000000) 8 1000000) 9 1000000) 10 1000000) 11 1000000) 12 1000000))), (h10, .inl (κ 0, 13, .inl (fun _ => 0))), (h11, .inr (6, [.ref h15, .ref h16, .int 0])), (h12, .inr (6, [.ref h17, .ref h18, .int 0]))] t.heap ∧ va_D (va_A [(h0, .inr (7, [.ref h1, .ref h2, .ref h3, .ref h4, .ref h5, .ref h6, .int 0, .int p0, .int p1, .int 0])), (h1, .inr (2, [.int 0, .int 2, .ref h7, .ref h8])), (h2, .inr (3, [.ref h1, .int 1, .int p2, .ref h9, .ref h10, .long 0, .int p3])), (h7, .inl (κ 3, 4, .inr (.inr (.inr (.inr (sel [h11, h12, h13, h14])))))), (h9, .inl (κ 0, 13, .inl (fun _ => 0))), (h10, .inl (κ 0, 13, .inl (fun _ => 0))), (h11, .inr (6, [.ref h15, .ref h16, .int 0])), (h12, .inr (6, [.ref h17, .ref h18, .int 0]))] sz) [(h0, .inr (7, [.ref h1, .ref h2, .ref h3, .ref h4, .ref h5, .ref h6, .int 0, .int p0, .int p1, .int 0])), (h1, .inr (2, [.int 0, .int 2, .ref h7, .ref h8])), (h2, .inr (3, [.ref h1, .int 1, .int p2, .ref h9, .ref h10, .long 0, .int 0])), (h7, .inl (κ 3, 4, .inr (.inr (.inr (.inr (sel [h11, h12, h13, h14])))))), (h9, .inl (κ 0, 13, .inl (upd (upd (upd (upd (upd (upd (upd (upd (upd (upd (upd (upd (upd (fun _ => 0) 0 1000000) 1 1000000) 2 1000000) 3 1000000) 4 1000000) 5 1000000) 6 1000000) 7 1000000) 8 1000000) 9 1000000) 10 1000000) 11 1000000) 12 1000000))), (h10, .inl (κ 0, 13, .inl (fun _ => 0))), (h11, .inr (6, [.ref h15, .ref h16, .int 0])), (h12, .inr (6, [.ref h17, .ref h18, .int 0]))]) (va_A [(h0, .inr (7, [.ref h1, .ref h2, .ref h3, .ref h4, .ref h5, .ref h6, .int 0, .int p0, .int p1, .int 0])), (h1, .inr (2, [.int 0, .int 2, .ref h7, .ref h8])), (h2, .inr (3, [.ref h1, .int 1, .int p2, .ref h9, .ref h10, .long 0, .int p3])), (h7, .inl (κ 3, 4, .inr (.inr (.inr (.inr (sel [h11, h12, h13, h14])))))), (h9, .inl (κ 0, 13, .inl (fun _ => 0))), (h10, .inl (κ 0, 13, .inl (fun _ => 0))), (h11, .inr (6, [.ref h15, .ref h16, .int 0])), (h12, .inr (6, [.ref h17, .ref h18, .int 0]))] sz)) 0 0 (va_A [(h0, .inr (7, [.ref h1, .ref h2, .ref h3, .ref h4, .ref h5, .ref h6, .int 0, .int p0, .int p1, .int 0])), (h1, .inr (2, [.int 0, .int 2, .ref h7, .ref h8])), (h2, .inr (3, [.ref h1, .int 1, .int p2, .ref h9, .ref h10, .long 0, .int p3])), (h7, .inl (κ 3, 4, .inr (.inr (.inr (.inr (sel [h11, h12, h13, h14])))))), (h9, .inl (κ 0, 13, .inl (fun _ => 0))), (h10, .inl (κ 0, 13, .inl (fun _ => 0))), (h11, .inr (6, [.ref h15, .ref h16, .int 0])), (h12, .inr (6, [.ref h17, .ref h18, .int 0]))] sz) := by
  refine Met.ofW (cc := cX5_sumOfCosts) (maxL := 4) (ret := (some .int)) (by decide) rfl ?_
  intro p e s m args below meth c s₁ B hml hv
  obtain ⟨rfl, hsz, hP, hK, hD0, hE9⟩ := hv
  have hx := B.exec
  have hb := B.bytes
  have hr := B.returns
  have hts := atoms_spec (ws := wsX5_sumOfCosts) B.pre
  have hown : s.vm.findClass RX5 = some m.cls := findClass_of_methodNamed B.named
  have hlocks := B.notSynchronized
  subst hsz
  have hD := hD0.self (sz := s.heap.size)
  generalize hAe : va_A [(h0, .inr (7, [.ref h1, .ref h2, .ref h3, .ref h4, .ref h5, .ref h6, .int 0, .int p0, .int p1, .int 0])), (h1, .inr (2, [.int 0, .int 2, .ref h7, .ref h8])), (h2, .inr (3, [.ref h1, .int 1, .int p2, .ref h9, .ref h10, .long 0, .int p3])), (h7, .inl (κ 3, 4, .inr (.inr (.inr (.inr (sel [h11, h12, h13, h14])))))), (h9, .inl (κ 0, 13, .inl (fun _ => 0))), (h10, .inl (κ 0, 13, .inl (fun _ => 0))), (h11, .inr (6, [.ref h15, .ref h16, .int 0])), (h12, .inr (6, [.ref h17, .ref h18, .int 0]))] s.heap.size = A at hD hE9 ⊢
  have hE := hE9.1
  have hDc := hE9.2
  have hA : ∀ q : Nat, s.heap.size ≤ q → A q := fun q h => by rw [← hAe]; exact Or.inr h
  have hS : va_S A s.heap s.heap [] := va_S.rf
  have hP : va_P D vwCl [(h0, .inr (7, [.ref h1, .ref h2, .ref h3, .ref h4, .ref h5, .ref h6, .int 0, .int p0, .int p1, .int 0])), (h1, .inr (2, [.int 0, .int 2, .ref h7, .ref h8])), (h2, .inr (3, [.ref h1, .int 1, .int p2, .ref h9, .ref h10, .long 0, .int p3])), (h7, .inl (κ 3, 4, .inr (.inr (.inr (.inr (sel [h11, h12, h13, h14])))))), (h9, .inl (κ 0, 13, .inl (fun _ => 0))), (h10, .inl (κ 0, 13, .inl (fun _ => 0))), (h11, .inr (6, [.ref h15, .ref h16, .int 0])), (h12, .inr (6, [.ref h17, .ref h18, .int 0]))] s.heap := hP
  have hl := lv_entry [.ref h0] (n := 4) (Nat.le_of_ble_eq_true rfl)
  rw [lg_entry_eq]
  generalize (lg_sl [.ref h0] ++ List.replicate (4 - (lg_sl [.ref h0]).length) Slot.unset).toArray = ls at hl ⊢
  have hl : lv_has ls 4 [(0, .ref h0)] := hl
  refine lv_iconst (v := 0) hx hb dX5_sumOfCosts_0 (by decide) ?_
  refine lv_istore_n (lv' := [(1, .int 0), (0, .ref h0)]) hx hb dX5_sumOfCosts_1 rfl hl (by decide) rfl (fun ls hl => ?_)
  refine lv_iconst (v := 0) hx hb dX5_sumOfCosts_2 (by decide) ?_
  refine lv_istore_n (lv' := [(2, .int 0), (1, .int 0), (0, .ref h0)]) hx hb dX5_sumOfCosts_3 rfl hl (by decide) rfl (fun ls hl => ?_)
  refine lv_iload_n hx hb dX5_sumOfCosts_4 rfl (lv_at hl 0 rfl) ?_
  refine lv_aload_n hx hb dX5_sumOfCosts_5 rfl (lv_at hl 2 rfl) ?_
  refine va_get (D := D) (ci := 7) (v := .int 0) (C := RX5) (T := TX5) (N := 10) hx hb hts wi_X5_sumOfCosts_RX5 hown hK hP 0 rfl rfl 6 (by decide) (hts _ wd335_X5_sumOfCosts) (fun _ h9 => h9) rfl dX5_sumOfCosts_6 ?_
  refine lv_icmp_gt (tgt := 81) hx hb dX5_sumOfCosts_9 (by decide) (fun h => absurd h (by decide)) (fun _ => ?_)
  refine lv_aload_n hx hb dX5_sumOfCosts_12 rfl (lv_at hl 2 rfl) ?_
  refine va_get (D := D) (ci := 7) (v := .ref h2) (C := RX5) (T := TX5) (N := 10) hx hb hts wi_X5_sumOfCosts_RX5 hown hK hP 0 rfl rfl 1 (by decide) (hts _ wd336_X5_sumOfCosts) (fun _ h9 => h9) rfl dX5_sumOfCosts_13 ?_
  refine lv_aload_n hx hb dX5_sumOfCosts_16 rfl (lv_at hl 2 rfl) ?_
  refine va_get (D := D) (ci := 7) (v := .ref h1) (C := RX5) (T := TX5) (N := 10) hx hb hts wi_X5_sumOfCosts_RX5 hown hK hP 0 rfl rfl 0 (by decide) (hts _ wd337_X5_sumOfCosts) (fun _ h9 => h9) rfl dX5_sumOfCosts_17 ?_
  refine va_get (D := D) (ci := 2) (v := .int 2) (C := RX0) (T := TX0) (N := 4) hx hb hts wi_X5_sumOfCosts_RX0 hown hK hP 1 rfl rfl 1 (by decide) (hts _ wd338_X5_sumOfCosts) (fun _ h9 => h9) rfl dX5_sumOfCosts_20 ?_
  refine lv_aload_n hx hb dX5_sumOfCosts_23 rfl (lv_at hl 2 rfl) ?_
  refine lv_iload_n hx hb dX5_sumOfCosts_24 rfl (lv_at hl 0 rfl) ?_
  refine lv_iconst (v := 1) hx hb dX5_sumOfCosts_25 (by decide) ?_
  refine lv_isub hx hb dX5_sumOfCosts_26 ?_
  refine tpi (v := (-1)) (by decide) ?_
  refine lv_aload_n hx hb dX5_sumOfCosts_27 rfl (lv_at hl 2 rfl) ?_
  refine va_get (D := D) (ci := 7) (v := .ref h1) (C := RX5) (T := TX5) (N := 10) hx hb hts wi_X5_sumOfCosts_RX5 hown hK hP 0 rfl rfl 0 (by decide) (hts _ wd337_X5_sumOfCosts) (fun _ h9 => h9) rfl dX5_sumOfCosts_28 ?_
  refine va_get (D := D) (ci := 2) (v := .int 2) (C := RX0) (T := TX0) (N := 4) hx hb hts wi_X5_sumOfCosts_RX0 hown hK hP 1 rfl rfl 1 (by decide) (hts _ wd338_X5_sumOfCosts) (fun _ h9 => h9) rfl dX5_sumOfCosts_31 ?_
  refine lv_iconst (v := 1) hx hb dX5_sumOfCosts_34 (by decide) ?_
  refine lv_isub hx hb dX5_sumOfCosts_35 ?_
  refine tpi (v := 1) (by decide) ?_
  refine vp_callSi (W.runV (As := [.int (-1), .int 1]) (rest := [.int 2, .ref h2]) ⟨hx, hb, hml, hown, hts⟩ (k_X5_keyUpTo_2 l D κ ε h0 h1 h2 h3 h4 h5 h6 (0) (p0) (p1)) (cwV 2 hts gX5_sumOfCosts_X5_keyUpTo rfl rfl rfl (by decide +kernel) ⟨(Nat.le_of_ble_eq_true rfl), (Nat.le_of_ble_eq_true rfl)⟩) (pre0_V (q0 := 0) (ci := 7) (wc := [(h0, .inr (7, [.ref h1, .ref h2, .ref h3, .ref h4, .ref h5, .ref h6, .int 0, .int p0, .int p1, .int 0]))]) hP hK [0] rfl rfl rfl) rfl rfl hl.1 rfl (lv_room (Nat.le_of_ble_eq_true rfl)) dX5_sumOfCosts_36 ⟨(Nat.le_of_ble_eq_true rfl), (Nat.le_of_ble_eq_true rfl)⟩) (fun r hw => ?_)
  rw [hw]
  have hF := va_free (wc := [(h2, .inr (3, [.ref h1, .int 1, .int p2, .ref h9, .ref h10, .long 0, .int p3])), (h1, .inr (2, [.int 0, .int 2, .ref h7, .ref h8])), (h9, .inl (κ 0, 13, .inl (fun _ => 0))), (h10, .inl (κ 0, 13, .inl (fun _ => 0))), (h7, .inl (κ 3, 4, .inr (.inr (.inr (.inr (sel [h11, h12, h13, h14])))))), (h11, .inr (6, [.ref h15, .ref h16, .int 0])), (h12, .inr (6, [.ref h17, .ref h18, .int 0]))]) hD hS hA [2, 1, 4, 5, 3, 6, 7] rfl
  refine va_callv (va_runV (As := [.int 2, .int 0]) (rest := []) ⟨hx, hb, hml, hown, hts⟩ (k_X1_reckon_2 l D κ ε h2 h1 h9 h10 h7 h8 h11 h12 h13 h14 h15 h16 h17 h18 s.heap.size (p2) (p3) (2)) (cwV 2 hts gX5_sumOfCosts_X1_reckon rfl rfl rfl (by decide +kernel) ⟨(Nat.le_of_ble_eq_true rfl), (Nat.le_of_ble_eq_true rfl)⟩) (pre2_V (q0 := 2) (ci := 3) (wc := [(h2, .inr (3, [.ref h1, .int 1, .int p2, .ref h9, .ref h10, .long 0, .int p3])), (h1, .inr (2, [.int 0, .int 2, .ref h7, .ref h8])), (h9, .inl (κ 0, 13, .inl (fun _ => 0))), (h10, .inl (κ 0, 13, .inl (fun _ => 0))), (h7, .inl (κ 3, 4, .inr (.inr (.inr (.inr (sel [h11, h12, h13, h14])))))), (h11, .inr (6, [.ref h15, .ref h16, .int 0])), (h12, .inr (6, [.ref h17, .ref h18, .int 0]))]) hP hD hK hE9 hS hA [2, 1, 4, 5, 3, 6, 7] (by decide) rfl rfl rfl) rfl rfl hl.1 rfl (lv_room (Nat.le_of_ble_eq_true rfl)) dX5_sumOfCosts_39 ⟨(Nat.le_of_ble_eq_true rfl), (Nat.le_of_ble_eq_true rfl)⟩) hS (fun q _ h => hF q h) hF (fun u1 t H locs ht hvm hw hB hz1 hk1 hS => ?_)
  try dsimp only at hw hB
  obtain ⟨hP1, hD1⟩ := hB
  rw [ht] at hP1
  obtain ⟨hP, hD⟩ := post_j (ws' := [(h0, .inr (7, [.ref h1, .ref h2, .ref h3, .ref h4, .ref h5, .ref h6, .int 0, .int p0, .int p1, .int 0])), (h1, .inr (2, [.int 0, .int 2, .ref h7, .ref h8])), (h2, .inr (3, [.ref h1, .int 1, .int p2, .ref h9, .ref h10, .long 0, .int 0])), (h7, .inl (κ 3, 4, .inr (.inr (.inr (.inr (sel [h11, h12, h13, h14])))))), (h9, .inl (κ 0, 13, .inl (upd (upd (upd (upd (upd (upd (upd (upd (upd (upd (upd (upd (upd (fun _ => 0) 0 1000000) 1 1000000) 2 1000000) 3 1000000) 4 1000000) 5 1000000) 6 1000000) 7 1000000) 8 1000000) 9 1000000) 10 1000000) 11 1000000) 12 1000000))), (h10, .inl (κ 0, 13, .inl (fun _ => 0))), (h11, .inr (6, [.ref h15, .ref h16, .int 0])), (h12, .inr (6, [.ref h17, .ref h18, .int 0]))]) (wr := [(h0, .inr (7, [.ref h1, .ref h2, .ref h3, .ref h4, .ref h5, .ref h6, .int 0, .int p0, .int p1, .int 0]))]) (w1 := [(h2, .inr (3, [.ref h1, .int 1, .int p2, .ref h9, .ref h10, .long 0, .int 0])), (h1, .inr (2, [.int 0, .int 2, .ref h7, .ref h8])), (h9, .inl (κ 0, 13, .inl (upd (upd (upd (upd (upd (upd (upd (upd (upd (upd (upd (upd (upd (fun _ => 0) 0 1000000) 1 1000000) 2 1000000) 3 1000000) 4 1000000) 5 1000000) 6 1000000) 7 1000000) 8 1000000) 9 1000000) 10 1000000) 11 1000000) 12 1000000))), (h10, .inl (κ 0, 13, .inl (fun _ => 0))), (h7, .inl (κ 3, 4, .inr (.inr (.inr (.inr (sel [h11, h12, h13, h14])))))), (h11, .inr (6, [.ref h15, .ref h16, .int 0])), (h12, .inr (6, [.ref h17, .ref h18, .int 0]))]) hP hD hF [2, 1, 4, 5, 3, 6, 7] rfl [0] rfl (by decide) (by decide) hk1 hP1 hD1 [0, 2, 1, 5, 3, 4, 6, 7] (by decide) rfl
  have hP : va_P D vwCl [(h0, .inr (7, [.ref h1, .ref h2, .ref h3, .ref h4, .ref h5, .ref h6, .int 0, .int p0, .int p1, .int 0])), (h1, .inr (2, [.int 0, .int 2, .ref h7, .ref h8])), (h2, .inr (3, [.ref h1, .int 1, .int p2, .ref h9, .ref h10, .long 0, .int 0])), (h7, .inl (κ 3, 4, .inr (.inr (.inr (.inr (sel [h11, h12, h13, h14])))))), (h9, .inl (κ 0, 13, .inl (upd (upd (upd (upd (upd (upd (upd (upd (upd (upd (upd (upd (upd (fun _ => 0) 0 1000000) 1 1000000) 2 1000000) 3 1000000) 4 1000000) 5 1000000) 6 1000000) 7 1000000) 8 1000000) 9 1000000) 10 1000000) 11 1000000) 12 1000000))), (h10, .inl (κ 0, 13, .inl (fun _ => 0))), (h11, .inr (6, [.ref h15, .ref h16, .int 0])), (h12, .inr (6, [.ref h17, .ref h18, .int 0]))] H := hP
  have hD : va_D A [(h0, .inr (7, [.ref h1, .ref h2, .ref h3, .ref h4, .ref h5, .ref h6, .int 0, .int p0, .int p1, .int 0])), (h1, .inr (2, [.int 0, .int 2, .ref h7, .ref h8])), (h2, .inr (3, [.ref h1, .int 1, .int p2, .ref h9, .ref h10, .long 0, .int 0])), (h7, .inl (κ 3, 4, .inr (.inr (.inr (.inr (sel [h11, h12, h13, h14])))))), (h9, .inl (κ 0, 13, .inl (upd (upd (upd (upd (upd (upd (upd (upd (upd (upd (upd (upd (upd (fun _ => 0) 0 1000000) 1 1000000) 2 1000000) 3 1000000) 4 1000000) 5 1000000) 6 1000000) 7 1000000) 8 1000000) 9 1000000) 10 1000000) 11 1000000) 12 1000000))), (h10, .inl (κ 0, 13, .inl (fun _ => 0))), (h11, .inr (6, [.ref h15, .ref h16, .int 0])), (h12, .inr (6, [.ref h17, .ref h18, .int 0]))] := hD
  refine lv_aload_n hx hb dX5_sumOfCosts_42 rfl (lv_at hl 2 rfl) ?_
  refine lv_iload_n hx hb dX5_sumOfCosts_43 rfl (lv_at hl 0 rfl) ?_
  refine vp_callSi (W.runV (As := [.int 0]) (rest := []) ⟨hx, hb, hml, hown, hts⟩ (k_X5_digitAt_0 l D κ ε h0 h1 h2 h3 h4 h5 h6 h7 h8 (p0) (p1) (2)) (cwV 1 hts gX5_sumOfCosts_X5_digitAt rfl rfl rfl (by decide +kernel) ⟨(Nat.le_of_ble_eq_true rfl), (Nat.le_of_ble_eq_true rfl)⟩) (pre0_V (q0 := 0) (ci := 7) (wc := [(h0, .inr (7, [.ref h1, .ref h2, .ref h3, .ref h4, .ref h5, .ref h6, .int 0, .int p0, .int p1, .int 0])), (h1, .inr (2, [.int 0, .int 2, .ref h7, .ref h8]))]) hP hK [0, 1] rfl rfl rfl) rfl rfl hl.1 rfl (lv_room (Nat.le_of_ble_eq_true rfl)) dX5_sumOfCosts_44 ⟨(Nat.le_of_ble_eq_true rfl), (Nat.le_of_ble_eq_true rfl)⟩) (fun r hw => ?_)
  rw [hw]
  refine lv_iconst (v := 1) hx hb dX5_sumOfCosts_47 (by decide) ?_
  refine lv_isub hx hb dX5_sumOfCosts_48 ?_
  refine tpi (v := 0) (by decide) ?_
  refine lv_istore_n (lv' := [(3, .int 0), (2, .int 0), (1, .int 0), (0, .ref h0)]) hx hb dX5_sumOfCosts_49 rfl hl (by decide) rfl (fun ls hl => ?_)
  refine lv_iload_n hx hb dX5_sumOfCosts_50 rfl (lv_at hl 0 rfl) ?_
  refine lv_if_lt (tgt := 75) hx hb dX5_sumOfCosts_51 (by decide) (fun h => absurd h (by decide)) (fun _ => ?_)
  refine lv_iload_n hx hb dX5_sumOfCosts_54 rfl (lv_at hl 0 rfl) ?_
  refine lv_bipush (v := 12) hx hb dX5_sumOfCosts_55 (by decide) ?_
  refine lv_icmp_gt (tgt := 75) hx hb dX5_sumOfCosts_57 (by decide) (fun h => absurd h (by decide)) (fun _ => ?_)
  refine lv_iload_n hx hb dX5_sumOfCosts_60 rfl (lv_at hl 2 rfl) ?_
  refine lv_aload_n hx hb dX5_sumOfCosts_61 rfl (lv_at hl 3 rfl) ?_
  refine va_get (D := D) (ci := 7) (v := .ref h2) (C := RX5) (T := TX5) (N := 10) hx hb hts wi_X5_sumOfCosts_RX5 hown hK hP 0 rfl rfl 1 (by decide) (hts _ wd336_X5_sumOfCosts) (fun _ h9 => h9) rfl dX5_sumOfCosts_62 ?_
  refine va_get (D := D) (ci := 3) (v := .ref h9) (C := RX1) (T := TX1) (N := 7) hx hb hts wi_X5_sumOfCosts_RX1 hown hK hP 2 rfl rfl 3 (by decide) (hts _ wd339_X5_sumOfCosts) (fun _ h9 => h9) rfl dX5_sumOfCosts_65 ?_
  refine lv_iload_n hx hb dX5_sumOfCosts_68 rfl (lv_at hl 0 rfl) ?_
  refine va_iald (cA := κ 0) (n := 13) (f := (upd (upd (upd (upd (upd (upd (upd (upd (upd (upd (upd (upd (upd (fun _ => 0) 0 1000000) 1 1000000) 2 1000000) 3 1000000) 4 1000000) 5 1000000) 6 1000000) 7 1000000) 8 1000000) 9 1000000) 10 1000000) 11 1000000) 12 1000000)) hx hb hK hP 4 0 rfl rfl (vpl (by decide)) dX5_sumOfCosts_69 ?_
  refine tpi (v := 1000000) (by decide) ?_
  refine vp_callSi (W.runS (As := [.int 1000000]) (rest := [.int 0]) ⟨hx, hb, hml, hown, hts⟩ (k_X5_cost_1 l D κ ε) (va_cwS 1 hts gX5_sumOfCosts_X5_cost rfl rfl rfl (by decide +kernel) ⟨(Nat.le_of_ble_eq_true rfl), (Nat.le_of_ble_eq_true rfl)⟩) (pre0_S (wc := []) hP hK [] rfl) rfl rfl hl.1 rfl (lv_room (Nat.le_of_ble_eq_true rfl)) dX5_sumOfCosts_70 ⟨(Nat.le_of_ble_eq_true rfl), (Nat.le_of_ble_eq_true rfl)⟩) (fun r hw => ?_)
  rw [hw]
  refine lv_iadd hx hb dX5_sumOfCosts_73 ?_
  refine tpi (v := 0) (by decide) ?_
  refine lv_istore_n (lv' := [(1, .int 0), (3, .int 0), (2, .int 0), (0, .ref h0)]) hx hb dX5_sumOfCosts_74 rfl hl (by decide) rfl (fun ls hl => ?_)
  refine lv_iinc (v := 1) (lv' := [(2, .int 1), (1, .int 0), (3, .int 0), (0, .ref h0)]) hx hb dX5_sumOfCosts_75 hl (k := 2) rfl (by decide) (by decide) rfl (fun ls hl => ?_)
  refine lv_goto (tgt := 4) hx hb dX5_sumOfCosts_78 (by decide) ?_
  refine lv_iload_n hx hb dX5_sumOfCosts_4 rfl (lv_at hl 0 rfl) ?_
  refine lv_aload_n hx hb dX5_sumOfCosts_5 rfl (lv_at hl 3 rfl) ?_
  refine va_get (D := D) (ci := 7) (v := .int 0) (C := RX5) (T := TX5) (N := 10) hx hb hts wi_X5_sumOfCosts_RX5 hown hK hP 0 rfl rfl 6 (by decide) (hts _ wd335_X5_sumOfCosts) (fun _ h9 => h9) rfl dX5_sumOfCosts_6 ?_
  refine lv_icmp_gt (tgt := 81) hx hb dX5_sumOfCosts_9 (by decide) (fun _ => ?_) (fun h => absurd (by decide) h)
  refine lv_iload_n hx hb dX5_sumOfCosts_81 rfl (lv_at hl 1 rfl) ?_
  have hP9 := hP
  have hD9 := hD
  exact W.iret (v := 0) hx hb hr (fun t ht hW => ⟨⟨0, (), rfl, rfl, by rw [ht]; exact hP9, hD9⟩, hS.F ht⟩) hS.2.2 dX5_sumOfCosts_82

set_option maxHeartbeats 4000000 in
set_option maxRecDepth 100000 in
theorem k_X5_scoreBy_1 (l : Launch) (hst : l.stackTraces = false) (D : va_G) (κ ε : Nat → Nat) (h0 h1 h2 h3 h4 h5 h6 h7 h8 h9 h10 h11 h12 h13 h14 h15 h16 h17 h18 : Nat) (sz : Nat) (p0 : Int32) : vx_Met l yX5_scoreBy wsX5_scoreBy ({ frames := 6, cells := 1, slots := 6, locals := 120 }) (va_Pc [.ref h0, .int 1, .int p0] (Pre2 D κ ε [(h0, .inr (7, [.ref h1, .ref h2, .ref h3, .ref h4, .ref h5, .ref h6, .int 0, .int 0, .int 0, .int 0])), (h1, .inr (2, [.int 0, .int 2, .ref h7, .ref h8])), (h2, .inr (3, [.ref h1, .int 0, .int 500, .ref h9, .ref h10, .long 0, .int 0])), (h7, .inl (κ 3, 4, .inr (.inr (.inr (.inr (sel [h11, h12, h13, h14])))))), (h9, .inl (κ 0, 13, .inl (fun _ => 0))), (h10, .inl (κ 0, 13, .inl (fun _ => 0))), (h11, .inr (6, [.ref h15, .ref h16, .int 0])), (h12, .inr (6, [.ref h17, .ref h18, .int 0]))] sz)) (va_Qi (fun r (u : Unit) => (¬ p0 < 1) ∧ (¬ 1000 < p0) ∧ (r = 0)) (fun _ _ => True) (va_A [(h0, .inr (7, [.ref h1, .ref h2, .ref h3, .ref h4, .ref h5, .ref h6, .int 0, .int 0, .int 0, .int 0])), (h1, .inr (2, [.int 0, .int 2, .ref h7, .ref h8])), (h2, .inr (3, [.ref h1, .int 0, .int 500, .ref h9, .ref h10, .long 0, .int 0])), (h7, .inl (κ 3, 4, .inr (.inr (.inr (.inr (sel [h11, h12, h13, h14])))))), (h9, .inl (κ 0, 13, .inl (fun _ => 0))), (h10, .inl (κ 0, 13, .inl (fun _ => 0))), (h11, .inr (6, [.ref h15, .ref h16, .int 0])), (h12, .inr (6, [.ref h17, .ref h18, .int 0]))] sz)) (vx_X (fun _ : Unit => True) (fun E _ _ => ((p0 < 1) ∧ E = "java/lang/IllegalArgumentException") ∨ ((¬ p0 < 1) ∧ (1000 < p0) ∧ E = "java/lang/IllegalArgumentException")) (va_A [(h0, .inr (7, [.ref h1, .ref h2, .ref h3, .ref h4, .ref h5, .ref h6, .int 0, .int 0, .int 0, .int 0])), (h1, .inr (2, [.int 0, .int 2, .ref h7, .ref h8])), (h2, .inr (3, [.ref h1, .int 0, .int 500, .ref h9, .ref h10, .long 0, .int 0])), (h7, .inl (κ 3, 4, .inr (.inr (.inr (.inr (sel [h11, h12, h13, h14])))))), (h9, .inl (κ 0, 13, .inl (fun _ => 0))), (h10, .inl (κ 0, 13, .inl (fun _ => 0))), (h11, .inr (6, [.ref h15, .ref h16, .int 0])), (h12, .inr (6, [.ref h17, .ref h18, .int 0]))] sz)) 1 6 (va_A [(h0, .inr (7, [.ref h1, .ref h2, .ref h3, .ref h4, .ref h5, .ref h6, .int 0, .int 0, .int 0, .int 0])), (h1, .inr (2, [.int 0, .int 2, .ref h7, .ref h8])), (h2, .inr (3, [.ref h1, .int 0, .int 500, .ref h9, .ref h10, .long 0, .int 0])), (h7, .inl (κ 3, 4, .inr (.inr (.inr (.inr (sel [h11, h12, h13, h14])))))), (h9, .inl (κ 0, 13, .inl (fun _ => 0))), (h10, .inl (κ 0, 13, .inl (fun _ => 0))), (h11, .inr (6, [.ref h15, .ref h16, .int 0])), (h12, .inr (6, [.ref h17, .ref h18, .int 0]))] sz) := by
  refine vx_ofW (cc := cX5_scoreBy) (maxL := 6) (ret := (some .int)) (by decide) rfl ?_
  intro p e s m args below meth c s₁ B hml hnx hv
  obtain ⟨rfl, hsz, hP, hK, hD0, hE9⟩ := hv
  have hx := B.exec
  have hb := B.bytes
  have hr := B.returns
  have hts := atoms_spec (ws := wsX5_scoreBy) B.pre
  have hown : s.vm.findClass RX5 = some m.cls := findClass_of_methodNamed B.named
  have hlocks := B.notSynchronized
  subst hsz
  have hD := hD0.self (sz := s.heap.size)
  generalize hAe : va_A [(h0, .inr (7, [.ref h1, .ref h2, .ref h3, .ref h4, .ref h5, .ref h6, .int 0, .int 0, .int 0, .int 0])), (h1, .inr (2, [.int 0, .int 2, .ref h7, .ref h8])), (h2, .inr (3, [.ref h1, .int 0, .int 500, .ref h9, .ref h10, .long 0, .int 0])), (h7, .inl (κ 3, 4, .inr (.inr (.inr (.inr (sel [h11, h12, h13, h14])))))), (h9, .inl (κ 0, 13, .inl (fun _ => 0))), (h10, .inl (κ 0, 13, .inl (fun _ => 0))), (h11, .inr (6, [.ref h15, .ref h16, .int 0])), (h12, .inr (6, [.ref h17, .ref h18, .int 0]))] s.heap.size = A at hD hE9 ⊢
  have hE := hE9.1
  have hDc := hE9.2
  have hA : ∀ q : Nat, s.heap.size ≤ q → A q := fun q h => by rw [← hAe]; exact Or.inr h
  have hS : va_S A s.heap s.heap [] := va_S.rf
  have hP : va_P D vwCl [(h0, .inr (7, [.ref h1, .ref h2, .ref h3, .ref h4, .ref h5, .ref h6, .int 0, .int 0, .int 0, .int 0])), (h1, .inr (2, [.int 0, .int 2, .ref h7, .ref h8])), (h2, .inr (3, [.ref h1, .int 0, .int 500, .ref h9, .ref h10, .long 0, .int 0])), (h7, .inl (κ 3, 4, .inr (.inr (.inr (.inr (sel [h11, h12, h13, h14])))))), (h9, .inl (κ 0, 13, .inl (fun _ => 0))), (h10, .inl (κ 0, 13, .inl (fun _ => 0))), (h11, .inr (6, [.ref h15, .ref h16, .int 0])), (h12, .inr (6, [.ref h17, .ref h18, .int 0]))] s.heap := hP
  have hl := lv_entry [.ref h0, .int 1, .int p0] (n := 6) (Nat.le_of_ble_eq_true rfl)
  rw [lg_entry_eq]
  generalize (lg_sl [.ref h0, .int 1, .int p0] ++ List.replicate (6 - (lg_sl [.ref h0, .int 1, .int p0]).length) Slot.unset).toArray = ls at hl ⊢
  have hl : lv_has ls 6 [(0, .ref h0), (1, .int 1), (2, .int p0)] := hl
  refine lv_iload_n hx hb dX5_scoreBy_0 rfl (lv_at hl 1 rfl) ?_
  refine lv_iload_n hx hb dX5_scoreBy_1 rfl (lv_at hl 2 rfl) ?_
  refine vp_callSi (W.runS (As := [.int 1, .int p0]) (rest := []) ⟨hx, hb, hml, hown, hts⟩ (k_X5_isWay_2 l D κ ε (p0)) (va_cwS 2 hts gX5_scoreBy_X5_isWay rfl rfl rfl (by decide +kernel) ⟨(Nat.le_of_ble_eq_true rfl), (Nat.le_of_ble_eq_true rfl)⟩) (pre0_S (wc := []) hP hK [] rfl) rfl rfl hl.1 rfl (lv_room (Nat.le_of_ble_eq_true rfl)) dX5_scoreBy_2 ⟨(Nat.le_of_ble_eq_true rfl), (Nat.le_of_ble_eq_true rfl)⟩) (fun r hw => ?_)
  rcases hw with ⟨c1, rfl⟩ | ⟨c2, c3, rfl⟩ | ⟨c4, c5, rfl⟩
  · skip
    refine lv_if_ne (tgt := 18) hx hb dX5_scoreBy_5 (by decide) (fun h => absurd (by decide) h) (fun _ => ?_)
    exact vx_throwS (names := ["java/lang/RuntimeException", "java/lang/Exception"]) (sa := ε 25) hx hb hst hown (by decide +kernel) (by decide +kernel) (hts _ wd420_X5_scoreBy) (hts _ wd421_X5_scoreBy) (hE.2.2.2.2.2.2.1 _ (List.mem_of_getElem? (i := 15) rfl)) (vx_hat (B := [.castable "java/lang/IllegalArgumentException" "java/lang/IllegalArgumentException", .declares (Bundle.initS "java/lang/RuntimeException"), .declares (Bundle.initS "java/lang/Exception"), .declares (Bundle.initS "java/lang/Throwable")]) (fun w hw => hts w (at1_X5_scoreBy_82 w hw)) at2_RX5_82 (vx_c (va_Nw.use rfl hE.2.2.2.2.2.2.2.2.2.2.2.2.2.2.1) (vx_c (va_Nw.use rfl hDc.1) (vx_c (va_Nw.use rfl hDc.2.1) (vx_c (va_Nw.use rfl hDc.2.2) vx_n))))) at2_RX5_82g hE.1 hE.2.1 hS (by rw [hml]; exact hl.1) dX5_scoreBy_8 dX5_scoreBy_11 dX5_scoreBy_12 dX5_scoreBy_14 dX5_scoreBy_17 (fun x hx => (hnx x hx).elim) (by decide) (by decide) (Nat.le_of_ble_eq_true rfl) (Nat.le_of_ble_eq_true rfl) hlocks (fun t _ h1 h2 => ⟨(), trivial, (Or.inl ⟨c1, rfl⟩), thF (H0 := s.heap) hS h1 h2⟩) hS.2.2 (Nat.le_of_ble_eq_true rfl) (Nat.le_of_ble_eq_true rfl)
  · skip
    refine lv_if_ne (tgt := 18) hx hb dX5_scoreBy_5 (by decide) (fun h => absurd (by decide) h) (fun _ => ?_)
    exact vx_throwS (names := ["java/lang/RuntimeException", "java/lang/Exception"]) (sa := ε 25) hx hb hst hown (by decide +kernel) (by decide +kernel) (hts _ wd420_X5_scoreBy) (hts _ wd421_X5_scoreBy) (hE.2.2.2.2.2.2.1 _ (List.mem_of_getElem? (i := 15) rfl)) (vx_hat (B := [.castable "java/lang/IllegalArgumentException" "java/lang/IllegalArgumentException", .declares (Bundle.initS "java/lang/RuntimeException"), .declares (Bundle.initS "java/lang/Exception"), .declares (Bundle.initS "java/lang/Throwable")]) (fun w hw => hts w (at1_X5_scoreBy_82 w hw)) at2_RX5_82 (vx_c (va_Nw.use rfl hE.2.2.2.2.2.2.2.2.2.2.2.2.2.2.1) (vx_c (va_Nw.use rfl hDc.1) (vx_c (va_Nw.use rfl hDc.2.1) (vx_c (va_Nw.use rfl hDc.2.2) vx_n))))) at2_RX5_82g hE.1 hE.2.1 hS (by rw [hml]; exact hl.1) dX5_scoreBy_8 dX5_scoreBy_11 dX5_scoreBy_12 dX5_scoreBy_14 dX5_scoreBy_17 (fun x hx => (hnx x hx).elim) (by decide) (by decide) (Nat.le_of_ble_eq_true rfl) (Nat.le_of_ble_eq_true rfl) hlocks (fun t _ h1 h2 => ⟨(), trivial, (Or.inr ⟨c2, c3, rfl⟩), thF (H0 := s.heap) hS h1 h2⟩) hS.2.2 (Nat.le_of_ble_eq_true rfl) (Nat.le_of_ble_eq_true rfl)
  · skip
    refine lv_if_ne (tgt := 18) hx hb dX5_scoreBy_5 (by decide) (fun _ => ?_) (fun h => absurd h (by decide))
    refine lv_aload_n hx hb dX5_scoreBy_18 rfl (lv_at hl 0 rfl) ?_
    refine va_get (D := D) (ci := 7) (v := .ref h2) (C := RX5) (T := TX5) (N := 10) hx hb hts wi_X5_scoreBy_RX5 hown hK hP 0 rfl rfl 1 (by decide) (hts _ wd422_X5_scoreBy) (fun _ h9 => h9) rfl dX5_scoreBy_19 ?_
    refine va_get (D := D) (ci := 3) (v := .int 0) (C := RX1) (T := TX1) (N := 7) hx hb hts wi_X5_scoreBy_RX1 hown hK hP 2 rfl rfl 1 (by decide) (hts _ wd423_X5_scoreBy) (fun _ h9 => h9) rfl dX5_scoreBy_22 ?_
    refine lv_istore_n (lv' := [(3, .int 0), (0, .ref h0), (1, .int 1), (2, .int p0)]) hx hb dX5_scoreBy_25 rfl hl (by decide) rfl (fun ls hl => ?_)
    refine lv_aload_n hx hb dX5_scoreBy_26 rfl (lv_at hl 1 rfl) ?_
    refine va_get (D := D) (ci := 7) (v := .ref h2) (C := RX5) (T := TX5) (N := 10) hx hb hts wi_X5_scoreBy_RX5 hown hK hP 0 rfl rfl 1 (by decide) (hts _ wd422_X5_scoreBy) (fun _ h9 => h9) rfl dX5_scoreBy_27 ?_
    refine va_get (D := D) (ci := 3) (v := .int 500) (C := RX1) (T := TX1) (N := 7) hx hb hts wi_X5_scoreBy_RX1 hown hK hP 2 rfl rfl 2 (by decide) (hts _ wd424_X5_scoreBy) (fun _ h9 => h9) rfl dX5_scoreBy_30 ?_
    refine lv_istore (lv' := [(4, .int 500), (3, .int 0), (0, .ref h0), (1, .int 1), (2, .int p0)]) hx hb dX5_scoreBy_33 hl (by decide) rfl (fun ls hl => ?_)
    refine lv_aload_n hx hb dX5_scoreBy_35 rfl (lv_at hl 2 rfl) ?_
    refine va_get (D := D) (ci := 7) (v := .ref h2) (C := RX5) (T := TX5) (N := 10) hx hb hts wi_X5_scoreBy_RX5 hown hK hP 0 rfl rfl 1 (by decide) (hts _ wd422_X5_scoreBy) (fun _ h9 => h9) rfl dX5_scoreBy_36 ?_
    refine lv_iload_n hx hb dX5_scoreBy_39 rfl (lv_at hl 3 rfl) ?_
    refine va_put (D := D) (ci := 3) (v := .int 1) (ty := .int) (C := RX1) (T := TX1) (N := 7) hx hb hts wi_X5_scoreBy_RX1 tyX1 tyX1_ok nmX1 hown hK hP hD hS 2 rfl rfl 1 (by decide) (hts _ wd423_X5_scoreBy) (fun _ h9 => h9) rfl (by decide +kernel) rfl rfl (Nat.le_of_ble_eq_true rfl) dX5_scoreBy_40 (fun H locs hP hD hS => ?_)
    have hP : va_P D vwCl [(h0, .inr (7, [.ref h1, .ref h2, .ref h3, .ref h4, .ref h5, .ref h6, .int 0, .int 0, .int 0, .int 0])), (h1, .inr (2, [.int 0, .int 2, .ref h7, .ref h8])), (h2, .inr (3, [.ref h1, .int 1, .int 500, .ref h9, .ref h10, .long 0, .int 0])), (h7, .inl (κ 3, 4, .inr (.inr (.inr (.inr (sel [h11, h12, h13, h14])))))), (h9, .inl (κ 0, 13, .inl (fun _ => 0))), (h10, .inl (κ 0, 13, .inl (fun _ => 0))), (h11, .inr (6, [.ref h15, .ref h16, .int 0])), (h12, .inr (6, [.ref h17, .ref h18, .int 0]))] H := hP
    have hD : va_D A [(h0, .inr (7, [.ref h1, .ref h2, .ref h3, .ref h4, .ref h5, .ref h6, .int 0, .int 0, .int 0, .int 0])), (h1, .inr (2, [.int 0, .int 2, .ref h7, .ref h8])), (h2, .inr (3, [.ref h1, .int 1, .int 500, .ref h9, .ref h10, .long 0, .int 0])), (h7, .inl (κ 3, 4, .inr (.inr (.inr (.inr (sel [h11, h12, h13, h14])))))), (h9, .inl (κ 0, 13, .inl (fun _ => 0))), (h10, .inl (κ 0, 13, .inl (fun _ => 0))), (h11, .inr (6, [.ref h15, .ref h16, .int 0])), (h12, .inr (6, [.ref h17, .ref h18, .int 0]))] := hD
    refine lv_aload_n hx hb dX5_scoreBy_43 rfl (lv_at hl 2 rfl) ?_
    refine va_get (D := D) (ci := 7) (v := .ref h2) (C := RX5) (T := TX5) (N := 10) hx hb hts wi_X5_scoreBy_RX5 hown hK hP 0 rfl rfl 1 (by decide) (hts _ wd422_X5_scoreBy) (fun _ h9 => h9) rfl dX5_scoreBy_44 ?_
    refine lv_iload_n hx hb dX5_scoreBy_47 rfl (lv_at hl 4 rfl) ?_
    refine va_put (D := D) (ci := 3) (v := .int p0) (ty := .int) (C := RX1) (T := TX1) (N := 7) hx hb hts wi_X5_scoreBy_RX1 tyX1 tyX1_ok nmX1 hown hK hP hD hS 2 rfl rfl 2 (by decide) (hts _ wd424_X5_scoreBy) (fun _ h9 => h9) rfl (by decide +kernel) rfl rfl (Nat.le_of_ble_eq_true rfl) dX5_scoreBy_48 (fun H locs hP hD hS => ?_)
    have hP : va_P D vwCl [(h0, .inr (7, [.ref h1, .ref h2, .ref h3, .ref h4, .ref h5, .ref h6, .int 0, .int 0, .int 0, .int 0])), (h1, .inr (2, [.int 0, .int 2, .ref h7, .ref h8])), (h2, .inr (3, [.ref h1, .int 1, .int p0, .ref h9, .ref h10, .long 0, .int 0])), (h7, .inl (κ 3, 4, .inr (.inr (.inr (.inr (sel [h11, h12, h13, h14])))))), (h9, .inl (κ 0, 13, .inl (fun _ => 0))), (h10, .inl (κ 0, 13, .inl (fun _ => 0))), (h11, .inr (6, [.ref h15, .ref h16, .int 0])), (h12, .inr (6, [.ref h17, .ref h18, .int 0]))] H := hP
    have hD : va_D A [(h0, .inr (7, [.ref h1, .ref h2, .ref h3, .ref h4, .ref h5, .ref h6, .int 0, .int 0, .int 0, .int 0])), (h1, .inr (2, [.int 0, .int 2, .ref h7, .ref h8])), (h2, .inr (3, [.ref h1, .int 1, .int p0, .ref h9, .ref h10, .long 0, .int 0])), (h7, .inl (κ 3, 4, .inr (.inr (.inr (.inr (sel [h11, h12, h13, h14])))))), (h9, .inl (κ 0, 13, .inl (fun _ => 0))), (h10, .inl (κ 0, 13, .inl (fun _ => 0))), (h11, .inr (6, [.ref h15, .ref h16, .int 0])), (h12, .inr (6, [.ref h17, .ref h18, .int 0]))] := hD
    refine lv_aload_n hx hb dX5_scoreBy_51 rfl (lv_at hl 2 rfl) ?_
    have hF := va_free (wc := [(h0, .inr (7, [.ref h1, .ref h2, .ref h3, .ref h4, .ref h5, .ref h6, .int 0, .int 0, .int 0, .int 0])), (h1, .inr (2, [.int 0, .int 2, .ref h7, .ref h8])), (h2, .inr (3, [.ref h1, .int 1, .int p0, .ref h9, .ref h10, .long 0, .int 0])), (h7, .inl (κ 3, 4, .inr (.inr (.inr (.inr (sel [h11, h12, h13, h14])))))), (h9, .inl (κ 0, 13, .inl (fun _ => 0))), (h10, .inl (κ 0, 13, .inl (fun _ => 0))), (h11, .inr (6, [.ref h15, .ref h16, .int 0])), (h12, .inr (6, [.ref h17, .ref h18, .int 0]))]) hD hS hA [0, 1, 2, 3, 4, 5, 6, 7] rfl
    refine va_calli (va_runV (As := []) (rest := []) ⟨hx, hb, hml, hown, hts⟩ (k_X5_sumOfCosts_2 l D κ ε h0 h1 h2 h3 h4 h5 h6 h7 h8 h9 h10 h11 h12 h13 h14 h15 h16 h17 h18 H.size (0) (0) (p0) (0)) (cwV 0 hts gX5_scoreBy_X5_sumOfCosts rfl rfl rfl (by decide +kernel) ⟨(Nat.le_of_ble_eq_true rfl), (Nat.le_of_ble_eq_true rfl)⟩) (pre2_V (q0 := 0) (ci := 7) (wc := [(h0, .inr (7, [.ref h1, .ref h2, .ref h3, .ref h4, .ref h5, .ref h6, .int 0, .int 0, .int 0, .int 0])), (h1, .inr (2, [.int 0, .int 2, .ref h7, .ref h8])), (h2, .inr (3, [.ref h1, .int 1, .int p0, .ref h9, .ref h10, .long 0, .int 0])), (h7, .inl (κ 3, 4, .inr (.inr (.inr (.inr (sel [h11, h12, h13, h14])))))), (h9, .inl (κ 0, 13, .inl (fun _ => 0))), (h10, .inl (κ 0, 13, .inl (fun _ => 0))), (h11, .inr (6, [.ref h15, .ref h16, .int 0])), (h12, .inr (6, [.ref h17, .ref h18, .int 0]))]) hP hD hK hE9 hS hA [0, 1, 2, 3, 4, 5, 6, 7] (by decide) rfl rfl rfl) rfl rfl hl.1 rfl (lv_room (Nat.le_of_ble_eq_true rfl)) dX5_scoreBy_52 ⟨(Nat.le_of_ble_eq_true rfl), (Nat.le_of_ble_eq_true rfl)⟩) hS (fun q _ h => hF q h) hF (fun r u6 t H locs ht hvm hw hB hz1 hk1 hS => ?_)
    try dsimp only at hw hB
    obtain ⟨hP1, hD1⟩ := hB
    rw [ht] at hP1
    obtain ⟨hP, hD⟩ := post_j (ws' := [(h0, .inr (7, [.ref h1, .ref h2, .ref h3, .ref h4, .ref h5, .ref h6, .int 0, .int 0, .int 0, .int 0])), (h1, .inr (2, [.int 0, .int 2, .ref h7, .ref h8])), (h2, .inr (3, [.ref h1, .int 1, .int p0, .ref h9, .ref h10, .long 0, .int 0])), (h7, .inl (κ 3, 4, .inr (.inr (.inr (.inr (sel [h11, h12, h13, h14])))))), (h9, .inl (κ 0, 13, .inl (upd (upd (upd (upd (upd (upd (upd (upd (upd (upd (upd (upd (upd (fun _ => 0) 0 1000000) 1 1000000) 2 1000000) 3 1000000) 4 1000000) 5 1000000) 6 1000000) 7 1000000) 8 1000000) 9 1000000) 10 1000000) 11 1000000) 12 1000000))), (h10, .inl (κ 0, 13, .inl (fun _ => 0))), (h11, .inr (6, [.ref h15, .ref h16, .int 0])), (h12, .inr (6, [.ref h17, .ref h18, .int 0]))]) (wr := []) (w1 := [(h0, .inr (7, [.ref h1, .ref h2, .ref h3, .ref h4, .ref h5, .ref h6, .int 0, .int 0, .int 0, .int 0])), (h1, .inr (2, [.int 0, .int 2, .ref h7, .ref h8])), (h2, .inr (3, [.ref h1, .int 1, .int p0, .ref h9, .ref h10, .long 0, .int 0])), (h7, .inl (κ 3, 4, .inr (.inr (.inr (.inr (sel [h11, h12, h13, h14])))))), (h9, .inl (κ 0, 13, .inl (upd (upd (upd (upd (upd (upd (upd (upd (upd (upd (upd (upd (upd (fun _ => 0) 0 1000000) 1 1000000) 2 1000000) 3 1000000) 4 1000000) 5 1000000) 6 1000000) 7 1000000) 8 1000000) 9 1000000) 10 1000000) 11 1000000) 12 1000000))), (h10, .inl (κ 0, 13, .inl (fun _ => 0))), (h11, .inr (6, [.ref h15, .ref h16, .int 0])), (h12, .inr (6, [.ref h17, .ref h18, .int 0]))]) hP hD hF [0, 1, 2, 3, 4, 5, 6, 7] rfl [] rfl (by decide) (by decide) hk1 hP1 hD1 [0, 1, 2, 3, 4, 5, 6, 7] (by decide) rfl
    have hP : va_P D vwCl [(h0, .inr (7, [.ref h1, .ref h2, .ref h3, .ref h4, .ref h5, .ref h6, .int 0, .int 0, .int 0, .int 0])), (h1, .inr (2, [.int 0, .int 2, .ref h7, .ref h8])), (h2, .inr (3, [.ref h1, .int 1, .int p0, .ref h9, .ref h10, .long 0, .int 0])), (h7, .inl (κ 3, 4, .inr (.inr (.inr (.inr (sel [h11, h12, h13, h14])))))), (h9, .inl (κ 0, 13, .inl (upd (upd (upd (upd (upd (upd (upd (upd (upd (upd (upd (upd (upd (fun _ => 0) 0 1000000) 1 1000000) 2 1000000) 3 1000000) 4 1000000) 5 1000000) 6 1000000) 7 1000000) 8 1000000) 9 1000000) 10 1000000) 11 1000000) 12 1000000))), (h10, .inl (κ 0, 13, .inl (fun _ => 0))), (h11, .inr (6, [.ref h15, .ref h16, .int 0])), (h12, .inr (6, [.ref h17, .ref h18, .int 0]))] H := hP
    have hD : va_D A [(h0, .inr (7, [.ref h1, .ref h2, .ref h3, .ref h4, .ref h5, .ref h6, .int 0, .int 0, .int 0, .int 0])), (h1, .inr (2, [.int 0, .int 2, .ref h7, .ref h8])), (h2, .inr (3, [.ref h1, .int 1, .int p0, .ref h9, .ref h10, .long 0, .int 0])), (h7, .inl (κ 3, 4, .inr (.inr (.inr (.inr (sel [h11, h12, h13, h14])))))), (h9, .inl (κ 0, 13, .inl (upd (upd (upd (upd (upd (upd (upd (upd (upd (upd (upd (upd (upd (fun _ => 0) 0 1000000) 1 1000000) 2 1000000) 3 1000000) 4 1000000) 5 1000000) 6 1000000) 7 1000000) 8 1000000) 9 1000000) 10 1000000) 11 1000000) 12 1000000))), (h10, .inl (κ 0, 13, .inl (fun _ => 0))), (h11, .inr (6, [.ref h15, .ref h16, .int 0])), (h12, .inr (6, [.ref h17, .ref h18, .int 0]))] := hD
    rw [hw]
    refine lv_istore (lv' := [(5, .int 0), (4, .int 500), (3, .int 0), (0, .ref h0), (1, .int 1), (2, .int p0)]) hx hb dX5_scoreBy_55 hl (by decide) rfl (fun ls hl => ?_)
    refine lv_aload_n hx hb dX5_scoreBy_57 rfl (lv_at hl 3 rfl) ?_
    refine va_get (D := D) (ci := 7) (v := .ref h2) (C := RX5) (T := TX5) (N := 10) hx hb hts wi_X5_scoreBy_RX5 hown hK hP 0 rfl rfl 1 (by decide) (hts _ wd422_X5_scoreBy) (fun _ h9 => h9) rfl dX5_scoreBy_58 ?_
    refine lv_iload_n hx hb dX5_scoreBy_61 rfl (lv_at hl 2 rfl) ?_
    refine va_put (D := D) (ci := 3) (v := .int 0) (ty := .int) (C := RX1) (T := TX1) (N := 7) hx hb hts wi_X5_scoreBy_RX1 tyX1 tyX1_ok nmX1 hown hK hP hD hS 2 rfl rfl 1 (by decide) (hts _ wd423_X5_scoreBy) (fun _ h9 => h9) rfl (by decide +kernel) rfl rfl (Nat.le_of_ble_eq_true rfl) dX5_scoreBy_62 (fun H locs hP hD hS => ?_)
    have hP : va_P D vwCl [(h0, .inr (7, [.ref h1, .ref h2, .ref h3, .ref h4, .ref h5, .ref h6, .int 0, .int 0, .int 0, .int 0])), (h1, .inr (2, [.int 0, .int 2, .ref h7, .ref h8])), (h2, .inr (3, [.ref h1, .int 0, .int p0, .ref h9, .ref h10, .long 0, .int 0])), (h7, .inl (κ 3, 4, .inr (.inr (.inr (.inr (sel [h11, h12, h13, h14])))))), (h9, .inl (κ 0, 13, .inl (upd (upd (upd (upd (upd (upd (upd (upd (upd (upd (upd (upd (upd (fun _ => 0) 0 1000000) 1 1000000) 2 1000000) 3 1000000) 4 1000000) 5 1000000) 6 1000000) 7 1000000) 8 1000000) 9 1000000) 10 1000000) 11 1000000) 12 1000000))), (h10, .inl (κ 0, 13, .inl (fun _ => 0))), (h11, .inr (6, [.ref h15, .ref h16, .int 0])), (h12, .inr (6, [.ref h17, .ref h18, .int 0]))] H := hP
    have hD : va_D A [(h0, .inr (7, [.ref h1, .ref h2, .ref h3, .ref h4, .ref h5, .ref h6, .int 0, .int 0, .int 0, .int 0])), (h1, .inr (2, [.int 0, .int 2, .ref h7, .ref h8])), (h2, .inr (3, [.ref h1, .int 0, .int p0, .ref h9, .ref h10, .long 0, .int 0])), (h7, .inl (κ 3, 4, .inr (.inr (.inr (.inr (sel [h11, h12, h13, h14])))))), (h9, .inl (κ 0, 13, .inl (upd (upd (upd (upd (upd (upd (upd (upd (upd (upd (upd (upd (upd (fun _ => 0) 0 1000000) 1 1000000) 2 1000000) 3 1000000) 4 1000000) 5 1000000) 6 1000000) 7 1000000) 8 1000000) 9 1000000) 10 1000000) 11 1000000) 12 1000000))), (h10, .inl (κ 0, 13, .inl (fun _ => 0))), (h11, .inr (6, [.ref h15, .ref h16, .int 0])), (h12, .inr (6, [.ref h17, .ref h18, .int 0]))] := hD
    refine lv_aload_n hx hb dX5_scoreBy_65 rfl (lv_at hl 3 rfl) ?_
    refine va_get (D := D) (ci := 7) (v := .ref h2) (C := RX5) (T := TX5) (N := 10) hx hb hts wi_X5_scoreBy_RX5 hown hK hP 0 rfl rfl 1 (by decide) (hts _ wd422_X5_scoreBy) (fun _ h9 => h9) rfl dX5_scoreBy_66 ?_
    refine lv_iload hx hb dX5_scoreBy_69 (lv_at hl 1 rfl) ?_
    refine va_put (D := D) (ci := 3) (v := .int 500) (ty := .int) (C := RX1) (T := TX1) (N := 7) hx hb hts wi_X5_scoreBy_RX1 tyX1 tyX1_ok nmX1 hown hK hP hD hS 2 rfl rfl 2 (by decide) (hts _ wd424_X5_scoreBy) (fun _ h9 => h9) rfl (by decide +kernel) rfl rfl (Nat.le_of_ble_eq_true rfl) dX5_scoreBy_71 (fun H locs hP hD hS => ?_)
    have hP : va_P D vwCl [(h0, .inr (7, [.ref h1, .ref h2, .ref h3, .ref h4, .ref h5, .ref h6, .int 0, .int 0, .int 0, .int 0])), (h1, .inr (2, [.int 0, .int 2, .ref h7, .ref h8])), (h2, .inr (3, [.ref h1, .int 0, .int 500, .ref h9, .ref h10, .long 0, .int 0])), (h7, .inl (κ 3, 4, .inr (.inr (.inr (.inr (sel [h11, h12, h13, h14])))))), (h9, .inl (κ 0, 13, .inl (upd (upd (upd (upd (upd (upd (upd (upd (upd (upd (upd (upd (upd (fun _ => 0) 0 1000000) 1 1000000) 2 1000000) 3 1000000) 4 1000000) 5 1000000) 6 1000000) 7 1000000) 8 1000000) 9 1000000) 10 1000000) 11 1000000) 12 1000000))), (h10, .inl (κ 0, 13, .inl (fun _ => 0))), (h11, .inr (6, [.ref h15, .ref h16, .int 0])), (h12, .inr (6, [.ref h17, .ref h18, .int 0]))] H := hP
    have hD : va_D A [(h0, .inr (7, [.ref h1, .ref h2, .ref h3, .ref h4, .ref h5, .ref h6, .int 0, .int 0, .int 0, .int 0])), (h1, .inr (2, [.int 0, .int 2, .ref h7, .ref h8])), (h2, .inr (3, [.ref h1, .int 0, .int 500, .ref h9, .ref h10, .long 0, .int 0])), (h7, .inl (κ 3, 4, .inr (.inr (.inr (.inr (sel [h11, h12, h13, h14])))))), (h9, .inl (κ 0, 13, .inl (upd (upd (upd (upd (upd (upd (upd (upd (upd (upd (upd (upd (upd (fun _ => 0) 0 1000000) 1 1000000) 2 1000000) 3 1000000) 4 1000000) 5 1000000) 6 1000000) 7 1000000) 8 1000000) 9 1000000) 10 1000000) 11 1000000) 12 1000000))), (h10, .inl (κ 0, 13, .inl (fun _ => 0))), (h11, .inr (6, [.ref h15, .ref h16, .int 0])), (h12, .inr (6, [.ref h17, .ref h18, .int 0]))] := hD
    refine lv_iload hx hb dX5_scoreBy_74 (lv_at hl 0 rfl) ?_
    refine W.widen (k := 1) (n := 6) (Nat.le_of_ble_eq_true rfl) (Nat.le_of_ble_eq_true rfl) ?_
    refine vx_ret ?_
    exact W.iret (v := 0) hx hb hr (fun t ht hW => ⟨⟨0, (), rfl, ⟨c4, c5, rfl⟩, trivial⟩, hS.F ht⟩) hS.2.2 dX5_scoreBy_76

set_option maxHeartbeats 4000000 in
set_option maxRecDepth 100000 in
theorem k_L_scoreBy_1 (l : Launch) (hst : l.stackTraces = false) (D : va_G) (κ ε : Nat → Nat) (h0 h1 h2 h3 h4 h5 h6 h7 h8 h9 h10 h11 h12 h13 h14 h15 h16 h17 h18 h19 : Nat) (sz : Nat) (p0 : Int32) : Met l yL_scoreBy wsL_scoreBy ({ frames := 7, cells := 1, slots := 6, locals := 145 }) (va_Pc [.ref h0, .int 1, .int p0, .ref h1] (Pre2 D κ ε [(h0, .inr (7, [.ref h2, .ref h3, .ref h4, .ref h5, .ref h6, .ref h7, .int 0, .int 0, .int 0, .int 0])), (h1, .inl (κ 2, 1, .inr (.inl (fun _ => 0)))), (h2, .inr (2, [.int 0, .int 2, .ref h8, .ref h9])), (h3, .inr (3, [.ref h2, .int 0, .int 500, .ref h10, .ref h11, .long 0, .int 0])), (h8, .inl (κ 3, 4, .inr (.inr (.inr (.inr (sel [h12, h13, h14, h15])))))), (h10, .inl (κ 0, 13, .inl (fun _ => 0))), (h11, .inl (κ 0, 13, .inl (fun _ => 0))), (h12, .inr (6, [.ref h16, .ref h17, .int 0])), (h13, .inr (6, [.ref h18, .ref h19, .int 0]))] sz)) (va_Qi (fun r (u : Nat → Int64) => ((p0 < 1) ∧ (r = 1)) ∨ ((¬ p0 < 1) ∧ (1000 < p0) ∧ (r = 1)) ∨ ((¬ p0 < 1) ∧ (¬ 1000 < p0) ∧ (u 0 = 0) ∧ (r = 0))) (fun u t => va_P D vwCl [(h1, .inl (κ 2, 1, .inr (.inl u)))] t.heap ∧ va_D (va_A [(h0, .inr (7, [.ref h2, .ref h3, .ref h4, .ref h5, .ref h6, .ref h7, .int 0, .int 0, .int 0, .int 0])), (h1, .inl (κ 2, 1, .inr (.inl (fun _ => 0)))), (h2, .inr (2, [.int 0, .int 2, .ref h8, .ref h9])), (h3, .inr (3, [.ref h2, .int 0, .int 500, .ref h10, .ref h11, .long 0, .int 0])), (h8, .inl (κ 3, 4, .inr (.inr (.inr (.inr (sel [h12, h13, h14, h15])))))), (h10, .inl (κ 0, 13, .inl (fun _ => 0))), (h11, .inl (κ 0, 13, .inl (fun _ => 0))), (h12, .inr (6, [.ref h16, .ref h17, .int 0])), (h13, .inr (6, [.ref h18, .ref h19, .int 0]))] sz) [(h1, .inl (κ 2, 1, .inr (.inl u)))]) (va_A [(h0, .inr (7, [.ref h2, .ref h3, .ref h4, .ref h5, .ref h6, .ref h7, .int 0, .int 0, .int 0, .int 0])), (h1, .inl (κ 2, 1, .inr (.inl (fun _ => 0)))), (h2, .inr (2, [.int 0, .int 2, .ref h8, .ref h9])), (h3, .inr (3, [.ref h2, .int 0, .int 500, .ref h10, .ref h11, .long 0, .int 0])), (h8, .inl (κ 3, 4, .inr (.inr (.inr (.inr (sel [h12, h13, h14, h15])))))), (h10, .inl (κ 0, 13, .inl (fun _ => 0))), (h11, .inl (κ 0, 13, .inl (fun _ => 0))), (h12, .inr (6, [.ref h16, .ref h17, .int 0])), (h13, .inr (6, [.ref h18, .ref h19, .int 0]))] sz)) 1 6 (va_A [(h0, .inr (7, [.ref h2, .ref h3, .ref h4, .ref h5, .ref h6, .ref h7, .int 0, .int 0, .int 0, .int 0])), (h1, .inl (κ 2, 1, .inr (.inl (fun _ => 0)))), (h2, .inr (2, [.int 0, .int 2, .ref h8, .ref h9])), (h3, .inr (3, [.ref h2, .int 0, .int 500, .ref h10, .ref h11, .long 0, .int 0])), (h8, .inl (κ 3, 4, .inr (.inr (.inr (.inr (sel [h12, h13, h14, h15])))))), (h10, .inl (κ 0, 13, .inl (fun _ => 0))), (h11, .inl (κ 0, 13, .inl (fun _ => 0))), (h12, .inr (6, [.ref h16, .ref h17, .int 0])), (h13, .inr (6, [.ref h18, .ref h19, .int 0]))] sz) := by
  refine va_MetW (cc := cL_scoreBy) (maxL := 5) (ret := (some .int)) (hh := [(0, 10, 13, 19)]) (by decide) rfl ?_
  intro p e s m args below meth c s₁ B hml hv
  obtain ⟨rfl, hsz, hP, hK, hD0, hE9⟩ := hv
  have hx := B.exec
  have hb := B.bytes
  have hr := B.returns
  have hts := atoms_spec (ws := wsL_scoreBy) B.pre
  have hown : s.vm.findClass RL = some m.cls := findClass_of_methodNamed B.named
  have hlocks := B.notSynchronized
  have htab : c.exceptionTable.toList = tableOf [(0, 10, 13, 19)] := vx_table (x := yL_scoreBy) B (hts (.codeWith yL_scoreBy cL_scoreBy 5 (some .int) [(0, 10, 13, 19)]) List.mem_cons_self)
  subst hsz
  have hD := hD0.self (sz := s.heap.size)
  generalize hAe : va_A [(h0, .inr (7, [.ref h2, .ref h3, .ref h4, .ref h5, .ref h6, .ref h7, .int 0, .int 0, .int 0, .int 0])), (h1, .inl (κ 2, 1, .inr (.inl (fun _ => 0)))), (h2, .inr (2, [.int 0, .int 2, .ref h8, .ref h9])), (h3, .inr (3, [.ref h2, .int 0, .int 500, .ref h10, .ref h11, .long 0, .int 0])), (h8, .inl (κ 3, 4, .inr (.inr (.inr (.inr (sel [h12, h13, h14, h15])))))), (h10, .inl (κ 0, 13, .inl (fun _ => 0))), (h11, .inl (κ 0, 13, .inl (fun _ => 0))), (h12, .inr (6, [.ref h16, .ref h17, .int 0])), (h13, .inr (6, [.ref h18, .ref h19, .int 0]))] s.heap.size = A at hD hE9 ⊢
  have hE := hE9.1
  have hDc := hE9.2
  have hA : ∀ q : Nat, s.heap.size ≤ q → A q := fun q h => by rw [← hAe]; exact Or.inr h
  have hS : va_S A s.heap s.heap [] := va_S.rf
  have hP : va_P D vwCl [(h0, .inr (7, [.ref h2, .ref h3, .ref h4, .ref h5, .ref h6, .ref h7, .int 0, .int 0, .int 0, .int 0])), (h1, .inl (κ 2, 1, .inr (.inl (fun _ => 0)))), (h2, .inr (2, [.int 0, .int 2, .ref h8, .ref h9])), (h3, .inr (3, [.ref h2, .int 0, .int 500, .ref h10, .ref h11, .long 0, .int 0])), (h8, .inl (κ 3, 4, .inr (.inr (.inr (.inr (sel [h12, h13, h14, h15])))))), (h10, .inl (κ 0, 13, .inl (fun _ => 0))), (h11, .inl (κ 0, 13, .inl (fun _ => 0))), (h12, .inr (6, [.ref h16, .ref h17, .int 0])), (h13, .inr (6, [.ref h18, .ref h19, .int 0]))] s.heap := hP
  have hl := lv_entry [.ref h0, .int 1, .int p0, .ref h1] (n := 5) (Nat.le_of_ble_eq_true rfl)
  rw [lg_entry_eq]
  generalize (lg_sl [.ref h0, .int 1, .int p0, .ref h1] ++ List.replicate (5 - (lg_sl [.ref h0, .int 1, .int p0, .ref h1]).length) Slot.unset).toArray = ls at hl ⊢
  have hl : lv_has ls 5 [(0, .ref h0), (1, .int 1), (2, .int p0), (3, .ref h1)] := hl
  refine lv_aload_n hx hb dL_scoreBy_0 rfl (lv_at hl 3 rfl) ?_
  refine lv_iconst (v := 0) hx hb dL_scoreBy_1 (by decide) ?_
  refine lv_aload_n hx hb dL_scoreBy_2 rfl (lv_at hl 0 rfl) ?_
  refine lv_iload_n hx hb dL_scoreBy_3 rfl (lv_at hl 1 rfl) ?_
  refine lv_iload_n hx hb dL_scoreBy_4 rfl (lv_at hl 2 rfl) ?_
  have hF := va_free (wc := [(h0, .inr (7, [.ref h2, .ref h3, .ref h4, .ref h5, .ref h6, .ref h7, .int 0, .int 0, .int 0, .int 0])), (h2, .inr (2, [.int 0, .int 2, .ref h8, .ref h9])), (h3, .inr (3, [.ref h2, .int 0, .int 500, .ref h10, .ref h11, .long 0, .int 0])), (h8, .inl (κ 3, 4, .inr (.inr (.inr (.inr (sel [h12, h13, h14, h15])))))), (h10, .inl (κ 0, 13, .inl (fun _ => 0))), (h11, .inl (κ 0, 13, .inl (fun _ => 0))), (h12, .inr (6, [.ref h16, .ref h17, .int 0])), (h13, .inr (6, [.ref h18, .ref h19, .int 0]))]) hD hS hA [0, 2, 3, 4, 5, 6, 7, 8] rfl
  refine vx_calli (vx_runV (As := [.int 1, .int p0]) (rest := [.int 0, .ref h1]) ⟨hx, hb, hml, hown, hts⟩ (k_X5_scoreBy_1 l hst D κ ε h0 h2 h3 h4 h5 h6 h7 h8 h9 h10 h11 h12 h13 h14 h15 h16 h17 h18 h19 s.heap.size (p0)) (cwV 2 hts gL_scoreBy_X5_scoreBy rfl rfl rfl (by decide +kernel) ⟨(Nat.le_of_ble_eq_true rfl), (Nat.le_of_ble_eq_true rfl)⟩) (pre2_V (q0 := 0) (ci := 7) (wc := [(h0, .inr (7, [.ref h2, .ref h3, .ref h4, .ref h5, .ref h6, .ref h7, .int 0, .int 0, .int 0, .int 0])), (h2, .inr (2, [.int 0, .int 2, .ref h8, .ref h9])), (h3, .inr (3, [.ref h2, .int 0, .int 500, .ref h10, .ref h11, .long 0, .int 0])), (h8, .inl (κ 3, 4, .inr (.inr (.inr (.inr (sel [h12, h13, h14, h15])))))), (h10, .inl (κ 0, 13, .inl (fun _ => 0))), (h11, .inl (κ 0, 13, .inl (fun _ => 0))), (h12, .inr (6, [.ref h16, .ref h17, .int 0])), (h13, .inr (6, [.ref h18, .ref h19, .int 0]))]) hP hD hK hE9 hS hA [0, 2, 3, 4, 5, 6, 7, 8] (by decide) rfl rfl rfl) rfl rfl hl.1 rfl (lv_room (Nat.le_of_ble_eq_true rfl)) dL_scoreBy_5 ⟨(Nat.le_of_ble_eq_true rfl), (Nat.le_of_ble_eq_true rfl)⟩) hS (fun q _ h => hF q h) hF (fun q _ h => hF q h) (fun E9 ce q9 u t H locs ht hvm hw hB hz1 hk1 hS hce hcv hcl => ?_) (fun r u t H locs ht hvm hw hB hz1 hk1 hS => ?_)
  · try dsimp only at hB
    have hP1 : va_P D vwCl [] H := P_nil
    obtain ⟨hP, hD⟩ := post_j (ws' := [(h1, .inl (κ 2, 1, .inr (.inl (fun _ => 0))))]) (wr := [(h1, .inl (κ 2, 1, .inr (.inl (fun _ => 0))))]) (w1 := []) hP hD hF [0, 2, 3, 4, 5, 6, 7, 8] rfl [1] rfl (by decide) (by decide) hk1 hP1 D_nil [0] (by decide) rfl
    have hP : va_P D vwCl [(h1, .inl (κ 2, 1, .inr (.inl (fun _ => 0))))] H := hP
    have hD : va_D A [(h1, .inl (κ 2, 1, .inr (.inl (fun _ => 0))))] := hD
    rcases hB with ⟨c2, rfl⟩ | ⟨c3, c4, rfl⟩
    · skip
      refine vx_catch (name := "java/lang/IllegalArgumentException") hown [] ⟨0, 10, 13, 19⟩ [] (htab.trans rfl) (fun z hz => nomatch hz) (by decide) (by decide) (hts _ wd425_L_scoreBy) (va_Nw.use rfl hE.2.2.2.2.2.2.2.2.2.2.2.2.2.2.1) hce hcv hcl ?_
      refine lv_astore (lv' := [(4, .ref q9), (0, .ref h0), (1, .int 1), (2, .int p0), (3, .ref h1)]) hx hb dL_scoreBy_13 hl (by decide) rfl (fun ls hl => ?_)
      refine lv_iconst (v := 1) hx hb dL_scoreBy_15 (by decide) ?_
      have hP9 := hP.sub (ws' := [(h1, .inl (κ 2, 1, .inr (.inl (fun _ => 0))))]) [0] rfl
      have hD9 := hD.sub (ws' := [(h1, .inl (κ 2, 1, .inr (.inl (fun _ => 0))))]) [0] (by decide) rfl
      refine W.widen (k := 1) (n := 6) (Nat.le_of_ble_eq_true rfl) (Nat.le_of_ble_eq_true rfl) ?_
      exact W.iret (v := 1) hx hb hr (fun t ht hW => ⟨⟨1, (fun _ => 0), rfl, (Or.inl ⟨c2, rfl⟩), by rw [ht]; exact hP9, hD9⟩, hS.F ht⟩) hS.2.2 dL_scoreBy_16
    · skip
      refine vx_catch (name := "java/lang/IllegalArgumentException") hown [] ⟨0, 10, 13, 19⟩ [] (htab.trans rfl) (fun z hz => nomatch hz) (by decide) (by decide) (hts _ wd425_L_scoreBy) (va_Nw.use rfl hE.2.2.2.2.2.2.2.2.2.2.2.2.2.2.1) hce hcv hcl ?_
      refine lv_astore (lv' := [(4, .ref q9), (0, .ref h0), (1, .int 1), (2, .int p0), (3, .ref h1)]) hx hb dL_scoreBy_13 hl (by decide) rfl (fun ls hl => ?_)
      refine lv_iconst (v := 1) hx hb dL_scoreBy_15 (by decide) ?_
      have hP9 := hP.sub (ws' := [(h1, .inl (κ 2, 1, .inr (.inl (fun _ => 0))))]) [0] rfl
      have hD9 := hD.sub (ws' := [(h1, .inl (κ 2, 1, .inr (.inl (fun _ => 0))))]) [0] (by decide) rfl
      refine W.widen (k := 1) (n := 6) (Nat.le_of_ble_eq_true rfl) (Nat.le_of_ble_eq_true rfl) ?_
      exact W.iret (v := 1) hx hb hr (fun t ht hW => ⟨⟨1, (fun _ => 0), rfl, (Or.inr (Or.inl ⟨c3, c4, rfl⟩)), by rw [ht]; exact hP9, hD9⟩, hS.F ht⟩) hS.2.2 dL_scoreBy_16
  · try dsimp only at hw hB
    have hP1 : va_P D vwCl [] H := P_nil
    obtain ⟨hP, hD⟩ := post_j (ws' := [(h1, .inl (κ 2, 1, .inr (.inl (fun _ => 0))))]) (wr := [(h1, .inl (κ 2, 1, .inr (.inl (fun _ => 0))))]) (w1 := []) hP hD hF [0, 2, 3, 4, 5, 6, 7, 8] rfl [1] rfl (by decide) (by decide) hk1 hP1 D_nil [0] (by decide) rfl
    have hP : va_P D vwCl [(h1, .inl (κ 2, 1, .inr (.inl (fun _ => 0))))] H := hP
    have hD : va_D A [(h1, .inl (κ 2, 1, .inr (.inl (fun _ => 0))))] := hD
    obtain ⟨c5, c6, rfl⟩ := hw
    refine lv_i2l (v := 0) hx hb dL_scoreBy_8 (by decide) ?_
    refine va_last (cA := κ 2) (n := 1) (f := (fun _ => 0)) hx hb hK hP hD hS 0 2 rfl rfl (vpl (by decide)) dL_scoreBy_9 (fun H locs hP hD hS => ?_)
    have hP : va_P D vwCl [(h1, .inl (κ 2, 1, .inr (.inl (vp_updL (fun _ => 0) 0 0))))] H := hP
    have hD : va_D A [(h1, .inl (κ 2, 1, .inr (.inl (vp_updL (fun _ => 0) 0 0))))] := hD
    refine lv_goto (tgt := 17) hx hb dL_scoreBy_10 (by decide) ?_
    refine lv_iconst (v := 0) hx hb dL_scoreBy_17 (by decide) ?_
    have hP9 := hP.sub (ws' := [(h1, .inl (κ 2, 1, .inr (.inl (vp_updL (fun _ => 0) 0 0))))]) [0] rfl
    have hD9 := hD.sub (ws' := [(h1, .inl (κ 2, 1, .inr (.inl (vp_updL (fun _ => 0) 0 0))))]) [0] (by decide) rfl
    refine W.widen (k := 1) (n := 6) (Nat.le_of_ble_eq_true rfl) (Nat.le_of_ble_eq_true rfl) ?_
    exact W.iret (v := 0) hx hb hr (fun t ht hW => ⟨⟨0, (vp_updL (fun _ => 0) 0 0), rfl, (Or.inr (Or.inr ⟨c5, c6, rfl, rfl⟩)), by rw [ht]; exact hP9, hD9⟩, hS.F ht⟩) hS.2.2 dL_scoreBy_18

set_option maxHeartbeats 4000000 in
set_option maxRecDepth 100000 in
theorem k_X6_isIn_51 (l : Launch) (D : va_G) (κ ε : Nat → Nat) : Met l yX6_isIn wsX6_isIn ({ frames := 0, cells := 0, slots := 0, locals := 0 }) (va_Pc [.int 1, .int 0, .int 4] (Pre0 D κ [])) (vp_Si (fun r => (r = 1))) 0 0 (fun _ => False) := by
  refine Met.ofW (cc := cX6_isIn) (maxL := 3) (ret := (some .boolean)) (by decide) rfl ?_
  intro p e s m args below meth c s₁ B hml hv
  obtain ⟨rfl, hP, hK⟩ := hv
  have hx := B.exec
  have hb := B.bytes
  have hr := B.returns
  have hts := atoms_spec (ws := wsX6_isIn) B.pre
  have hown : s.vm.findClass RX6 = some m.cls := findClass_of_methodNamed B.named
  have hlocks := B.notSynchronized
  have hP : va_P D vwCl [] s.heap := hP
  have hl := lv_entry [.int 1, .int 0, .int 4] (n := 3) (Nat.le_of_ble_eq_true rfl)
  rw [lg_entry_eq]
  generalize (lg_sl [.int 1, .int 0, .int 4] ++ List.replicate (3 - (lg_sl [.int 1, .int 0, .int 4]).length) Slot.unset).toArray = ls at hl ⊢
  have hl : lv_has ls 3 [(0, .int 1), (1, .int 0), (2, .int 4)] := hl
  refine lv_iload_n hx hb dX6_isIn_0 rfl (lv_at hl 0 rfl) ?_
  refine lv_iload_n hx hb dX6_isIn_1 rfl (lv_at hl 1 rfl) ?_
  refine lv_icmp_lt (tgt := 14) hx hb dX6_isIn_2 (by decide) (fun h => absurd h (by decide)) (fun _ => ?_)
  refine lv_iload_n hx hb dX6_isIn_5 rfl (lv_at hl 0 rfl) ?_
  refine lv_iload_n hx hb dX6_isIn_6 rfl (lv_at hl 2 rfl) ?_
  refine lv_icmp_gt (tgt := 14) hx hb dX6_isIn_7 (by decide) (fun h => absurd h (by decide)) (fun _ => ?_)
  refine lv_iconst (v := 1) hx hb dX6_isIn_10 (by decide) ?_
  refine lv_goto (tgt := 15) hx hb dX6_isIn_11 (by decide) ?_
  exact W.zret (v := 1) hx hb hr rfl (fun t ht hW => ⟨1, rfl, rfl, ht⟩) (fun q hq => absurd hq List.not_mem_nil) dX6_isIn_15

set_option maxHeartbeats 4000000 in
set_option maxRecDepth 100000 in
theorem k_X6_scoreBy_3 (l : Launch) (D : va_G) (κ ε : Nat → Nat) (h0 h1 h2 h3 : Nat) (sz : Nat) (p0 : Int32) (hf0 : p0 < 1) : Met l yX6_scoreBy wsX6_scoreBy ({ frames := 2, cells := 0, slots := 0, locals := 44 }) (va_Pc [.ref h0, .int 1, .int p0] (Pre2 D κ ε [(h0, .inr (8, [.int 0, .int 0, .int 2, .ref h1, .ref h2, .int 0, .int 500, .int 0, .int 0, .int 0, .ref h3]))] sz)) (va_Qi (fun r (u : List Value) => (u[0]? = some (.int 1)) ∧ (r = 0)) (fun u t => va_P D vwCl [(h0, .inr (8, u))] t.heap ∧ va_D (va_A [(h0, .inr (8, [.int 0, .int 0, .int 2, .ref h1, .ref h2, .int 0, .int 500, .int 0, .int 0, .int 0, .ref h3]))] sz) [(h0, .inr (8, u))]) (va_A [(h0, .inr (8, [.int 0, .int 0, .int 2, .ref h1, .ref h2, .int 0, .int 500, .int 0, .int 0, .int 0, .ref h3]))] sz)) 0 0 (va_A [(h0, .inr (8, [.int 0, .int 0, .int 2, .ref h1, .ref h2, .int 0, .int 500, .int 0, .int 0, .int 0, .ref h3]))] sz) := by
  refine Met.ofW (cc := cX6_scoreBy) (maxL := 3) (ret := (some .int)) (by decide) rfl ?_
  intro p e s m args below meth c s₁ B hml hv
  obtain ⟨rfl, hsz, hP, hK, hD0, hE9⟩ := hv
  have hx := B.exec
  have hb := B.bytes
  have hr := B.returns
  have hts := atoms_spec (ws := wsX6_scoreBy) B.pre
  have hown : s.vm.findClass RX6 = some m.cls := findClass_of_methodNamed B.named
  have hlocks := B.notSynchronized
  subst hsz
  have hD := hD0.self (sz := s.heap.size)
  generalize hAe : va_A [(h0, .inr (8, [.int 0, .int 0, .int 2, .ref h1, .ref h2, .int 0, .int 500, .int 0, .int 0, .int 0, .ref h3]))] s.heap.size = A at hD hE9 ⊢
  have hE := hE9.1
  have hDc := hE9.2
  have hA : ∀ q : Nat, s.heap.size ≤ q → A q := fun q h => by rw [← hAe]; exact Or.inr h
  have hS : va_S A s.heap s.heap [] := va_S.rf
  have hP : va_P D vwCl [(h0, .inr (8, [.int 0, .int 0, .int 2, .ref h1, .ref h2, .int 0, .int 500, .int 0, .int 0, .int 0, .ref h3]))] s.heap := hP
  have hl := lv_entry [.ref h0, .int 1, .int p0] (n := 3) (Nat.le_of_ble_eq_true rfl)
  rw [lg_entry_eq]
  generalize (lg_sl [.ref h0, .int 1, .int p0] ++ List.replicate (3 - (lg_sl [.ref h0, .int 1, .int p0]).length) Slot.unset).toArray = ls at hl ⊢
  have hl : lv_has ls 3 [(0, .ref h0), (1, .int 1), (2, .int p0)] := hl
  refine lv_aload_n hx hb dX6_scoreBy_0 rfl (lv_at hl 0 rfl) ?_
  refine lv_iload_n hx hb dX6_scoreBy_1 rfl (lv_at hl 1 rfl) ?_
  refine lv_iconst (v := 0) hx hb dX6_scoreBy_2 (by decide) ?_
  refine lv_iconst (v := 4) hx hb dX6_scoreBy_3 (by decide) ?_
  refine vp_callSi (W.runS (As := [.int 1, .int 0, .int 4]) (rest := [.ref h0]) ⟨hx, hb, hml, hown, hts⟩ (k_X6_isIn_51 l D κ ε) (va_cwS 3 hts gX6_scoreBy_X6_isIn rfl rfl rfl (by decide +kernel) ⟨(Nat.le_of_ble_eq_true rfl), (Nat.le_of_ble_eq_true rfl)⟩) (pre0_S (wc := []) hP hK [] rfl) rfl rfl hl.1 rfl (lv_room (Nat.le_of_ble_eq_true rfl)) dX6_scoreBy_4 ⟨(Nat.le_of_ble_eq_true rfl), (Nat.le_of_ble_eq_true rfl)⟩) (fun r hw => ?_)
  rw [hw]
  refine lv_if_eq (tgt := 21) hx hb dX6_scoreBy_7 (by decide) (fun h => absurd h (by decide)) (fun _ => ?_)
  refine lv_iload_n hx hb dX6_scoreBy_10 rfl (lv_at hl 2 rfl) ?_
  refine lv_iconst (v := 1) hx hb dX6_scoreBy_11 (by decide) ?_
  refine lv_sipush (v := 1000) hx hb dX6_scoreBy_12 (by decide) ?_
  refine vp_callSi (W.runS (As := [.int p0, .int 1, .int 1000]) (rest := [.ref h0]) ⟨hx, hb, hml, hown, hts⟩ (k_X6_isIn_17 l D κ ε (p0) hf0) (va_cwS 3 hts gX6_scoreBy_X6_isIn rfl rfl rfl (by decide +kernel) ⟨(Nat.le_of_ble_eq_true rfl), (Nat.le_of_ble_eq_true rfl)⟩) (pre0_S (wc := []) hP hK [] rfl) rfl rfl hl.1 rfl (lv_room (Nat.le_of_ble_eq_true rfl)) dX6_scoreBy_15 ⟨(Nat.le_of_ble_eq_true rfl), (Nat.le_of_ble_eq_true rfl)⟩) (fun r hw => ?_)
  rw [hw]
  refine lv_if_ne (tgt := 25) hx hb dX6_scoreBy_18 (by decide) (fun h => absurd (by decide) h) (fun _ => ?_)
  refine lv_iconst (v := 1) hx hb dX6_scoreBy_21 (by decide) ?_
  refine lv_goto (tgt := 26) hx hb dX6_scoreBy_22 (by decide) ?_
  refine lv_iconst (v := 1) hx hb dX6_scoreBy_26 (by decide) ?_
  have hF := va_free (wc := [(h0, .inr (8, [.int 0, .int 0, .int 2, .ref h1, .ref h2, .int 0, .int 500, .int 0, .int 0, .int 0, .ref h3]))]) hD hS hA [0] rfl
  refine va_calli (va_runV (As := [.int 1, .int 1]) (rest := []) ⟨hx, hb, hml, hown, hts⟩ (k_X6_start_1 l D κ ε h0 h1 h2 h3 s.heap.size (0) (2) (0) (500) (0) (0)) (cwV 2 hts gX6_scoreBy_X6_start rfl rfl rfl (by decide +kernel) ⟨(Nat.le_of_ble_eq_true rfl), (Nat.le_of_ble_eq_true rfl)⟩) (pre2_V (q0 := 0) (ci := 8) (wc := [(h0, .inr (8, [.int 0, .int 0, .int 2, .ref h1, .ref h2, .int 0, .int 500, .int 0, .int 0, .int 0, .ref h3]))]) hP hD hK hE9 hS hA [0] (by decide) rfl rfl rfl) rfl rfl hl.1 rfl (lv_room (Nat.le_of_ble_eq_true rfl)) dX6_scoreBy_27 ⟨(Nat.le_of_ble_eq_true rfl), (Nat.le_of_ble_eq_true rfl)⟩) hS (fun q _ h => hF q h) hF (fun r u1 t H locs ht hvm hw hB hz1 hk1 hS => ?_)
  try dsimp only at hw hB
  obtain ⟨hP1, hD1⟩ := hB
  rw [ht] at hP1
  obtain ⟨hP, hD⟩ := post_j (ws' := [(h0, .inr (8, [.int 1, .int 0, .int 2, .ref h1, .ref h2, .int 0, .int 500, .int 0, .int 0, .int 0, .ref h3]))]) (wr := []) (w1 := [(h0, .inr (8, [.int 1, .int 0, .int 2, .ref h1, .ref h2, .int 0, .int 500, .int 0, .int 0, .int 0, .ref h3]))]) hP hD hF [0] rfl [] rfl (by decide) (by decide) hk1 hP1 hD1 [0] (by decide) rfl
  have hP : va_P D vwCl [(h0, .inr (8, [.int 1, .int 0, .int 2, .ref h1, .ref h2, .int 0, .int 500, .int 0, .int 0, .int 0, .ref h3]))] H := hP
  have hD : va_D A [(h0, .inr (8, [.int 1, .int 0, .int 2, .ref h1, .ref h2, .int 0, .int 500, .int 0, .int 0, .int 0, .ref h3]))] := hD
  rw [hw]
  refine lv_if_eq (tgt := 37) hx hb dX6_scoreBy_30 (by decide) (fun h => absurd h (by decide)) (fun _ => ?_)
  refine lv_iconst (v := 0) hx hb dX6_scoreBy_33 (by decide) ?_
  refine lv_goto (tgt := 47) hx hb dX6_scoreBy_34 (by decide) ?_
  have hP9 := hP.sub (ws' := [(h0, .inr (8, [.int 1, .int 0, .int 2, .ref h1, .ref h2, .int 0, .int 500, .int 0, .int 0, .int 0, .ref h3]))]) [0] rfl
  have hD9 := hD.sub (ws' := [(h0, .inr (8, [.int 1, .int 0, .int 2, .ref h1, .ref h2, .int 0, .int 500, .int 0, .int 0, .int 0, .ref h3]))]) [0] (by decide) rfl
  exact W.iret (v := 0) hx hb hr (fun t ht hW => ⟨⟨0, [.int 1, .int 0, .int 2, .ref h1, .ref h2, .int 0, .int 500, .int 0, .int 0, .int 0, .ref h3], rfl, ⟨rfl, rfl⟩, by rw [ht]; exact hP9, hD9⟩, hS.F ht⟩) hS.2.2 dX6_scoreBy_47

set_option maxHeartbeats 4000000 in
set_option maxRecDepth 100000 in
theorem k_X6_scoreBy_4 (l : Launch) (D : va_G) (κ ε : Nat → Nat) (h0 h1 h2 h3 : Nat) (sz : Nat) (p0 : Int32) (hf0 : ¬ p0 < 1) (hf1 : 1000 < p0) : Met l yX6_scoreBy wsX6_scoreBy ({ frames := 2, cells := 0, slots := 0, locals := 44 }) (va_Pc [.ref h0, .int 1, .int p0] (Pre2 D κ ε [(h0, .inr (8, [.int 0, .int 0, .int 2, .ref h1, .ref h2, .int 0, .int 500, .int 0, .int 0, .int 0, .ref h3]))] sz)) (va_Qi (fun r (u : List Value) => (u[0]? = some (.int 1)) ∧ (r = 0)) (fun u t => va_P D vwCl [(h0, .inr (8, u))] t.heap ∧ va_D (va_A [(h0, .inr (8, [.int 0, .int 0, .int 2, .ref h1, .ref h2, .int 0, .int 500, .int 0, .int 0, .int 0, .ref h3]))] sz) [(h0, .inr (8, u))]) (va_A [(h0, .inr (8, [.int 0, .int 0, .int 2, .ref h1, .ref h2, .int 0, .int 500, .int 0, .int 0, .int 0, .ref h3]))] sz)) 0 0 (va_A [(h0, .inr (8, [.int 0, .int 0, .int 2, .ref h1, .ref h2, .int 0, .int 500, .int 0, .int 0, .int 0, .ref h3]))] sz) := by
  refine Met.ofW (cc := cX6_scoreBy) (maxL := 3) (ret := (some .int)) (by decide) rfl ?_
  intro p e s m args below meth c s₁ B hml hv
  obtain ⟨rfl, hsz, hP, hK, hD0, hE9⟩ := hv
  have hx := B.exec
  have hb := B.bytes
  have hr := B.returns
  have hts := atoms_spec (ws := wsX6_scoreBy) B.pre
  have hown : s.vm.findClass RX6 = some m.cls := findClass_of_methodNamed B.named
  have hlocks := B.notSynchronized
  subst hsz
  have hD := hD0.self (sz := s.heap.size)
  generalize hAe : va_A [(h0, .inr (8, [.int 0, .int 0, .int 2, .ref h1, .ref h2, .int 0, .int 500, .int 0, .int 0, .int 0, .ref h3]))] s.heap.size = A at hD hE9 ⊢
  have hE := hE9.1
  have hDc := hE9.2
  have hA : ∀ q : Nat, s.heap.size ≤ q → A q := fun q h => by rw [← hAe]; exact Or.inr h
  have hS : va_S A s.heap s.heap [] := va_S.rf
  have hP : va_P D vwCl [(h0, .inr (8, [.int 0, .int 0, .int 2, .ref h1, .ref h2, .int 0, .int 500, .int 0, .int 0, .int 0, .ref h3]))] s.heap := hP
  have hl := lv_entry [.ref h0, .int 1, .int p0] (n := 3) (Nat.le_of_ble_eq_true rfl)
  rw [lg_entry_eq]
  generalize (lg_sl [.ref h0, .int 1, .int p0] ++ List.replicate (3 - (lg_sl [.ref h0, .int 1, .int p0]).length) Slot.unset).toArray = ls at hl ⊢
  have hl : lv_has ls 3 [(0, .ref h0), (1, .int 1), (2, .int p0)] := hl
  refine lv_aload_n hx hb dX6_scoreBy_0 rfl (lv_at hl 0 rfl) ?_
  refine lv_iload_n hx hb dX6_scoreBy_1 rfl (lv_at hl 1 rfl) ?_
  refine lv_iconst (v := 0) hx hb dX6_scoreBy_2 (by decide) ?_
  refine lv_iconst (v := 4) hx hb dX6_scoreBy_3 (by decide) ?_
  refine vp_callSi (W.runS (As := [.int 1, .int 0, .int 4]) (rest := [.ref h0]) ⟨hx, hb, hml, hown, hts⟩ (k_X6_isIn_51 l D κ ε) (va_cwS 3 hts gX6_scoreBy_X6_isIn rfl rfl rfl (by decide +kernel) ⟨(Nat.le_of_ble_eq_true rfl), (Nat.le_of_ble_eq_true rfl)⟩) (pre0_S (wc := []) hP hK [] rfl) rfl rfl hl.1 rfl (lv_room (Nat.le_of_ble_eq_true rfl)) dX6_scoreBy_4 ⟨(Nat.le_of_ble_eq_true rfl), (Nat.le_of_ble_eq_true rfl)⟩) (fun r hw => ?_)
  rw [hw]
  refine lv_if_eq (tgt := 21) hx hb dX6_scoreBy_7 (by decide) (fun h => absurd h (by decide)) (fun _ => ?_)
  refine lv_iload_n hx hb dX6_scoreBy_10 rfl (lv_at hl 2 rfl) ?_
  refine lv_iconst (v := 1) hx hb dX6_scoreBy_11 (by decide) ?_
  refine lv_sipush (v := 1000) hx hb dX6_scoreBy_12 (by decide) ?_
  refine vp_callSi (W.runS (As := [.int p0, .int 1, .int 1000]) (rest := [.ref h0]) ⟨hx, hb, hml, hown, hts⟩ (k_X6_isIn_28 l D κ ε (p0) hf0 hf1) (va_cwS 3 hts gX6_scoreBy_X6_isIn rfl rfl rfl (by decide +kernel) ⟨(Nat.le_of_ble_eq_true rfl), (Nat.le_of_ble_eq_true rfl)⟩) (pre0_S (wc := []) hP hK [] rfl) rfl rfl hl.1 rfl (lv_room (Nat.le_of_ble_eq_true rfl)) dX6_scoreBy_15 ⟨(Nat.le_of_ble_eq_true rfl), (Nat.le_of_ble_eq_true rfl)⟩) (fun r hw => ?_)
  rw [hw]
  refine lv_if_ne (tgt := 25) hx hb dX6_scoreBy_18 (by decide) (fun h => absurd (by decide) h) (fun _ => ?_)
  refine lv_iconst (v := 1) hx hb dX6_scoreBy_21 (by decide) ?_
  refine lv_goto (tgt := 26) hx hb dX6_scoreBy_22 (by decide) ?_
  refine lv_iconst (v := 1) hx hb dX6_scoreBy_26 (by decide) ?_
  have hF := va_free (wc := [(h0, .inr (8, [.int 0, .int 0, .int 2, .ref h1, .ref h2, .int 0, .int 500, .int 0, .int 0, .int 0, .ref h3]))]) hD hS hA [0] rfl
  refine va_calli (va_runV (As := [.int 1, .int 1]) (rest := []) ⟨hx, hb, hml, hown, hts⟩ (k_X6_start_1 l D κ ε h0 h1 h2 h3 s.heap.size (0) (2) (0) (500) (0) (0)) (cwV 2 hts gX6_scoreBy_X6_start rfl rfl rfl (by decide +kernel) ⟨(Nat.le_of_ble_eq_true rfl), (Nat.le_of_ble_eq_true rfl)⟩) (pre2_V (q0 := 0) (ci := 8) (wc := [(h0, .inr (8, [.int 0, .int 0, .int 2, .ref h1, .ref h2, .int 0, .int 500, .int 0, .int 0, .int 0, .ref h3]))]) hP hD hK hE9 hS hA [0] (by decide) rfl rfl rfl) rfl rfl hl.1 rfl (lv_room (Nat.le_of_ble_eq_true rfl)) dX6_scoreBy_27 ⟨(Nat.le_of_ble_eq_true rfl), (Nat.le_of_ble_eq_true rfl)⟩) hS (fun q _ h => hF q h) hF (fun r u1 t H locs ht hvm hw hB hz1 hk1 hS => ?_)
  try dsimp only at hw hB
  obtain ⟨hP1, hD1⟩ := hB
  rw [ht] at hP1
  obtain ⟨hP, hD⟩ := post_j (ws' := [(h0, .inr (8, [.int 1, .int 0, .int 2, .ref h1, .ref h2, .int 0, .int 500, .int 0, .int 0, .int 0, .ref h3]))]) (wr := []) (w1 := [(h0, .inr (8, [.int 1, .int 0, .int 2, .ref h1, .ref h2, .int 0, .int 500, .int 0, .int 0, .int 0, .ref h3]))]) hP hD hF [0] rfl [] rfl (by decide) (by decide) hk1 hP1 hD1 [0] (by decide) rfl
  have hP : va_P D vwCl [(h0, .inr (8, [.int 1, .int 0, .int 2, .ref h1, .ref h2, .int 0, .int 500, .int 0, .int 0, .int 0, .ref h3]))] H := hP
  have hD : va_D A [(h0, .inr (8, [.int 1, .int 0, .int 2, .ref h1, .ref h2, .int 0, .int 500, .int 0, .int 0, .int 0, .ref h3]))] := hD
  rw [hw]
  refine lv_if_eq (tgt := 37) hx hb dX6_scoreBy_30 (by decide) (fun h => absurd h (by decide)) (fun _ => ?_)
  refine lv_iconst (v := 0) hx hb dX6_scoreBy_33 (by decide) ?_
  refine lv_goto (tgt := 47) hx hb dX6_scoreBy_34 (by decide) ?_
  have hP9 := hP.sub (ws' := [(h0, .inr (8, [.int 1, .int 0, .int 2, .ref h1, .ref h2, .int 0, .int 500, .int 0, .int 0, .int 0, .ref h3]))]) [0] rfl
  have hD9 := hD.sub (ws' := [(h0, .inr (8, [.int 1, .int 0, .int 2, .ref h1, .ref h2, .int 0, .int 500, .int 0, .int 0, .int 0, .ref h3]))]) [0] (by decide) rfl
  exact W.iret (v := 0) hx hb hr (fun t ht hW => ⟨⟨0, [.int 1, .int 0, .int 2, .ref h1, .ref h2, .int 0, .int 500, .int 0, .int 0, .int 0, .ref h3], rfl, ⟨rfl, rfl⟩, by rw [ht]; exact hP9, hD9⟩, hS.F ht⟩) hS.2.2 dX6_scoreBy_47

set_option maxHeartbeats 4000000 in
set_option maxRecDepth 100000 in
theorem k_X6_power_0 (l : Launch) (D : va_G) (κ ε : Nat → Nat) : Met l yX6_power wsX6_power ({ frames := 0, cells := 0, slots := 0, locals := 0 }) (va_Pc [.int 0] (Pre0 D κ [])) (vp_Si (fun r => (r = 1))) 0 0 (fun _ => False) := by
  refine Met.ofW (cc := cX6_power) (maxL := 3) (ret := (some .int)) (by decide) rfl ?_
  intro p e s m args below meth c s₁ B hml hv
  obtain ⟨rfl, hP, hK⟩ := hv
  have hx := B.exec
  have hb := B.bytes
  have hr := B.returns
  have hts := atoms_spec (ws := wsX6_power) B.pre
  have hown : s.vm.findClass RX6 = some m.cls := findClass_of_methodNamed B.named
  have hlocks := B.notSynchronized
  have hP : va_P D vwCl [] s.heap := hP
  have hl := lv_entry [.int 0] (n := 3) (Nat.le_of_ble_eq_true rfl)
  rw [lg_entry_eq]
  generalize (lg_sl [.int 0] ++ List.replicate (3 - (lg_sl [.int 0]).length) Slot.unset).toArray = ls at hl ⊢
  have hl : lv_has ls 3 [(0, .int 0)] := hl
  refine lv_iconst (v := 1) hx hb dX6_power_0 (by decide) ?_
  refine lv_istore_n (lv' := [(1, .int 1), (0, .int 0)]) hx hb dX6_power_1 rfl hl (by decide) rfl (fun ls hl => ?_)
  refine lv_iconst (v := 0) hx hb dX6_power_2 (by decide) ?_
  refine lv_istore_n (lv' := [(2, .int 0), (1, .int 1), (0, .int 0)]) hx hb dX6_power_3 rfl hl (by decide) rfl (fun ls hl => ?_)
  refine lv_iload_n hx hb dX6_power_4 rfl (lv_at hl 0 rfl) ?_
  refine lv_iload_n hx hb dX6_power_5 rfl (lv_at hl 2 rfl) ?_
  refine lv_icmp_ge (tgt := 20) hx hb dX6_power_6 (by decide) (fun _ => ?_) (fun h => absurd (by decide) h)
  refine lv_iload_n hx hb dX6_power_20 rfl (lv_at hl 1 rfl) ?_
  exact W.iret (v := 1) hx hb hr (fun t ht hW => ⟨1, rfl, rfl, ht⟩) (fun q hq => absurd hq List.not_mem_nil) dX6_power_21

theorem wd428_X6_chance : (.constant RX6 132 1000000 : Cond) ∈ wsX6_chance := by decide +kernel

set_option maxHeartbeats 4000000 in
set_option maxRecDepth 100000 in
theorem k_X6_chance_2 (l : Launch) (D : va_G) (κ ε : Nat → Nat) (h0 h1 h2 h3 h4 h5 h6 h7 : Nat) (p0 : Int32) (p1 : Int32) (p2 : Int32) (p3 : Int32) (p4 : Int32) (p5 : Int32) (p6 : Int32) : Met l yX6_chance wsX6_chance ({ frames := 1, cells := 0, slots := 0, locals := 23 }) (va_Pc [.ref h0, .ref h1, .int 1, .int p0, .int 0, .int 0, .int 0] (Pre0 D κ [(h0, .inr (8, [.int p1, .int 0, .int p2, .ref h2, .ref h1, .int p3, .int p4, .int p5, .int p6, .int 0, .ref h3])), (h1, .inl (κ 4, 4, .inr (.inr (.inr (.inr (sel [h4, h5, h6, h7])))))), (h4, .inl (κ 0, 14, .inl (fun _ => 0)))])) (vp_Sl (fun r => (r = 1000000))) 0 0 (fun _ => False) := by
  refine Met.ofW (cc := cX6_chance) (maxL := 15) (ret := (some .long)) (by decide) rfl ?_
  intro p e s m args below meth c s₁ B hml hv
  obtain ⟨rfl, hP, hK⟩ := hv
  have hx := B.exec
  have hb := B.bytes
  have hr := B.returns
  have hts := atoms_spec (ws := wsX6_chance) B.pre
  have hown : s.vm.findClass RX6 = some m.cls := findClass_of_methodNamed B.named
  have hlocks := B.notSynchronized
  have hP : va_P D vwCl [(h0, .inr (8, [.int p1, .int 0, .int p2, .ref h2, .ref h1, .int p3, .int p4, .int p5, .int p6, .int 0, .ref h3])), (h1, .inl (κ 4, 4, .inr (.inr (.inr (.inr (sel [h4, h5, h6, h7])))))), (h4, .inl (κ 0, 14, .inl (fun _ => 0)))] s.heap := hP
  have hl := lv_entry [.ref h0, .ref h1, .int 1, .int p0, .int 0, .int 0, .int 0] (n := 15) (Nat.le_of_ble_eq_true rfl)
  rw [lg_entry_eq]
  generalize (lg_sl [.ref h0, .ref h1, .int 1, .int p0, .int 0, .int 0, .int 0] ++ List.replicate (15 - (lg_sl [.ref h0, .ref h1, .int 1, .int p0, .int 0, .int 0, .int 0]).length) Slot.unset).toArray = ls at hl ⊢
  have hl : lv_has ls 15 [(0, .ref h0), (1, .ref h1), (2, .int 1), (3, .int p0), (4, .int 0), (5, .int 0), (6, .int 0)] := hl
  refine lv_lconst (v := 0) hx hb dX6_chance_0 (by decide) ?_
  refine lv_lstore (lv' := [(7, .long 0), (0, .ref h0), (1, .ref h1), (2, .int 1), (3, .int p0), (4, .int 0), (5, .int 0), (6, .int 0)]) hx hb dX6_chance_1 hl (by decide) rfl (fun ls hl => ?_)
  refine lv_lconst (v := 0) hx hb dX6_chance_3 (by decide) ?_
  refine lv_lstore (lv' := [(9, .long 0), (7, .long 0), (0, .ref h0), (1, .ref h1), (2, .int 1), (3, .int p0), (4, .int 0), (5, .int 0), (6, .int 0)]) hx hb dX6_chance_4 hl (by decide) rfl (fun ls hl => ?_)
  refine lv_lconst (v := 0) hx hb dX6_chance_6 (by decide) ?_
  refine lv_lstore (lv' := [(11, .long 0), (9, .long 0), (7, .long 0), (0, .ref h0), (1, .ref h1), (2, .int 1), (3, .int p0), (4, .int 0), (5, .int 0), (6, .int 0)]) hx hb dX6_chance_7 hl (by decide) rfl (fun ls hl => ?_)
  refine lv_iload_n hx hb dX6_chance_9 rfl (lv_at hl 5 rfl) ?_
  refine lv_iconst (v := 4) hx hb dX6_chance_10 (by decide) ?_
  refine lv_icmp_ne (tgt := 106) hx hb dX6_chance_11 (by decide) (fun _ => ?_) (fun h => absurd h (by decide))
  refine lv_aload_n hx hb dX6_chance_106 rfl (lv_at hl 4 rfl) ?_
  refine lv_iload hx hb dX6_chance_107 (lv_at hl 9 rfl) ?_
  refine ya_ld2 hx hb hK hP 1 rfl (vpl (by decide)) (v := .ref h4) rfl dX6_chance_109 ?_
  refine lv_iload hx hb dX6_chance_110 (lv_at hl 8 rfl) ?_
  refine lv_bipush (v := 14) hx hb dX6_chance_112 (by decide) ?_
  refine lv_imul hx hb dX6_chance_114 ?_
  refine tpi (v := 0) (by decide) ?_
  refine lv_iload hx hb dX6_chance_115 (lv_at hl 7 rfl) ?_
  refine lv_iadd hx hb dX6_chance_117 ?_
  refine tpi (v := 0) (by decide) ?_
  refine lv_iconst (v := 1) hx hb dX6_chance_118 (by decide) ?_
  refine lv_iadd hx hb dX6_chance_119 ?_
  refine tpi (v := 1) (by decide) ?_
  refine va_iald (cA := κ 0) (n := 14) (f := (fun _ => 0)) hx hb hK hP 2 0 rfl rfl (vpl (by decide)) dX6_chance_120 ?_
  refine tpi (v := 0) (by decide) ?_
  refine lv_i2l (v := 0) hx hb dX6_chance_121 (by decide) ?_
  refine lv_lstore (lv' := [(7, .long 0), (11, .long 0), (9, .long 0), (0, .ref h0), (1, .ref h1), (2, .int 1), (3, .int p0), (4, .int 0), (5, .int 0), (6, .int 0)]) hx hb dX6_chance_122 hl (by decide) rfl (fun ls hl => ?_)
  refine lv_aload_n hx hb dX6_chance_124 rfl (lv_at hl 4 rfl) ?_
  refine lv_iload hx hb dX6_chance_125 (lv_at hl 9 rfl) ?_
  refine ya_ld2 hx hb hK hP 1 rfl (vpl (by decide)) (v := .ref h4) rfl dX6_chance_127 ?_
  refine lv_iload hx hb dX6_chance_128 (lv_at hl 8 rfl) ?_
  refine vp_callSi (W.runS (As := [.ref h4, .int 0]) (rest := []) ⟨hx, hb, hml, hown, hts⟩ (k_X6_sum_0 l D κ ε h4) (va_cwS 2 hts gX6_chance_X6_sum rfl rfl rfl (by decide +kernel) ⟨(Nat.le_of_ble_eq_true rfl), (Nat.le_of_ble_eq_true rfl)⟩) (pre0_S (wc := [(h4, .inl (κ 0, 14, .inl (fun _ => 0)))]) hP hK [2] rfl) rfl rfl hl.1 rfl (lv_room (Nat.le_of_ble_eq_true rfl)) dX6_chance_130 ⟨(Nat.le_of_ble_eq_true rfl), (Nat.le_of_ble_eq_true rfl)⟩) (fun r hw => ?_)
  rw [hw]
  refine lv_i2l (v := 0) hx hb dX6_chance_133 (by decide) ?_
  refine lv_lstore (lv' := [(9, .long 0), (7, .long 0), (11, .long 0), (0, .ref h0), (1, .ref h1), (2, .int 1), (3, .int p0), (4, .int 0), (5, .int 0), (6, .int 0)]) hx hb dX6_chance_134 hl (by decide) rfl (fun ls hl => ?_)
  refine lv_aload_n hx hb dX6_chance_136 rfl (lv_at hl 4 rfl) ?_
  refine lv_iload hx hb dX6_chance_137 (lv_at hl 9 rfl) ?_
  refine ya_ld2 hx hb hK hP 1 rfl (vpl (by decide)) (v := .ref h4) rfl dX6_chance_139 ?_
  refine lv_iload hx hb dX6_chance_140 (lv_at hl 8 rfl) ?_
  refine vp_callSi (W.runS (As := [.ref h4, .int 0]) (rest := []) ⟨hx, hb, hml, hown, hts⟩ (k_X6_sorts_0 l D κ ε h4) (va_cwS 2 hts gX6_chance_X6_sorts rfl rfl rfl (by decide +kernel) ⟨(Nat.le_of_ble_eq_true rfl), (Nat.le_of_ble_eq_true rfl)⟩) (pre0_S (wc := [(h4, .inl (κ 0, 14, .inl (fun _ => 0)))]) hP hK [2] rfl) rfl rfl hl.1 rfl (lv_room (Nat.le_of_ble_eq_true rfl)) dX6_chance_142 ⟨(Nat.le_of_ble_eq_true rfl), (Nat.le_of_ble_eq_true rfl)⟩) (fun r hw => ?_)
  rw [hw]
  refine lv_i2l (v := 0) hx hb dX6_chance_145 (by decide) ?_
  refine lv_lstore (lv' := [(11, .long 0), (9, .long 0), (7, .long 0), (0, .ref h0), (1, .ref h1), (2, .int 1), (3, .int p0), (4, .int 0), (5, .int 0), (6, .int 0)]) hx hb dX6_chance_146 hl (by decide) rfl (fun ls hl => ?_)
  refine lv_iload_n hx hb dX6_chance_148 rfl (lv_at hl 5 rfl) ?_
  refine lv_if_ne (tgt := 184) hx hb dX6_chance_149 (by decide) (fun _ => ?_) (fun h => absurd h (by decide))
  refine lv_iload hx hb dX6_chance_184 (lv_at hl 9 rfl) ?_
  refine lv_if_ne (tgt := 202) hx hb dX6_chance_186 (by decide) (fun h => absurd (by decide) h) (fun _ => ?_)
  refine lv_ldc (v := 1000000) hx hb hown (hts _ wd428_X6_chance) dX6_chance_189 ?_
  refine lv_aload_n hx hb dX6_chance_191 rfl (lv_at hl 3 rfl) ?_
  refine va_get (D := D) (ci := 8) (v := .int 0) (C := RX6) (T := TX6) (N := 11) hx hb hts wi_X6_chance_RX6 hown hK hP 0 rfl rfl 1 (by decide) (hts _ wd307_X6_chance) (fun _ h9 => h9) rfl dX6_chance_192 ?_
  refine lv_iconst (v := 1) hx hb dX6_chance_195 (by decide) ?_
  refine lv_iadd hx hb dX6_chance_196 ?_
  refine tpi (v := 1) (by decide) ?_
  refine lv_idiv hx hb dX6_chance_197 (by decide) ?_
  refine tpi (v := 1000000) (by decide) ?_
  refine lv_i2l (v := 1000000) hx hb dX6_chance_198 (by decide) ?_
  refine lv_goto (tgt := 225) hx hb dX6_chance_199 (by decide) ?_
  refine lv_lstore (lv' := [(13, .long 1000000), (11, .long 0), (9, .long 0), (7, .long 0), (0, .ref h0), (1, .ref h1), (2, .int 1), (3, .int p0), (4, .int 0), (5, .int 0), (6, .int 0)]) hx hb dX6_chance_225 hl (by decide) rfl (fun ls hl => ?_)
  refine lv_lload hx hb dX6_chance_227 (lv_at hl 2 rfl) ?_
  refine lv_lconst (v := 0) hx hb dX6_chance_229 (by decide) ?_
  refine W.lcmp hx hb dX6_chance_230 ?_
  refine tpi (v := 0) (by decide) ?_
  refine lv_if_ne (tgt := 237) hx hb dX6_chance_231 (by decide) (fun h => absurd (by decide) h) (fun _ => ?_)
  refine lv_lload hx hb dX6_chance_234 (lv_at hl 0 rfl) ?_
  exact W.lret (v := 1000000) hx hb hr (fun t ht hW => ⟨1000000, rfl, rfl, ht⟩) (fun q hq => absurd hq List.not_mem_nil) dX6_chance_236

set_option maxHeartbeats 4000000 in
set_option maxRecDepth 100000 in
theorem k_X6_chance_3 (l : Launch) (D : va_G) (κ ε : Nat → Nat) (h0 h1 h2 h3 h4 h5 h6 h7 : Nat) (p0 : Int32) (p1 : Int32) (p2 : Int32) (p3 : Int32) (p4 : Int32) (p5 : Int32) (p6 : Int32) : Met l yX6_chance wsX6_chance ({ frames := 2, cells := 0, slots := 0, locals := 57 }) (va_Pc [.ref h0, .ref h1, .int 1, .int p0, .int 0, .int 0, .int 1] (Pre0 D κ [(h0, .inr (8, [.int p1, .int 0, .int p2, .ref h2, .ref h1, .int p3, .int p4, .int p5, .int p6, .int 0, .ref h3])), (h1, .inl (κ 4, 4, .inr (.inr (.inr (.inr (sel [h4, h5, h6, h7])))))), (h4, .inl (κ 0, 14, .inl (fun _ => 0))), (h5, .inl (κ 0, 196, .inl (fun _ => 0)))])) (vp_Sl (fun r => (r = 1000000))) 0 0 (fun _ => False) := by
  refine Met.ofW (cc := cX6_chance) (maxL := 15) (ret := (some .long)) (by decide) rfl ?_
  intro p e s m args below meth c s₁ B hml hv
  obtain ⟨rfl, hP, hK⟩ := hv
  have hx := B.exec
  have hb := B.bytes
  have hr := B.returns
  have hts := atoms_spec (ws := wsX6_chance) B.pre
  have hown : s.vm.findClass RX6 = some m.cls := findClass_of_methodNamed B.named
  have hlocks := B.notSynchronized
  have hP : va_P D vwCl [(h0, .inr (8, [.int p1, .int 0, .int p2, .ref h2, .ref h1, .int p3, .int p4, .int p5, .int p6, .int 0, .ref h3])), (h1, .inl (κ 4, 4, .inr (.inr (.inr (.inr (sel [h4, h5, h6, h7])))))), (h4, .inl (κ 0, 14, .inl (fun _ => 0))), (h5, .inl (κ 0, 196, .inl (fun _ => 0)))] s.heap := hP
  have hl := lv_entry [.ref h0, .ref h1, .int 1, .int p0, .int 0, .int 0, .int 1] (n := 15) (Nat.le_of_ble_eq_true rfl)
  rw [lg_entry_eq]
  generalize (lg_sl [.ref h0, .ref h1, .int 1, .int p0, .int 0, .int 0, .int 1] ++ List.replicate (15 - (lg_sl [.ref h0, .ref h1, .int 1, .int p0, .int 0, .int 0, .int 1]).length) Slot.unset).toArray = ls at hl ⊢
  have hl : lv_has ls 15 [(0, .ref h0), (1, .ref h1), (2, .int 1), (3, .int p0), (4, .int 0), (5, .int 0), (6, .int 1)] := hl
  refine lv_lconst (v := 0) hx hb dX6_chance_0 (by decide) ?_
  refine lv_lstore (lv' := [(7, .long 0), (0, .ref h0), (1, .ref h1), (2, .int 1), (3, .int p0), (4, .int 0), (5, .int 0), (6, .int 1)]) hx hb dX6_chance_1 hl (by decide) rfl (fun ls hl => ?_)
  refine lv_lconst (v := 0) hx hb dX6_chance_3 (by decide) ?_
  refine lv_lstore (lv' := [(9, .long 0), (7, .long 0), (0, .ref h0), (1, .ref h1), (2, .int 1), (3, .int p0), (4, .int 0), (5, .int 0), (6, .int 1)]) hx hb dX6_chance_4 hl (by decide) rfl (fun ls hl => ?_)
  refine lv_lconst (v := 0) hx hb dX6_chance_6 (by decide) ?_
  refine lv_lstore (lv' := [(11, .long 0), (9, .long 0), (7, .long 0), (0, .ref h0), (1, .ref h1), (2, .int 1), (3, .int p0), (4, .int 0), (5, .int 0), (6, .int 1)]) hx hb dX6_chance_7 hl (by decide) rfl (fun ls hl => ?_)
  refine lv_iload_n hx hb dX6_chance_9 rfl (lv_at hl 5 rfl) ?_
  refine lv_iconst (v := 4) hx hb dX6_chance_10 (by decide) ?_
  refine lv_icmp_ne (tgt := 106) hx hb dX6_chance_11 (by decide) (fun _ => ?_) (fun h => absurd h (by decide))
  refine lv_aload_n hx hb dX6_chance_106 rfl (lv_at hl 4 rfl) ?_
  refine lv_iload hx hb dX6_chance_107 (lv_at hl 9 rfl) ?_
  refine ya_ld2 hx hb hK hP 1 rfl (vpl (by decide)) (v := .ref h5) rfl dX6_chance_109 ?_
  refine lv_iload hx hb dX6_chance_110 (lv_at hl 8 rfl) ?_
  refine lv_bipush (v := 14) hx hb dX6_chance_112 (by decide) ?_
  refine lv_imul hx hb dX6_chance_114 ?_
  refine tpi (v := 0) (by decide) ?_
  refine lv_iload hx hb dX6_chance_115 (lv_at hl 7 rfl) ?_
  refine lv_iadd hx hb dX6_chance_117 ?_
  refine tpi (v := 0) (by decide) ?_
  refine lv_iconst (v := 1) hx hb dX6_chance_118 (by decide) ?_
  refine lv_iadd hx hb dX6_chance_119 ?_
  refine tpi (v := 1) (by decide) ?_
  refine va_iald (cA := κ 0) (n := 196) (f := (fun _ => 0)) hx hb hK hP 3 0 rfl rfl (vpl (by decide)) dX6_chance_120 ?_
  refine tpi (v := 0) (by decide) ?_
  refine lv_i2l (v := 0) hx hb dX6_chance_121 (by decide) ?_
  refine lv_lstore (lv' := [(7, .long 0), (11, .long 0), (9, .long 0), (0, .ref h0), (1, .ref h1), (2, .int 1), (3, .int p0), (4, .int 0), (5, .int 0), (6, .int 1)]) hx hb dX6_chance_122 hl (by decide) rfl (fun ls hl => ?_)
  refine lv_aload_n hx hb dX6_chance_124 rfl (lv_at hl 4 rfl) ?_
  refine lv_iload hx hb dX6_chance_125 (lv_at hl 9 rfl) ?_
  refine ya_ld2 hx hb hK hP 1 rfl (vpl (by decide)) (v := .ref h5) rfl dX6_chance_127 ?_
  refine lv_iload hx hb dX6_chance_128 (lv_at hl 8 rfl) ?_
  refine vp_callSi (W.runS (As := [.ref h5, .int 0]) (rest := []) ⟨hx, hb, hml, hown, hts⟩ (k_X6_sum_1 l D κ ε h5) (va_cwS 2 hts gX6_chance_X6_sum rfl rfl rfl (by decide +kernel) ⟨(Nat.le_of_ble_eq_true rfl), (Nat.le_of_ble_eq_true rfl)⟩) (pre0_S (wc := [(h5, .inl (κ 0, 196, .inl (fun _ => 0)))]) hP hK [3] rfl) rfl rfl hl.1 rfl (lv_room (Nat.le_of_ble_eq_true rfl)) dX6_chance_130 ⟨(Nat.le_of_ble_eq_true rfl), (Nat.le_of_ble_eq_true rfl)⟩) (fun r hw => ?_)
  rw [hw]
  refine lv_i2l (v := 0) hx hb dX6_chance_133 (by decide) ?_
  refine lv_lstore (lv' := [(9, .long 0), (7, .long 0), (11, .long 0), (0, .ref h0), (1, .ref h1), (2, .int 1), (3, .int p0), (4, .int 0), (5, .int 0), (6, .int 1)]) hx hb dX6_chance_134 hl (by decide) rfl (fun ls hl => ?_)
  refine lv_aload_n hx hb dX6_chance_136 rfl (lv_at hl 4 rfl) ?_
  refine lv_iload hx hb dX6_chance_137 (lv_at hl 9 rfl) ?_
  refine ya_ld2 hx hb hK hP 1 rfl (vpl (by decide)) (v := .ref h5) rfl dX6_chance_139 ?_
  refine lv_iload hx hb dX6_chance_140 (lv_at hl 8 rfl) ?_
  refine vp_callSi (W.runS (As := [.ref h5, .int 0]) (rest := []) ⟨hx, hb, hml, hown, hts⟩ (k_X6_sorts_1 l D κ ε h5) (va_cwS 2 hts gX6_chance_X6_sorts rfl rfl rfl (by decide +kernel) ⟨(Nat.le_of_ble_eq_true rfl), (Nat.le_of_ble_eq_true rfl)⟩) (pre0_S (wc := [(h5, .inl (κ 0, 196, .inl (fun _ => 0)))]) hP hK [3] rfl) rfl rfl hl.1 rfl (lv_room (Nat.le_of_ble_eq_true rfl)) dX6_chance_142 ⟨(Nat.le_of_ble_eq_true rfl), (Nat.le_of_ble_eq_true rfl)⟩) (fun r hw => ?_)
  rw [hw]
  refine lv_i2l (v := 0) hx hb dX6_chance_145 (by decide) ?_
  refine lv_lstore (lv' := [(11, .long 0), (9, .long 0), (7, .long 0), (0, .ref h0), (1, .ref h1), (2, .int 1), (3, .int p0), (4, .int 0), (5, .int 0), (6, .int 1)]) hx hb dX6_chance_146 hl (by decide) rfl (fun ls hl => ?_)
  refine lv_iload_n hx hb dX6_chance_148 rfl (lv_at hl 5 rfl) ?_
  refine lv_if_ne (tgt := 184) hx hb dX6_chance_149 (by decide) (fun _ => ?_) (fun h => absurd h (by decide))
  refine lv_iload hx hb dX6_chance_184 (lv_at hl 9 rfl) ?_
  refine lv_if_ne (tgt := 202) hx hb dX6_chance_186 (by decide) (fun _ => ?_) (fun h => absurd h (by decide))
  refine lv_aload_n hx hb dX6_chance_202 rfl (lv_at hl 3 rfl) ?_
  refine lv_aload_n hx hb dX6_chance_203 rfl (lv_at hl 4 rfl) ?_
  refine lv_iload_n hx hb dX6_chance_204 rfl (lv_at hl 5 rfl) ?_
  refine lv_iload_n hx hb dX6_chance_205 rfl (lv_at hl 6 rfl) ?_
  refine lv_iload hx hb dX6_chance_206 (lv_at hl 7 rfl) ?_
  refine lv_iload hx hb dX6_chance_208 (lv_at hl 8 rfl) ?_
  refine lv_iload hx hb dX6_chance_210 (lv_at hl 9 rfl) ?_
  refine lv_iconst (v := 1) hx hb dX6_chance_212 (by decide) ?_
  refine lv_isub hx hb dX6_chance_213 ?_
  refine tpi (v := 0) (by decide) ?_
  refine vp_callSi (W.runS (As := [.int 0]) (rest := [.int 0, .int 0, .int p0, .int 1, .ref h1, .ref h0]) ⟨hx, hb, hml, hown, hts⟩ (k_X6_power_0 l D κ ε) (va_cwS 1 hts gX6_chance_X6_power rfl rfl rfl (by decide +kernel) ⟨(Nat.le_of_ble_eq_true rfl), (Nat.le_of_ble_eq_true rfl)⟩) (pre0_S (wc := []) hP hK [] rfl) rfl rfl hl.1 rfl (lv_room (Nat.le_of_ble_eq_true rfl)) dX6_chance_214 ⟨(Nat.le_of_ble_eq_true rfl), (Nat.le_of_ble_eq_true rfl)⟩) (fun r hw => ?_)
  rw [hw]
  refine lv_irem hx hb dX6_chance_217 (by decide) ?_
  refine tpi (v := 0) (by decide) ?_
  refine lv_iload hx hb dX6_chance_218 (lv_at hl 9 rfl) ?_
  refine lv_iconst (v := 1) hx hb dX6_chance_220 (by decide) ?_
  refine lv_isub hx hb dX6_chance_221 ?_
  refine tpi (v := 0) (by decide) ?_
  refine vp_callSl (W.runV (As := [.ref h1, .int 1, .int p0, .int 0, .int 0, .int 0]) (rest := []) ⟨hx, hb, hml, hown, hts⟩ (k_X6_chance_2 l D κ ε h0 h1 h2 h3 h4 h5 h6 h7 (p0) (p1) (p2) (p3) (p4) (p5) (p6)) (cwV 6 hts gX6_chance_X6_chance rfl rfl rfl (by decide +kernel) ⟨(Nat.le_of_ble_eq_true rfl), (Nat.le_of_ble_eq_true rfl)⟩) (pre0_V (q0 := 0) (ci := 8) (wc := [(h0, .inr (8, [.int p1, .int 0, .int p2, .ref h2, .ref h1, .int p3, .int p4, .int p5, .int p6, .int 0, .ref h3])), (h1, .inl (κ 4, 4, .inr (.inr (.inr (.inr (sel [h4, h5, h6, h7])))))), (h4, .inl (κ 0, 14, .inl (fun _ => 0)))]) hP hK [0, 1, 2] rfl rfl rfl) rfl rfl hl.1 rfl (lv_room (Nat.le_of_ble_eq_true rfl)) dX6_chance_222 ⟨(Nat.le_of_ble_eq_true rfl), (Nat.le_of_ble_eq_true rfl)⟩) (fun r hw => ?_)
  rw [hw]
  refine lv_lstore (lv' := [(13, .long 1000000), (11, .long 0), (9, .long 0), (7, .long 0), (0, .ref h0), (1, .ref h1), (2, .int 1), (3, .int p0), (4, .int 0), (5, .int 0), (6, .int 1)]) hx hb dX6_chance_225 hl (by decide) rfl (fun ls hl => ?_)
  refine lv_lload hx hb dX6_chance_227 (lv_at hl 2 rfl) ?_
  refine lv_lconst (v := 0) hx hb dX6_chance_229 (by decide) ?_
  refine W.lcmp hx hb dX6_chance_230 ?_
  refine tpi (v := 0) (by decide) ?_
  refine lv_if_ne (tgt := 237) hx hb dX6_chance_231 (by decide) (fun h => absurd (by decide) h) (fun _ => ?_)
  refine lv_lload hx hb dX6_chance_234 (lv_at hl 0 rfl) ?_
  exact W.lret (v := 1000000) hx hb hr (fun t ht hW => ⟨1000000, rfl, rfl, ht⟩) (fun q hq => absurd hq List.not_mem_nil) dX6_chance_236

set_option maxHeartbeats 4000000 in
set_option maxRecDepth 100000 in
theorem k_X6_score_2 (l : Launch) (D : va_G) (κ ε : Nat → Nat) (h0 h1 h2 h3 h4 h5 h6 h7 : Nat) (p0 : Int32) (p1 : Int32) (p2 : Int32) (p3 : Int32) (p4 : Int32) (p5 : Int32) (p6 : Int32) : Met l yX6_score wsX6_score ({ frames := 3, cells := 0, slots := 0, locals := 91 }) (va_Pc [.ref h0, .ref h1, .int 1, .int p0] (Pre0 D κ [(h0, .inr (8, [.int p1, .int 0, .int 2, .ref h2, .ref h1, .int p2, .int p3, .int p4, .int p5, .int 0, .ref h3])), (h1, .inl (κ 4, 4, .inr (.inr (.inr (.inr (sel [h4, h5, h6, h7])))))), (h2, .inr (1, [.int p6, .ref (ε 1), .int 0])), (h4, .inl (κ 0, 14, .inl (fun _ => 0))), (h5, .inl (κ 0, 196, .inl (fun _ => 0)))])) (vp_Si (fun r => (r = 0))) 0 0 (fun _ => False) := by
  refine Met.ofW (cc := cX6_score) (maxL := 6) (ret := (some .int)) (by decide) rfl ?_
  intro p e s m args below meth c s₁ B hml hv
  obtain ⟨rfl, hP, hK⟩ := hv
  have hx := B.exec
  have hb := B.bytes
  have hr := B.returns
  have hts := atoms_spec (ws := wsX6_score) B.pre
  have hown : s.vm.findClass RX6 = some m.cls := findClass_of_methodNamed B.named
  have hlocks := B.notSynchronized
  have hP : va_P D vwCl [(h0, .inr (8, [.int p1, .int 0, .int 2, .ref h2, .ref h1, .int p2, .int p3, .int p4, .int p5, .int 0, .ref h3])), (h1, .inl (κ 4, 4, .inr (.inr (.inr (.inr (sel [h4, h5, h6, h7])))))), (h2, .inr (1, [.int p6, .ref (ε 1), .int 0])), (h4, .inl (κ 0, 14, .inl (fun _ => 0))), (h5, .inl (κ 0, 196, .inl (fun _ => 0)))] s.heap := hP
  have hl := lv_entry [.ref h0, .ref h1, .int 1, .int p0] (n := 6) (Nat.le_of_ble_eq_true rfl)
  rw [lg_entry_eq]
  generalize (lg_sl [.ref h0, .ref h1, .int 1, .int p0] ++ List.replicate (6 - (lg_sl [.ref h0, .ref h1, .int 1, .int p0]).length) Slot.unset).toArray = ls at hl ⊢
  have hl : lv_has ls 6 [(0, .ref h0), (1, .ref h1), (2, .int 1), (3, .int p0)] := hl
  refine lv_iconst (v := 0) hx hb dX6_score_0 (by decide) ?_
  refine lv_istore (lv' := [(4, .int 0), (0, .ref h0), (1, .ref h1), (2, .int 1), (3, .int p0)]) hx hb dX6_score_1 hl (by decide) rfl (fun ls hl => ?_)
  refine lv_iconst (v := 0) hx hb dX6_score_3 (by decide) ?_
  refine lv_istore (lv' := [(5, .int 0), (4, .int 0), (0, .ref h0), (1, .ref h1), (2, .int 1), (3, .int p0)]) hx hb dX6_score_4 hl (by decide) rfl (fun ls hl => ?_)
  refine lv_iload hx hb dX6_score_6 (lv_at hl 0 rfl) ?_
  refine lv_aload_n hx hb dX6_score_8 rfl (lv_at hl 2 rfl) ?_
  refine va_get (D := D) (ci := 8) (v := .ref h2) (C := RX6) (T := TX6) (N := 11) hx hb hts wi_X6_score_RX6 hown hK hP 0 rfl rfl 3 (by decide) (hts _ wd340_X6_score) (fun _ h9 => h9) rfl dX6_score_9 ?_
  refine vp_callSi (W.runV (As := []) (rest := [.int 0]) ⟨hx, hb, hml, hown, hts⟩ (k_Jx4a65c_size_8abf5_0 l D κ ε h2 (p6)) (cwV 0 hts gX6_score_Jx4a65c_size_8abf5 rfl rfl rfl (by decide +kernel) ⟨(Nat.le_of_ble_eq_true rfl), (Nat.le_of_ble_eq_true rfl)⟩) (pre0_V (q0 := 2) (ci := 1) (wc := [(h2, .inr (1, [.int p6, .ref (ε 1), .int 0]))]) hP hK [2] rfl rfl rfl) rfl rfl hl.1 rfl (lv_room (Nat.le_of_ble_eq_true rfl)) dX6_score_12 ⟨(Nat.le_of_ble_eq_true rfl), (Nat.le_of_ble_eq_true rfl)⟩) (fun r hw => ?_)
  rw [hw]
  refine lv_icmp_gt (tgt := 70) hx hb dX6_score_15 (by decide) (fun h => absurd h (by decide)) (fun _ => ?_)
  refine lv_iload hx hb dX6_score_18 (lv_at hl 1 rfl) ?_
  refine lv_aload_n hx hb dX6_score_20 rfl (lv_at hl 2 rfl) ?_
  refine lv_aload_n hx hb dX6_score_21 rfl (lv_at hl 3 rfl) ?_
  refine lv_iload_n hx hb dX6_score_22 rfl (lv_at hl 4 rfl) ?_
  refine lv_iload_n hx hb dX6_score_23 rfl (lv_at hl 5 rfl) ?_
  refine lv_aload_n hx hb dX6_score_24 rfl (lv_at hl 2 rfl) ?_
  refine lv_aload_n hx hb dX6_score_25 rfl (lv_at hl 2 rfl) ?_
  refine va_get (D := D) (ci := 8) (v := .ref h2) (C := RX6) (T := TX6) (N := 11) hx hb hts wi_X6_score_RX6 hown hK hP 0 rfl rfl 3 (by decide) (hts _ wd340_X6_score) (fun _ h9 => h9) rfl dX6_score_26 ?_
  refine lv_iload hx hb dX6_score_29 (lv_at hl 0 rfl) ?_
  refine vp_callSi (W.runV (As := [.ref h2, .int 0]) (rest := [.int p0, .int 1, .ref h1, .ref h0, .int 0]) ⟨hx, hb, hml, hown, hts⟩ (k_X6_at_0 l D κ ε h0 h2 h1 h3 (p1) (2) (p2) (p3) (p4) (p5) (p6)) (cwV 2 hts gX6_score_X6_at rfl rfl rfl (by decide +kernel) ⟨(Nat.le_of_ble_eq_true rfl), (Nat.le_of_ble_eq_true rfl)⟩) (pre0_V (q0 := 0) (ci := 8) (wc := [(h0, .inr (8, [.int p1, .int 0, .int 2, .ref h2, .ref h1, .int p2, .int p3, .int p4, .int p5, .int 0, .ref h3])), (h2, .inr (1, [.int p6, .ref (ε 1), .int 0]))]) hP hK [0, 2] rfl rfl rfl) rfl rfl hl.1 rfl (lv_room (Nat.le_of_ble_eq_true rfl)) dX6_score_31 ⟨(Nat.le_of_ble_eq_true rfl), (Nat.le_of_ble_eq_true rfl)⟩) (fun r hw => ?_)
  rw [hw]
  refine lv_aload_n hx hb dX6_score_34 rfl (lv_at hl 2 rfl) ?_
  refine va_get (D := D) (ci := 8) (v := .ref h2) (C := RX6) (T := TX6) (N := 11) hx hb hts wi_X6_score_RX6 hown hK hP 0 rfl rfl 3 (by decide) (hts _ wd340_X6_score) (fun _ h9 => h9) rfl dX6_score_35 ?_
  refine lv_iload hx hb dX6_score_38 (lv_at hl 0 rfl) ?_
  refine lv_aload_n hx hb dX6_score_40 rfl (lv_at hl 2 rfl) ?_
  refine va_get (D := D) (ci := 8) (v := .int 2) (C := RX6) (T := TX6) (N := 11) hx hb hts wi_X6_score_RX6 hown hK hP 0 rfl rfl 2 (by decide) (hts _ wd341_X6_score) (fun _ h9 => h9) rfl dX6_score_41 ?_
  refine lv_iconst (v := 1) hx hb dX6_score_44 (by decide) ?_
  refine lv_isub hx hb dX6_score_45 ?_
  refine tpi (v := 1) (by decide) ?_
  refine vp_callSi (W.runS (As := [.ref h2, .int 0, .int 1]) (rest := [.int 0, .int p0, .int 1, .ref h1, .ref h0, .int 0]) ⟨hx, hb, hml, hown, hts⟩ (k_X6_ahead_1 l D κ ε h2) (va_cwS 3 hts gX6_score_X6_ahead rfl rfl rfl (by decide +kernel) ⟨(Nat.le_of_ble_eq_true rfl), (Nat.le_of_ble_eq_true rfl)⟩) (pre0_S (wc := []) hP hK [] rfl) rfl rfl hl.1 rfl (lv_room (Nat.le_of_ble_eq_true rfl)) dX6_score_46 ⟨(Nat.le_of_ble_eq_true rfl), (Nat.le_of_ble_eq_true rfl)⟩) (fun r hw => ?_)
  rw [hw]
  refine lv_aload_n hx hb dX6_score_49 rfl (lv_at hl 2 rfl) ?_
  refine va_get (D := D) (ci := 8) (v := .int 2) (C := RX6) (T := TX6) (N := 11) hx hb hts wi_X6_score_RX6 hown hK hP 0 rfl rfl 2 (by decide) (hts _ wd341_X6_score) (fun _ h9 => h9) rfl dX6_score_50 ?_
  refine lv_iconst (v := 1) hx hb dX6_score_53 (by decide) ?_
  refine lv_isub hx hb dX6_score_54 ?_
  refine tpi (v := 1) (by decide) ?_
  refine vp_callSl (W.runV (As := [.ref h1, .int 1, .int p0, .int 0, .int 0, .int 1]) (rest := [.int 0]) ⟨hx, hb, hml, hown, hts⟩ (k_X6_chance_3 l D κ ε h0 h1 h2 h3 h4 h5 h6 h7 (p0) (p1) (2) (p2) (p3) (p4) (p5)) (cwV 6 hts gX6_score_X6_chance rfl rfl rfl (by decide +kernel) ⟨(Nat.le_of_ble_eq_true rfl), (Nat.le_of_ble_eq_true rfl)⟩) (pre0_V (q0 := 0) (ci := 8) (wc := [(h0, .inr (8, [.int p1, .int 0, .int 2, .ref h2, .ref h1, .int p2, .int p3, .int p4, .int p5, .int 0, .ref h3])), (h1, .inl (κ 4, 4, .inr (.inr (.inr (.inr (sel [h4, h5, h6, h7])))))), (h4, .inl (κ 0, 14, .inl (fun _ => 0))), (h5, .inl (κ 0, 196, .inl (fun _ => 0)))]) hP hK [0, 1, 3, 4] rfl rfl rfl) rfl rfl hl.1 rfl (lv_room (Nat.le_of_ble_eq_true rfl)) dX6_score_55 ⟨(Nat.le_of_ble_eq_true rfl), (Nat.le_of_ble_eq_true rfl)⟩) (fun r hw => ?_)
  rw [hw]
  refine vp_callSi (W.runS (As := [.long 1000000]) (rest := [.int 0]) ⟨hx, hb, hml, hown, hts⟩ (k_X6_cost_1 l D κ ε) (va_cwS 1 hts gX6_score_X6_cost rfl rfl rfl (by decide +kernel) ⟨(Nat.le_of_ble_eq_true rfl), (Nat.le_of_ble_eq_true rfl)⟩) (pre0_S (wc := []) hP hK [] rfl) rfl rfl hl.1 rfl (lv_room (Nat.le_of_ble_eq_true rfl)) dX6_score_58 ⟨(Nat.le_of_ble_eq_true rfl), (Nat.le_of_ble_eq_true rfl)⟩) (fun r hw => ?_)
  rw [hw]
  refine lv_iadd hx hb dX6_score_61 ?_
  refine tpi (v := 0) (by decide) ?_
  refine lv_istore (lv' := [(4, .int 0), (5, .int 0), (0, .ref h0), (1, .ref h1), (2, .int 1), (3, .int p0)]) hx hb dX6_score_62 hl (by decide) rfl (fun ls hl => ?_)
  refine lv_iinc (v := 1) (lv' := [(5, .int 1), (4, .int 0), (0, .ref h0), (1, .ref h1), (2, .int 1), (3, .int p0)]) hx hb dX6_score_64 hl (k := 1) rfl (by decide) (by decide) rfl (fun ls hl => ?_)
  refine lv_goto (tgt := 6) hx hb dX6_score_67 (by decide) ?_
  refine lv_iload hx hb dX6_score_6 (lv_at hl 0 rfl) ?_
  refine lv_aload_n hx hb dX6_score_8 rfl (lv_at hl 2 rfl) ?_
  refine va_get (D := D) (ci := 8) (v := .ref h2) (C := RX6) (T := TX6) (N := 11) hx hb hts wi_X6_score_RX6 hown hK hP 0 rfl rfl 3 (by decide) (hts _ wd340_X6_score) (fun _ h9 => h9) rfl dX6_score_9 ?_
  refine vp_callSi (W.runV (As := []) (rest := [.int 1]) ⟨hx, hb, hml, hown, hts⟩ (k_Jx4a65c_size_8abf5_0 l D κ ε h2 (p6)) (cwV 0 hts gX6_score_Jx4a65c_size_8abf5 rfl rfl rfl (by decide +kernel) ⟨(Nat.le_of_ble_eq_true rfl), (Nat.le_of_ble_eq_true rfl)⟩) (pre0_V (q0 := 2) (ci := 1) (wc := [(h2, .inr (1, [.int p6, .ref (ε 1), .int 0]))]) hP hK [2] rfl rfl rfl) rfl rfl hl.1 rfl (lv_room (Nat.le_of_ble_eq_true rfl)) dX6_score_12 ⟨(Nat.le_of_ble_eq_true rfl), (Nat.le_of_ble_eq_true rfl)⟩) (fun r hw => ?_)
  rw [hw]
  refine lv_icmp_gt (tgt := 70) hx hb dX6_score_15 (by decide) (fun _ => ?_) (fun h => absurd (by decide) h)
  refine lv_iload hx hb dX6_score_70 (lv_at hl 1 rfl) ?_
  exact W.iret (v := 0) hx hb hr (fun t ht hW => ⟨0, rfl, rfl, ht⟩) (fun q hq => absurd hq List.not_mem_nil) dX6_score_72

set_option maxHeartbeats 4000000 in
set_option maxRecDepth 100000 in
theorem k_X6_scoreBy_5 (l : Launch) (D : va_G) (κ ε : Nat → Nat) (h0 h1 h2 h3 h4 h5 h6 h7 : Nat) (sz : Nat) (p0 : Int32) (hf0 : ¬ p0 < 1) (hf1 : ¬ 1000 < p0) : Met l yX6_scoreBy wsX6_scoreBy ({ frames := 4, cells := 0, slots := 0, locals := 116 }) (va_Pc [.ref h0, .int 1, .int p0] (Pre2 D κ ε [(h0, .inr (8, [.int 0, .int 0, .int 2, .ref h1, .ref h2, .int 0, .int 500, .int 0, .int 0, .int 0, .ref h3])), (h1, .inr (1, [.int 0, .ref (ε 1), .int 0])), (h2, .inl (κ 4, 4, .inr (.inr (.inr (.inr (sel [h4, h5, h6, h7])))))), (h4, .inl (κ 0, 14, .inl (fun _ => 0))), (h5, .inl (κ 0, 196, .inl (fun _ => 0)))] sz)) (va_Qi (fun r (u : List Value) => (u[0]? = some (.int 0)) ∧ (r = 0)) (fun u t => va_P D vwCl [(h0, .inr (8, u))] t.heap ∧ va_D (va_A [(h0, .inr (8, [.int 0, .int 0, .int 2, .ref h1, .ref h2, .int 0, .int 500, .int 0, .int 0, .int 0, .ref h3])), (h1, .inr (1, [.int 0, .ref (ε 1), .int 0])), (h2, .inl (κ 4, 4, .inr (.inr (.inr (.inr (sel [h4, h5, h6, h7])))))), (h4, .inl (κ 0, 14, .inl (fun _ => 0))), (h5, .inl (κ 0, 196, .inl (fun _ => 0)))] sz) [(h0, .inr (8, u))]) (va_A [(h0, .inr (8, [.int 0, .int 0, .int 2, .ref h1, .ref h2, .int 0, .int 500, .int 0, .int 0, .int 0, .ref h3])), (h1, .inr (1, [.int 0, .ref (ε 1), .int 0])), (h2, .inl (κ 4, 4, .inr (.inr (.inr (.inr (sel [h4, h5, h6, h7])))))), (h4, .inl (κ 0, 14, .inl (fun _ => 0))), (h5, .inl (κ 0, 196, .inl (fun _ => 0)))] sz)) 0 0 (va_A [(h0, .inr (8, [.int 0, .int 0, .int 2, .ref h1, .ref h2, .int 0, .int 500, .int 0, .int 0, .int 0, .ref h3])), (h1, .inr (1, [.int 0, .ref (ε 1), .int 0])), (h2, .inl (κ 4, 4, .inr (.inr (.inr (.inr (sel [h4, h5, h6, h7])))))), (h4, .inl (κ 0, 14, .inl (fun _ => 0))), (h5, .inl (κ 0, 196, .inl (fun _ => 0)))] sz) := by
  refine Met.ofW (cc := cX6_scoreBy) (maxL := 3) (ret := (some .int)) (by decide) rfl ?_
  intro p e s m args below meth c s₁ B hml hv
  obtain ⟨rfl, hsz, hP, hK, hD0, hE9⟩ := hv
  have hx := B.exec
  have hb := B.bytes
  have hr := B.returns
  have hts := atoms_spec (ws := wsX6_scoreBy) B.pre
  have hown : s.vm.findClass RX6 = some m.cls := findClass_of_methodNamed B.named
  have hlocks := B.notSynchronized
  subst hsz
  have hD := hD0.self (sz := s.heap.size)
  generalize hAe : va_A [(h0, .inr (8, [.int 0, .int 0, .int 2, .ref h1, .ref h2, .int 0, .int 500, .int 0, .int 0, .int 0, .ref h3])), (h1, .inr (1, [.int 0, .ref (ε 1), .int 0])), (h2, .inl (κ 4, 4, .inr (.inr (.inr (.inr (sel [h4, h5, h6, h7])))))), (h4, .inl (κ 0, 14, .inl (fun _ => 0))), (h5, .inl (κ 0, 196, .inl (fun _ => 0)))] s.heap.size = A at hD hE9 ⊢
  have hE := hE9.1
  have hDc := hE9.2
  have hA : ∀ q : Nat, s.heap.size ≤ q → A q := fun q h => by rw [← hAe]; exact Or.inr h
  have hS : va_S A s.heap s.heap [] := va_S.rf
  have hP : va_P D vwCl [(h0, .inr (8, [.int 0, .int 0, .int 2, .ref h1, .ref h2, .int 0, .int 500, .int 0, .int 0, .int 0, .ref h3])), (h1, .inr (1, [.int 0, .ref (ε 1), .int 0])), (h2, .inl (κ 4, 4, .inr (.inr (.inr (.inr (sel [h4, h5, h6, h7])))))), (h4, .inl (κ 0, 14, .inl (fun _ => 0))), (h5, .inl (κ 0, 196, .inl (fun _ => 0)))] s.heap := hP
  have hl := lv_entry [.ref h0, .int 1, .int p0] (n := 3) (Nat.le_of_ble_eq_true rfl)
  rw [lg_entry_eq]
  generalize (lg_sl [.ref h0, .int 1, .int p0] ++ List.replicate (3 - (lg_sl [.ref h0, .int 1, .int p0]).length) Slot.unset).toArray = ls at hl ⊢
  have hl : lv_has ls 3 [(0, .ref h0), (1, .int 1), (2, .int p0)] := hl
  refine lv_aload_n hx hb dX6_scoreBy_0 rfl (lv_at hl 0 rfl) ?_
  refine lv_iload_n hx hb dX6_scoreBy_1 rfl (lv_at hl 1 rfl) ?_
  refine lv_iconst (v := 0) hx hb dX6_scoreBy_2 (by decide) ?_
  refine lv_iconst (v := 4) hx hb dX6_scoreBy_3 (by decide) ?_
  refine vp_callSi (W.runS (As := [.int 1, .int 0, .int 4]) (rest := [.ref h0]) ⟨hx, hb, hml, hown, hts⟩ (k_X6_isIn_51 l D κ ε) (va_cwS 3 hts gX6_scoreBy_X6_isIn rfl rfl rfl (by decide +kernel) ⟨(Nat.le_of_ble_eq_true rfl), (Nat.le_of_ble_eq_true rfl)⟩) (pre0_S (wc := []) hP hK [] rfl) rfl rfl hl.1 rfl (lv_room (Nat.le_of_ble_eq_true rfl)) dX6_scoreBy_4 ⟨(Nat.le_of_ble_eq_true rfl), (Nat.le_of_ble_eq_true rfl)⟩) (fun r hw => ?_)
  rw [hw]
  refine lv_if_eq (tgt := 21) hx hb dX6_scoreBy_7 (by decide) (fun h => absurd h (by decide)) (fun _ => ?_)
  refine lv_iload_n hx hb dX6_scoreBy_10 rfl (lv_at hl 2 rfl) ?_
  refine lv_iconst (v := 1) hx hb dX6_scoreBy_11 (by decide) ?_
  refine lv_sipush (v := 1000) hx hb dX6_scoreBy_12 (by decide) ?_
  refine vp_callSi (W.runS (As := [.int p0, .int 1, .int 1000]) (rest := [.ref h0]) ⟨hx, hb, hml, hown, hts⟩ (k_X6_isIn_29 l D κ ε (p0) hf0 hf1) (va_cwS 3 hts gX6_scoreBy_X6_isIn rfl rfl rfl (by decide +kernel) ⟨(Nat.le_of_ble_eq_true rfl), (Nat.le_of_ble_eq_true rfl)⟩) (pre0_S (wc := []) hP hK [] rfl) rfl rfl hl.1 rfl (lv_room (Nat.le_of_ble_eq_true rfl)) dX6_scoreBy_15 ⟨(Nat.le_of_ble_eq_true rfl), (Nat.le_of_ble_eq_true rfl)⟩) (fun r hw => ?_)
  rw [hw]
  refine lv_if_ne (tgt := 25) hx hb dX6_scoreBy_18 (by decide) (fun _ => ?_) (fun h => absurd h (by decide))
  refine lv_iconst (v := 0) hx hb dX6_scoreBy_25 (by decide) ?_
  refine lv_iconst (v := 1) hx hb dX6_scoreBy_26 (by decide) ?_
  have hF := va_free (wc := [(h0, .inr (8, [.int 0, .int 0, .int 2, .ref h1, .ref h2, .int 0, .int 500, .int 0, .int 0, .int 0, .ref h3]))]) hD hS hA [0] rfl
  refine va_calli (va_runV (As := [.int 0, .int 1]) (rest := []) ⟨hx, hb, hml, hown, hts⟩ (k_X6_start_0 l D κ ε h0 h1 h2 h3 s.heap.size (0) (2) (0) (500) (0) (0)) (cwV 2 hts gX6_scoreBy_X6_start rfl rfl rfl (by decide +kernel) ⟨(Nat.le_of_ble_eq_true rfl), (Nat.le_of_ble_eq_true rfl)⟩) (pre2_V (q0 := 0) (ci := 8) (wc := [(h0, .inr (8, [.int 0, .int 0, .int 2, .ref h1, .ref h2, .int 0, .int 500, .int 0, .int 0, .int 0, .ref h3]))]) hP hD hK hE9 hS hA [0] (by decide) rfl rfl rfl) rfl rfl hl.1 rfl (lv_room (Nat.le_of_ble_eq_true rfl)) dX6_scoreBy_27 ⟨(Nat.le_of_ble_eq_true rfl), (Nat.le_of_ble_eq_true rfl)⟩) hS (fun q _ h => hF q h) hF (fun r u1 t H locs ht hvm hw hB hz1 hk1 hS => ?_)
  try dsimp only at hw hB
  obtain ⟨hP1, hD1⟩ := hB
  rw [ht] at hP1
  obtain ⟨hP, hD⟩ := post_j (ws' := [(h0, .inr (8, [.int 0, .int 0, .int 2, .ref h1, .ref h2, .int 0, .int 500, .int 0, .int 0, .int 0, .ref h3])), (h1, .inr (1, [.int 0, .ref (ε 1), .int 0])), (h2, .inl (κ 4, 4, .inr (.inr (.inr (.inr (sel [h4, h5, h6, h7])))))), (h4, .inl (κ 0, 14, .inl (fun _ => 0))), (h5, .inl (κ 0, 196, .inl (fun _ => 0)))]) (wr := [(h1, .inr (1, [.int 0, .ref (ε 1), .int 0])), (h2, .inl (κ 4, 4, .inr (.inr (.inr (.inr (sel [h4, h5, h6, h7])))))), (h4, .inl (κ 0, 14, .inl (fun _ => 0))), (h5, .inl (κ 0, 196, .inl (fun _ => 0)))]) (w1 := [(h0, .inr (8, [.int 0, .int 0, .int 2, .ref h1, .ref h2, .int 0, .int 500, .int 0, .int 0, .int 0, .ref h3]))]) hP hD hF [0] rfl [1, 2, 3, 4] rfl (by decide) (by decide) hk1 hP1 hD1 [4, 0, 1, 2, 3] (by decide) rfl
  have hP : va_P D vwCl [(h0, .inr (8, [.int 0, .int 0, .int 2, .ref h1, .ref h2, .int 0, .int 500, .int 0, .int 0, .int 0, .ref h3])), (h1, .inr (1, [.int 0, .ref (ε 1), .int 0])), (h2, .inl (κ 4, 4, .inr (.inr (.inr (.inr (sel [h4, h5, h6, h7])))))), (h4, .inl (κ 0, 14, .inl (fun _ => 0))), (h5, .inl (κ 0, 196, .inl (fun _ => 0)))] H := hP
  have hD : va_D A [(h0, .inr (8, [.int 0, .int 0, .int 2, .ref h1, .ref h2, .int 0, .int 500, .int 0, .int 0, .int 0, .ref h3])), (h1, .inr (1, [.int 0, .ref (ε 1), .int 0])), (h2, .inl (κ 4, 4, .inr (.inr (.inr (.inr (sel [h4, h5, h6, h7])))))), (h4, .inl (κ 0, 14, .inl (fun _ => 0))), (h5, .inl (κ 0, 196, .inl (fun _ => 0)))] := hD
  rw [hw]
  refine lv_if_eq (tgt := 37) hx hb dX6_scoreBy_30 (by decide) (fun _ => ?_) (fun h => absurd (by decide) h)
  refine lv_aload_n hx hb dX6_scoreBy_37 rfl (lv_at hl 0 rfl) ?_
  refine lv_aload_n hx hb dX6_scoreBy_38 rfl (lv_at hl 0 rfl) ?_
  refine va_get (D := D) (ci := 8) (v := .ref h2) (C := RX6) (T := TX6) (N := 11) hx hb hts wi_X6_scoreBy_RX6 hown hK hP 0 rfl rfl 4 (by decide) (hts _ wd426_X6_scoreBy) (fun _ h9 => h9) rfl dX6_scoreBy_39 ?_
  refine lv_iload_n hx hb dX6_scoreBy_42 rfl (lv_at hl 1 rfl) ?_
  refine lv_iload_n hx hb dX6_scoreBy_43 rfl (lv_at hl 2 rfl) ?_
  refine vp_callSi (W.runV (As := [.ref h2, .int 1, .int p0]) (rest := []) ⟨hx, hb, hml, hown, hts⟩ (k_X6_score_2 l D κ ε h0 h2 h1 h3 h4 h5 h6 h7 (p0) (0) (0) (500) (0) (0) (0)) (cwV 3 hts gX6_scoreBy_X6_score rfl rfl rfl (by decide +kernel) ⟨(Nat.le_of_ble_eq_true rfl), (Nat.le_of_ble_eq_true rfl)⟩) (pre0_V (q0 := 0) (ci := 8) (wc := [(h0, .inr (8, [.int 0, .int 0, .int 2, .ref h1, .ref h2, .int 0, .int 500, .int 0, .int 0, .int 0, .ref h3])), (h2, .inl (κ 4, 4, .inr (.inr (.inr (.inr (sel [h4, h5, h6, h7])))))), (h1, .inr (1, [.int 0, .ref (ε 1), .int 0])), (h4, .inl (κ 0, 14, .inl (fun _ => 0))), (h5, .inl (κ 0, 196, .inl (fun _ => 0)))]) hP hK [0, 2, 1, 3, 4] rfl rfl rfl) rfl rfl hl.1 rfl (lv_room (Nat.le_of_ble_eq_true rfl)) dX6_scoreBy_44 ⟨(Nat.le_of_ble_eq_true rfl), (Nat.le_of_ble_eq_true rfl)⟩) (fun r hw => ?_)
  rw [hw]
  have hP9 := hP.sub (ws' := [(h0, .inr (8, [.int 0, .int 0, .int 2, .ref h1, .ref h2, .int 0, .int 500, .int 0, .int 0, .int 0, .ref h3]))]) [0] rfl
  have hD9 := hD.sub (ws' := [(h0, .inr (8, [.int 0, .int 0, .int 2, .ref h1, .ref h2, .int 0, .int 500, .int 0, .int 0, .int 0, .ref h3]))]) [0] (by decide) rfl
  exact W.iret (v := 0) hx hb hr (fun t ht hW => ⟨⟨0, [.int 0, .int 0, .int 2, .ref h1, .ref h2, .int 0, .int 500, .int 0, .int 0, .int 0, .ref h3], rfl, ⟨rfl, rfl⟩, by rw [ht]; exact hP9, hD9⟩, hS.F ht⟩) hS.2.2 dX6_scoreBy_47

set_option maxHeartbeats 4000000 in
set_option maxRecDepth 100000 in
theorem k_X5_isWay_3 (l : Launch) (D : va_G) (κ ε : Nat → Nat) (p0 : Int32) : Met l yX5_isWay wsX5_isWay ({ frames := 0, cells := 0, slots := 0, locals := 0 }) (va_Pc [.int 2, .int p0] (Pre0 D κ [])) (vp_Si (fun r => ((p0 < 1) ∧ (r = 0)) ∨ ((¬ p0 < 1) ∧ (1000 < p0) ∧ (r = 0)) ∨ ((¬ p0 < 1) ∧ (¬ 1000 < p0) ∧ (r = 1)))) 0 0 (fun _ => False) := by
  refine Met.ofW (cc := cX5_isWay) (maxL := 2) (ret := (some .boolean)) (by decide) rfl ?_
  intro p e s m args below meth c s₁ B hml hv
  obtain ⟨rfl, hP, hK⟩ := hv
  have hx := B.exec
  have hb := B.bytes
  have hr := B.returns
  have hts := atoms_spec (ws := wsX5_isWay) B.pre
  have hown : s.vm.findClass RX5 = some m.cls := findClass_of_methodNamed B.named
  have hlocks := B.notSynchronized
  have hP : va_P D vwCl [] s.heap := hP
  have hl := lv_entry [.int 2, .int p0] (n := 2) (Nat.le_of_ble_eq_true rfl)
  rw [lg_entry_eq]
  generalize (lg_sl [.int 2, .int p0] ++ List.replicate (2 - (lg_sl [.int 2, .int p0]).length) Slot.unset).toArray = ls at hl ⊢
  have hl : lv_has ls 2 [(0, .int 2), (1, .int p0)] := hl
  refine lv_iload_n hx hb dX5_isWay_0 rfl (lv_at hl 0 rfl) ?_
  refine lv_if_lt (tgt := 25) hx hb dX5_isWay_1 (by decide) (fun h => absurd h (by decide)) (fun _ => ?_)
  refine lv_iload_n hx hb dX5_isWay_4 rfl (lv_at hl 0 rfl) ?_
  refine lv_iconst (v := 4) hx hb dX5_isWay_5 (by decide) ?_
  refine lv_icmp_gt (tgt := 25) hx hb dX5_isWay_6 (by decide) (fun h => absurd h (by decide)) (fun _ => ?_)
  refine lv_iload_n hx hb dX5_isWay_9 rfl (lv_at hl 1 rfl) ?_
  refine lv_iconst (v := 1) hx hb dX5_isWay_10 (by decide) ?_
  refine lv_icmp_lt (tgt := 25) hx hb dX5_isWay_11 (by decide) (fun c1 => ?_) (fun c1 => ?_)
  · skip
    refine lv_iconst (v := 0) hx hb dX5_isWay_25 (by decide) ?_
    exact W.zret (v := 0) hx hb hr rfl (fun t ht hW => ⟨0, rfl, (Or.inl ⟨c1, rfl⟩), ht⟩) (fun q hq => absurd hq List.not_mem_nil) dX5_isWay_26
  · skip
    refine lv_iload_n hx hb dX5_isWay_14 rfl (lv_at hl 1 rfl) ?_
    refine lv_sipush (v := 1000) hx hb dX5_isWay_15 (by decide) ?_
    refine lv_icmp_gt (tgt := 25) hx hb dX5_isWay_18 (by decide) (fun c2 => ?_) (fun c2 => ?_)
    · skip
      refine lv_iconst (v := 0) hx hb dX5_isWay_25 (by decide) ?_
      exact W.zret (v := 0) hx hb hr rfl (fun t ht hW => ⟨0, rfl, (Or.inr (Or.inl ⟨c1, c2, rfl⟩)), ht⟩) (fun q hq => absurd hq List.not_mem_nil) dX5_isWay_26
    · skip
      refine lv_iconst (v := 1) hx hb dX5_isWay_21 (by decide) ?_
      refine lv_goto (tgt := 26) hx hb dX5_isWay_22 (by decide) ?_
      exact W.zret (v := 1) hx hb hr rfl (fun t ht hW => ⟨1, rfl, (Or.inr (Or.inr ⟨c1, c2, rfl⟩)), ht⟩) (fun q hq => absurd hq List.not_mem_nil) dX5_isWay_26

set_option maxHeartbeats 4000000 in
set_option maxRecDepth 100000 in
theorem k_X1_refine_4 (l : Launch) (D : va_G) (κ ε : Nat → Nat) (h0 h1 h2 h3 h4 h5 h6 h7 h8 h9 h10 h11 : Nat) (sz : Nat) (p0 : Int32) (p1 : Int32) (p2 : Int32) (p3 : Int32) : Met l yX1_refine wsX1_refine ({ frames := 2, cells := 0, slots := 0, locals := 48 }) (va_Pc [.ref h0, .int 1, .int 0] (Pre2 D κ ε [(h0, .inr (3, [.ref h1, .int 2, .int p0, .ref h2, .ref h3, .long 0, .int p1])), (h1, .inr (2, [.int p2, .int p3, .ref h4, .ref h5])), (h3, .inl (κ 0, 13, .inl (fun _ => 0))), (h4, .inl (κ 3, 4, .inr (.inr (.inr (.inr (sel [h6, h7, h8, h9])))))), (h6, .inr (6, [.ref h10, .ref h11, .int 0]))] sz)) (va_Qv (fun u : Unit => True) (fun u t => va_P D vwCl [(h0, .inr (3, [.ref h1, .int 2, .int p0, .ref h2, .ref h3, .long 0, .int 0])), (h1, .inr (2, [.int p2, .int p3, .ref h4, .ref h5])), (h3, .inl (κ 0, 13, .inl (fun _ => 0))), (h4, .inl (κ 3, 4, .inr (.inr (.inr (.inr (sel [h6, h7, h8, h9])))))), (h6, .inr (6, [.ref h10, .ref h11, .int 0]))] t.heap ∧ va_D (va_A [(h0, .inr (3, [.ref h1, .int 2, .int p0, .ref h2, .ref h3, .long 0, .int p1])), (h1, .inr (2, [.int p2, .int p3, .ref h4, .ref h5])), (h3, .inl (κ 0, 13, .inl (fun _ => 0))), (h4, .inl (κ 3, 4, .inr (.inr (.inr (.inr (sel [h6, h7, h8, h9])))))), (h6, .inr (6, [.ref h10, .ref h11, .int 0]))] sz) [(h0, .inr (3, [.ref h1, .int 2, .int p0, .ref h2, .ref h3, .long 0, .int 0])), (h1, .inr (2, [.int p2, .int p3, .ref h4, .ref h5])), (h3, .inl (κ 0, 13, .inl (fun _ => 0))), (h4, .inl (κ 3, 4, .inr (.inr (.inr (.inr (sel [h6, h7, h8, h9])))))), (h6, .inr (6, [.ref h10, .ref h11, .int 0]))]) (va_A [(h0, .inr (3, [.ref h1, .int 2, .int p0, .ref h2, .ref h3, .long 0, .int p1])), (h1, .inr (2, [.int p2, .int p3, .ref h4, .ref h5])), (h3, .inl (κ 0, 13, .inl (fun _ => 0))), (h4, .inl (κ 3, 4, .inr (.inr (.inr (.inr (sel [h6, h7, h8, h9])))))), (h6, .inr (6, [.ref h10, .ref h11, .int 0]))] sz)) 0 0 (va_A [(h0, .inr (3, [.ref h1, .int 2, .int p0, .ref h2, .ref h3, .long 0, .int p1])), (h1, .inr (2, [.int p2, .int p3, .ref h4, .ref h5])), (h3, .inl (κ 0, 13, .inl (fun _ => 0))), (h4, .inl (κ 3, 4, .inr (.inr (.inr (.inr (sel [h6, h7, h8, h9])))))), (h6, .inr (6, [.ref h10, .ref h11, .int 0]))] sz) := by
  refine Met.ofW (cc := cX1_refine) (maxL := 5) (ret := none) (by decide) rfl ?_
  intro p e s m args below meth c s₁ B hml hv
  obtain ⟨rfl, hsz, hP, hK, hD0, hE9⟩ := hv
  have hx := B.exec
  have hb := B.bytes
  have hr := B.returns
  have hts := atoms_spec (ws := wsX1_refine) B.pre
  have hown : s.vm.findClass RX1 = some m.cls := findClass_of_methodNamed B.named
  have hlocks := B.notSynchronized
  subst hsz
  have hD := hD0.self (sz := s.heap.size)
  generalize hAe : va_A [(h0, .inr (3, [.ref h1, .int 2, .int p0, .ref h2, .ref h3, .long 0, .int p1])), (h1, .inr (2, [.int p2, .int p3, .ref h4, .ref h5])), (h3, .inl (κ 0, 13, .inl (fun _ => 0))), (h4, .inl (κ 3, 4, .inr (.inr (.inr (.inr (sel [h6, h7, h8, h9])))))), (h6, .inr (6, [.ref h10, .ref h11, .int 0]))] s.heap.size = A at hD hE9 ⊢
  have hE := hE9.1
  have hDc := hE9.2
  have hA : ∀ q : Nat, s.heap.size ≤ q → A q := fun q h => by rw [← hAe]; exact Or.inr h
  have hS : va_S A s.heap s.heap [] := va_S.rf
  have hP : va_P D vwCl [(h0, .inr (3, [.ref h1, .int 2, .int p0, .ref h2, .ref h3, .long 0, .int p1])), (h1, .inr (2, [.int p2, .int p3, .ref h4, .ref h5])), (h3, .inl (κ 0, 13, .inl (fun _ => 0))), (h4, .inl (κ 3, 4, .inr (.inr (.inr (.inr (sel [h6, h7, h8, h9])))))), (h6, .inr (6, [.ref h10, .ref h11, .int 0]))] s.heap := hP
  have hl := lv_entry [.ref h0, .int 1, .int 0] (n := 5) (Nat.le_of_ble_eq_true rfl)
  rw [lg_entry_eq]
  generalize (lg_sl [.ref h0, .int 1, .int 0] ++ List.replicate (5 - (lg_sl [.ref h0, .int 1, .int 0]).length) Slot.unset).toArray = ls at hl ⊢
  have hl : lv_has ls 5 [(0, .ref h0), (1, .int 1), (2, .int 0)] := hl
  refine lv_aload_n hx hb dX1_refine_0 rfl (lv_at hl 0 rfl) ?_
  refine va_get (D := D) (ci := 3) (v := .int 2) (C := RX1) (T := TX1) (N := 7) hx hb hts wi_X1_refine_RX1 hown hK hP 0 rfl rfl 1 (by decide) (hts _ wd287_X1_refine) (fun _ h9 => h9) rfl dX1_refine_1 ?_
  refine lv_iconst (v := 4) hx hb dX1_refine_4 (by decide) ?_
  refine lv_icmp_ne (tgt := 23) hx hb dX1_refine_5 (by decide) (fun _ => ?_) (fun h => absurd h (by decide))
  refine lv_iconst (v := 0) hx hb dX1_refine_23 (by decide) ?_
  refine lv_istore_n (lv' := [(3, .int 0), (0, .ref h0), (1, .int 1), (2, .int 0)]) hx hb dX1_refine_24 rfl hl (by decide) rfl (fun ls hl => ?_)
  refine lv_aload_n hx hb dX1_refine_25 rfl (lv_at hl 1 rfl) ?_
  refine lv_iload_n hx hb dX1_refine_26 rfl (lv_at hl 0 rfl) ?_
  refine lv_if_eq (tgt := 41) hx hb dX1_refine_27 (by decide) (fun _ => ?_) (fun h => absurd (by decide) h)
  refine lv_aload_n hx hb dX1_refine_41 rfl (lv_at hl 1 rfl) ?_
  refine va_get (D := D) (ci := 3) (v := .ref h1) (C := RX1) (T := TX1) (N := 7) hx hb hts wi_X1_refine_RX1 hown hK hP 0 rfl rfl 0 (by decide) (hts _ wd288_X1_refine) (fun _ h9 => h9) rfl dX1_refine_42 ?_
  refine lv_iload_n hx hb dX1_refine_45 rfl (lv_at hl 2 rfl) ?_
  refine va_csr (W.runV (As := [.int 1]) (rest := [.ref h0]) ⟨hx, hb, hml, hown, hts⟩ (k_X0_countsOf_0 l D κ ε h1 h4 h5 h6 h7 h8 h9 (p2) (p3)) (cwV 1 hts gX1_refine_X0_countsOf rfl rfl rfl (by decide +kernel) ⟨(Nat.le_of_ble_eq_true rfl), (Nat.le_of_ble_eq_true rfl)⟩) (pre0_V (q0 := 1) (ci := 2) (wc := [(h1, .inr (2, [.int p2, .int p3, .ref h4, .ref h5])), (h4, .inl (κ 3, 4, .inr (.inr (.inr (.inr (sel [h6, h7, h8, h9]))))))]) hP hK [1, 3] rfl rfl rfl) rfl rfl hl.1 rfl (lv_room (Nat.le_of_ble_eq_true rfl)) dX1_refine_46 ⟨(Nat.le_of_ble_eq_true rfl), (Nat.le_of_ble_eq_true rfl)⟩) (fun r hw => ?_)
  rw [hw]
  refine lv_iload_n hx hb dX1_refine_49 rfl (lv_at hl 3 rfl) ?_
  have hF := va_free (wc := [(h0, .inr (3, [.ref h1, .int 2, .int p0, .ref h2, .ref h3, .long 0, .int p1])), (h6, .inr (6, [.ref h10, .ref h11, .int 0])), (h3, .inl (κ 0, 13, .inl (fun _ => 0)))]) hD hS hA [0, 4, 2] rfl
  refine va_callv (va_runV (As := [.ref h6, .int 0]) (rest := []) ⟨hx, hb, hml, hown, hts⟩ (k_X1_gather_0 l D κ ε h0 h6 h1 h2 h3 h10 h11 s.heap.size (2) (p0) (0) (p1)) (cwV 2 hts gX1_refine_X1_gather rfl rfl rfl (by decide +kernel) ⟨(Nat.le_of_ble_eq_true rfl), (Nat.le_of_ble_eq_true rfl)⟩) (pre2_V (q0 := 0) (ci := 3) (wc := [(h0, .inr (3, [.ref h1, .int 2, .int p0, .ref h2, .ref h3, .long 0, .int p1])), (h6, .inr (6, [.ref h10, .ref h11, .int 0])), (h3, .inl (κ 0, 13, .inl (fun _ => 0)))]) hP hD hK hE9 hS hA [0, 4, 2] (by decide) rfl rfl rfl) rfl rfl hl.1 rfl (lv_room (Nat.le_of_ble_eq_true rfl)) dX1_refine_50 ⟨(Nat.le_of_ble_eq_true rfl), (Nat.le_of_ble_eq_true rfl)⟩) hS (fun q _ h => hF q h) hF (fun u1 t H locs ht hvm hw hB hz1 hk1 hS => ?_)
  try dsimp only at hw hB
  obtain ⟨hP1, hD1⟩ := hB
  rw [ht] at hP1
  obtain ⟨hP, hD⟩ := post_j (ws' := [(h0, .inr (3, [.ref h1, .int 2, .int p0, .ref h2, .ref h3, .long 0, .int 0])), (h1, .inr (2, [.int p2, .int p3, .ref h4, .ref h5])), (h3, .inl (κ 0, 13, .inl (fun _ => 0))), (h4, .inl (κ 3, 4, .inr (.inr (.inr (.inr (sel [h6, h7, h8, h9])))))), (h6, .inr (6, [.ref h10, .ref h11, .int 0]))]) (wr := [(h1, .inr (2, [.int p2, .int p3, .ref h4, .ref h5])), (h4, .inl (κ 3, 4, .inr (.inr (.inr (.inr (sel [h6, h7, h8, h9]))))))]) (w1 := [(h0, .inr (3, [.ref h1, .int 2, .int p0, .ref h2, .ref h3, .long 0, .int 0])), (h6, .inr (6, [.ref h10, .ref h11, .int 0])), (h3, .inl (κ 0, 13, .inl (fun _ => 0)))]) hP hD hF [0, 4, 2] rfl [1, 3] rfl (by decide) (by decide) hk1 hP1 hD1 [2, 0, 4, 1, 3] (by decide) rfl
  have hP : va_P D vwCl [(h0, .inr (3, [.ref h1, .int 2, .int p0, .ref h2, .ref h3, .long 0, .int 0])), (h1, .inr (2, [.int p2, .int p3, .ref h4, .ref h5])), (h3, .inl (κ 0, 13, .inl (fun _ => 0))), (h4, .inl (κ 3, 4, .inr (.inr (.inr (.inr (sel [h6, h7, h8, h9])))))), (h6, .inr (6, [.ref h10, .ref h11, .int 0]))] H := hP
  have hD : va_D A [(h0, .inr (3, [.ref h1, .int 2, .int p0, .ref h2, .ref h3, .long 0, .int 0])), (h1, .inr (2, [.int p2, .int p3, .ref h4, .ref h5])), (h3, .inl (κ 0, 13, .inl (fun _ => 0))), (h4, .inl (κ 3, 4, .inr (.inr (.inr (.inr (sel [h6, h7, h8, h9])))))), (h6, .inr (6, [.ref h10, .ref h11, .int 0]))] := hD
  refine lv_aload_n hx hb dX1_refine_53 rfl (lv_at hl 1 rfl) ?_
  refine va_get (D := D) (ci := 3) (v := .int 2) (C := RX1) (T := TX1) (N := 7) hx hb hts wi_X1_refine_RX1 hown hK hP 0 rfl rfl 1 (by decide) (hts _ wd287_X1_refine) (fun _ h9 => h9) rfl dX1_refine_54 ?_
  refine lv_if_eq (tgt := 70) hx hb dX1_refine_57 (by decide) (fun h => absurd h (by decide)) (fun _ => ?_)
  refine lv_aload_n hx hb dX1_refine_60 rfl (lv_at hl 1 rfl) ?_
  refine va_get (D := D) (ci := 3) (v := .long 0) (C := RX1) (T := TX1) (N := 7) hx hb hts wi_X1_refine_RX1 hown hK hP 0 rfl rfl 5 (by decide) (hts _ wd427_X1_refine) (fun _ h9 => h9) rfl dX1_refine_61 ?_
  refine lv_lconst (v := 0) hx hb dX1_refine_64 (by decide) ?_
  refine W.lcmp hx hb dX1_refine_65 ?_
  refine tpi (v := 0) (by decide) ?_
  refine lv_if_gt (tgt := 70) hx hb dX1_refine_66 (by decide) (fun h => absurd h (by decide)) (fun _ => ?_)
  have hP9 := hP
  have hD9 := hD
  exact W.vret hx hb hr (fun t ht hW => ⟨⟨(), rfl, trivial, by rw [ht]; exact hP9, hD9⟩, hS.F ht⟩) hS.2.2 dX1_refine_69

set_option maxHeartbeats 4000000 in
set_option maxRecDepth 100000 in
theorem k_X1_refine_5 (l : Launch) (D : va_G) (κ ε : Nat → Nat) (h0 h1 h2 h3 h4 h5 h6 h7 h8 h9 h10 h11 : Nat) (sz : Nat) (p0 : Int32) (p1 : Int32) (p2 : Int32) (p3 : Int32) : Met l yX1_refine wsX1_refine ({ frames := 2, cells := 0, slots := 0, locals := 48 }) (va_Pc [.ref h0, .int 2, .int 0] (Pre2 D κ ε [(h0, .inr (3, [.ref h1, .int 2, .int p0, .ref h2, .ref h3, .long 0, .int p1])), (h1, .inr (2, [.int p2, .int p3, .ref h4, .ref h5])), (h3, .inl (κ 0, 13, .inl (fun _ => 0))), (h4, .inl (κ 3, 4, .inr (.inr (.inr (.inr (sel [h6, h7, h8, h9])))))), (h7, .inr (6, [.ref h10, .ref h11, .int 0]))] sz)) (va_Qv (fun u : Unit => True) (fun u t => va_P D vwCl [(h0, .inr (3, [.ref h1, .int 2, .int p0, .ref h2, .ref h3, .long 0, .int 0])), (h1, .inr (2, [.int p2, .int p3, .ref h4, .ref h5])), (h3, .inl (κ 0, 13, .inl (fun _ => 0))), (h4, .inl (κ 3, 4, .inr (.inr (.inr (.inr (sel [h6, h7, h8, h9])))))), (h7, .inr (6, [.ref h10, .ref h11, .int 0]))] t.heap ∧ va_D (va_A [(h0, .inr (3, [.ref h1, .int 2, .int p0, .ref h2, .ref h3, .long 0, .int p1])), (h1, .inr (2, [.int p2, .int p3, .ref h4, .ref h5])), (h3, .inl (κ 0, 13, .inl (fun _ => 0))), (h4, .inl (κ 3, 4, .inr (.inr (.inr (.inr (sel [h6, h7, h8, h9])))))), (h7, .inr (6, [.ref h10, .ref h11, .int 0]))] sz) [(h0, .inr (3, [.ref h1, .int 2, .int p0, .ref h2, .ref h3, .long 0, .int 0])), (h1, .inr (2, [.int p2, .int p3, .ref h4, .ref h5])), (h3, .inl (κ 0, 13, .inl (fun _ => 0))), (h4, .inl (κ 3, 4, .inr (.inr (.inr (.inr (sel [h6, h7, h8, h9])))))), (h7, .inr (6, [.ref h10, .ref h11, .int 0]))]) (va_A [(h0, .inr (3, [.ref h1, .int 2, .int p0, .ref h2, .ref h3, .long 0, .int p1])), (h1, .inr (2, [.int p2, .int p3, .ref h4, .ref h5])), (h3, .inl (κ 0, 13, .inl (fun _ => 0))), (h4, .inl (κ 3, 4, .inr (.inr (.inr (.inr (sel [h6, h7, h8, h9])))))), (h7, .inr (6, [.ref h10, .ref h11, .int 0]))] sz)) 0 0 (va_A [(h0, .inr (3, [.ref h1, .int 2, .int p0, .ref h2, .ref h3, .long 0, .int p1])), (h1, .inr (2, [.int p2, .int p3, .ref h4, .ref h5])), (h3, .inl (κ 0, 13, .inl (fun _ => 0))), (h4, .inl (κ 3, 4, .inr (.inr (.inr (.inr (sel [h6, h7, h8, h9])))))), (h7, .inr (6, [.ref h10, .ref h11, .int 0]))] sz) := by
  refine Met.ofW (cc := cX1_refine) (maxL := 5) (ret := none) (by decide) rfl ?_
  intro p e s m args below meth c s₁ B hml hv
  obtain ⟨rfl, hsz, hP, hK, hD0, hE9⟩ := hv
  have hx := B.exec
  have hb := B.bytes
  have hr := B.returns
  have hts := atoms_spec (ws := wsX1_refine) B.pre
  have hown : s.vm.findClass RX1 = some m.cls := findClass_of_methodNamed B.named
  have hlocks := B.notSynchronized
  subst hsz
  have hD := hD0.self (sz := s.heap.size)
  generalize hAe : va_A [(h0, .inr (3, [.ref h1, .int 2, .int p0, .ref h2, .ref h3, .long 0, .int p1])), (h1, .inr (2, [.int p2, .int p3, .ref h4, .ref h5])), (h3, .inl (κ 0, 13, .inl (fun _ => 0))), (h4, .inl (κ 3, 4, .inr (.inr (.inr (.inr (sel [h6, h7, h8, h9])))))), (h7, .inr (6, [.ref h10, .ref h11, .int 0]))] s.heap.size = A at hD hE9 ⊢
  have hE := hE9.1
  have hDc := hE9.2
  have hA : ∀ q : Nat, s.heap.size ≤ q → A q := fun q h => by rw [← hAe]; exact Or.inr h
  have hS : va_S A s.heap s.heap [] := va_S.rf
  have hP : va_P D vwCl [(h0, .inr (3, [.ref h1, .int 2, .int p0, .ref h2, .ref h3, .long 0, .int p1])), (h1, .inr (2, [.int p2, .int p3, .ref h4, .ref h5])), (h3, .inl (κ 0, 13, .inl (fun _ => 0))), (h4, .inl (κ 3, 4, .inr (.inr (.inr (.inr (sel [h6, h7, h8, h9])))))), (h7, .inr (6, [.ref h10, .ref h11, .int 0]))] s.heap := hP
  have hl := lv_entry [.ref h0, .int 2, .int 0] (n := 5) (Nat.le_of_ble_eq_true rfl)
  rw [lg_entry_eq]
  generalize (lg_sl [.ref h0, .int 2, .int 0] ++ List.replicate (5 - (lg_sl [.ref h0, .int 2, .int 0]).length) Slot.unset).toArray = ls at hl ⊢
  have hl : lv_has ls 5 [(0, .ref h0), (1, .int 2), (2, .int 0)] := hl
  refine lv_aload_n hx hb dX1_refine_0 rfl (lv_at hl 0 rfl) ?_
  refine va_get (D := D) (ci := 3) (v := .int 2) (C := RX1) (T := TX1) (N := 7) hx hb hts wi_X1_refine_RX1 hown hK hP 0 rfl rfl 1 (by decide) (hts _ wd287_X1_refine) (fun _ h9 => h9) rfl dX1_refine_1 ?_
  refine lv_iconst (v := 4) hx hb dX1_refine_4 (by decide) ?_
  refine lv_icmp_ne (tgt := 23) hx hb dX1_refine_5 (by decide) (fun _ => ?_) (fun h => absurd h (by decide))
  refine lv_iconst (v := 0) hx hb dX1_refine_23 (by decide) ?_
  refine lv_istore_n (lv' := [(3, .int 0), (0, .ref h0), (1, .int 2), (2, .int 0)]) hx hb dX1_refine_24 rfl hl (by decide) rfl (fun ls hl => ?_)
  refine lv_aload_n hx hb dX1_refine_25 rfl (lv_at hl 1 rfl) ?_
  refine lv_iload_n hx hb dX1_refine_26 rfl (lv_at hl 0 rfl) ?_
  refine lv_if_eq (tgt := 41) hx hb dX1_refine_27 (by decide) (fun _ => ?_) (fun h => absurd (by decide) h)
  refine lv_aload_n hx hb dX1_refine_41 rfl (lv_at hl 1 rfl) ?_
  refine va_get (D := D) (ci := 3) (v := .ref h1) (C := RX1) (T := TX1) (N := 7) hx hb hts wi_X1_refine_RX1 hown hK hP 0 rfl rfl 0 (by decide) (hts _ wd288_X1_refine) (fun _ h9 => h9) rfl dX1_refine_42 ?_
  refine lv_iload_n hx hb dX1_refine_45 rfl (lv_at hl 2 rfl) ?_
  refine va_csr (W.runV (As := [.int 2]) (rest := [.ref h0]) ⟨hx, hb, hml, hown, hts⟩ (k_X0_countsOf_1 l D κ ε h1 h4 h5 h6 h7 h8 h9 (p2) (p3)) (cwV 1 hts gX1_refine_X0_countsOf rfl rfl rfl (by decide +kernel) ⟨(Nat.le_of_ble_eq_true rfl), (Nat.le_of_ble_eq_true rfl)⟩) (pre0_V (q0 := 1) (ci := 2) (wc := [(h1, .inr (2, [.int p2, .int p3, .ref h4, .ref h5])), (h4, .inl (κ 3, 4, .inr (.inr (.inr (.inr (sel [h6, h7, h8, h9]))))))]) hP hK [1, 3] rfl rfl rfl) rfl rfl hl.1 rfl (lv_room (Nat.le_of_ble_eq_true rfl)) dX1_refine_46 ⟨(Nat.le_of_ble_eq_true rfl), (Nat.le_of_ble_eq_true rfl)⟩) (fun r hw => ?_)
  rw [hw]
  refine lv_iload_n hx hb dX1_refine_49 rfl (lv_at hl 3 rfl) ?_
  have hF := va_free (wc := [(h0, .inr (3, [.ref h1, .int 2, .int p0, .ref h2, .ref h3, .long 0, .int p1])), (h7, .inr (6, [.ref h10, .ref h11, .int 0])), (h3, .inl (κ 0, 13, .inl (fun _ => 0)))]) hD hS hA [0, 4, 2] rfl
  refine va_callv (va_runV (As := [.ref h7, .int 0]) (rest := []) ⟨hx, hb, hml, hown, hts⟩ (k_X1_gather_0 l D κ ε h0 h7 h1 h2 h3 h10 h11 s.heap.size (2) (p0) (0) (p1)) (cwV 2 hts gX1_refine_X1_gather rfl rfl rfl (by decide +kernel) ⟨(Nat.le_of_ble_eq_true rfl), (Nat.le_of_ble_eq_true rfl)⟩) (pre2_V (q0 := 0) (ci := 3) (wc := [(h0, .inr (3, [.ref h1, .int 2, .int p0, .ref h2, .ref h3, .long 0, .int p1])), (h7, .inr (6, [.ref h10, .ref h11, .int 0])), (h3, .inl (κ 0, 13, .inl (fun _ => 0)))]) hP hD hK hE9 hS hA [0, 4, 2] (by decide) rfl rfl rfl) rfl rfl hl.1 rfl (lv_room (Nat.le_of_ble_eq_true rfl)) dX1_refine_50 ⟨(Nat.le_of_ble_eq_true rfl), (Nat.le_of_ble_eq_true rfl)⟩) hS (fun q _ h => hF q h) hF (fun u1 t H locs ht hvm hw hB hz1 hk1 hS => ?_)
  try dsimp only at hw hB
  obtain ⟨hP1, hD1⟩ := hB
  rw [ht] at hP1
  obtain ⟨hP, hD⟩ := post_j (ws' := [(h0, .inr (3, [.ref h1, .int 2, .int p0, .ref h2, .ref h3, .long 0, .int 0])), (h1, .inr (2, [.int p2, .int p3, .ref h4, .ref h5])), (h3, .inl (κ 0, 13, .inl (fun _ => 0))), (h4, .inl (κ 3, 4, .inr (.inr (.inr (.inr (sel [h6, h7, h8, h9])))))), (h7, .inr (6, [.ref h10, .ref h11, .int 0]))]) (wr := [(h1, .inr (2, [.int p2, .int p3, .ref h4, .ref h5])), (h4, .inl (κ 3, 4, .inr (.inr (.inr (.inr (sel [h6, h7, h8, h9]))))))]) (w1 := [(h0, .inr (3, [.ref h1, .int 2, .int p0, .ref h2, .ref h3, .long 0, .int 0])), (h7, .inr (6, [.ref h10, .ref h11, .int 0])), (h3, .inl (κ 0, 13, .inl (fun _ => 0)))]) hP hD hF [0, 4, 2] rfl [1, 3] rfl (by decide) (by decide) hk1 hP1 hD1 [2, 0, 4, 1, 3] (by decide) rfl
  have hP : va_P D vwCl [(h0, .inr (3, [.ref h1, .int 2, .int p0, .ref h2, .ref h3, .long 0, .int 0])), (h1, .inr (2, [.int p2, .int p3, .ref h4, .ref h5])), (h3, .inl (κ 0, 13, .inl (fun _ => 0))), (h4, .inl (κ 3, 4, .inr (.inr (.inr (.inr (sel [h6, h7, h8, h9])))))), (h7, .inr (6, [.ref h10, .ref h11, .int 0]))] H := hP
  have hD : va_D A [(h0, .inr (3, [.ref h1, .int 2, .int p0, .ref h2, .ref h3, .long 0, .int 0])), (h1, .inr (2, [.int p2, .int p3, .ref h4, .ref h5])), (h3, .inl (κ 0, 13, .inl (fun _ => 0))), (h4, .inl (κ 3, 4, .inr (.inr (.inr (.inr (sel [h6, h7, h8, h9])))))), (h7, .inr (6, [.ref h10, .ref h11, .int 0]))] := hD
  refine lv_aload_n hx hb dX1_refine_53 rfl (lv_at hl 1 rfl) ?_
  refine va_get (D := D) (ci := 3) (v := .int 2) (C := RX1) (T := TX1) (N := 7) hx hb hts wi_X1_refine_RX1 hown hK hP 0 rfl rfl 1 (by decide) (hts _ wd287_X1_refine) (fun _ h9 => h9) rfl dX1_refine_54 ?_
  refine lv_if_eq (tgt := 70) hx hb dX1_refine_57 (by decide) (fun h => absurd h (by decide)) (fun _ => ?_)
  refine lv_aload_n hx hb dX1_refine_60 rfl (lv_at hl 1 rfl) ?_
  refine va_get (D := D) (ci := 3) (v := .long 0) (C := RX1) (T := TX1) (N := 7) hx hb hts wi_X1_refine_RX1 hown hK hP 0 rfl rfl 5 (by decide) (hts _ wd427_X1_refine) (fun _ h9 => h9) rfl dX1_refine_61 ?_
  refine lv_lconst (v := 0) hx hb dX1_refine_64 (by decide) ?_
  refine W.lcmp hx hb dX1_refine_65 ?_
  refine tpi (v := 0) (by decide) ?_
  refine lv_if_gt (tgt := 70) hx hb dX1_refine_66 (by decide) (fun h => absurd h (by decide)) (fun _ => ?_)
  have hP9 := hP
  have hD9 := hD
  exact W.vret hx hb hr (fun t ht hW => ⟨⟨(), rfl, trivial, by rw [ht]; exact hP9, hD9⟩, hS.F ht⟩) hS.2.2 dX1_refine_69

set_option maxHeartbeats 4000000 in
set_option maxRecDepth 100000 in
theorem k_X1_reckon_3 (l : Launch) (D : va_G) (κ ε : Nat → Nat) (h0 h1 h2 h3 h4 h5 h6 h7 h8 h9 h10 h11 h12 h13 : Nat) (sz : Nat) (p0 : Int32) (p1 : Int32) (p2 : Int32) : Met l yX1_reckon wsX1_reckon ({ frames := 3, cells := 0, slots := 0, locals := 72 }) (va_Pc [.ref h0, .int 2, .int 0] (Pre2 D κ ε [(h0, .inr (3, [.ref h1, .int 2, .int p0, .ref h2, .ref h3, .long 0, .int p1])), (h1, .inr (2, [.int 0, .int p2, .ref h4, .ref h5])), (h2, .inl (κ 0, 13, .inl (fun _ => 0))), (h3, .inl (κ 0, 13, .inl (fun _ => 0))), (h4, .inl (κ 3, 4, .inr (.inr (.inr (.inr (sel [h6, h7, h8, h9])))))), (h6, .inr (6, [.ref h10, .ref h11, .int 0])), (h7, .inr (6, [.ref h12, .ref h13, .int 0]))] sz)) (va_Qv (fun u : Unit => True) (fun u t => va_P D vwCl [(h0, .inr (3, [.ref h1, .int 2, .int p0, .ref h2, .ref h3, .long 0, .int 0])), (h1, .inr (2, [.int 0, .int p2, .ref h4, .ref h5])), (h2, .inl (κ 0, 13, .inl (upd (upd (upd (upd (upd (upd (upd (upd (upd (upd (upd (upd (upd (fun _ => 0) 0 1000000) 1 1000000) 2 1000000) 3 1000000) 4 1000000) 5 1000000) 6 1000000) 7 1000000) 8 1000000) 9 1000000) 10 1000000) 11 1000000) 12 1000000))), (h3, .inl (κ 0, 13, .inl (fun _ => 0))), (h4, .inl (κ 3, 4, .inr (.inr (.inr (.inr (sel [h6, h7, h8, h9])))))), (h6, .inr (6, [.ref h10, .ref h11, .int 0])), (h7, .inr (6, [.ref h12, .ref h13, .int 0]))] t.heap ∧ va_D (va_A [(h0, .inr (3, [.ref h1, .int 2, .int p0, .ref h2, .ref h3, .long 0, .int p1])), (h1, .inr (2, [.int 0, .int p2, .ref h4, .ref h5])), (h2, .inl (κ 0, 13, .inl (fun _ => 0))), (h3, .inl (κ 0, 13, .inl (fun _ => 0))), (h4, .inl (κ 3, 4, .inr (.inr (.inr (.inr (sel [h6, h7, h8, h9])))))), (h6, .inr (6, [.ref h10, .ref h11, .int 0])), (h7, .inr (6, [.ref h12, .ref h13, .int 0]))] sz) [(h0, .inr (3, [.ref h1, .int 2, .int p0, .ref h2, .ref h3, .long 0, .int 0])), (h1, .inr (2, [.int 0, .int p2, .ref h4, .ref h5])), (h2, .inl (κ 0, 13, .inl (upd (upd (upd (upd (upd (upd (upd (upd (upd (upd (upd (upd (upd (fun _ => 0) 0 1000000) 1 1000000) 2 1000000) 3 1000000) 4 1000000) 5 1000000) 6 1000000) 7 1000000) 8 1000000) 9 1000000) 10 1000000) 11 1000000) 12 1000000))), (h3, .inl (κ 0, 13, .inl (fun _ => 0))), (h4, .inl (κ 3, 4, .inr (.inr (.inr (.inr (sel [h6, h7, h8, h9])))))), (h6, .inr (6, [.ref h10, .ref h11, .int 0])), (h7, .inr (6, [.ref h12, .ref h13, .int 0]))]) (va_A [(h0, .inr (3, [.ref h1, .int 2, .int p0, .ref h2, .ref h3, .long 0, .int p1])), (h1, .inr (2, [.int 0, .int p2, .ref h4, .ref h5])), (h2, .inl (κ 0, 13, .inl (fun _ => 0))), (h3, .inl (κ 0, 13, .inl (fun _ => 0))), (h4, .inl (κ 3, 4, .inr (.inr (.inr (.inr (sel [h6, h7, h8, h9])))))), (h6, .inr (6, [.ref h10, .ref h11, .int 0])), (h7, .inr (6, [.ref h12, .ref h13, .int 0]))] sz)) 0 0 (va_A [(h0, .inr (3, [.ref h1, .int 2, .int p0, .ref h2, .ref h3, .long 0, .int p1])), (h1, .inr (2, [.int 0, .int p2, .ref h4, .ref h5])), (h2, .inl (κ 0, 13, .inl (fun _ => 0))), (h3, .inl (κ 0, 13, .inl (fun _ => 0))), (h4, .inl (κ 3, 4, .inr (.inr (.inr (.inr (sel [h6, h7, h8, h9])))))), (h6, .inr (6, [.ref h10, .ref h11, .int 0])), (h7, .inr (6, [.ref h12, .ref h13, .int 0]))] sz) := by
  refine Met.ofW (cc := cX1_reckon) (maxL := 4) (ret := none) (by decide) rfl ?_
  intro p e s m args below meth c s₁ B hml hv
  obtain ⟨rfl, hsz, hP, hK, hD0, hE9⟩ := hv
  have hx := B.exec
  have hb := B.bytes
  have hr := B.returns
  have hts := atoms_spec (ws := wsX1_reckon) B.pre
  have hown : s.vm.findClass RX1 = some m.cls := findClass_of_methodNamed B.named
  have hlocks := B.notSynchronized
  subst hsz
  have hD := hD0.self (sz := s.heap.size)
  generalize hAe : va_A [(h0, .inr (3, [.ref h1, .int 2, .int p0, .ref h2, .ref h3, .long 0, .int p1])), (h1, .inr (2, [.int 0, .int p2, .ref h4, .ref h5])), (h2, .inl (κ 0, 13, .inl (fun _ => 0))), (h3, .inl (κ 0, 13, .inl (fun _ => 0))), (h4, .inl (κ 3, 4, .inr (.inr (.inr (.inr (sel [h6, h7, h8, h9])))))), (h6, .inr (6, [.ref h10, .ref h11, .int 0])), (h7, .inr (6, [.ref h12, .ref h13, .int 0]))] s.heap.size = A at hD hE9 ⊢
  have hE := hE9.1
  have hDc := hE9.2
  have hA : ∀ q : Nat, s.heap.size ≤ q → A q := fun q h => by rw [← hAe]; exact Or.inr h
  have hS : va_S A s.heap s.heap [] := va_S.rf
  have hP : va_P D vwCl [(h0, .inr (3, [.ref h1, .int 2, .int p0, .ref h2, .ref h3, .long 0, .int p1])), (h1, .inr (2, [.int 0, .int p2, .ref h4, .ref h5])), (h2, .inl (κ 0, 13, .inl (fun _ => 0))), (h3, .inl (κ 0, 13, .inl (fun _ => 0))), (h4, .inl (κ 3, 4, .inr (.inr (.inr (.inr (sel [h6, h7, h8, h9])))))), (h6, .inr (6, [.ref h10, .ref h11, .int 0])), (h7, .inr (6, [.ref h12, .ref h13, .int 0]))] s.heap := hP
  have hl := lv_entry [.ref h0, .int 2, .int 0] (n := 4) (Nat.le_of_ble_eq_true rfl)
  rw [lg_entry_eq]
  generalize (lg_sl [.ref h0, .int 2, .int 0] ++ List.replicate (4 - (lg_sl [.ref h0, .int 2, .int 0]).length) Slot.unset).toArray = ls at hl ⊢
  have hl : lv_has ls 4 [(0, .ref h0), (1, .int 2), (2, .int 0)] := hl
  refine lv_aload_n hx hb dX1_reckon_0 rfl (lv_at hl 0 rfl) ?_
  refine va_get (D := D) (ci := 3) (v := .ref h2) (C := RX1) (T := TX1) (N := 7) hx hb hts wi_X1_reckon_RX1 hown hK hP 0 rfl rfl 3 (by decide) (hts _ wd292_X1_reckon) (fun _ h9 => h9) rfl dX1_reckon_1 ?_
  refine lv_ldc (v := 1000000) hx hb hown (hts _ wd293_X1_reckon) dX1_reckon_4 ?_
  refine lv_aload_n hx hb dX1_reckon_6 rfl (lv_at hl 0 rfl) ?_
  refine va_get (D := D) (ci := 3) (v := .ref h1) (C := RX1) (T := TX1) (N := 7) hx hb hts wi_X1_reckon_RX1 hown hK hP 0 rfl rfl 0 (by decide) (hts _ wd294_X1_reckon) (fun _ h9 => h9) rfl dX1_reckon_7 ?_
  refine va_get (D := D) (ci := 2) (v := .int 0) (C := RX0) (T := TX0) (N := 4) hx hb hts wi_X1_reckon_RX0 hown hK hP 1 rfl rfl 0 (by decide) (hts _ wd295_X1_reckon) (fun _ h9 => h9) rfl dX1_reckon_10 ?_
  refine lv_iconst (v := 1) hx hb dX1_reckon_13 (by decide) ?_
  refine lv_iadd hx hb dX1_reckon_14 ?_
  refine tpi (v := 1) (by decide) ?_
  refine lv_idiv hx hb dX1_reckon_15 (by decide) ?_
  refine tpi (v := 1000000) (by decide) ?_
  have hF := va_free (wc := [(h2, .inl (κ 0, 13, .inl (fun _ => 0)))]) hD hS hA [2] rfl
  refine va_callv (va_runS (As := [.ref h2, .int 1000000]) (rest := []) ⟨hx, hb, hml, hown, hts⟩ (k_J7_fill_53178_1 l D κ ε h2 s.heap.size) (va_cwS 2 hts gX1_reckon_J7_fill_53178 rfl rfl rfl (by decide +kernel) ⟨(Nat.le_of_ble_eq_true rfl), (Nat.le_of_ble_eq_true rfl)⟩) (pre2_S (wc := [(h2, .inl (κ 0, 13, .inl (fun _ => 0)))]) hP hD hK hE9 hS hA [2] (by decide) rfl) rfl rfl hl.1 rfl (lv_room (Nat.le_of_ble_eq_true rfl)) dX1_reckon_16 ⟨(Nat.le_of_ble_eq_true rfl), (Nat.le_of_ble_eq_true rfl)⟩) hS (fun q _ h => hF q h) hF (fun u1 t H locs ht hvm hw hB hz1 hk1 hS => ?_)
  try dsimp only at hw hB
  obtain ⟨hP1, hD1⟩ := hB
  rw [ht] at hP1
  obtain ⟨hP, hD⟩ := post_j (ws' := [(h0, .inr (3, [.ref h1, .int 2, .int p0, .ref h2, .ref h3, .long 0, .int p1])), (h1, .inr (2, [.int 0, .int p2, .ref h4, .ref h5])), (h2, .inl (κ 0, 13, .inl (upd (upd (upd (upd (upd (upd (upd (upd (upd (upd (upd (upd (upd (fun _ => 0) 0 1000000) 1 1000000) 2 1000000) 3 1000000) 4 1000000) 5 1000000) 6 1000000) 7 1000000) 8 1000000) 9 1000000) 10 1000000) 11 1000000) 12 1000000))), (h3, .inl (κ 0, 13, .inl (fun _ => 0))), (h4, .inl (κ 3, 4, .inr (.inr (.inr (.inr (sel [h6, h7, h8, h9])))))), (h6, .inr (6, [.ref h10, .ref h11, .int 0])), (h7, .inr (6, [.ref h12, .ref h13, .int 0]))]) (wr := [(h0, .inr (3, [.ref h1, .int 2, .int p0, .ref h2, .ref h3, .long 0, .int p1])), (h1, .inr (2, [.int 0, .int p2, .ref h4, .ref h5])), (h3, .inl (κ 0, 13, .inl (fun _ => 0))), (h4, .inl (κ 3, 4, .inr (.inr (.inr (.inr (sel [h6, h7, h8, h9])))))), (h6, .inr (6, [.ref h10, .ref h11, .int 0])), (h7, .inr (6, [.ref h12, .ref h13, .int 0]))]) (w1 := [(h2, .inl (κ 0, 13, .inl (upd (upd (upd (upd (upd (upd (upd (upd (upd (upd (upd (upd (upd (fun _ => 0) 0 1000000) 1 1000000) 2 1000000) 3 1000000) 4 1000000) 5 1000000) 6 1000000) 7 1000000) 8 1000000) 9 1000000) 10 1000000) 11 1000000) 12 1000000)))]) hP hD hF [2] rfl [0, 1, 3, 4, 5, 6] rfl (by decide) (by decide) hk1 hP1 hD1 [0, 1, 6, 2, 3, 4, 5] (by decide) rfl
  have hP : va_P D vwCl [(h0, .inr (3, [.ref h1, .int 2, .int p0, .ref h2, .ref h3, .long 0, .int p1])), (h1, .inr (2, [.int 0, .int p2, .ref h4, .ref h5])), (h2, .inl (κ 0, 13, .inl (upd (upd (upd (upd (upd (upd (upd (upd (upd (upd (upd (upd (upd (fun _ => 0) 0 1000000) 1 1000000) 2 1000000) 3 1000000) 4 1000000) 5 1000000) 6 1000000) 7 1000000) 8 1000000) 9 1000000) 10 1000000) 11 1000000) 12 1000000))), (h3, .inl (κ 0, 13, .inl (fun _ => 0))), (h4, .inl (κ 3, 4, .inr (.inr (.inr (.inr (sel [h6, h7, h8, h9])))))), (h6, .inr (6, [.ref h10, .ref h11, .int 0])), (h7, .inr (6, [.ref h12, .ref h13, .int 0]))] H := hP
  have hD : va_D A [(h0, .inr (3, [.ref h1, .int 2, .int p0, .ref h2, .ref h3, .long 0, .int p1])), (h1, .inr (2, [.int 0, .int p2, .ref h4, .ref h5])), (h2, .inl (κ 0, 13, .inl (upd (upd (upd (upd (upd (upd (upd (upd (upd (upd (upd (upd (upd (fun _ => 0) 0 1000000) 1 1000000) 2 1000000) 3 1000000) 4 1000000) 5 1000000) 6 1000000) 7 1000000) 8 1000000) 9 1000000) 10 1000000) 11 1000000) 12 1000000))), (h3, .inl (κ 0, 13, .inl (fun _ => 0))), (h4, .inl (κ 3, 4, .inr (.inr (.inr (.inr (sel [h6, h7, h8, h9])))))), (h6, .inr (6, [.ref h10, .ref h11, .int 0])), (h7, .inr (6, [.ref h12, .ref h13, .int 0]))] := hD
  refine lv_aload_n hx hb dX1_reckon_19 rfl (lv_at hl 0 rfl) ?_
  refine va_get (D := D) (ci := 3) (v := .int 2) (C := RX1) (T := TX1) (N := 7) hx hb hts wi_X1_reckon_RX1 hown hK hP 0 rfl rfl 1 (by decide) (hts _ wd296_X1_reckon) (fun _ h9 => h9) rfl dX1_reckon_20 ?_
  refine lv_if_ne (tgt := 30) hx hb dX1_reckon_23 (by decide) (fun _ => ?_) (fun h => absurd h (by decide))
  refine lv_iconst (v := 1) hx hb dX1_reckon_30 (by decide) ?_
  refine lv_istore_n (lv' := [(3, .int 1), (0, .ref h0), (1, .int 2), (2, .int 0)]) hx hb dX1_reckon_31 rfl hl (by decide) rfl (fun ls hl => ?_)
  refine lv_iload_n hx hb dX1_reckon_32 rfl (lv_at hl 0 rfl) ?_
  refine lv_iload_n hx hb dX1_reckon_33 rfl (lv_at hl 2 rfl) ?_
  refine lv_icmp_gt (tgt := 57) hx hb dX1_reckon_34 (by decide) (fun h => absurd h (by decide)) (fun _ => ?_)
  refine lv_aload_n hx hb dX1_reckon_37 rfl (lv_at hl 1 rfl) ?_
  refine lv_iload_n hx hb dX1_reckon_38 rfl (lv_at hl 0 rfl) ?_
  refine lv_iload_n hx hb dX1_reckon_39 rfl (lv_at hl 3 rfl) ?_
  refine va_getsN hx hb hE.2.2.1 hS hown (va_Nw.use rfl hE.2.2.2.2.2.2.2.1) (fun _ h9 => h9) dX1_reckon_40 ?_
  refine lv_iload_n hx hb dX1_reckon_43 rfl (lv_at hl 0 rfl) ?_
  refine lv_iconst (v := 1) hx hb dX1_reckon_44 (by decide) ?_
  refine lv_isub hx hb dX1_reckon_45 ?_
  refine tpi (v := 0) (by decide) ?_
  refine va_ti hx hb hE.2.2.2.1 hS (vpl (by decide)) (v := .int 1) rfl dX1_reckon_46 ?_
  refine lv_irem hx hb dX1_reckon_47 (by decide) ?_
  refine tpi (v := 0) (by decide) ?_
  have hF := va_free (wc := [(h0, .inr (3, [.ref h1, .int 2, .int p0, .ref h2, .ref h3, .long 0, .int p1])), (h1, .inr (2, [.int 0, .int p2, .ref h4, .ref h5])), (h3, .inl (κ 0, 13, .inl (fun _ => 0))), (h4, .inl (κ 3, 4, .inr (.inr (.inr (.inr (sel [h6, h7, h8, h9])))))), (h6, .inr (6, [.ref h10, .ref h11, .int 0]))]) hD hS hA [0, 1, 3, 4, 5] rfl
  refine va_callv (va_runV (As := [.int 1, .int 0]) (rest := []) ⟨hx, hb, hml, hown, hts⟩ (k_X1_refine_4 l D κ ε h0 h1 h2 h3 h4 h5 h6 h7 h8 h9 h10 h11 H.size (p0) (p1) (0) (p2)) (cwV 2 hts gX1_reckon_X1_refine rfl rfl rfl (by decide +kernel) ⟨(Nat.le_of_ble_eq_true rfl), (Nat.le_of_ble_eq_true rfl)⟩) (pre2_V (q0 := 0) (ci := 3) (wc := [(h0, .inr (3, [.ref h1, .int 2, .int p0, .ref h2, .ref h3, .long 0, .int p1])), (h1, .inr (2, [.int 0, .int p2, .ref h4, .ref h5])), (h3, .inl (κ 0, 13, .inl (fun _ => 0))), (h4, .inl (κ 3, 4, .inr (.inr (.inr (.inr (sel [h6, h7, h8, h9])))))), (h6, .inr (6, [.ref h10, .ref h11, .int 0]))]) hP hD hK hE9 hS hA [0, 1, 3, 4, 5] (by decide) rfl rfl rfl) rfl rfl hl.1 rfl (lv_room (Nat.le_of_ble_eq_true rfl)) dX1_reckon_48 ⟨(Nat.le_of_ble_eq_true rfl), (Nat.le_of_ble_eq_true rfl)⟩) hS (fun q _ h => hF q h) hF (fun u2 t H locs ht hvm hw hB hz1 hk1 hS => ?_)
  try dsimp only at hw hB
  obtain ⟨hP1, hD1⟩ := hB
  rw [ht] at hP1
  obtain ⟨hP, hD⟩ := post_j (ws' := [(h0, .inr (3, [.ref h1, .int 2, .int p0, .ref h2, .ref h3, .long 0, .int 0])), (h1, .inr (2, [.int 0, .int p2, .ref h4, .ref h5])), (h2, .inl (κ 0, 13, .inl (upd (upd (upd (upd (upd (upd (upd (upd (upd (upd (upd (upd (upd (fun _ => 0) 0 1000000) 1 1000000) 2 1000000) 3 1000000) 4 1000000) 5 1000000) 6 1000000) 7 1000000) 8 1000000) 9 1000000) 10 1000000) 11 1000000) 12 1000000))), (h3, .inl (κ 0, 13, .inl (fun _ => 0))), (h4, .inl (κ 3, 4, .inr (.inr (.inr (.inr (sel [h6, h7, h8, h9])))))), (h6, .inr (6, [.ref h10, .ref h11, .int 0])), (h7, .inr (6, [.ref h12, .ref h13, .int 0]))]) (wr := [(h2, .inl (κ 0, 13, .inl (upd (upd (upd (upd (upd (upd (upd (upd (upd (upd (upd (upd (upd (fun _ => 0) 0 1000000) 1 1000000) 2 1000000) 3 1000000) 4 1000000) 5 1000000) 6 1000000) 7 1000000) 8 1000000) 9 1000000) 10 1000000) 11 1000000) 12 1000000))), (h7, .inr (6, [.ref h12, .ref h13, .int 0]))]) (w1 := [(h0, .inr (3, [.ref h1, .int 2, .int p0, .ref h2, .ref h3, .long 0, .int 0])), (h1, .inr (2, [.int 0, .int p2, .ref h4, .ref h5])), (h3, .inl (κ 0, 13, .inl (fun _ => 0))), (h4, .inl (κ 3, 4, .inr (.inr (.inr (.inr (sel [h6, h7, h8, h9])))))), (h6, .inr (6, [.ref h10, .ref h11, .int 0]))]) hP hD hF [0, 1, 3, 4, 5] rfl [2, 6] rfl (by decide) (by decide) hk1 hP1 hD1 [2, 3, 0, 4, 5, 6, 1] (by decide) rfl
  have hP : va_P D vwCl [(h0, .inr (3, [.ref h1, .int 2, .int p0, .ref h2, .ref h3, .long 0, .int 0])), (h1, .inr (2, [.int 0, .int p2, .ref h4, .ref h5])), (h2, .inl (κ 0, 13, .inl (upd (upd (upd (upd (upd (upd (upd (upd (upd (upd (upd (upd (upd (fun _ => 0) 0 1000000) 1 1000000) 2 1000000) 3 1000000) 4 1000000) 5 1000000) 6 1000000) 7 1000000) 8 1000000) 9 1000000) 10 1000000) 11 1000000) 12 1000000))), (h3, .inl (κ 0, 13, .inl (fun _ => 0))), (h4, .inl (κ 3, 4, .inr (.inr (.inr (.inr (sel [h6, h7, h8, h9])))))), (h6, .inr (6, [.ref h10, .ref h11, .int 0])), (h7, .inr (6, [.ref h12, .ref h13, .int 0]))] H := hP
  have hD : va_D A [(h0, .inr (3, [.ref h1, .int 2, .int p0, .ref h2, .ref h3, .long 0, .int 0])), (h1, .inr (2, [.int 0, .int p2, .ref h4, .ref h5])), (h2, .inl (κ 0, 13, .inl (upd (upd (upd (upd (upd (upd (upd (upd (upd (upd (upd (upd (upd (fun _ => 0) 0 1000000) 1 1000000) 2 1000000) 3 1000000) 4 1000000) 5 1000000) 6 1000000) 7 1000000) 8 1000000) 9 1000000) 10 1000000) 11 1000000) 12 1000000))), (h3, .inl (κ 0, 13, .inl (fun _ => 0))), (h4, .inl (κ 3, 4, .inr (.inr (.inr (.inr (sel [h6, h7, h8, h9])))))), (h6, .inr (6, [.ref h10, .ref h11, .int 0])), (h7, .inr (6, [.ref h12, .ref h13, .int 0]))] := hD
  refine lv_iinc (v := 2) (lv' := [(3, .int 2), (0, .ref h0), (1, .int 2), (2, .int 0)]) hx hb dX1_reckon_51 hl (k := 0) rfl (by decide) (by decide) rfl (fun ls hl => ?_)
  refine lv_goto (tgt := 32) hx hb dX1_reckon_54 (by decide) ?_
  refine lv_iload_n hx hb dX1_reckon_32 rfl (lv_at hl 0 rfl) ?_
  refine lv_iload_n hx hb dX1_reckon_33 rfl (lv_at hl 2 rfl) ?_
  refine lv_icmp_gt (tgt := 57) hx hb dX1_reckon_34 (by decide) (fun h => absurd h (by decide)) (fun _ => ?_)
  refine lv_aload_n hx hb dX1_reckon_37 rfl (lv_at hl 1 rfl) ?_
  refine lv_iload_n hx hb dX1_reckon_38 rfl (lv_at hl 0 rfl) ?_
  refine lv_iload_n hx hb dX1_reckon_39 rfl (lv_at hl 3 rfl) ?_
  refine va_getsN hx hb hE.2.2.1 hS hown (va_Nw.use rfl hE.2.2.2.2.2.2.2.1) (fun _ h9 => h9) dX1_reckon_40 ?_
  refine lv_iload_n hx hb dX1_reckon_43 rfl (lv_at hl 0 rfl) ?_
  refine lv_iconst (v := 1) hx hb dX1_reckon_44 (by decide) ?_
  refine lv_isub hx hb dX1_reckon_45 ?_
  refine tpi (v := 1) (by decide) ?_
  refine va_ti hx hb hE.2.2.2.1 hS (vpl (by decide)) (v := .int 14) rfl dX1_reckon_46 ?_
  refine lv_irem hx hb dX1_reckon_47 (by decide) ?_
  refine tpi (v := 0) (by decide) ?_
  have hF := va_free (wc := [(h0, .inr (3, [.ref h1, .int 2, .int p0, .ref h2, .ref h3, .long 0, .int 0])), (h1, .inr (2, [.int 0, .int p2, .ref h4, .ref h5])), (h3, .inl (κ 0, 13, .inl (fun _ => 0))), (h4, .inl (κ 3, 4, .inr (.inr (.inr (.inr (sel [h6, h7, h8, h9])))))), (h7, .inr (6, [.ref h12, .ref h13, .int 0]))]) hD hS hA [0, 1, 3, 4, 6] rfl
  refine va_callv (va_runV (As := [.int 2, .int 0]) (rest := []) ⟨hx, hb, hml, hown, hts⟩ (k_X1_refine_5 l D κ ε h0 h1 h2 h3 h4 h5 h6 h7 h8 h9 h12 h13 H.size (p0) (0) (0) (p2)) (cwV 2 hts gX1_reckon_X1_refine rfl rfl rfl (by decide +kernel) ⟨(Nat.le_of_ble_eq_true rfl), (Nat.le_of_ble_eq_true rfl)⟩) (pre2_V (q0 := 0) (ci := 3) (wc := [(h0, .inr (3, [.ref h1, .int 2, .int p0, .ref h2, .ref h3, .long 0, .int 0])), (h1, .inr (2, [.int 0, .int p2, .ref h4, .ref h5])), (h3, .inl (κ 0, 13, .inl (fun _ => 0))), (h4, .inl (κ 3, 4, .inr (.inr (.inr (.inr (sel [h6, h7, h8, h9])))))), (h7, .inr (6, [.ref h12, .ref h13, .int 0]))]) hP hD hK hE9 hS hA [0, 1, 3, 4, 6] (by decide) rfl rfl rfl) rfl rfl hl.1 rfl (lv_room (Nat.le_of_ble_eq_true rfl)) dX1_reckon_48 ⟨(Nat.le_of_ble_eq_true rfl), (Nat.le_of_ble_eq_true rfl)⟩) hS (fun q _ h => hF q h) hF (fun u3 t H locs ht hvm hw hB hz1 hk1 hS => ?_)
  try dsimp only at hw hB
  obtain ⟨hP1, hD1⟩ := hB
  rw [ht] at hP1
  obtain ⟨hP, hD⟩ := post_j (ws' := [(h0, .inr (3, [.ref h1, .int 2, .int p0, .ref h2, .ref h3, .long 0, .int 0])), (h1, .inr (2, [.int 0, .int p2, .ref h4, .ref h5])), (h2, .inl (κ 0, 13, .inl (upd (upd (upd (upd (upd (upd (upd (upd (upd (upd (upd (upd (upd (fun _ => 0) 0 1000000) 1 1000000) 2 1000000) 3 1000000) 4 1000000) 5 1000000) 6 1000000) 7 1000000) 8 1000000) 9 1000000) 10 1000000) 11 1000000) 12 1000000))), (h3, .inl (κ 0, 13, .inl (fun _ => 0))), (h4, .inl (κ 3, 4, .inr (.inr (.inr (.inr (sel [h6, h7, h8, h9])))))), (h6, .inr (6, [.ref h10, .ref h11, .int 0])), (h7, .inr (6, [.ref h12, .ref h13, .int 0]))]) (wr := [(h2, .inl (κ 0, 13, .inl (upd (upd (upd (upd (upd (upd (upd (upd (upd (upd (upd (upd (upd (fun _ => 0) 0 1000000) 1 1000000) 2 1000000) 3 1000000) 4 1000000) 5 1000000) 6 1000000) 7 1000000) 8 1000000) 9 1000000) 10 1000000) 11 1000000) 12 1000000))), (h6, .inr (6, [.ref h10, .ref h11, .int 0]))]) (w1 := [(h0, .inr (3, [.ref h1, .int 2, .int p0, .ref h2, .ref h3, .long 0, .int 0])), (h1, .inr (2, [.int 0, .int p2, .ref h4, .ref h5])), (h3, .inl (κ 0, 13, .inl (fun _ => 0))), (h4, .inl (κ 3, 4, .inr (.inr (.inr (.inr (sel [h6, h7, h8, h9])))))), (h7, .inr (6, [.ref h12, .ref h13, .int 0]))]) hP hD hF [0, 1, 3, 4, 6] rfl [2, 5] rfl (by decide) (by decide) hk1 hP1 hD1 [2, 3, 0, 4, 5, 1, 6] (by decide) rfl
  have hP : va_P D vwCl [(h0, .inr (3, [.ref h1, .int 2, .int p0, .ref h2, .ref h3, .long 0, .int 0])), (h1, .inr (2, [.int 0, .int p2, .ref h4, .ref h5])), (h2, .inl (κ 0, 13, .inl (upd (upd (upd (upd (upd (upd (upd (upd (upd (upd (upd (upd (upd (fun _ => 0) 0 1000000) 1 1000000) 2 1000000) 3 1000000) 4 1000000) 5 1000000) 6 1000000) 7 1000000) 8 1000000) 9 1000000) 10 1000000) 11 1000000) 12 1000000))), (h3, .inl (κ 0, 13, .inl (fun _ => 0))), (h4, .inl (κ 3, 4, .inr (.inr (.inr (.inr (sel [h6, h7, h8, h9])))))), (h6, .inr (6, [.ref h10, .ref h11, .int 0])), (h7, .inr (6, [.ref h12, .ref h13, .int 0]))] H := hP
  have hD : va_D A [(h0, .inr (3, [.ref h1, .int 2, .int p0, .ref h2, .ref h3, .long 0, .int 0])), (h1, .inr (2, [.int 0, .int p2, .ref h4, .ref h5])), (h2, .inl (κ 0, 13, .inl (upd (upd (upd (upd (upd (upd (upd (upd (upd (upd (upd (upd (upd (fun _ => 0) 0 1000000) 1 1000000) 2 1000000) 3 1000000) 4 1000000) 5 1000000) 6 1000000) 7 1000000) 8 1000000) 9 1000000) 10 1000000) 11 1000000) 12 1000000))), (h3, .inl (κ 0, 13, .inl (fun _ => 0))), (h4, .inl (κ 3, 4, .inr (.inr (.inr (.inr (sel [h6, h7, h8, h9])))))), (h6, .inr (6, [.ref h10, .ref h11, .int 0])), (h7, .inr (6, [.ref h12, .ref h13, .int 0]))] := hD
  refine lv_iinc (v := 3) (lv' := [(3, .int 3), (0, .ref h0), (1, .int 2), (2, .int 0)]) hx hb dX1_reckon_51 hl (k := 0) rfl (by decide) (by decide) rfl (fun ls hl => ?_)
  refine lv_goto (tgt := 32) hx hb dX1_reckon_54 (by decide) ?_
  refine lv_iload_n hx hb dX1_reckon_32 rfl (lv_at hl 0 rfl) ?_
  refine lv_iload_n hx hb dX1_reckon_33 rfl (lv_at hl 2 rfl) ?_
  refine lv_icmp_gt (tgt := 57) hx hb dX1_reckon_34 (by decide) (fun _ => ?_) (fun h => absurd (by decide) h)
  have hP9 := hP
  have hD9 := hD
  exact W.vret hx hb hr (fun t ht hW => ⟨⟨(), rfl, trivial, by rw [ht]; exact hP9, hD9⟩, hS.F ht⟩) hS.2.2 dX1_reckon_57

set_option maxHeartbeats 4000000 in
set_option maxRecDepth 100000 in
theorem k_X5_sumOfCosts_3 (l : Launch) (D : va_G) (κ ε : Nat → Nat) (h0 h1 h2 h3 h4 h5 h6 h7 h8 h9 h10 h11 h12 h13 h14 h15 h16 h17 h18 : Nat) (sz : Nat) (p0 : Int32) (p1 : Int32) (p2 : Int32) (p3 : Int32) : Met l yX5_sumOfCosts wsX5_sumOfCosts ({ frames := 4, cells := 0, slots := 0, locals := 95 }) (va_Pc [.ref h0] (Pre2 D κ ε [(h0, .inr (7, [.ref h1, .ref h2, .ref h3, .ref h4, .ref h5, .ref h6, .int 0, .int p0, .int p1, .int 0])), (h1, .inr (2, [.int 0, .int 2, .ref h7, .ref h8])), (h2, .inr (3, [.ref h1, .int 2, .int p2, .ref h9, .ref h10, .long 0, .int p3])), (h7, .inl (κ 3, 4, .inr (.inr (.inr (.inr (sel [h11, h12, h13, h14])))))), (h9, .inl (κ 0, 13, .inl (fun _ => 0))), (h10, .inl (κ 0, 13, .inl (fun _ => 0))), (h11, .inr (6, [.ref h15, .ref h16, .int 0])), (h12, .inr (6, [.ref h17, .ref h18, .int 0]))] sz)) (va_Qi (fun r (u : Unit) => (r = 0)) (fun u t => va_P D vwCl [(h0, .inr (7, [.ref h1, .ref h2, .ref h3, .ref h4, .ref h5, .ref h6, .int 0, .int p0, .int p1, .int 0])), (h1, .inr (2, [.int 0, .int 2, .ref h7, .ref h8])), (h2, .inr (3, [.ref h1, .int 2, .int p2, .ref h9, .ref h10, .long 0, .int 0])), (h7, .inl (κ 3, 4, .inr (.inr (.inr (.inr (sel [h11, h12, h13, h14])))))), (h9, .inl (κ 0, 13, .inl (upd (upd (upd (upd (upd (upd (upd (upd (upd (upd (upd (upd (upd (fun _ => 0) 0 1000000) 1 1000000) 2 1000000) 3 1000000) 4 1000000) 5 1000000) 6 1000000) 7 1000000) 8 1000000) 9 1000000) 10 1000000) 11 1000000) 12 1000000))), (h10, .inl (κ 0, 13, .inl (fun _ => 0))), (h11, .inr (6, [.ref h15, .ref h16, .int 0])), (h12, .inr (6, [.ref h17, .ref h18, .int 0]))] t.heap ∧ va_D (va_A [(h0, .inr (7, [.ref h1, .ref h2, .ref h3, .ref h4, .ref h5, .ref h6, .int 0, .int p0, .int p1, .int 0])), (h1, .inr (2, [.int 0, .int 2, .ref h7, .ref h8])), (h2, .inr (3, [.ref h1, .int 2, .int p2, .ref h9, .ref h10, .long 0, .int p3])), (h7, .inl (κ 3, 4, .inr (.inr (.inr (.inr (sel [h11, h12, h13, h14])))))), (h9, .inl (κ 0, 13, .inl (fun _ => 0))), (h10, .inl (κ 0, 13, .inl (fun _ => 0))), (h11, .inr (6, [.ref h15, .ref h16, .int 0])), (h12, .inr (6, [.ref h17, .ref h18, .int 0]))] sz) [(h0, .inr (7, [.ref h1, .ref h2, .ref h3, .ref h4, .ref h5, .ref h6, .int 0, .int p0, .int p1, .int 0])), (h1, .inr (2, [.int 0, .int 2, .ref h7, .ref h8])), (h2, .inr (3, [.ref h1, .int 2, .int p2, .ref h9, .ref h10, .long 0, .int 0])), (h7, .inl (κ 3, 4, .inr (.inr (.inr (.inr (sel [h11, h12, h13, h14])))))), (h9, .inl (κ 0, 13, .inl (upd (upd (upd (upd (upd (upd (upd (upd (upd (upd (upd (upd (upd (fun _ => 0) 0 1000000) 1 1000000) 2 1000000) 3 1000000) 4 1000000) 5 1000000) 6 1000000) 7 1000000) 8 1000000) 9 1000000) 10 1000000) 11 1000000) 12 1000000))), (h10, .inl (κ 0, 13, .inl (fun _ => 0))), (h11, .inr (6, [.ref h15, .ref h16, .int 0])), (h12, .inr (6, [.ref h17, .ref h18, .int 0]))]) (va_A [(h0, .inr (7, [.ref h1, .ref h2, .ref h3, .ref h4, .ref h5, .ref h6, .int 0, .int p0, .int p1, .int 0])), (h1, .inr (2, [.int 0, .int 2, .ref h7, .ref h8])), (h2, .inr (3, [.ref h1, .int 2, .int p2, .ref h9, .ref h10, .long 0, .int p3])), (h7, .inl (κ 3, 4, .inr (.inr (.inr (.inr (sel [h11, h12, h13, h14])))))), (h9, .inl (κ 0, 13, .inl (fun _ => 0))), (h10, .inl (κ 0, 13, .inl (fun _ => 0))), (h11, .inr (6, [.ref h15, .ref h16, .int 0])), (h12, .inr (6, [.ref h17, .ref h18, .int 0]))] sz)) 0 0 (va_A [(h0, .inr (7, [.ref h1, .ref h2, .ref h3, .ref h4, .ref h5, .ref h6, .int 0, .int p0, .int p1, .int 0])), (h1, .inr (2, [.int 0, .int 2, .ref h7, .ref h8])), (h2, .inr (3, [.ref h1, .int 2, .int p2, .ref h9, .ref h10, .long 0, .int p3])), (h7, .inl (κ 3, 4, .inr (.inr (.inr (.inr (sel [h11, h12, h13, h14])))))), (h9, .inl (κ 0, 13, .inl (fun _ => 0))), (h10, .inl (κ 0, 13, .inl (fun _ => 0))), (h11, .inr (6, [.ref h15, .ref h16, .int 0])), (h12, .inr (6, [.ref h17, .ref h18, .int 0]))] sz) := by
  refine Met.ofW (cc := cX5_sumOfCosts) (maxL := 4) (ret := (some .int)) (by decide) rfl ?_
  intro p e s m args below meth c s₁ B hml hv
  obtain ⟨rfl, hsz, hP, hK, hD0, hE9⟩ := hv
  have hx := B.exec
  have hb := B.bytes
  have hr := B.returns
  have hts := atoms_spec (ws := wsX5_sumOfCosts) B.pre
  have hown : s.vm.findClass RX5 = some m.cls := findClass_of_methodNamed B.named
  have hlocks := B.notSynchronized
  subst hsz
  have hD := hD0.self (sz := s.heap.size)
  generalize hAe : va_A [(h0, .inr (7, [.ref h1, .ref h2, .ref h3, .ref h4, .ref h5, .ref h6, .int 0, .int p0, .int p1, .int 0])), (h1, .inr (2, [.int 0, .int 2, .ref h7, .ref h8])), (h2, .inr (3, [.ref h1, .int 2, .int p2, .ref h9, .ref h10, .long 0, .int p3])), (h7, .inl (κ 3, 4, .inr (.inr (.inr (.inr (sel [h11, h12, h13, h14])))))), (h9, .inl (κ 0, 13, .inl (fun _ => 0))), (h10, .inl (κ 0, 13, .inl (fun _ => 0))), (h11, .inr (6, [.ref h15, .ref h16, .int 0])), (h12, .inr (6, [.ref h17, .ref h18, .int 0]))] s.heap.size = A at hD hE9 ⊢
  have hE := hE9.1
  have hDc := hE9.2
  have hA : ∀ q : Nat, s.heap.size ≤ q → A q := fun q h => by rw [← hAe]; exact Or.inr h
  have hS : va_S A s.heap s.heap [] := va_S.rf
  have hP : va_P D vwCl [(h0, .inr (7, [.ref h1, .ref h2, .ref h3, .ref h4, .ref h5, .ref h6, .int 0, .int p0, .int p1, .int 0])), (h1, .inr (2, [.int 0, .int 2, .ref h7, .ref h8])), (h2, .inr (3, [.ref h1, .int 2, .int p2, .ref h9, .ref h10, .long 0, .int p3])), (h7, .inl (κ 3, 4, .inr (.inr (.inr (.inr (sel [h11, h12, h13, h14])))))), (h9, .inl (κ 0, 13, .inl (fun _ => 0))), (h10, .inl (κ 0, 13, .inl (fun _ => 0))), (h11, .inr (6, [.ref h15, .ref h16, .int 0])), (h12, .inr (6, [.ref h17, .ref h18, .int 0]))] s.heap := hP
  have hl := lv_entry [.ref h0] (n := 4) (Nat.le_of_ble_eq_true rfl)
  rw [lg_entry_eq]
  generalize (lg_sl [.ref h0] ++ List.replicate (4 - (lg_sl [.ref h0]).length) Slot.unset).toArray = ls at hl ⊢
  have hl : lv_has ls 4 [(0, .ref h0)] := hl
  refine lv_iconst (v := 0) hx hb dX5_sumOfCosts_0 (by decide) ?_
  refine lv_istore_n (lv' := [(1, .int 0), (0, .ref h0)]) hx hb dX5_sumOfCosts_1 rfl hl (by decide) rfl (fun ls hl => ?_)
  refine lv_iconst (v := 0) hx hb dX5_sumOfCosts_2 (by decide) ?_
  refine lv_istore_n (lv' := [(2, .int 0), (1, .int 0), (0, .ref h0)]) hx hb dX5_sumOfCosts_3 rfl hl (by decide) rfl (fun ls hl => ?_)
  refine lv_iload_n hx hb dX5_sumOfCosts_4 rfl (lv_at hl 0 rfl) ?_
  refine lv_aload_n hx hb dX5_sumOfCosts_5 rfl (lv_at hl 2 rfl) ?_
  refine va_get (D := D) (ci := 7) (v := .int 0) (C := RX5) (T := TX5) (N := 10) hx hb hts wi_X5_sumOfCosts_RX5 hown hK hP 0 rfl rfl 6 (by decide) (hts _ wd335_X5_sumOfCosts) (fun _ h9 => h9) rfl dX5_sumOfCosts_6 ?_
  refine lv_icmp_gt (tgt := 81) hx hb dX5_sumOfCosts_9 (by decide) (fun h => absurd h (by decide)) (fun _ => ?_)
  refine lv_aload_n hx hb dX5_sumOfCosts_12 rfl (lv_at hl 2 rfl) ?_
  refine va_get (D := D) (ci := 7) (v := .ref h2) (C := RX5) (T := TX5) (N := 10) hx hb hts wi_X5_sumOfCosts_RX5 hown hK hP 0 rfl rfl 1 (by decide) (hts _ wd336_X5_sumOfCosts) (fun _ h9 => h9) rfl dX5_sumOfCosts_13 ?_
  refine lv_aload_n hx hb dX5_sumOfCosts_16 rfl (lv_at hl 2 rfl) ?_
  refine va_get (D := D) (ci := 7) (v := .ref h1) (C := RX5) (T := TX5) (N := 10) hx hb hts wi_X5_sumOfCosts_RX5 hown hK hP 0 rfl rfl 0 (by decide) (hts _ wd337_X5_sumOfCosts) (fun _ h9 => h9) rfl dX5_sumOfCosts_17 ?_
  refine va_get (D := D) (ci := 2) (v := .int 2) (C := RX0) (T := TX0) (N := 4) hx hb hts wi_X5_sumOfCosts_RX0 hown hK hP 1 rfl rfl 1 (by decide) (hts _ wd338_X5_sumOfCosts) (fun _ h9 => h9) rfl dX5_sumOfCosts_20 ?_
  refine lv_aload_n hx hb dX5_sumOfCosts_23 rfl (lv_at hl 2 rfl) ?_
  refine lv_iload_n hx hb dX5_sumOfCosts_24 rfl (lv_at hl 0 rfl) ?_
  refine lv_iconst (v := 1) hx hb dX5_sumOfCosts_25 (by decide) ?_
  refine lv_isub hx hb dX5_sumOfCosts_26 ?_
  refine tpi (v := (-1)) (by decide) ?_
  refine lv_aload_n hx hb dX5_sumOfCosts_27 rfl (lv_at hl 2 rfl) ?_
  refine va_get (D := D) (ci := 7) (v := .ref h1) (C := RX5) (T := TX5) (N := 10) hx hb hts wi_X5_sumOfCosts_RX5 hown hK hP 0 rfl rfl 0 (by decide) (hts _ wd337_X5_sumOfCosts) (fun _ h9 => h9) rfl dX5_sumOfCosts_28 ?_
  refine va_get (D := D) (ci := 2) (v := .int 2) (C := RX0) (T := TX0) (N := 4) hx hb hts wi_X5_sumOfCosts_RX0 hown hK hP 1 rfl rfl 1 (by decide) (hts _ wd338_X5_sumOfCosts) (fun _ h9 => h9) rfl dX5_sumOfCosts_31 ?_
  refine lv_iconst (v := 1) hx hb dX5_sumOfCosts_34 (by decide) ?_
  refine lv_isub hx hb dX5_sumOfCosts_35 ?_
  refine tpi (v := 1) (by decide) ?_
  refine vp_callSi (W.runV (As := [.int (-1), .int 1]) (rest := [.int 2, .ref h2]) ⟨hx, hb, hml, hown, hts⟩ (k_X5_keyUpTo_2 l D κ ε h0 h1 h2 h3 h4 h5 h6 (0) (p0) (p1)) (cwV 2 hts gX5_sumOfCosts_X5_keyUpTo rfl rfl rfl (by decide +kernel) ⟨(Nat.le_of_ble_eq_true rfl), (Nat.le_of_ble_eq_true rfl)⟩) (pre0_V (q0 := 0) (ci := 7) (wc := [(h0, .inr (7, [.ref h1, .ref h2, .ref h3, .ref h4, .ref h5, .ref h6, .int 0, .int p0, .int p1, .int 0]))]) hP hK [0] rfl rfl rfl) rfl rfl hl.1 rfl (lv_room (Nat.le_of_ble_eq_true rfl)) dX5_sumOfCosts_36 ⟨(Nat.le_of_ble_eq_true rfl), (Nat.le_of_ble_eq_true rfl)⟩) (fun r hw => ?_)
  rw [hw]
  have hF := va_free (wc := [(h2, .inr (3, [.ref h1, .int 2, .int p2, .ref h9, .ref h10, .long 0, .int p3])), (h1, .inr (2, [.int 0, .int 2, .ref h7, .ref h8])), (h9, .inl (κ 0, 13, .inl (fun _ => 0))), (h10, .inl (κ 0, 13, .inl (fun _ => 0))), (h7, .inl (κ 3, 4, .inr (.inr (.inr (.inr (sel [h11, h12, h13, h14])))))), (h11, .inr (6, [.ref h15, .ref h16, .int 0])), (h12, .inr (6, [.ref h17, .ref h18, .int 0]))]) hD hS hA [2, 1, 4, 5, 3, 6, 7] rfl
  refine va_callv (va_runV (As := [.int 2, .int 0]) (rest := []) ⟨hx, hb, hml, hown, hts⟩ (k_X1_reckon_3 l D κ ε h2 h1 h9 h10 h7 h8 h11 h12 h13 h14 h15 h16 h17 h18 s.heap.size (p2) (p3) (2)) (cwV 2 hts gX5_sumOfCosts_X1_reckon rfl rfl rfl (by decide +kernel) ⟨(Nat.le_of_ble_eq_true rfl), (Nat.le_of_ble_eq_true rfl)⟩) (pre2_V (q0 := 2) (ci := 3) (wc := [(h2, .inr (3, [.ref h1, .int 2, .int p2, .ref h9, .ref h10, .long 0, .int p3])), (h1, .inr (2, [.int 0, .int 2, .ref h7, .ref h8])), (h9, .inl (κ 0, 13, .inl (fun _ => 0))), (h10, .inl (κ 0, 13, .inl (fun _ => 0))), (h7, .inl (κ 3, 4, .inr (.inr (.inr (.inr (sel [h11, h12, h13, h14])))))), (h11, .inr (6, [.ref h15, .ref h16, .int 0])), (h12, .inr (6, [.ref h17, .ref h18, .int 0]))]) hP hD hK hE9 hS hA [2, 1, 4, 5, 3, 6, 7] (by decide) rfl rfl rfl) rfl rfl hl.1 rfl (lv_room (Nat.le_of_ble_eq_true rfl)) dX5_sumOfCosts_39 ⟨(Nat.le_of_ble_eq_true rfl), (Nat.le_of_ble_eq_true rfl)⟩) hS (fun q _ h => hF q h) hF (fun u1 t H locs ht hvm hw hB hz1 hk1 hS => ?_)
  try dsimp only at hw hB
  obtain ⟨hP1, hD1⟩ := hB
  rw [ht] at hP1
  obtain ⟨hP, hD⟩ := post_j (ws' := [(h0, .inr (7, [.ref h1, .ref h2, .ref h3, .ref h4, .ref h5, .ref h6, .int 0, .int p0, .int p1, .int 0])), (h1, .inr (2, [.int 0, .int 2, .ref h7, .ref h8])), (h2, .inr (3, [.ref h1, .int 2, .int p2, .ref h9, .ref h10, .long 0, .int 0])), (h7, .inl (κ 3, 4, .inr (.inr (.inr (.inr (sel [h11, h12, h13, h14])))))), (h9, .inl (κ 0, 13, .inl (upd (upd (upd (upd (upd (upd (upd (upd (upd (upd (upd (upd (upd (fun _ => 0) 0 1000000) 1 1000000) 2 1000000) 3 1000000) 4 1000000) 5 1000000) 6 1000000) 7 1000000) 8 1000000) 9 1000000) 10 1000000) 11 1000000) 12 1000000))), (h10, .inl (κ 0, 13, .inl (fun _ => 0))), (h11, .inr (6, [.ref h15, .ref h16, .int 0])), (h12, .inr (6, [.ref h17, .ref h18, .int 0]))]) (wr := [(h0, .inr (7, [.ref h1, .ref h2, .ref h3, .ref h4, .ref h5, .ref h6, .int 0, .int p0, .int p1, .int 0]))]) (w1 := [(h2, .inr (3, [.ref h1, .int 2, .int p2, .ref h9, .ref h10, .long 0, .int 0])), (h1, .inr (2, [.int 0, .int 2, .ref h7, .ref h8])), (h9, .inl (κ 0, 13, .inl (upd (upd (upd (upd (upd (upd (upd (upd (upd (upd (upd (upd (upd (fun _ => 0) 0 1000000) 1 1000000) 2 1000000) 3 1000000) 4 1000000) 5 1000000) 6 1000000) 7 1000000) 8 1000000) 9 1000000) 10 1000000) 11 1000000) 12 1000000))), (h10, .inl (κ 0, 13, .inl (fun _ => 0))), (h7, .inl (κ 3, 4, .inr (.inr (.inr (.inr (sel [h11, h12, h13, h14])))))), (h11, .inr (6, [.ref h15, .ref h16, .int 0])), (h12, .inr (6, [.ref h17, .ref h18, .int 0]))]) hP hD hF [2, 1, 4, 5, 3, 6, 7] rfl [0] rfl (by decide) (by decide) hk1 hP1 hD1 [0, 2, 1, 5, 3, 4, 6, 7] (by decide) rfl
  have hP : va_P D vwCl [(h0, .inr (7, [.ref h1, .ref h2, .ref h3, .ref h4, .ref h5, .ref h6, .int 0, .int p0, .int p1, .int 0])), (h1, .inr (2, [.int 0, .int 2, .ref h7, .ref h8])), (h2, .inr (3, [.ref h1, .int 2, .int p2, .ref h9, .ref h10, .long 0, .int 0])), (h7, .inl (κ 3, 4, .inr (.inr (.inr (.inr (sel [h11, h12, h13, h14])))))), (h9, .inl (κ 0, 13, .inl (upd (upd (upd (upd (upd (upd (upd (upd (upd (upd (upd (upd (upd (fun _ => 0) 0 1000000) 1 1000000) 2 1000000) 3 1000000) 4 1000000) 5 1000000) 6 1000000) 7 1000000) 8 1000000) 9 1000000) 10 1000000) 11 1000000) 12 1000000))), (h10, .inl (κ 0, 13, .inl (fun _ => 0))), (h11, .inr (6, [.ref h15, .ref h16, .int 0])), (h12, .inr (6, [.ref h17, .ref h18, .int 0]))] H := hP
  have hD : va_D A [(h0, .inr (7, [.ref h1, .ref h2, .ref h3, .ref h4, .ref h5, .ref h6, .int 0, .int p0, .int p1, .int 0])), (h1, .inr (2, [.int 0, .int 2, .ref h7, .ref h8])), (h2, .inr (3, [.ref h1, .int 2, .int p2, .ref h9, .ref h10, .long 0, .int 0])), (h7, .inl (κ 3, 4, .inr (.inr (.inr (.inr (sel [h11, h12, h13, h14])))))), (h9, .inl (κ 0, 13, .inl (upd (upd (upd (upd (upd (upd (upd (upd (upd (upd (upd (upd (upd (fun _ => 0) 0 1000000) 1 1000000) 2 1000000) 3 1000000) 4 1000000) 5 1000000) 6 1000000) 7 1000000) 8 1000000) 9 1000000) 10 1000000) 11 1000000) 12 1000000))), (h10, .inl (κ 0, 13, .inl (fun _ => 0))), (h11, .inr (6, [.ref h15, .ref h16, .int 0])), (h12, .inr (6, [.ref h17, .ref h18, .int 0]))] := hD
  refine lv_aload_n hx hb dX5_sumOfCosts_42 rfl (lv_at hl 2 rfl) ?_
  refine lv_iload_n hx hb dX5_sumOfCosts_43 rfl (lv_at hl 0 rfl) ?_
  refine vp_callSi (W.runV (As := [.int 0]) (rest := []) ⟨hx, hb, hml, hown, hts⟩ (k_X5_digitAt_0 l D κ ε h0 h1 h2 h3 h4 h5 h6 h7 h8 (p0) (p1) (2)) (cwV 1 hts gX5_sumOfCosts_X5_digitAt rfl rfl rfl (by decide +kernel) ⟨(Nat.le_of_ble_eq_true rfl), (Nat.le_of_ble_eq_true rfl)⟩) (pre0_V (q0 := 0) (ci := 7) (wc := [(h0, .inr (7, [.ref h1, .ref h2, .ref h3, .ref h4, .ref h5, .ref h6, .int 0, .int p0, .int p1, .int 0])), (h1, .inr (2, [.int 0, .int 2, .ref h7, .ref h8]))]) hP hK [0, 1] rfl rfl rfl) rfl rfl hl.1 rfl (lv_room (Nat.le_of_ble_eq_true rfl)) dX5_sumOfCosts_44 ⟨(Nat.le_of_ble_eq_true rfl), (Nat.le_of_ble_eq_true rfl)⟩) (fun r hw => ?_)
  rw [hw]
  refine lv_iconst (v := 1) hx hb dX5_sumOfCosts_47 (by decide) ?_
  refine lv_isub hx hb dX5_sumOfCosts_48 ?_
  refine tpi (v := 0) (by decide) ?_
  refine lv_istore_n (lv' := [(3, .int 0), (2, .int 0), (1, .int 0), (0, .ref h0)]) hx hb dX5_sumOfCosts_49 rfl hl (by decide) rfl (fun ls hl => ?_)
  refine lv_iload_n hx hb dX5_sumOfCosts_50 rfl (lv_at hl 0 rfl) ?_
  refine lv_if_lt (tgt := 75) hx hb dX5_sumOfCosts_51 (by decide) (fun h => absurd h (by decide)) (fun _ => ?_)
  refine lv_iload_n hx hb dX5_sumOfCosts_54 rfl (lv_at hl 0 rfl) ?_
  refine lv_bipush (v := 12) hx hb dX5_sumOfCosts_55 (by decide) ?_
  refine lv_icmp_gt (tgt := 75) hx hb dX5_sumOfCosts_57 (by decide) (fun h => absurd h (by decide)) (fun _ => ?_)
  refine lv_iload_n hx hb dX5_sumOfCosts_60 rfl (lv_at hl 2 rfl) ?_
  refine lv_aload_n hx hb dX5_sumOfCosts_61 rfl (lv_at hl 3 rfl) ?_
  refine va_get (D := D) (ci := 7) (v := .ref h2) (C := RX5) (T := TX5) (N := 10) hx hb hts wi_X5_sumOfCosts_RX5 hown hK hP 0 rfl rfl 1 (by decide) (hts _ wd336_X5_sumOfCosts) (fun _ h9 => h9) rfl dX5_sumOfCosts_62 ?_
  refine va_get (D := D) (ci := 3) (v := .ref h9) (C := RX1) (T := TX1) (N := 7) hx hb hts wi_X5_sumOfCosts_RX1 hown hK hP 2 rfl rfl 3 (by decide) (hts _ wd339_X5_sumOfCosts) (fun _ h9 => h9) rfl dX5_sumOfCosts_65 ?_
  refine lv_iload_n hx hb dX5_sumOfCosts_68 rfl (lv_at hl 0 rfl) ?_
  refine va_iald (cA := κ 0) (n := 13) (f := (upd (upd (upd (upd (upd (upd (upd (upd (upd (upd (upd (upd (upd (fun _ => 0) 0 1000000) 1 1000000) 2 1000000) 3 1000000) 4 1000000) 5 1000000) 6 1000000) 7 1000000) 8 1000000) 9 1000000) 10 1000000) 11 1000000) 12 1000000)) hx hb hK hP 4 0 rfl rfl (vpl (by decide)) dX5_sumOfCosts_69 ?_
  refine tpi (v := 1000000) (by decide) ?_
  refine vp_callSi (W.runS (As := [.int 1000000]) (rest := [.int 0]) ⟨hx, hb, hml, hown, hts⟩ (k_X5_cost_1 l D κ ε) (va_cwS 1 hts gX5_sumOfCosts_X5_cost rfl rfl rfl (by decide +kernel) ⟨(Nat.le_of_ble_eq_true rfl), (Nat.le_of_ble_eq_true rfl)⟩) (pre0_S (wc := []) hP hK [] rfl) rfl rfl hl.1 rfl (lv_room (Nat.le_of_ble_eq_true rfl)) dX5_sumOfCosts_70 ⟨(Nat.le_of_ble_eq_true rfl), (Nat.le_of_ble_eq_true rfl)⟩) (fun r hw => ?_)
  rw [hw]
  refine lv_iadd hx hb dX5_sumOfCosts_73 ?_
  refine tpi (v := 0) (by decide) ?_
  refine lv_istore_n (lv' := [(1, .int 0), (3, .int 0), (2, .int 0), (0, .ref h0)]) hx hb dX5_sumOfCosts_74 rfl hl (by decide) rfl (fun ls hl => ?_)
  refine lv_iinc (v := 1) (lv' := [(2, .int 1), (1, .int 0), (3, .int 0), (0, .ref h0)]) hx hb dX5_sumOfCosts_75 hl (k := 2) rfl (by decide) (by decide) rfl (fun ls hl => ?_)
  refine lv_goto (tgt := 4) hx hb dX5_sumOfCosts_78 (by decide) ?_
  refine lv_iload_n hx hb dX5_sumOfCosts_4 rfl (lv_at hl 0 rfl) ?_
  refine lv_aload_n hx hb dX5_sumOfCosts_5 rfl (lv_at hl 3 rfl) ?_
  refine va_get (D := D) (ci := 7) (v := .int 0) (C := RX5) (T := TX5) (N := 10) hx hb hts wi_X5_sumOfCosts_RX5 hown hK hP 0 rfl rfl 6 (by decide) (hts _ wd335_X5_sumOfCosts) (fun _ h9 => h9) rfl dX5_sumOfCosts_6 ?_
  refine lv_icmp_gt (tgt := 81) hx hb dX5_sumOfCosts_9 (by decide) (fun _ => ?_) (fun h => absurd (by decide) h)
  refine lv_iload_n hx hb dX5_sumOfCosts_81 rfl (lv_at hl 1 rfl) ?_
  have hP9 := hP
  have hD9 := hD
  exact W.iret (v := 0) hx hb hr (fun t ht hW => ⟨⟨0, (), rfl, rfl, by rw [ht]; exact hP9, hD9⟩, hS.F ht⟩) hS.2.2 dX5_sumOfCosts_82

set_option maxHeartbeats 4000000 in
set_option maxRecDepth 100000 in
theorem k_X5_scoreBy_2 (l : Launch) (hst : l.stackTraces = false) (D : va_G) (κ ε : Nat → Nat) (h0 h1 h2 h3 h4 h5 h6 h7 h8 h9 h10 h11 h12 h13 h14 h15 h16 h17 h18 : Nat) (sz : Nat) (p0 : Int32) : vx_Met l yX5_scoreBy wsX5_scoreBy ({ frames := 6, cells := 1, slots := 6, locals := 120 }) (va_Pc [.ref h0, .int 2, .int p0] (Pre2 D κ ε [(h0, .inr (7, [.ref h1, .ref h2, .ref h3, .ref h4, .ref h5, .ref h6, .int 0, .int 0, .int 0, .int 0])), (h1, .inr (2, [.int 0, .int 2, .ref h7, .ref h8])), (h2, .inr (3, [.ref h1, .int 0, .int 500, .ref h9, .ref h10, .long 0, .int 0])), (h7, .inl (κ 3, 4, .inr (.inr (.inr (.inr (sel [h11, h12, h13, h14])))))), (h9, .inl (κ 0, 13, .inl (fun _ => 0))), (h10, .inl (κ 0, 13, .inl (fun _ => 0))), (h11, .inr (6, [.ref h15, .ref h16, .int 0])), (h12, .inr (6, [.ref h17, .ref h18, .int 0]))] sz)) (va_Qi (fun r (u : Unit) => (¬ p0 < 1) ∧ (¬ 1000 < p0) ∧ (r = 0)) (fun _ _ => True) (va_A [(h0, .inr (7, [.ref h1, .ref h2, .ref h3, .ref h4, .ref h5, .ref h6, .int 0, .int 0, .int 0, .int 0])), (h1, .inr (2, [.int 0, .int 2, .ref h7, .ref h8])), (h2, .inr (3, [.ref h1, .int 0, .int 500, .ref h9, .ref h10, .long 0, .int 0])), (h7, .inl (κ 3, 4, .inr (.inr (.inr (.inr (sel [h11, h12, h13, h14])))))), (h9, .inl (κ 0, 13, .inl (fun _ => 0))), (h10, .inl (κ 0, 13, .inl (fun _ => 0))), (h11, .inr (6, [.ref h15, .ref h16, .int 0])), (h12, .inr (6, [.ref h17, .ref h18, .int 0]))] sz)) (vx_X (fun _ : Unit => True) (fun E _ _ => ((p0 < 1) ∧ E = "java/lang/IllegalArgumentException") ∨ ((¬ p0 < 1) ∧ (1000 < p0) ∧ E = "java/lang/IllegalArgumentException")) (va_A [(h0, .inr (7, [.ref h1, .ref h2, .ref h3, .ref h4, .ref h5, .ref h6, .int 0, .int 0, .int 0, .int 0])), (h1, .inr (2, [.int 0, .int 2, .ref h7, .ref h8])), (h2, .inr (3, [.ref h1, .int 0, .int 500, .ref h9, .ref h10, .long 0, .int 0])), (h7, .inl (κ 3, 4, .inr (.inr (.inr (.inr (sel [h11, h12, h13, h14])))))), (h9, .inl (κ 0, 13, .inl (fun _ => 0))), (h10, .inl (κ 0, 13, .inl (fun _ => 0))), (h11, .inr (6, [.ref h15, .ref h16, .int 0])), (h12, .inr (6, [.ref h17, .ref h18, .int 0]))] sz)) 1 6 (va_A [(h0, .inr (7, [.ref h1, .ref h2, .ref h3, .ref h4, .ref h5, .ref h6, .int 0, .int 0, .int 0, .int 0])), (h1, .inr (2, [.int 0, .int 2, .ref h7, .ref h8])), (h2, .inr (3, [.ref h1, .int 0, .int 500, .ref h9, .ref h10, .long 0, .int 0])), (h7, .inl (κ 3, 4, .inr (.inr (.inr (.inr (sel [h11, h12, h13, h14])))))), (h9, .inl (κ 0, 13, .inl (fun _ => 0))), (h10, .inl (κ 0, 13, .inl (fun _ => 0))), (h11, .inr (6, [.ref h15, .ref h16, .int 0])), (h12, .inr (6, [.ref h17, .ref h18, .int 0]))] sz) := by
  refine vx_ofW (cc := cX5_scoreBy) (maxL := 6) (ret := (some .int)) (by decide) rfl ?_
  intro p e s m args below meth c s₁ B hml hnx hv
  obtain ⟨rfl, hsz, hP, hK, hD0, hE9⟩ := hv
  have hx := B.exec
  have hb := B.bytes
  have hr := B.returns
  have hts := atoms_spec (ws := wsX5_scoreBy) B.pre
  have hown : s.vm.findClass RX5 = some m.cls := findClass_of_methodNamed B.named
  have hlocks := B.notSynchronized
  subst hsz
  have hD := hD0.self (sz := s.heap.size)
  generalize hAe : va_A [(h0, .inr (7, [.ref h1, .ref h2, .ref h3, .ref h4, .ref h5, .ref h6, .int 0, .int 0, .int 0, .int 0])), (h1, .inr (2, [.int 0, .int 2, .ref h7, .ref h8])), (h2, .inr (3, [.ref h1, .int 0, .int 500, .ref h9, .ref h10, .long 0, .int 0])), (h7, .inl (κ 3, 4, .inr (.inr (.inr (.inr (sel [h11, h12, h13, h14])))))), (h9, .inl (κ 0, 13, .inl (fun _ => 0))), (h10, .inl (κ 0, 13, .inl (fun _ => 0))), (h11, .inr (6, [.ref h15, .ref h16, .int 0])), (h12, .inr (6, [.ref h17, .ref h18, .int 0]))] s.heap.size = A at hD hE9 ⊢
  have hE := hE9.1
  have hDc := hE9.2
  have hA : ∀ q : Nat, s.heap.size ≤ q → A q := fun q h => by rw [← hAe]; exact Or.inr h
  have hS : va_S A s.heap s.heap [] := va_S.rf
  have hP : va_P D vwCl [(h0, .inr (7, [.ref h1, .ref h2, .ref h3, .ref h4, .ref h5, .ref h6, .int 0, .int 0, .int 0, .int 0])), (h1, .inr (2, [.int 0, .int 2, .ref h7, .ref h8])), (h2, .inr (3, [.ref h1, .int 0, .int 500, .ref h9, .ref h10, .long 0, .int 0])), (h7, .inl (κ 3, 4, .inr (.inr (.inr (.inr (sel [h11, h12, h13, h14])))))), (h9, .inl (κ 0, 13, .inl (fun _ => 0))), (h10, .inl (κ 0, 13, .inl (fun _ => 0))), (h11, .inr (6, [.ref h15, .ref h16, .int 0])), (h12, .inr (6, [.ref h17, .ref h18, .int 0]))] s.heap := hP
  have hl := lv_entry [.ref h0, .int 2, .int p0] (n := 6) (Nat.le_of_ble_eq_true rfl)
  rw [lg_entry_eq]
  generalize (lg_sl [.ref h0, .int 2, .int p0] ++ List.replicate (6 - (lg_sl [.ref h0, .int 2, .int p0]).length) Slot.unset).toArray = ls at hl ⊢
  have hl : lv_has ls 6 [(0, .ref h0), (1, .int 2), (2, .int p0)] := hl
  refine lv_iload_n hx hb dX5_scoreBy_0 rfl (lv_at hl 1 rfl) ?_
  refine lv_iload_n hx hb dX5_scoreBy_1 rfl (lv_at hl 2 rfl) ?_
  refine vp_callSi (W.runS (As := [.int 2, .int p0]) (rest := []) ⟨hx, hb, hml, hown, hts⟩ (k_X5_isWay_3 l D κ ε (p0)) (va_cwS 2 hts gX5_scoreBy_X5_isWay rfl rfl rfl (by decide +kernel) ⟨(Nat.le_of_ble_eq_true rfl), (Nat.le_of_ble_eq_true rfl)⟩) (pre0_S (wc := []) hP hK [] rfl) rfl rfl hl.1 rfl (lv_room (Nat.le_of_ble_eq_true rfl)) dX5_scoreBy_2 ⟨(Nat.le_of_ble_eq_true rfl), (Nat.le_of_ble_eq_true rfl)⟩) (fun r hw => ?_)
  rcases hw with ⟨c1, rfl⟩ | ⟨c2, c3, rfl⟩ | ⟨c4, c5, rfl⟩
  · skip
    refine lv_if_ne (tgt := 18) hx hb dX5_scoreBy_5 (by decide) (fun h => absurd (by decide) h) (fun _ => ?_)
    exact vx_throwS (names := ["java/lang/RuntimeException", "java/lang/Exception"]) (sa := ε 25) hx hb hst hown (by decide +kernel) (by decide +kernel) (hts _ wd420_X5_scoreBy) (hts _ wd421_X5_scoreBy) (hE.2.2.2.2.2.2.1 _ (List.mem_of_getElem? (i := 15) rfl)) (vx_hat (B := [.castable "java/lang/IllegalArgumentException" "java/lang/IllegalArgumentException", .declares (Bundle.initS "java/lang/RuntimeException"), .declares (Bundle.initS "java/lang/Exception"), .declares (Bundle.initS "java/lang/Throwable")]) (fun w hw => hts w (at1_X5_scoreBy_82 w hw)) at2_RX5_82 (vx_c (va_Nw.use rfl hE.2.2.2.2.2.2.2.2.2.2.2.2.2.2.1) (vx_c (va_Nw.use rfl hDc.1) (vx_c (va_Nw.use rfl hDc.2.1) (vx_c (va_Nw.use rfl hDc.2.2) vx_n))))) at2_RX5_82g hE.1 hE.2.1 hS (by rw [hml]; exact hl.1) dX5_scoreBy_8 dX5_scoreBy_11 dX5_scoreBy_12 dX5_scoreBy_14 dX5_scoreBy_17 (fun x hx => (hnx x hx).elim) (by decide) (by decide) (Nat.le_of_ble_eq_true rfl) (Nat.le_of_ble_eq_true rfl) hlocks (fun t _ h1 h2 => ⟨(), trivial, (Or.inl ⟨c1, rfl⟩), thF (H0 := s.heap) hS h1 h2⟩) hS.2.2 (Nat.le_of_ble_eq_true rfl) (Nat.le_of_ble_eq_true rfl)
  · skip
    refine lv_if_ne (tgt := 18) hx hb dX5_scoreBy_5 (by decide) (fun h => absurd (by decide) h) (fun _ => ?_)
    exact vx_throwS (names := ["java/lang/RuntimeException", "java/lang/Exception"]) (sa := ε 25) hx hb hst hown (by decide +kernel) (by decide +kernel) (hts _ wd420_X5_scoreBy) (hts _ wd421_X5_scoreBy) (hE.2.2.2.2.2.2.1 _ (List.mem_of_getElem? (i := 15) rfl)) (vx_hat (B := [.castable "java/lang/IllegalArgumentException" "java/lang/IllegalArgumentException", .declares (Bundle.initS "java/lang/RuntimeException"), .declares (Bundle.initS "java/lang/Exception"), .declares (Bundle.initS "java/lang/Throwable")]) (fun w hw => hts w (at1_X5_scoreBy_82 w hw)) at2_RX5_82 (vx_c (va_Nw.use rfl hE.2.2.2.2.2.2.2.2.2.2.2.2.2.2.1) (vx_c (va_Nw.use rfl hDc.1) (vx_c (va_Nw.use rfl hDc.2.1) (vx_c (va_Nw.use rfl hDc.2.2) vx_n))))) at2_RX5_82g hE.1 hE.2.1 hS (by rw [hml]; exact hl.1) dX5_scoreBy_8 dX5_scoreBy_11 dX5_scoreBy_12 dX5_scoreBy_14 dX5_scoreBy_17 (fun x hx => (hnx x hx).elim) (by decide) (by decide) (Nat.le_of_ble_eq_true rfl) (Nat.le_of_ble_eq_true rfl) hlocks (fun t _ h1 h2 => ⟨(), trivial, (Or.inr ⟨c2, c3, rfl⟩), thF (H0 := s.heap) hS h1 h2⟩) hS.2.2 (Nat.le_of_ble_eq_true rfl) (Nat.le_of_ble_eq_true rfl)
  · skip
    refine lv_if_ne (tgt := 18) hx hb dX5_scoreBy_5 (by decide) (fun _ => ?_) (fun h => absurd h (by decide))
    refine lv_aload_n hx hb dX5_scoreBy_18 rfl (lv_at hl 0 rfl) ?_
    refine va_get (D := D) (ci := 7) (v := .ref h2) (C := RX5) (T := TX5) (N := 10) hx hb hts wi_X5_scoreBy_RX5 hown hK hP 0 rfl rfl 1 (by decide) (hts _ wd422_X5_scoreBy) (fun _ h9 => h9) rfl dX5_scoreBy_19 ?_
    refine va_get (D := D) (ci := 3) (v := .int 0) (C := RX1) (T := TX1) (N := 7) hx hb hts wi_X5_scoreBy_RX1 hown hK hP 2 rfl rfl 1 (by decide) (hts _ wd423_X5_scoreBy) (fun _ h9 => h9) rfl dX5_scoreBy_22 ?_
    refine lv_istore_n (lv' := [(3, .int 0), (0, .ref h0), (1, .int 2), (2, .int p0)]) hx hb dX5_scoreBy_25 rfl hl (by decide) rfl (fun ls hl => ?_)
    refine lv_aload_n hx hb dX5_scoreBy_26 rfl (lv_at hl 1 rfl) ?_
    refine va_get (D := D) (ci := 7) (v := .ref h2) (C := RX5) (T := TX5) (N := 10) hx hb hts wi_X5_scoreBy_RX5 hown hK hP 0 rfl rfl 1 (by decide) (hts _ wd422_X5_scoreBy) (fun _ h9 => h9) rfl dX5_scoreBy_27 ?_
    refine va_get (D := D) (ci := 3) (v := .int 500) (C := RX1) (T := TX1) (N := 7) hx hb hts wi_X5_scoreBy_RX1 hown hK hP 2 rfl rfl 2 (by decide) (hts _ wd424_X5_scoreBy) (fun _ h9 => h9) rfl dX5_scoreBy_30 ?_
    refine lv_istore (lv' := [(4, .int 500), (3, .int 0), (0, .ref h0), (1, .int 2), (2, .int p0)]) hx hb dX5_scoreBy_33 hl (by decide) rfl (fun ls hl => ?_)
    refine lv_aload_n hx hb dX5_scoreBy_35 rfl (lv_at hl 2 rfl) ?_
    refine va_get (D := D) (ci := 7) (v := .ref h2) (C := RX5) (T := TX5) (N := 10) hx hb hts wi_X5_scoreBy_RX5 hown hK hP 0 rfl rfl 1 (by decide) (hts _ wd422_X5_scoreBy) (fun _ h9 => h9) rfl dX5_scoreBy_36 ?_
    refine lv_iload_n hx hb dX5_scoreBy_39 rfl (lv_at hl 3 rfl) ?_
    refine va_put (D := D) (ci := 3) (v := .int 2) (ty := .int) (C := RX1) (T := TX1) (N := 7) hx hb hts wi_X5_scoreBy_RX1 tyX1 tyX1_ok nmX1 hown hK hP hD hS 2 rfl rfl 1 (by decide) (hts _ wd423_X5_scoreBy) (fun _ h9 => h9) rfl (by decide +kernel) rfl rfl (Nat.le_of_ble_eq_true rfl) dX5_scoreBy_40 (fun H locs hP hD hS => ?_)
    have hP : va_P D vwCl [(h0, .inr (7, [.ref h1, .ref h2, .ref h3, .ref h4, .ref h5, .ref h6, .int 0, .int 0, .int 0, .int 0])), (h1, .inr (2, [.int 0, .int 2, .ref h7, .ref h8])), (h2, .inr (3, [.ref h1, .int 2, .int 500, .ref h9, .ref h10, .long 0, .int 0])), (h7, .inl (κ 3, 4, .inr (.inr (.inr (.inr (sel [h11, h12, h13, h14])))))), (h9, .inl (κ 0, 13, .inl (fun _ => 0))), (h10, .inl (κ 0, 13, .inl (fun _ => 0))), (h11, .inr (6, [.ref h15, .ref h16, .int 0])), (h12, .inr (6, [.ref h17, .ref h18, .int 0]))] H := hP
    have hD : va_D A [(h0, .inr (7, [.ref h1, .ref h2, .ref h3, .ref h4, .ref h5, .ref h6, .int 0, .int 0, .int 0, .int 0])), (h1, .inr (2, [.int 0, .int 2, .ref h7, .ref h8])), (h2, .inr (3, [.ref h1, .int 2, .int 500, .ref h9, .ref h10, .long 0, .int 0])), (h7, .inl (κ 3, 4, .inr (.inr (.inr (.inr (sel [h11, h12, h13, h14])))))), (h9, .inl (κ 0, 13, .inl (fun _ => 0))), (h10, .inl (κ 0, 13, .inl (fun _ => 0))), (h11, .inr (6, [.ref h15, .ref h16, .int 0])), (h12, .inr (6, [.ref h17, .ref h18, .int 0]))] := hD
    refine lv_aload_n hx hb dX5_scoreBy_43 rfl (lv_at hl 2 rfl) ?_
    refine va_get (D := D) (ci := 7) (v := .ref h2) (C := RX5) (T := TX5) (N := 10) hx hb hts wi_X5_scoreBy_RX5 hown hK hP 0 rfl rfl 1 (by decide) (hts _ wd422_X5_scoreBy) (fun _ h9 => h9) rfl dX5_scoreBy_44 ?_
    refine lv_iload_n hx hb dX5_scoreBy_47 rfl (lv_at hl 4 rfl) ?_
    refine va_put (D := D) (ci := 3) (v := .int p0) (ty := .int) (C := RX1) (T := TX1) (N := 7) hx hb hts wi_X5_scoreBy_RX1 tyX1 tyX1_ok nmX1 hown hK hP hD hS 2 rfl rfl 2 (by decide) (hts _ wd424_X5_scoreBy) (fun _ h9 => h9) rfl (by decide +kernel) rfl rfl (Nat.le_of_ble_eq_true rfl) dX5_scoreBy_48 (fun H locs hP hD hS => ?_)
    have hP : va_P D vwCl [(h0, .inr (7, [.ref h1, .ref h2, .ref h3, .ref h4, .ref h5, .ref h6, .int 0, .int 0, .int 0, .int 0])), (h1, .inr (2, [.int 0, .int 2, .ref h7, .ref h8])), (h2, .inr (3, [.ref h1, .int 2, .int p0, .ref h9, .ref h10, .long 0, .int 0])), (h7, .inl (κ 3, 4, .inr (.inr (.inr (.inr (sel [h11, h12, h13, h14])))))), (h9, .inl (κ 0, 13, .inl (fun _ => 0))), (h10, .inl (κ 0, 13, .inl (fun _ => 0))), (h11, .inr (6, [.ref h15, .ref h16, .int 0])), (h12, .inr (6, [.ref h17, .ref h18, .int 0]))] H := hP
    have hD : va_D A [(h0, .inr (7, [.ref h1, .ref h2, .ref h3, .ref h4, .ref h5, .ref h6, .int 0, .int 0, .int 0, .int 0])), (h1, .inr (2, [.int 0, .int 2, .ref h7, .ref h8])), (h2, .inr (3, [.ref h1, .int 2, .int p0, .ref h9, .ref h10, .long 0, .int 0])), (h7, .inl (κ 3, 4, .inr (.inr (.inr (.inr (sel [h11, h12, h13, h14])))))), (h9, .inl (κ 0, 13, .inl (fun _ => 0))), (h10, .inl (κ 0, 13, .inl (fun _ => 0))), (h11, .inr (6, [.ref h15, .ref h16, .int 0])), (h12, .inr (6, [.ref h17, .ref h18, .int 0]))] := hD
    refine lv_aload_n hx hb dX5_scoreBy_51 rfl (lv_at hl 2 rfl) ?_
    have hF := va_free (wc := [(h0, .inr (7, [.ref h1, .ref h2, .ref h3, .ref h4, .ref h5, .ref h6, .int 0, .int 0, .int 0, .int 0])), (h1, .inr (2, [.int 0, .int 2, .ref h7, .ref h8])), (h2, .inr (3, [.ref h1, .int 2, .int p0, .ref h9, .ref h10, .long 0, .int 0])), (h7, .inl (κ 3, 4, .inr (.inr (.inr (.inr (sel [h11, h12, h13, h14])))))), (h9, .inl (κ 0, 13, .inl (fun _ => 0))), (h10, .inl (κ 0, 13, .inl (fun _ => 0))), (h11, .inr (6, [.ref h15, .ref h16, .int 0])), (h12, .inr (6, [.ref h17, .ref h18, .int 0]))]) hD hS hA [0, 1, 2, 3, 4, 5, 6, 7] rfl
    refine va_calli (va_runV (As := []) (rest := []) ⟨hx, hb, hml, hown, hts⟩ (k_X5_sumOfCosts_3 l D κ ε h0 h1 h2 h3 h4 h5 h6 h7 h8 h9 h10 h11 h12 h13 h14 h15 h16 h17 h18 H.size (0) (0) (p0) (0)) (cwV 0 hts gX5_scoreBy_X5_sumOfCosts rfl rfl rfl (by decide +kernel) ⟨(Nat.le_of_ble_eq_true rfl), (Nat.le_of_ble_eq_true rfl)⟩) (pre2_V (q0 := 0) (ci := 7) (wc := [(h0, .inr (7, [.ref h1, .ref h2, .ref h3, .ref h4, .ref h5, .ref h6, .int 0, .int 0, .int 0, .int 0])), (h1, .inr (2, [.int 0, .int 2, .ref h7, .ref h8])), (h2, .inr (3, [.ref h1, .int 2, .int p0, .ref h9, .ref h10, .long 0, .int 0])), (h7, .inl (κ 3, 4, .inr (.inr (.inr (.inr (sel [h11, h12, h13, h14])))))), (h9, .inl (κ 0, 13, .inl (fun _ => 0))), (h10, .inl (κ 0, 13, .inl (fun _ => 0))), (h11, .inr (6, [.ref h15, .ref h16, .int 0])), (h12, .inr (6, [.ref h17, .ref h18, .int 0]))]) hP hD hK hE9 hS hA [0, 1, 2, 3, 4, 5, 6, 7] (by decide) rfl rfl rfl) rfl rfl hl.1 rfl (lv_room (Nat.le_of_ble_eq_true rfl)) dX5_scoreBy_52 ⟨(Nat.le_of_ble_eq_true rfl), (Nat.le_of_ble_eq_true rfl)⟩) hS (fun q _ h => hF q h) hF (fun r u6 t H locs ht hvm hw hB hz1 hk1 hS => ?_)
    try dsimp only at hw hB
    obtain ⟨hP1, hD1⟩ := hB
    rw [ht] at hP1
    obtain ⟨hP, hD⟩ := post_j (ws' := [(h0, .inr (7, [.ref h1, .ref h2, .ref h3, .ref h4, .ref h5, .ref h6, .int 0, .int 0, .int 0, .int 0])), (h1, .inr (2, [.int 0, .int 2, .ref h7, .ref h8])), (h2, .inr (3, [.ref h1, .int 2, .int p0, .ref h9, .ref h10, .long 0, .int 0])), (h7, .inl (κ 3, 4, .inr (.inr (.inr (.inr (sel [h11, h12, h13, h14])))))), (h9, .inl (κ 0, 13, .inl (upd (upd (upd (upd (upd (upd (upd (upd (upd (upd (upd (upd (upd (fun _ => 0) 0 1000000) 1 1000000) 2 1000000) 3 1000000) 4 1000000) 5 1000000) 6 1000000) 7 1000000) 8 1000000) 9 1000000) 10 1000000) 11 1000000) 12 1000000))), (h10, .inl (κ 0, 13, .inl (fun _ => 0))), (h11, .inr (6, [.ref h15, .ref h16, .int 0])), (h12, .inr (6, [.ref h17, .ref h18, .int 0]))]) (wr := []) (w1 := [(h0, .inr (7, [.ref h1, .ref h2, .ref h3, .ref h4, .ref h5, .ref h6, .int 0, .int 0, .int 0, .int 0])), (h1, .inr (2, [.int 0, .int 2, .ref h7, .ref h8])), (h2, .inr (3, [.ref h1, .int 2, .int p0, .ref h9, .ref h10, .long 0, .int 0])), (h7, .inl (κ 3, 4, .inr (.inr (.inr (.inr (sel [h11, h12, h13, h14])))))), (h9, .inl (κ 0, 13, .inl (upd (upd (upd (upd (upd (upd (upd (upd (upd (upd (upd (upd (upd (fun _ => 0) 0 1000000) 1 1000000) 2 1000000) 3 1000000) 4 1000000) 5 1000000) 6 1000000) 7 1000000) 8 1000000) 9 1000000) 10 1000000) 11 1000000) 12 1000000))), (h10, .inl (κ 0, 13, .inl (fun _ => 0))), (h11, .inr (6, [.ref h15, .ref h16, .int 0])), (h12, .inr (6, [.ref h17, .ref h18, .int 0]))]) hP hD hF [0, 1, 2, 3, 4, 5, 6, 7] rfl [] rfl (by decide) (by decide) hk1 hP1 hD1 [0, 1, 2, 3, 4, 5, 6, 7] (by decide) rfl
    have hP : va_P D vwCl [(h0, .inr (7, [.ref h1, .ref h2, .ref h3, .ref h4, .ref h5, .ref h6, .int 0, .int 0, .int 0, .int 0])), (h1, .inr (2, [.int 0, .int 2, .ref h7, .ref h8])), (h2, .inr (3, [.ref h1, .int 2, .int p0, .ref h9, .ref h10, .long 0, .int 0])), (h7, .inl (κ 3, 4, .inr (.inr (.inr (.inr (sel [h11, h12, h13, h14])))))), (h9, .inl (κ 0, 13, .inl (upd (upd (upd (upd (upd (upd (upd (upd (upd (upd (upd (upd (upd (fun _ => 0) 0 1000000) 1 1000000) 2 1000000) 3 1000000) 4 1000000) 5 1000000) 6 1000000) 7 1000000) 8 1000000) 9 1000000) 10 1000000) 11 1000000) 12 1000000))), (h10, .inl (κ 0, 13, .inl (fun _ => 0))), (h11, .inr (6, [.ref h15, .ref h16, .int 0])), (h12, .inr (6, [.ref h17, .ref h18, .int 0]))] H := hP
    have hD : va_D A [(h0, .inr (7, [.ref h1, .ref h2, .ref h3, .ref h4, .ref h5, .ref h6, .int 0, .int 0, .int 0, .int 0])), (h1, .inr (2, [.int 0, .int 2, .ref h7, .ref h8])), (h2, .inr (3, [.ref h1, .int 2, .int p0, .ref h9, .ref h10, .long 0, .int 0])), (h7, .inl (κ 3, 4, .inr (.inr (.inr (.inr (sel [h11, h12, h13, h14])))))), (h9, .inl (κ 0, 13, .inl (upd (upd (upd (upd (upd (upd (upd (upd (upd (upd (upd (upd (upd (fun _ => 0) 0 1000000) 1 1000000) 2 1000000) 3 1000000) 4 1000000) 5 1000000) 6 1000000) 7 1000000) 8 1000000) 9 1000000) 10 1000000) 11 1000000) 12 1000000))), (h10, .inl (κ 0, 13, .inl (fun _ => 0))), (h11, .inr (6, [.ref h15, .ref h16, .int 0])), (h12, .inr (6, [.ref h17, .ref h18, .int 0]))] := hD
    rw [hw]
    refine lv_istore (lv' := [(5, .int 0), (4, .int 500), (3, .int 0), (0, .ref h0), (1, .int 2), (2, .int p0)]) hx hb dX5_scoreBy_55 hl (by decide) rfl (fun ls hl => ?_)
    refine lv_aload_n hx hb dX5_scoreBy_57 rfl (lv_at hl 3 rfl) ?_
    refine va_get (D := D) (ci := 7) (v := .ref h2) (C := RX5) (T := TX5) (N := 10) hx hb hts wi_X5_scoreBy_RX5 hown hK hP 0 rfl rfl 1 (by decide) (hts _ wd422_X5_scoreBy) (fun _ h9 => h9) rfl dX5_scoreBy_58 ?_
    refine lv_iload_n hx hb dX5_scoreBy_61 rfl (lv_at hl 2 rfl) ?_
    refine va_put (D := D) (ci := 3) (v := .int 0) (ty := .int) (C := RX1) (T := TX1) (N := 7) hx hb hts wi_X5_scoreBy_RX1 tyX1 tyX1_ok nmX1 hown hK hP hD hS 2 rfl rfl 1 (by decide) (hts _ wd423_X5_scoreBy) (fun _ h9 => h9) rfl (by decide +kernel) rfl rfl (Nat.le_of_ble_eq_true rfl) dX5_scoreBy_62 (fun H locs hP hD hS => ?_)
    have hP : va_P D vwCl [(h0, .inr (7, [.ref h1, .ref h2, .ref h3, .ref h4, .ref h5, .ref h6, .int 0, .int 0, .int 0, .int 0])), (h1, .inr (2, [.int 0, .int 2, .ref h7, .ref h8])), (h2, .inr (3, [.ref h1, .int 0, .int p0, .ref h9, .ref h10, .long 0, .int 0])), (h7, .inl (κ 3, 4, .inr (.inr (.inr (.inr (sel [h11, h12, h13, h14])))))), (h9, .inl (κ 0, 13, .inl (upd (upd (upd (upd (upd (upd (upd (upd (upd (upd (upd (upd (upd (fun _ => 0) 0 1000000) 1 1000000) 2 1000000) 3 1000000) 4 1000000) 5 1000000) 6 1000000) 7 1000000) 8 1000000) 9 1000000) 10 1000000) 11 1000000) 12 1000000))), (h10, .inl (κ 0, 13, .inl (fun _ => 0))), (h11, .inr (6, [.ref h15, .ref h16, .int 0])), (h12, .inr (6, [.ref h17, .ref h18, .int 0]))] H := hP
    have hD : va_D A [(h0, .inr (7, [.ref h1, .ref h2, .ref h3, .ref h4, .ref h5, .ref h6, .int 0, .int 0, .int 0, .int 0])), (h1, .inr (2, [.int 0, .int 2, .ref h7, .ref h8])), (h2, .inr (3, [.ref h1, .int 0, .int p0, .ref h9, .ref h10, .long 0, .int 0])), (h7, .inl (κ 3, 4, .inr (.inr (.inr (.inr (sel [h11, h12, h13, h14])))))), (h9, .inl (κ 0, 13, .inl (upd (upd (upd (upd (upd (upd (upd (upd (upd (upd (upd (upd (upd (fun _ => 0) 0 1000000) 1 1000000) 2 1000000) 3 1000000) 4 1000000) 5 1000000) 6 1000000) 7 1000000) 8 1000000) 9 1000000) 10 1000000) 11 1000000) 12 1000000))), (h10, .inl (κ 0, 13, .inl (fun _ => 0))), (h11, .inr (6, [.ref h15, .ref h16, .int 0])), (h12, .inr (6, [.ref h17, .ref h18, .int 0]))] := hD
    refine lv_aload_n hx hb dX5_scoreBy_65 rfl (lv_at hl 3 rfl) ?_
    refine va_get (D := D) (ci := 7) (v := .ref h2) (C := RX5) (T := TX5) (N := 10) hx hb hts wi_X5_scoreBy_RX5 hown hK hP 0 rfl rfl 1 (by decide) (hts _ wd422_X5_scoreBy) (fun _ h9 => h9) rfl dX5_scoreBy_66 ?_
    refine lv_iload hx hb dX5_scoreBy_69 (lv_at hl 1 rfl) ?_
    refine va_put (D := D) (ci := 3) (v := .int 500) (ty := .int) (C := RX1) (T := TX1) (N := 7) hx hb hts wi_X5_scoreBy_RX1 tyX1 tyX1_ok nmX1 hown hK hP hD hS 2 rfl rfl 2 (by decide) (hts _ wd424_X5_scoreBy) (fun _ h9 => h9) rfl (by decide +kernel) rfl rfl (Nat.le_of_ble_eq_true rfl) dX5_scoreBy_71 (fun H locs hP hD hS => ?_)
    have hP : va_P D vwCl [(h0, .inr (7, [.ref h1, .ref h2, .ref h3, .ref h4, .ref h5, .ref h6, .int 0, .int 0, .int 0, .int 0])), (h1, .inr (2, [.int 0, .int 2, .ref h7, .ref h8])), (h2, .inr (3, [.ref h1, .int 0, .int 500, .ref h9, .ref h10, .long 0, .int 0])), (h7, .inl (κ 3, 4, .inr (.inr (.inr (.inr (sel [h11, h12, h13, h14])))))), (h9, .inl (κ 0, 13, .inl (upd (upd (upd (upd (upd (upd (upd (upd (upd (upd (upd (upd (upd (fun _ => 0) 0 1000000) 1 1000000) 2 1000000) 3 1000000) 4 1000000) 5 1000000) 6 1000000) 7 1000000) 8 1000000) 9 1000000) 10 1000000) 11 1000000) 12 1000000))), (h10, .inl (κ 0, 13, .inl (fun _ => 0))), (h11, .inr (6, [.ref h15, .ref h16, .int 0])), (h12, .inr (6, [.ref h17, .ref h18, .int 0]))] H := hP
    have hD : va_D A [(h0, .inr (7, [.ref h1, .ref h2, .ref h3, .ref h4, .ref h5, .ref h6, .int 0, .int 0, .int 0, .int 0])), (h1, .inr (2, [.int 0, .int 2, .ref h7, .ref h8])), (h2, .inr (3, [.ref h1, .int 0, .int 500, .ref h9, .ref h10, .long 0, .int 0])), (h7, .inl (κ 3, 4, .inr (.inr (.inr (.inr (sel [h11, h12, h13, h14])))))), (h9, .inl (κ 0, 13, .inl (upd (upd (upd (upd (upd (upd (upd (upd (upd (upd (upd (upd (upd (fun _ => 0) 0 1000000) 1 1000000) 2 1000000) 3 1000000) 4 1000000) 5 1000000) 6 1000000) 7 1000000) 8 1000000) 9 1000000) 10 1000000) 11 1000000) 12 1000000))), (h10, .inl (κ 0, 13, .inl (fun _ => 0))), (h11, .inr (6, [.ref h15, .ref h16, .int 0])), (h12, .inr (6, [.ref h17, .ref h18, .int 0]))] := hD
    refine lv_iload hx hb dX5_scoreBy_74 (lv_at hl 0 rfl) ?_
    refine W.widen (k := 1) (n := 6) (Nat.le_of_ble_eq_true rfl) (Nat.le_of_ble_eq_true rfl) ?_
    refine vx_ret ?_
    exact W.iret (v := 0) hx hb hr (fun t ht hW => ⟨⟨0, (), rfl, ⟨c4, c5, rfl⟩, trivial⟩, hS.F ht⟩) hS.2.2 dX5_scoreBy_76

set_option maxHeartbeats 4000000 in
set_option maxRecDepth 100000 in
theorem k_L_scoreBy_2 (l : Launch) (hst : l.stackTraces = false) (D : va_G) (κ ε : Nat → Nat) (h0 h1 h2 h3 h4 h5 h6 h7 h8 h9 h10 h11 h12 h13 h14 h15 h16 h17 h18 h19 : Nat) (sz : Nat) (p0 : Int32) : Met l yL_scoreBy wsL_scoreBy ({ frames := 7, cells := 1, slots := 6, locals := 145 }) (va_Pc [.ref h0, .int 2, .int p0, .ref h1] (Pre2 D κ ε [(h0, .inr (7, [.ref h2, .ref h3, .ref h4, .ref h5, .ref h6, .ref h7, .int 0, .int 0, .int 0, .int 0])), (h1, .inl (κ 2, 1, .inr (.inl (fun _ => 0)))), (h2, .inr (2, [.int 0, .int 2, .ref h8, .ref h9])), (h3, .inr (3, [.ref h2, .int 0, .int 500, .ref h10, .ref h11, .long 0, .int 0])), (h8, .inl (κ 3, 4, .inr (.inr (.inr (.inr (sel [h12, h13, h14, h15])))))), (h10, .inl (κ 0, 13, .inl (fun _ => 0))), (h11, .inl (κ 0, 13, .inl (fun _ => 0))), (h12, .inr (6, [.ref h16, .ref h17, .int 0])), (h13, .inr (6, [.ref h18, .ref h19, .int 0]))] sz)) (va_Qi (fun r (u : Nat → Int64) => ((p0 < 1) ∧ (r = 1)) ∨ ((¬ p0 < 1) ∧ (1000 < p0) ∧ (r = 1)) ∨ ((¬ p0 < 1) ∧ (¬ 1000 < p0) ∧ (u 0 = 0) ∧ (r = 0))) (fun u t => va_P D vwCl [(h1, .inl (κ 2, 1, .inr (.inl u)))] t.heap ∧ va_D (va_A [(h0, .inr (7, [.ref h2, .ref h3, .ref h4, .ref h5, .ref h6, .ref h7, .int 0, .int 0, .int 0, .int 0])), (h1, .inl (κ 2, 1, .inr (.inl (fun _ => 0)))), (h2, .inr (2, [.int 0, .int 2, .ref h8, .ref h9])), (h3, .inr (3, [.ref h2, .int 0, .int 500, .ref h10, .ref h11, .long 0, .int 0])), (h8, .inl (κ 3, 4, .inr (.inr (.inr (.inr (sel [h12, h13, h14, h15])))))), (h10, .inl (κ 0, 13, .inl (fun _ => 0))), (h11, .inl (κ 0, 13, .inl (fun _ => 0))), (h12, .inr (6, [.ref h16, .ref h17, .int 0])), (h13, .inr (6, [.ref h18, .ref h19, .int 0]))] sz) [(h1, .inl (κ 2, 1, .inr (.inl u)))]) (va_A [(h0, .inr (7, [.ref h2, .ref h3, .ref h4, .ref h5, .ref h6, .ref h7, .int 0, .int 0, .int 0, .int 0])), (h1, .inl (κ 2, 1, .inr (.inl (fun _ => 0)))), (h2, .inr (2, [.int 0, .int 2, .ref h8, .ref h9])), (h3, .inr (3, [.ref h2, .int 0, .int 500, .ref h10, .ref h11, .long 0, .int 0])), (h8, .inl (κ 3, 4, .inr (.inr (.inr (.inr (sel [h12, h13, h14, h15])))))), (h10, .inl (κ 0, 13, .inl (fun _ => 0))), (h11, .inl (κ 0, 13, .inl (fun _ => 0))), (h12, .inr (6, [.ref h16, .ref h17, .int 0])), (h13, .inr (6, [.ref h18, .ref h19, .int 0]))] sz)) 1 6 (va_A [(h0, .inr (7, [.ref h2, .ref h3, .ref h4, .ref h5, .ref h6, .ref h7, .int 0, .int 0, .int 0, .int 0])), (h1, .inl (κ 2, 1, .inr (.inl (fun _ => 0)))), (h2, .inr (2, [.int 0, .int 2, .ref h8, .ref h9])), (h3, .inr (3, [.ref h2, .int 0, .int 500, .ref h10, .ref h11, .long 0, .int 0])), (h8, .inl (κ 3, 4, .inr (.inr (.inr (.inr (sel [h12, h13, h14, h15])))))), (h10, .inl (κ 0, 13, .inl (fun _ => 0))), (h11, .inl (κ 0, 13, .inl (fun _ => 0))), (h12, .inr (6, [.ref h16, .ref h17, .int 0])), (h13, .inr (6, [.ref h18, .ref h19, .int 0]))] sz) := by
  refine va_MetW (cc := cL_scoreBy) (maxL := 5) (ret := (some .int)) (hh := [(0, 10, 13, 19)]) (by decide) rfl ?_
  intro p e s m args below meth c s₁ B hml hv
  obtain ⟨rfl, hsz, hP, hK, hD0, hE9⟩ := hv
  have hx := B.exec
  have hb := B.bytes
  have hr := B.returns
  have hts := atoms_spec (ws := wsL_scoreBy) B.pre
  have hown : s.vm.findClass RL = some m.cls := findClass_of_methodNamed B.named
  have hlocks := B.notSynchronized
  have htab : c.exceptionTable.toList = tableOf [(0, 10, 13, 19)] := vx_table (x := yL_scoreBy) B (hts (.codeWith yL_scoreBy cL_scoreBy 5 (some .int) [(0, 10, 13, 19)]) List.mem_cons_self)
  subst hsz
  have hD := hD0.self (sz := s.heap.size)
  generalize hAe : va_A [(h0, .inr (7, [.ref h2, .ref h3, .ref h4, .ref h5, .ref h6, .ref h7, .int 0, .int 0, .int 0, .int 0])), (h1, .inl (κ 2, 1, .inr (.inl (fun _ => 0)))), (h2, .inr (2, [.int 0, .int 2, .ref h8, .ref h9])), (h3, .inr (3, [.ref h2, .int 0, .int 500, .ref h10, .ref h11, .long 0, .int 0])), (h8, .inl (κ 3, 4, .inr (.inr (.inr (.inr (sel [h12, h13, h14, h15])))))), (h10, .inl (κ 0, 13, .inl (fun _ => 0))), (h11, .inl (κ 0, 13, .inl (fun _ => 0))), (h12, .inr (6, [.ref h16, .ref h17, .int 0])), (h13, .inr (6, [.ref h18, .ref h19, .int 0]))] s.heap.size = A at hD hE9 ⊢
  have hE := hE9.1
  have hDc := hE9.2
  have hA : ∀ q : Nat, s.heap.size ≤ q → A q := fun q h => by rw [← hAe]; exact Or.inr h
  have hS : va_S A s.heap s.heap [] := va_S.rf
  have hP : va_P D vwCl [(h0, .inr (7, [.ref h2, .ref h3, .ref h4, .ref h5, .ref h6, .ref h7, .int 0, .int 0, .int 0, .int 0])), (h1, .inl (κ 2, 1, .inr (.inl (fun _ => 0)))), (h2, .inr (2, [.int 0, .int 2, .ref h8, .ref h9])), (h3, .inr (3, [.ref h2, .int 0, .int 500, .ref h10, .ref h11, .long 0, .int 0])), (h8, .inl (κ 3, 4, .inr (.inr (.inr (.inr (sel [h12, h13, h14, h15])))))), (h10, .inl (κ 0, 13, .inl (fun _ => 0))), (h11, .inl (κ 0, 13, .inl (fun _ => 0))), (h12, .inr (6, [.ref h16, .ref h17, .int 0])), (h13, .inr (6, [.ref h18, .ref h19, .int 0]))] s.heap := hP
  have hl := lv_entry [.ref h0, .int 2, .int p0, .ref h1] (n := 5) (Nat.le_of_ble_eq_true rfl)
  rw [lg_entry_eq]
  generalize (lg_sl [.ref h0, .int 2, .int p0, .ref h1] ++ List.replicate (5 - (lg_sl [.ref h0, .int 2, .int p0, .ref h1]).length) Slot.unset).toArray = ls at hl ⊢
  have hl : lv_has ls 5 [(0, .ref h0), (1, .int 2), (2, .int p0), (3, .ref h1)] := hl
  refine lv_aload_n hx hb dL_scoreBy_0 rfl (lv_at hl 3 rfl) ?_
  refine lv_iconst (v := 0) hx hb dL_scoreBy_1 (by decide) ?_
  refine lv_aload_n hx hb dL_scoreBy_2 rfl (lv_at hl 0 rfl) ?_
  refine lv_iload_n hx hb dL_scoreBy_3 rfl (lv_at hl 1 rfl) ?_
  refine lv_iload_n hx hb dL_scoreBy_4 rfl (lv_at hl 2 rfl) ?_
  have hF := va_free (wc := [(h0, .inr (7, [.ref h2, .ref h3, .ref h4, .ref h5, .ref h6, .ref h7, .int 0, .int 0, .int 0, .int 0])), (h2, .inr (2, [.int 0, .int 2, .ref h8, .ref h9])), (h3, .inr (3, [.ref h2, .int 0, .int 500, .ref h10, .ref h11, .long 0, .int 0])), (h8, .inl (κ 3, 4, .inr (.inr (.inr (.inr (sel [h12, h13, h14, h15])))))), (h10, .inl (κ 0, 13, .inl (fun _ => 0))), (h11, .inl (κ 0, 13, .inl (fun _ => 0))), (h12, .inr (6, [.ref h16, .ref h17, .int 0])), (h13, .inr (6, [.ref h18, .ref h19, .int 0]))]) hD hS hA [0, 2, 3, 4, 5, 6, 7, 8] rfl
  refine vx_calli (vx_runV (As := [.int 2, .int p0]) (rest := [.int 0, .ref h1]) ⟨hx, hb, hml, hown, hts⟩ (k_X5_scoreBy_2 l hst D κ ε h0 h2 h3 h4 h5 h6 h7 h8 h9 h10 h11 h12 h13 h14 h15 h16 h17 h18 h19 s.heap.size (p0)) (cwV 2 hts gL_scoreBy_X5_scoreBy rfl rfl rfl (by decide +kernel) ⟨(Nat.le_of_ble_eq_true rfl), (Nat.le_of_ble_eq_true rfl)⟩) (pre2_V (q0 := 0) (ci := 7) (wc := [(h0, .inr (7, [.ref h2, .ref h3, .ref h4, .ref h5, .ref h6, .ref h7, .int 0, .int 0, .int 0, .int 0])), (h2, .inr (2, [.int 0, .int 2, .ref h8, .ref h9])), (h3, .inr (3, [.ref h2, .int 0, .int 500, .ref h10, .ref h11, .long 0, .int 0])), (h8, .inl (κ 3, 4, .inr (.inr (.inr (.inr (sel [h12, h13, h14, h15])))))), (h10, .inl (κ 0, 13, .inl (fun _ => 0))), (h11, .inl (κ 0, 13, .inl (fun _ => 0))), (h12, .inr (6, [.ref h16, .ref h17, .int 0])), (h13, .inr (6, [.ref h18, .ref h19, .int 0]))]) hP hD hK hE9 hS hA [0, 2, 3, 4, 5, 6, 7, 8] (by decide) rfl rfl rfl) rfl rfl hl.1 rfl (lv_room (Nat.le_of_ble_eq_true rfl)) dL_scoreBy_5 ⟨(Nat.le_of_ble_eq_true rfl), (Nat.le_of_ble_eq_true rfl)⟩) hS (fun q _ h => hF q h) hF (fun q _ h => hF q h) (fun E9 ce q9 u t H locs ht hvm hw hB hz1 hk1 hS hce hcv hcl => ?_) (fun r u t H locs ht hvm hw hB hz1 hk1 hS => ?_)
  · try dsimp only at hB
    have hP1 : va_P D vwCl [] H := P_nil
    obtain ⟨hP, hD⟩ := post_j (ws' := [(h1, .inl (κ 2, 1, .inr (.inl (fun _ => 0))))]) (wr := [(h1, .inl (κ 2, 1, .inr (.inl (fun _ => 0))))]) (w1 := []) hP hD hF [0, 2, 3, 4, 5, 6, 7, 8] rfl [1] rfl (by decide) (by decide) hk1 hP1 D_nil [0] (by decide) rfl
    have hP : va_P D vwCl [(h1, .inl (κ 2, 1, .inr (.inl (fun _ => 0))))] H := hP
    have hD : va_D A [(h1, .inl (κ 2, 1, .inr (.inl (fun _ => 0))))] := hD
    rcases hB with ⟨c2, rfl⟩ | ⟨c3, c4, rfl⟩
    · skip
      refine vx_catch (name := "java/lang/IllegalArgumentException") hown [] ⟨0, 10, 13, 19⟩ [] (htab.trans rfl) (fun z hz => nomatch hz) (by decide) (by decide) (hts _ wd425_L_scoreBy) (va_Nw.use rfl hE.2.2.2.2.2.2.2.2.2.2.2.2.2.2.1) hce hcv hcl ?_
      refine lv_astore (lv' := [(4, .ref q9), (0, .ref h0), (1, .int 2), (2, .int p0), (3, .ref h1)]) hx hb dL_scoreBy_13 hl (by decide) rfl (fun ls hl => ?_)
      refine lv_iconst (v := 1) hx hb dL_scoreBy_15 (by decide) ?_
      have hP9 := hP.sub (ws' := [(h1, .inl (κ 2, 1, .inr (.inl (fun _ => 0))))]) [0] rfl
      have hD9 := hD.sub (ws' := [(h1, .inl (κ 2, 1, .inr (.inl (fun _ => 0))))]) [0] (by decide) rfl
      refine W.widen (k := 1) (n := 6) (Nat.le_of_ble_eq_true rfl) (Nat.le_of_ble_eq_true rfl) ?_
      exact W.iret (v := 1) hx hb hr (fun t ht hW => ⟨⟨1, (fun _ => 0), rfl, (Or.inl ⟨c2, rfl⟩), by rw [ht]; exact hP9, hD9⟩, hS.F ht⟩) hS.2.2 dL_scoreBy_16
    · skip
      refine vx_catch (name := "java/lang/IllegalArgumentException") hown [] ⟨0, 10, 13, 19⟩ [] (htab.trans rfl) (fun z hz => nomatch hz) (by decide) (by decide) (hts _ wd425_L_scoreBy) (va_Nw.use rfl hE.2.2.2.2.2.2.2.2.2.2.2.2.2.2.1) hce hcv hcl ?_
      refine lv_astore (lv' := [(4, .ref q9), (0, .ref h0), (1, .int 2), (2, .int p0), (3, .ref h1)]) hx hb dL_scoreBy_13 hl (by decide) rfl (fun ls hl => ?_)
      refine lv_iconst (v := 1) hx hb dL_scoreBy_15 (by decide) ?_
      have hP9 := hP.sub (ws' := [(h1, .inl (κ 2, 1, .inr (.inl (fun _ => 0))))]) [0] rfl
      have hD9 := hD.sub (ws' := [(h1, .inl (κ 2, 1, .inr (.inl (fun _ => 0))))]) [0] (by decide) rfl
      refine W.widen (k := 1) (n := 6) (Nat.le_of_ble_eq_true rfl) (Nat.le_of_ble_eq_true rfl) ?_
      exact W.iret (v := 1) hx hb hr (fun t ht hW => ⟨⟨1, (fun _ => 0), rfl, (Or.inr (Or.inl ⟨c3, c4, rfl⟩)), by rw [ht]; exact hP9, hD9⟩, hS.F ht⟩) hS.2.2 dL_scoreBy_16
  · try dsimp only at hw hB
    have hP1 : va_P D vwCl [] H := P_nil
    obtain ⟨hP, hD⟩ := post_j (ws' := [(h1, .inl (κ 2, 1, .inr (.inl (fun _ => 0))))]) (wr := [(h1, .inl (κ 2, 1, .inr (.inl (fun _ => 0))))]) (w1 := []) hP hD hF [0, 2, 3, 4, 5, 6, 7, 8] rfl [1] rfl (by decide) (by decide) hk1 hP1 D_nil [0] (by decide) rfl
    have hP : va_P D vwCl [(h1, .inl (κ 2, 1, .inr (.inl (fun _ => 0))))] H := hP
    have hD : va_D A [(h1, .inl (κ 2, 1, .inr (.inl (fun _ => 0))))] := hD
    obtain ⟨c5, c6, rfl⟩ := hw
    refine lv_i2l (v := 0) hx hb dL_scoreBy_8 (by decide) ?_
    refine va_last (cA := κ 2) (n := 1) (f := (fun _ => 0)) hx hb hK hP hD hS 0 2 rfl rfl (vpl (by decide)) dL_scoreBy_9 (fun H locs hP hD hS => ?_)
    have hP : va_P D vwCl [(h1, .inl (κ 2, 1, .inr (.inl (vp_updL (fun _ => 0) 0 0))))] H := hP
    have hD : va_D A [(h1, .inl (κ 2, 1, .inr (.inl (vp_updL (fun _ => 0) 0 0))))] := hD
    refine lv_goto (tgt := 17) hx hb dL_scoreBy_10 (by decide) ?_
    refine lv_iconst (v := 0) hx hb dL_scoreBy_17 (by decide) ?_
    have hP9 := hP.sub (ws' := [(h1, .inl (κ 2, 1, .inr (.inl (vp_updL (fun _ => 0) 0 0))))]) [0] rfl
    have hD9 := hD.sub (ws' := [(h1, .inl (κ 2, 1, .inr (.inl (vp_updL (fun _ => 0) 0 0))))]) [0] (by decide) rfl
    refine W.widen (k := 1) (n := 6) (Nat.le_of_ble_eq_true rfl) (Nat.le_of_ble_eq_true rfl) ?_
    exact W.iret (v := 0) hx hb hr (fun t ht hW => ⟨⟨0, (vp_updL (fun _ => 0) 0 0), rfl, (Or.inr (Or.inr ⟨c5, c6, rfl, rfl⟩)), by rw [ht]; exact hP9, hD9⟩, hS.F ht⟩) hS.2.2 dL_scoreBy_18

set_option maxHeartbeats 4000000 in
set_option maxRecDepth 100000 in
theorem k_X6_isIn_52 (l : Launch) (D : va_G) (κ ε : Nat → Nat) : Met l yX6_isIn wsX6_isIn ({ frames := 0, cells := 0, slots := 0, locals := 0 }) (va_Pc [.int 2, .int 0, .int 4] (Pre0 D κ [])) (vp_Si (fun r => (r = 1))) 0 0 (fun _ => False) := by
  refine Met.ofW (cc := cX6_isIn) (maxL := 3) (ret := (some .boolean)) (by decide) rfl ?_
  intro p e s m args below meth c s₁ B hml hv
  obtain ⟨rfl, hP, hK⟩ := hv
  have hx := B.exec
  have hb := B.bytes
  have hr := B.returns
  have hts := atoms_spec (ws := wsX6_isIn) B.pre
  have hown : s.vm.findClass RX6 = some m.cls := findClass_of_methodNamed B.named
  have hlocks := B.notSynchronized
  have hP : va_P D vwCl [] s.heap := hP
  have hl := lv_entry [.int 2, .int 0, .int 4] (n := 3) (Nat.le_of_ble_eq_true rfl)
  rw [lg_entry_eq]
  generalize (lg_sl [.int 2, .int 0, .int 4] ++ List.replicate (3 - (lg_sl [.int 2, .int 0, .int 4]).length) Slot.unset).toArray = ls at hl ⊢
  have hl : lv_has ls 3 [(0, .int 2), (1, .int 0), (2, .int 4)] := hl
  refine lv_iload_n hx hb dX6_isIn_0 rfl (lv_at hl 0 rfl) ?_
  refine lv_iload_n hx hb dX6_isIn_1 rfl (lv_at hl 1 rfl) ?_
  refine lv_icmp_lt (tgt := 14) hx hb dX6_isIn_2 (by decide) (fun h => absurd h (by decide)) (fun _ => ?_)
  refine lv_iload_n hx hb dX6_isIn_5 rfl (lv_at hl 0 rfl) ?_
  refine lv_iload_n hx hb dX6_isIn_6 rfl (lv_at hl 2 rfl) ?_
  refine lv_icmp_gt (tgt := 14) hx hb dX6_isIn_7 (by decide) (fun h => absurd h (by decide)) (fun _ => ?_)
  refine lv_iconst (v := 1) hx hb dX6_isIn_10 (by decide) ?_
  refine lv_goto (tgt := 15) hx hb dX6_isIn_11 (by decide) ?_
  exact W.zret (v := 1) hx hb hr rfl (fun t ht hW => ⟨1, rfl, rfl, ht⟩) (fun q hq => absurd hq List.not_mem_nil) dX6_isIn_15

set_option maxHeartbeats 4000000 in
set_option maxRecDepth 100000 in
theorem k_X6_scoreBy_6 (l : Launch) (D : va_G) (κ ε : Nat → Nat) (h0 h1 h2 h3 : Nat) (sz : Nat) (p0 : Int32) (hf0 : p0 < 1) : Met l yX6_scoreBy wsX6_scoreBy ({ frames := 2, cells := 0, slots := 0, locals := 44 }) (va_Pc [.ref h0, .int 2, .int p0] (Pre2 D κ ε [(h0, .inr (8, [.int 0, .int 0, .int 2, .ref h1, .ref h2, .int 0, .int 500, .int 0, .int 0, .int 0, .ref h3]))] sz)) (va_Qi (fun r (u : List Value) => (u[0]? = some (.int 1)) ∧ (r = 0)) (fun u t => va_P D vwCl [(h0, .inr (8, u))] t.heap ∧ va_D (va_A [(h0, .inr (8, [.int 0, .int 0, .int 2, .ref h1, .ref h2, .int 0, .int 500, .int 0, .int 0, .int 0, .ref h3]))] sz) [(h0, .inr (8, u))]) (va_A [(h0, .inr (8, [.int 0, .int 0, .int 2, .ref h1, .ref h2, .int 0, .int 500, .int 0, .int 0, .int 0, .ref h3]))] sz)) 0 0 (va_A [(h0, .inr (8, [.int 0, .int 0, .int 2, .ref h1, .ref h2, .int 0, .int 500, .int 0, .int 0, .int 0, .ref h3]))] sz) := by
  refine Met.ofW (cc := cX6_scoreBy) (maxL := 3) (ret := (some .int)) (by decide) rfl ?_
  intro p e s m args below meth c s₁ B hml hv
  obtain ⟨rfl, hsz, hP, hK, hD0, hE9⟩ := hv
  have hx := B.exec
  have hb := B.bytes
  have hr := B.returns
  have hts := atoms_spec (ws := wsX6_scoreBy) B.pre
  have hown : s.vm.findClass RX6 = some m.cls := findClass_of_methodNamed B.named
  have hlocks := B.notSynchronized
  subst hsz
  have hD := hD0.self (sz := s.heap.size)
  generalize hAe : va_A [(h0, .inr (8, [.int 0, .int 0, .int 2, .ref h1, .ref h2, .int 0, .int 500, .int 0, .int 0, .int 0, .ref h3]))] s.heap.size = A at hD hE9 ⊢
  have hE := hE9.1
  have hDc := hE9.2
  have hA : ∀ q : Nat, s.heap.size ≤ q → A q := fun q h => by rw [← hAe]; exact Or.inr h
  have hS : va_S A s.heap s.heap [] := va_S.rf
  have hP : va_P D vwCl [(h0, .inr (8, [.int 0, .int 0, .int 2, .ref h1, .ref h2, .int 0, .int 500, .int 0, .int 0, .int 0, .ref h3]))] s.heap := hP
  have hl := lv_entry [.ref h0, .int 2, .int p0] (n := 3) (Nat.le_of_ble_eq_true rfl)
  rw [lg_entry_eq]
  generalize (lg_sl [.ref h0, .int 2, .int p0] ++ List.replicate (3 - (lg_sl [.ref h0, .int 2, .int p0]).length) Slot.unset).toArray = ls at hl ⊢
  have hl : lv_has ls 3 [(0, .ref h0), (1, .int 2), (2, .int p0)] := hl
  refine lv_aload_n hx hb dX6_scoreBy_0 rfl (lv_at hl 0 rfl) ?_
  refine lv_iload_n hx hb dX6_scoreBy_1 rfl (lv_at hl 1 rfl) ?_
  refine lv_iconst (v := 0) hx hb dX6_scoreBy_2 (by decide) ?_
  refine lv_iconst (v := 4) hx hb dX6_scoreBy_3 (by decide) ?_
  refine vp_callSi (W.runS (As := [.int 2, .int 0, .int 4]) (rest := [.ref h0]) ⟨hx, hb, hml, hown, hts⟩ (k_X6_isIn_52 l D κ ε) (va_cwS 3 hts gX6_scoreBy_X6_isIn rfl rfl rfl (by decide +kernel) ⟨(Nat.le_of_ble_eq_true rfl), (Nat.le_of_ble_eq_true rfl)⟩) (pre0_S (wc := []) hP hK [] rfl) rfl rfl hl.1 rfl (lv_room (Nat.le_of_ble_eq_true rfl)) dX6_scoreBy_4 ⟨(Nat.le_of_ble_eq_true rfl), (Nat.le_of_ble_eq_true rfl)⟩) (fun r hw => ?_)
  rw [hw]
  refine lv_if_eq (tgt := 21) hx hb dX6_scoreBy_7 (by decide) (fun h => absurd h (by decide)) (fun _ => ?_)
  refine lv_iload_n hx hb dX6_scoreBy_10 rfl (lv_at hl 2 rfl) ?_
  refine lv_iconst (v := 1) hx hb dX6_scoreBy_11 (by decide) ?_
  refine lv_sipush (v := 1000) hx hb dX6_scoreBy_12 (by decide) ?_
  refine vp_callSi (W.runS (As := [.int p0, .int 1, .int 1000]) (rest := [.ref h0]) ⟨hx, hb, hml, hown, hts⟩ (k_X6_isIn_17 l D κ ε (p0) hf0) (va_cwS 3 hts gX6_scoreBy_X6_isIn rfl rfl rfl (by decide +kernel) ⟨(Nat.le_of_ble_eq_true rfl), (Nat.le_of_ble_eq_true rfl)⟩) (pre0_S (wc := []) hP hK [] rfl) rfl rfl hl.1 rfl (lv_room (Nat.le_of_ble_eq_true rfl)) dX6_scoreBy_15 ⟨(Nat.le_of_ble_eq_true rfl), (Nat.le_of_ble_eq_true rfl)⟩) (fun r hw => ?_)
  rw [hw]
  refine lv_if_ne (tgt := 25) hx hb dX6_scoreBy_18 (by decide) (fun h => absurd (by decide) h) (fun _ => ?_)
  refine lv_iconst (v := 1) hx hb dX6_scoreBy_21 (by decide) ?_
  refine lv_goto (tgt := 26) hx hb dX6_scoreBy_22 (by decide) ?_
  refine lv_iconst (v := 1) hx hb dX6_scoreBy_26 (by decide) ?_
  have hF := va_free (wc := [(h0, .inr (8, [.int 0, .int 0, .int 2, .ref h1, .ref h2, .int 0, .int 500, .int 0, .int 0, .int 0, .ref h3]))]) hD hS hA [0] rfl
  refine va_calli (va_runV (As := [.int 1, .int 1]) (rest := []) ⟨hx, hb, hml, hown, hts⟩ (k_X6_start_1 l D κ ε h0 h1 h2 h3 s.heap.size (0) (2) (0) (500) (0) (0)) (cwV 2 hts gX6_scoreBy_X6_start rfl rfl rfl (by decide +kernel) ⟨(Nat.le_of_ble_eq_true rfl), (Nat.le_of_ble_eq_true rfl)⟩) (pre2_V (q0 := 0) (ci := 8) (wc := [(h0, .inr (8, [.int 0, .int 0, .int 2, .ref h1, .ref h2, .int 0, .int 500, .int 0, .int 0, .int 0, .ref h3]))]) hP hD hK hE9 hS hA [0] (by decide) rfl rfl rfl) rfl rfl hl.1 rfl (lv_room (Nat.le_of_ble_eq_true rfl)) dX6_scoreBy_27 ⟨(Nat.le_of_ble_eq_true rfl), (Nat.le_of_ble_eq_true rfl)⟩) hS (fun q _ h => hF q h) hF (fun r u1 t H locs ht hvm hw hB hz1 hk1 hS => ?_)
  try dsimp only at hw hB
  obtain ⟨hP1, hD1⟩ := hB
  rw [ht] at hP1
  obtain ⟨hP, hD⟩ := post_j (ws' := [(h0, .inr (8, [.int 1, .int 0, .int 2, .ref h1, .ref h2, .int 0, .int 500, .int 0, .int 0, .int 0, .ref h3]))]) (wr := []) (w1 := [(h0, .inr (8, [.int 1, .int 0, .int 2, .ref h1, .ref h2, .int 0, .int 500, .int 0, .int 0, .int 0, .ref h3]))]) hP hD hF [0] rfl [] rfl (by decide) (by decide) hk1 hP1 hD1 [0] (by decide) rfl
  have hP : va_P D vwCl [(h0, .inr (8, [.int 1, .int 0, .int 2, .ref h1, .ref h2, .int 0, .int 500, .int 0, .int 0, .int 0, .ref h3]))] H := hP
  have hD : va_D A [(h0, .inr (8, [.int 1, .int 0, .int 2, .ref h1, .ref h2, .int 0, .int 500, .int 0, .int 0, .int 0, .ref h3]))] := hD
  rw [hw]
  refine lv_if_eq (tgt := 37) hx hb dX6_scoreBy_30 (by decide) (fun h => absurd h (by decide)) (fun _ => ?_)
  refine lv_iconst (v := 0) hx hb dX6_scoreBy_33 (by decide) ?_
  refine lv_goto (tgt := 47) hx hb dX6_scoreBy_34 (by decide) ?_
  have hP9 := hP.sub (ws' := [(h0, .inr (8, [.int 1, .int 0, .int 2, .ref h1, .ref h2, .int 0, .int 500, .int 0, .int 0, .int 0, .ref h3]))]) [0] rfl
  have hD9 := hD.sub (ws' := [(h0, .inr (8, [.int 1, .int 0, .int 2, .ref h1, .ref h2, .int 0, .int 500, .int 0, .int 0, .int 0, .ref h3]))]) [0] (by decide) rfl
  exact W.iret (v := 0) hx hb hr (fun t ht hW => ⟨⟨0, [.int 1, .int 0, .int 2, .ref h1, .ref h2, .int 0, .int 500, .int 0, .int 0, .int 0, .ref h3], rfl, ⟨rfl, rfl⟩, by rw [ht]; exact hP9, hD9⟩, hS.F ht⟩) hS.2.2 dX6_scoreBy_47

set_option maxHeartbeats 4000000 in
set_option maxRecDepth 100000 in
theorem k_X6_scoreBy_7 (l : Launch) (D : va_G) (κ ε : Nat → Nat) (h0 h1 h2 h3 : Nat) (sz : Nat) (p0 : Int32) (hf0 : ¬ p0 < 1) (hf1 : 1000 < p0) : Met l yX6_scoreBy wsX6_scoreBy ({ frames := 2, cells := 0, slots := 0, locals := 44 }) (va_Pc [.ref h0, .int 2, .int p0] (Pre2 D κ ε [(h0, .inr (8, [.int 0, .int 0, .int 2, .ref h1, .ref h2, .int 0, .int 500, .int 0, .int 0, .int 0, .ref h3]))] sz)) (va_Qi (fun r (u : List Value) => (u[0]? = some (.int 1)) ∧ (r = 0)) (fun u t => va_P D vwCl [(h0, .inr (8, u))] t.heap ∧ va_D (va_A [(h0, .inr (8, [.int 0, .int 0, .int 2, .ref h1, .ref h2, .int 0, .int 500, .int 0, .int 0, .int 0, .ref h3]))] sz) [(h0, .inr (8, u))]) (va_A [(h0, .inr (8, [.int 0, .int 0, .int 2, .ref h1, .ref h2, .int 0, .int 500, .int 0, .int 0, .int 0, .ref h3]))] sz)) 0 0 (va_A [(h0, .inr (8, [.int 0, .int 0, .int 2, .ref h1, .ref h2, .int 0, .int 500, .int 0, .int 0, .int 0, .ref h3]))] sz) := by
  refine Met.ofW (cc := cX6_scoreBy) (maxL := 3) (ret := (some .int)) (by decide) rfl ?_
  intro p e s m args below meth c s₁ B hml hv
  obtain ⟨rfl, hsz, hP, hK, hD0, hE9⟩ := hv
  have hx := B.exec
  have hb := B.bytes
  have hr := B.returns
  have hts := atoms_spec (ws := wsX6_scoreBy) B.pre
  have hown : s.vm.findClass RX6 = some m.cls := findClass_of_methodNamed B.named
  have hlocks := B.notSynchronized
  subst hsz
  have hD := hD0.self (sz := s.heap.size)
  generalize hAe : va_A [(h0, .inr (8, [.int 0, .int 0, .int 2, .ref h1, .ref h2, .int 0, .int 500, .int 0, .int 0, .int 0, .ref h3]))] s.heap.size = A at hD hE9 ⊢
  have hE := hE9.1
  have hDc := hE9.2
  have hA : ∀ q : Nat, s.heap.size ≤ q → A q := fun q h => by rw [← hAe]; exact Or.inr h
  have hS : va_S A s.heap s.heap [] := va_S.rf
  have hP : va_P D vwCl [(h0, .inr (8, [.int 0, .int 0, .int 2, .ref h1, .ref h2, .int 0, .int 500, .int 0, .int 0, .int 0, .ref h3]))] s.heap := hP
  have hl := lv_entry [.ref h0, .int 2, .int p0] (n := 3) (Nat.le_of_ble_eq_true rfl)
  rw [lg_entry_eq]
  generalize (lg_sl [.ref h0, .int 2, .int p0] ++ List.replicate (3 - (lg_sl [.ref h0, .int 2, .int p0]).length) Slot.unset).toArray = ls at hl ⊢
  have hl : lv_has ls 3 [(0, .ref h0), (1, .int 2), (2, .int p0)] := hl
  refine lv_aload_n hx hb dX6_scoreBy_0 rfl (lv_at hl 0 rfl) ?_
  refine lv_iload_n hx hb dX6_scoreBy_1 rfl (lv_at hl 1 rfl) ?_
  refine lv_iconst (v := 0) hx hb dX6_scoreBy_2 (by decide) ?_
  refine lv_iconst (v := 4) hx hb dX6_scoreBy_3 (by decide) ?_
  refine vp_callSi (W.runS (As := [.int 2, .int 0, .int 4]) (rest := [.ref h0]) ⟨hx, hb, hml, hown, hts⟩ (k_X6_isIn_52 l D κ ε) (va_cwS 3 hts gX6_scoreBy_X6_isIn rfl rfl rfl (by decide +kernel) ⟨(Nat.le_of_ble_eq_true rfl), (Nat.le_of_ble_eq_true rfl)⟩) (pre0_S (wc := []) hP hK [] rfl) rfl rfl hl.1 rfl (lv_room (Nat.le_of_ble_eq_true rfl)) dX6_scoreBy_4 ⟨(Nat.le_of_ble_eq_true rfl), (Nat.le_of_ble_eq_true rfl)⟩) (fun r hw => ?_)
  rw [hw]
  refine lv_if_eq (tgt := 21) hx hb dX6_scoreBy_7 (by decide) (fun h => absurd h (by decide)) (fun _ => ?_)
  refine lv_iload_n hx hb dX6_scoreBy_10 rfl (lv_at hl 2 rfl) ?_
  refine lv_iconst (v := 1) hx hb dX6_scoreBy_11 (by decide) ?_
  refine lv_sipush (v := 1000) hx hb dX6_scoreBy_12 (by decide) ?_
  refine vp_callSi (W.runS (As := [.int p0, .int 1, .int 1000]) (rest := [.ref h0]) ⟨hx, hb, hml, hown, hts⟩ (k_X6_isIn_28 l D κ ε (p0) hf0 hf1) (va_cwS 3 hts gX6_scoreBy_X6_isIn rfl rfl rfl (by decide +kernel) ⟨(Nat.le_of_ble_eq_true rfl), (Nat.le_of_ble_eq_true rfl)⟩) (pre0_S (wc := []) hP hK [] rfl) rfl rfl hl.1 rfl (lv_room (Nat.le_of_ble_eq_true rfl)) dX6_scoreBy_15 ⟨(Nat.le_of_ble_eq_true rfl), (Nat.le_of_ble_eq_true rfl)⟩) (fun r hw => ?_)
  rw [hw]
  refine lv_if_ne (tgt := 25) hx hb dX6_scoreBy_18 (by decide) (fun h => absurd (by decide) h) (fun _ => ?_)
  refine lv_iconst (v := 1) hx hb dX6_scoreBy_21 (by decide) ?_
  refine lv_goto (tgt := 26) hx hb dX6_scoreBy_22 (by decide) ?_
  refine lv_iconst (v := 1) hx hb dX6_scoreBy_26 (by decide) ?_
  have hF := va_free (wc := [(h0, .inr (8, [.int 0, .int 0, .int 2, .ref h1, .ref h2, .int 0, .int 500, .int 0, .int 0, .int 0, .ref h3]))]) hD hS hA [0] rfl
  refine va_calli (va_runV (As := [.int 1, .int 1]) (rest := []) ⟨hx, hb, hml, hown, hts⟩ (k_X6_start_1 l D κ ε h0 h1 h2 h3 s.heap.size (0) (2) (0) (500) (0) (0)) (cwV 2 hts gX6_scoreBy_X6_start rfl rfl rfl (by decide +kernel) ⟨(Nat.le_of_ble_eq_true rfl), (Nat.le_of_ble_eq_true rfl)⟩) (pre2_V (q0 := 0) (ci := 8) (wc := [(h0, .inr (8, [.int 0, .int 0, .int 2, .ref h1, .ref h2, .int 0, .int 500, .int 0, .int 0, .int 0, .ref h3]))]) hP hD hK hE9 hS hA [0] (by decide) rfl rfl rfl) rfl rfl hl.1 rfl (lv_room (Nat.le_of_ble_eq_true rfl)) dX6_scoreBy_27 ⟨(Nat.le_of_ble_eq_true rfl), (Nat.le_of_ble_eq_true rfl)⟩) hS (fun q _ h => hF q h) hF (fun r u1 t H locs ht hvm hw hB hz1 hk1 hS => ?_)
  try dsimp only at hw hB
  obtain ⟨hP1, hD1⟩ := hB
  rw [ht] at hP1
  obtain ⟨hP, hD⟩ := post_j (ws' := [(h0, .inr (8, [.int 1, .int 0, .int 2, .ref h1, .ref h2, .int 0, .int 500, .int 0, .int 0, .int 0, .ref h3]))]) (wr := []) (w1 := [(h0, .inr (8, [.int 1, .int 0, .int 2, .ref h1, .ref h2, .int 0, .int 500, .int 0, .int 0, .int 0, .ref h3]))]) hP hD hF [0] rfl [] rfl (by decide) (by decide) hk1 hP1 hD1 [0] (by decide) rfl
  have hP : va_P D vwCl [(h0, .inr (8, [.int 1, .int 0, .int 2, .ref h1, .ref h2, .int 0, .int 500, .int 0, .int 0, .int 0, .ref h3]))] H := hP
  have hD : va_D A [(h0, .inr (8, [.int 1, .int 0, .int 2, .ref h1, .ref h2, .int 0, .int 500, .int 0, .int 0, .int 0, .ref h3]))] := hD
  rw [hw]
  refine lv_if_eq (tgt := 37) hx hb dX6_scoreBy_30 (by decide) (fun h => absurd h (by decide)) (fun _ => ?_)
  refine lv_iconst (v := 0) hx hb dX6_scoreBy_33 (by decide) ?_
  refine lv_goto (tgt := 47) hx hb dX6_scoreBy_34 (by decide) ?_
  have hP9 := hP.sub (ws' := [(h0, .inr (8, [.int 1, .int 0, .int 2, .ref h1, .ref h2, .int 0, .int 500, .int 0, .int 0, .int 0, .ref h3]))]) [0] rfl
  have hD9 := hD.sub (ws' := [(h0, .inr (8, [.int 1, .int 0, .int 2, .ref h1, .ref h2, .int 0, .int 500, .int 0, .int 0, .int 0, .ref h3]))]) [0] (by decide) rfl
  exact W.iret (v := 0) hx hb hr (fun t ht hW => ⟨⟨0, [.int 1, .int 0, .int 2, .ref h1, .ref h2, .int 0, .int 500, .int 0, .int 0, .int 0, .ref h3], rfl, ⟨rfl, rfl⟩, by rw [ht]; exact hP9, hD9⟩, hS.F ht⟩) hS.2.2 dX6_scoreBy_47

set_option maxHeartbeats 4000000 in
set_option maxRecDepth 100000 in
theorem k_X6_chance_4 (l : Launch) (D : va_G) (κ ε : Nat → Nat) (h0 h1 h2 h3 h4 h5 h6 h7 : Nat) (p0 : Int32) (p1 : Int32) (p2 : Int32) (p3 : Int32) (p4 : Int32) (p5 : Int32) (p6 : Int32) : Met l yX6_chance wsX6_chance ({ frames := 1, cells := 0, slots := 0, locals := 23 }) (va_Pc [.ref h0, .ref h1, .int 2, .int p0, .int 0, .int 0, .int 0] (Pre0 D κ [(h0, .inr (8, [.int p1, .int 0, .int p2, .ref h2, .ref h1, .int p3, .int p4, .int p5, .int p6, .int 0, .ref h3])), (h1, .inl (κ 4, 4, .inr (.inr (.inr (.inr (sel [h4, h5, h6, h7])))))), (h4, .inl (κ 0, 14, .inl (fun _ => 0)))])) (vp_Sl (fun r => (r = 1000000))) 0 0 (fun _ => False) := by
  refine Met.ofW (cc := cX6_chance) (maxL := 15) (ret := (some .long)) (by decide) rfl ?_
  intro p e s m args below meth c s₁ B hml hv
  obtain ⟨rfl, hP, hK⟩ := hv
  have hx := B.exec
  have hb := B.bytes
  have hr := B.returns
  have hts := atoms_spec (ws := wsX6_chance) B.pre
  have hown : s.vm.findClass RX6 = some m.cls := findClass_of_methodNamed B.named
  have hlocks := B.notSynchronized
  have hP : va_P D vwCl [(h0, .inr (8, [.int p1, .int 0, .int p2, .ref h2, .ref h1, .int p3, .int p4, .int p5, .int p6, .int 0, .ref h3])), (h1, .inl (κ 4, 4, .inr (.inr (.inr (.inr (sel [h4, h5, h6, h7])))))), (h4, .inl (κ 0, 14, .inl (fun _ => 0)))] s.heap := hP
  have hl := lv_entry [.ref h0, .ref h1, .int 2, .int p0, .int 0, .int 0, .int 0] (n := 15) (Nat.le_of_ble_eq_true rfl)
  rw [lg_entry_eq]
  generalize (lg_sl [.ref h0, .ref h1, .int 2, .int p0, .int 0, .int 0, .int 0] ++ List.replicate (15 - (lg_sl [.ref h0, .ref h1, .int 2, .int p0, .int 0, .int 0, .int 0]).length) Slot.unset).toArray = ls at hl ⊢
  have hl : lv_has ls 15 [(0, .ref h0), (1, .ref h1), (2, .int 2), (3, .int p0), (4, .int 0), (5, .int 0), (6, .int 0)] := hl
  refine lv_lconst (v := 0) hx hb dX6_chance_0 (by decide) ?_
  refine lv_lstore (lv' := [(7, .long 0), (0, .ref h0), (1, .ref h1), (2, .int 2), (3, .int p0), (4, .int 0), (5, .int 0), (6, .int 0)]) hx hb dX6_chance_1 hl (by decide) rfl (fun ls hl => ?_)
  refine lv_lconst (v := 0) hx hb dX6_chance_3 (by decide) ?_
  refine lv_lstore (lv' := [(9, .long 0), (7, .long 0), (0, .ref h0), (1, .ref h1), (2, .int 2), (3, .int p0), (4, .int 0), (5, .int 0), (6, .int 0)]) hx hb dX6_chance_4 hl (by decide) rfl (fun ls hl => ?_)
  refine lv_lconst (v := 0) hx hb dX6_chance_6 (by decide) ?_
  refine lv_lstore (lv' := [(11, .long 0), (9, .long 0), (7, .long 0), (0, .ref h0), (1, .ref h1), (2, .int 2), (3, .int p0), (4, .int 0), (5, .int 0), (6, .int 0)]) hx hb dX6_chance_7 hl (by decide) rfl (fun ls hl => ?_)
  refine lv_iload_n hx hb dX6_chance_9 rfl (lv_at hl 5 rfl) ?_
  refine lv_iconst (v := 4) hx hb dX6_chance_10 (by decide) ?_
  refine lv_icmp_ne (tgt := 106) hx hb dX6_chance_11 (by decide) (fun _ => ?_) (fun h => absurd h (by decide))
  refine lv_aload_n hx hb dX6_chance_106 rfl (lv_at hl 4 rfl) ?_
  refine lv_iload hx hb dX6_chance_107 (lv_at hl 9 rfl) ?_
  refine ya_ld2 hx hb hK hP 1 rfl (vpl (by decide)) (v := .ref h4) rfl dX6_chance_109 ?_
  refine lv_iload hx hb dX6_chance_110 (lv_at hl 8 rfl) ?_
  refine lv_bipush (v := 14) hx hb dX6_chance_112 (by decide) ?_
  refine lv_imul hx hb dX6_chance_114 ?_
  refine tpi (v := 0) (by decide) ?_
  refine lv_iload hx hb dX6_chance_115 (lv_at hl 7 rfl) ?_
  refine lv_iadd hx hb dX6_chance_117 ?_
  refine tpi (v := 0) (by decide) ?_
  refine lv_iconst (v := 1) hx hb dX6_chance_118 (by decide) ?_
  refine lv_iadd hx hb dX6_chance_119 ?_
  refine tpi (v := 1) (by decide) ?_
  refine va_iald (cA := κ 0) (n := 14) (f := (fun _ => 0)) hx hb hK hP 2 0 rfl rfl (vpl (by decide)) dX6_chance_120 ?_
  refine tpi (v := 0) (by decide) ?_
  refine lv_i2l (v := 0) hx hb dX6_chance_121 (by decide) ?_
  refine lv_lstore (lv' := [(7, .long 0), (11, .long 0), (9, .long 0), (0, .ref h0), (1, .ref h1), (2, .int 2), (3, .int p0), (4, .int 0), (5, .int 0), (6, .int 0)]) hx hb dX6_chance_122 hl (by decide) rfl (fun ls hl => ?_)
  refine lv_aload_n hx hb dX6_chance_124 rfl (lv_at hl 4 rfl) ?_
  refine lv_iload hx hb dX6_chance_125 (lv_at hl 9 rfl) ?_
  refine ya_ld2 hx hb hK hP 1 rfl (vpl (by decide)) (v := .ref h4) rfl dX6_chance_127 ?_
  refine lv_iload hx hb dX6_chance_128 (lv_at hl 8 rfl) ?_
  refine vp_callSi (W.runS (As := [.ref h4, .int 0]) (rest := []) ⟨hx, hb, hml, hown, hts⟩ (k_X6_sum_0 l D κ ε h4) (va_cwS 2 hts gX6_chance_X6_sum rfl rfl rfl (by decide +kernel) ⟨(Nat.le_of_ble_eq_true rfl), (Nat.le_of_ble_eq_true rfl)⟩) (pre0_S (wc := [(h4, .inl (κ 0, 14, .inl (fun _ => 0)))]) hP hK [2] rfl) rfl rfl hl.1 rfl (lv_room (Nat.le_of_ble_eq_true rfl)) dX6_chance_130 ⟨(Nat.le_of_ble_eq_true rfl), (Nat.le_of_ble_eq_true rfl)⟩) (fun r hw => ?_)
  rw [hw]
  refine lv_i2l (v := 0) hx hb dX6_chance_133 (by decide) ?_
  refine lv_lstore (lv' := [(9, .long 0), (7, .long 0), (11, .long 0), (0, .ref h0), (1, .ref h1), (2, .int 2), (3, .int p0), (4, .int 0), (5, .int 0), (6, .int 0)]) hx hb dX6_chance_134 hl (by decide) rfl (fun ls hl => ?_)
  refine lv_aload_n hx hb dX6_chance_136 rfl (lv_at hl 4 rfl) ?_
  refine lv_iload hx hb dX6_chance_137 (lv_at hl 9 rfl) ?_
  refine ya_ld2 hx hb hK hP 1 rfl (vpl (by decide)) (v := .ref h4) rfl dX6_chance_139 ?_
  refine lv_iload hx hb dX6_chance_140 (lv_at hl 8 rfl) ?_
  refine vp_callSi (W.runS (As := [.ref h4, .int 0]) (rest := []) ⟨hx, hb, hml, hown, hts⟩ (k_X6_sorts_0 l D κ ε h4) (va_cwS 2 hts gX6_chance_X6_sorts rfl rfl rfl (by decide +kernel) ⟨(Nat.le_of_ble_eq_true rfl), (Nat.le_of_ble_eq_true rfl)⟩) (pre0_S (wc := [(h4, .inl (κ 0, 14, .inl (fun _ => 0)))]) hP hK [2] rfl) rfl rfl hl.1 rfl (lv_room (Nat.le_of_ble_eq_true rfl)) dX6_chance_142 ⟨(Nat.le_of_ble_eq_true rfl), (Nat.le_of_ble_eq_true rfl)⟩) (fun r hw => ?_)
  rw [hw]
  refine lv_i2l (v := 0) hx hb dX6_chance_145 (by decide) ?_
  refine lv_lstore (lv' := [(11, .long 0), (9, .long 0), (7, .long 0), (0, .ref h0), (1, .ref h1), (2, .int 2), (3, .int p0), (4, .int 0), (5, .int 0), (6, .int 0)]) hx hb dX6_chance_146 hl (by decide) rfl (fun ls hl => ?_)
  refine lv_iload_n hx hb dX6_chance_148 rfl (lv_at hl 5 rfl) ?_
  refine lv_if_ne (tgt := 184) hx hb dX6_chance_149 (by decide) (fun _ => ?_) (fun h => absurd h (by decide))
  refine lv_iload hx hb dX6_chance_184 (lv_at hl 9 rfl) ?_
  refine lv_if_ne (tgt := 202) hx hb dX6_chance_186 (by decide) (fun h => absurd (by decide) h) (fun _ => ?_)
  refine lv_ldc (v := 1000000) hx hb hown (hts _ wd428_X6_chance) dX6_chance_189 ?_
  refine lv_aload_n hx hb dX6_chance_191 rfl (lv_at hl 3 rfl) ?_
  refine va_get (D := D) (ci := 8) (v := .int 0) (C := RX6) (T := TX6) (N := 11) hx hb hts wi_X6_chance_RX6 hown hK hP 0 rfl rfl 1 (by decide) (hts _ wd307_X6_chance) (fun _ h9 => h9) rfl dX6_chance_192 ?_
  refine lv_iconst (v := 1) hx hb dX6_chance_195 (by decide) ?_
  refine lv_iadd hx hb dX6_chance_196 ?_
  refine tpi (v := 1) (by decide) ?_
  refine lv_idiv hx hb dX6_chance_197 (by decide) ?_
  refine tpi (v := 1000000) (by decide) ?_
  refine lv_i2l (v := 1000000) hx hb dX6_chance_198 (by decide) ?_
  refine lv_goto (tgt := 225) hx hb dX6_chance_199 (by decide) ?_
  refine lv_lstore (lv' := [(13, .long 1000000), (11, .long 0), (9, .long 0), (7, .long 0), (0, .ref h0), (1, .ref h1), (2, .int 2), (3, .int p0), (4, .int 0), (5, .int 0), (6, .int 0)]) hx hb dX6_chance_225 hl (by decide) rfl (fun ls hl => ?_)
  refine lv_lload hx hb dX6_chance_227 (lv_at hl 2 rfl) ?_
  refine lv_lconst (v := 0) hx hb dX6_chance_229 (by decide) ?_
  refine W.lcmp hx hb dX6_chance_230 ?_
  refine tpi (v := 0) (by decide) ?_
  refine lv_if_ne (tgt := 237) hx hb dX6_chance_231 (by decide) (fun h => absurd (by decide) h) (fun _ => ?_)
  refine lv_lload hx hb dX6_chance_234 (lv_at hl 0 rfl) ?_
  exact W.lret (v := 1000000) hx hb hr (fun t ht hW => ⟨1000000, rfl, rfl, ht⟩) (fun q hq => absurd hq List.not_mem_nil) dX6_chance_236

set_option maxHeartbeats 4000000 in
set_option maxRecDepth 100000 in
theorem k_X6_chance_5 (l : Launch) (D : va_G) (κ ε : Nat → Nat) (h0 h1 h2 h3 h4 h5 h6 h7 : Nat) (p0 : Int32) (p1 : Int32) (p2 : Int32) (p3 : Int32) (p4 : Int32) (p5 : Int32) (p6 : Int32) : Met l yX6_chance wsX6_chance ({ frames := 2, cells := 0, slots := 0, locals := 57 }) (va_Pc [.ref h0, .ref h1, .int 2, .int p0, .int 0, .int 0, .int 1] (Pre0 D κ [(h0, .inr (8, [.int p1, .int 0, .int p2, .ref h2, .ref h1, .int p3, .int p4, .int p5, .int p6, .int 0, .ref h3])), (h1, .inl (κ 4, 4, .inr (.inr (.inr (.inr (sel [h4, h5, h6, h7])))))), (h4, .inl (κ 0, 14, .inl (fun _ => 0))), (h5, .inl (κ 0, 196, .inl (fun _ => 0)))])) (vp_Sl (fun r => (r = 1000000))) 0 0 (fun _ => False) := by
  refine Met.ofW (cc := cX6_chance) (maxL := 15) (ret := (some .long)) (by decide) rfl ?_
  intro p e s m args below meth c s₁ B hml hv
  obtain ⟨rfl, hP, hK⟩ := hv
  have hx := B.exec
  have hb := B.bytes
  have hr := B.returns
  have hts := atoms_spec (ws := wsX6_chance) B.pre
  have hown : s.vm.findClass RX6 = some m.cls := findClass_of_methodNamed B.named
  have hlocks := B.notSynchronized
  have hP : va_P D vwCl [(h0, .inr (8, [.int p1, .int 0, .int p2, .ref h2, .ref h1, .int p3, .int p4, .int p5, .int p6, .int 0, .ref h3])), (h1, .inl (κ 4, 4, .inr (.inr (.inr (.inr (sel [h4, h5, h6, h7])))))), (h4, .inl (κ 0, 14, .inl (fun _ => 0))), (h5, .inl (κ 0, 196, .inl (fun _ => 0)))] s.heap := hP
  have hl := lv_entry [.ref h0, .ref h1, .int 2, .int p0, .int 0, .int 0, .int 1] (n := 15) (Nat.le_of_ble_eq_true rfl)
  rw [lg_entry_eq]
  generalize (lg_sl [.ref h0, .ref h1, .int 2, .int p0, .int 0, .int 0, .int 1] ++ List.replicate (15 - (lg_sl [.ref h0, .ref h1, .int 2, .int p0, .int 0, .int 0, .int 1]).length) Slot.unset).toArray = ls at hl ⊢
  have hl : lv_has ls 15 [(0, .ref h0), (1, .ref h1), (2, .int 2), (3, .int p0), (4, .int 0), (5, .int 0), (6, .int 1)] := hl
  refine lv_lconst (v := 0) hx hb dX6_chance_0 (by decide) ?_
  refine lv_lstore (lv' := [(7, .long 0), (0, .ref h0), (1, .ref h1), (2, .int 2), (3, .int p0), (4, .int 0), (5, .int 0), (6, .int 1)]) hx hb dX6_chance_1 hl (by decide) rfl (fun ls hl => ?_)
  refine lv_lconst (v := 0) hx hb dX6_chance_3 (by decide) ?_
  refine lv_lstore (lv' := [(9, .long 0), (7, .long 0), (0, .ref h0), (1, .ref h1), (2, .int 2), (3, .int p0), (4, .int 0), (5, .int 0), (6, .int 1)]) hx hb dX6_chance_4 hl (by decide) rfl (fun ls hl => ?_)
  refine lv_lconst (v := 0) hx hb dX6_chance_6 (by decide) ?_
  refine lv_lstore (lv' := [(11, .long 0), (9, .long 0), (7, .long 0), (0, .ref h0), (1, .ref h1), (2, .int 2), (3, .int p0), (4, .int 0), (5, .int 0), (6, .int 1)]) hx hb dX6_chance_7 hl (by decide) rfl (fun ls hl => ?_)
  refine lv_iload_n hx hb dX6_chance_9 rfl (lv_at hl 5 rfl) ?_
  refine lv_iconst (v := 4) hx hb dX6_chance_10 (by decide) ?_
  refine lv_icmp_ne (tgt := 106) hx hb dX6_chance_11 (by decide) (fun _ => ?_) (fun h => absurd h (by decide))
  refine lv_aload_n hx hb dX6_chance_106 rfl (lv_at hl 4 rfl) ?_
  refine lv_iload hx hb dX6_chance_107 (lv_at hl 9 rfl) ?_
  refine ya_ld2 hx hb hK hP 1 rfl (vpl (by decide)) (v := .ref h5) rfl dX6_chance_109 ?_
  refine lv_iload hx hb dX6_chance_110 (lv_at hl 8 rfl) ?_
  refine lv_bipush (v := 14) hx hb dX6_chance_112 (by decide) ?_
  refine lv_imul hx hb dX6_chance_114 ?_
  refine tpi (v := 0) (by decide) ?_
  refine lv_iload hx hb dX6_chance_115 (lv_at hl 7 rfl) ?_
  refine lv_iadd hx hb dX6_chance_117 ?_
  refine tpi (v := 0) (by decide) ?_
  refine lv_iconst (v := 1) hx hb dX6_chance_118 (by decide) ?_
  refine lv_iadd hx hb dX6_chance_119 ?_
  refine tpi (v := 1) (by decide) ?_
  refine va_iald (cA := κ 0) (n := 196) (f := (fun _ => 0)) hx hb hK hP 3 0 rfl rfl (vpl (by decide)) dX6_chance_120 ?_
  refine tpi (v := 0) (by decide) ?_
  refine lv_i2l (v := 0) hx hb dX6_chance_121 (by decide) ?_
  refine lv_lstore (lv' := [(7, .long 0), (11, .long 0), (9, .long 0), (0, .ref h0), (1, .ref h1), (2, .int 2), (3, .int p0), (4, .int 0), (5, .int 0), (6, .int 1)]) hx hb dX6_chance_122 hl (by decide) rfl (fun ls hl => ?_)
  refine lv_aload_n hx hb dX6_chance_124 rfl (lv_at hl 4 rfl) ?_
  refine lv_iload hx hb dX6_chance_125 (lv_at hl 9 rfl) ?_
  refine ya_ld2 hx hb hK hP 1 rfl (vpl (by decide)) (v := .ref h5) rfl dX6_chance_127 ?_
  refine lv_iload hx hb dX6_chance_128 (lv_at hl 8 rfl) ?_
  refine vp_callSi (W.runS (As := [.ref h5, .int 0]) (rest := []) ⟨hx, hb, hml, hown, hts⟩ (k_X6_sum_1 l D κ ε h5) (va_cwS 2 hts gX6_chance_X6_sum rfl rfl rfl (by decide +kernel) ⟨(Nat.le_of_ble_eq_true rfl), (Nat.le_of_ble_eq_true rfl)⟩) (pre0_S (wc := [(h5, .inl (κ 0, 196, .inl (fun _ => 0)))]) hP hK [3] rfl) rfl rfl hl.1 rfl (lv_room (Nat.le_of_ble_eq_true rfl)) dX6_chance_130 ⟨(Nat.le_of_ble_eq_true rfl), (Nat.le_of_ble_eq_true rfl)⟩) (fun r hw => ?_)
  rw [hw]
  refine lv_i2l (v := 0) hx hb dX6_chance_133 (by decide) ?_
  refine lv_lstore (lv' := [(9, .long 0), (7, .long 0), (11, .long 0), (0, .ref h0), (1, .ref h1), (2, .int 2), (3, .int p0), (4, .int 0), (5, .int 0), (6, .int 1)]) hx hb dX6_chance_134 hl (by decide) rfl (fun ls hl => ?_)
  refine lv_aload_n hx hb dX6_chance_136 rfl (lv_at hl 4 rfl) ?_
  refine lv_iload hx hb dX6_chance_137 (lv_at hl 9 rfl) ?_
  refine ya_ld2 hx hb hK hP 1 rfl (vpl (by decide)) (v := .ref h5) rfl dX6_chance_139 ?_
  refine lv_iload hx hb dX6_chance_140 (lv_at hl 8 rfl) ?_
  refine vp_callSi (W.runS (As := [.ref h5, .int 0]) (rest := []) ⟨hx, hb, hml, hown, hts⟩ (k_X6_sorts_1 l D κ ε h5) (va_cwS 2 hts gX6_chance_X6_sorts rfl rfl rfl (by decide +kernel) ⟨(Nat.le_of_ble_eq_true rfl), (Nat.le_of_ble_eq_true rfl)⟩) (pre0_S (wc := [(h5, .inl (κ 0, 196, .inl (fun _ => 0)))]) hP hK [3] rfl) rfl rfl hl.1 rfl (lv_room (Nat.le_of_ble_eq_true rfl)) dX6_chance_142 ⟨(Nat.le_of_ble_eq_true rfl), (Nat.le_of_ble_eq_true rfl)⟩) (fun r hw => ?_)
  rw [hw]
  refine lv_i2l (v := 0) hx hb dX6_chance_145 (by decide) ?_
  refine lv_lstore (lv' := [(11, .long 0), (9, .long 0), (7, .long 0), (0, .ref h0), (1, .ref h1), (2, .int 2), (3, .int p0), (4, .int 0), (5, .int 0), (6, .int 1)]) hx hb dX6_chance_146 hl (by decide) rfl (fun ls hl => ?_)
  refine lv_iload_n hx hb dX6_chance_148 rfl (lv_at hl 5 rfl) ?_
  refine lv_if_ne (tgt := 184) hx hb dX6_chance_149 (by decide) (fun _ => ?_) (fun h => absurd h (by decide))
  refine lv_iload hx hb dX6_chance_184 (lv_at hl 9 rfl) ?_
  refine lv_if_ne (tgt := 202) hx hb dX6_chance_186 (by decide) (fun _ => ?_) (fun h => absurd h (by decide))
  refine lv_aload_n hx hb dX6_chance_202 rfl (lv_at hl 3 rfl) ?_
  refine lv_aload_n hx hb dX6_chance_203 rfl (lv_at hl 4 rfl) ?_
  refine lv_iload_n hx hb dX6_chance_204 rfl (lv_at hl 5 rfl) ?_
  refine lv_iload_n hx hb dX6_chance_205 rfl (lv_at hl 6 rfl) ?_
  refine lv_iload hx hb dX6_chance_206 (lv_at hl 7 rfl) ?_
  refine lv_iload hx hb dX6_chance_208 (lv_at hl 8 rfl) ?_
  refine lv_iload hx hb dX6_chance_210 (lv_at hl 9 rfl) ?_
  refine lv_iconst (v := 1) hx hb dX6_chance_212 (by decide) ?_
  refine lv_isub hx hb dX6_chance_213 ?_
  refine tpi (v := 0) (by decide) ?_
  refine vp_callSi (W.runS (As := [.int 0]) (rest := [.int 0, .int 0, .int p0, .int 2, .ref h1, .ref h0]) ⟨hx, hb, hml, hown, hts⟩ (k_X6_power_0 l D κ ε) (va_cwS 1 hts gX6_chance_X6_power rfl rfl rfl (by decide +kernel) ⟨(Nat.le_of_ble_eq_true rfl), (Nat.le_of_ble_eq_true rfl)⟩) (pre0_S (wc := []) hP hK [] rfl) rfl rfl hl.1 rfl (lv_room (Nat.le_of_ble_eq_true rfl)) dX6_chance_214 ⟨(Nat.le_of_ble_eq_true rfl), (Nat.le_of_ble_eq_true rfl)⟩) (fun r hw => ?_)
  rw [hw]
  refine lv_irem hx hb dX6_chance_217 (by decide) ?_
  refine tpi (v := 0) (by decide) ?_
  refine lv_iload hx hb dX6_chance_218 (lv_at hl 9 rfl) ?_
  refine lv_iconst (v := 1) hx hb dX6_chance_220 (by decide) ?_
  refine lv_isub hx hb dX6_chance_221 ?_
  refine tpi (v := 0) (by decide) ?_
  refine vp_callSl (W.runV (As := [.ref h1, .int 2, .int p0, .int 0, .int 0, .int 0]) (rest := []) ⟨hx, hb, hml, hown, hts⟩ (k_X6_chance_4 l D κ ε h0 h1 h2 h3 h4 h5 h6 h7 (p0) (p1) (p2) (p3) (p4) (p5) (p6)) (cwV 6 hts gX6_chance_X6_chance rfl rfl rfl (by decide +kernel) ⟨(Nat.le_of_ble_eq_true rfl), (Nat.le_of_ble_eq_true rfl)⟩) (pre0_V (q0 := 0) (ci := 8) (wc := [(h0, .inr (8, [.int p1, .int 0, .int p2, .ref h2, .ref h1, .int p3, .int p4, .int p5, .int p6, .int 0, .ref h3])), (h1, .inl (κ 4, 4, .inr (.inr (.inr (.inr (sel [h4, h5, h6, h7])))))), (h4, .inl (κ 0, 14, .inl (fun _ => 0)))]) hP hK [0, 1, 2] rfl rfl rfl) rfl rfl hl.1 rfl (lv_room (Nat.le_of_ble_eq_true rfl)) dX6_chance_222 ⟨(Nat.le_of_ble_eq_true rfl), (Nat.le_of_ble_eq_true rfl)⟩) (fun r hw => ?_)
  rw [hw]
  refine lv_lstore (lv' := [(13, .long 1000000), (11, .long 0), (9, .long 0), (7, .long 0), (0, .ref h0), (1, .ref h1), (2, .int 2), (3, .int p0), (4, .int 0), (5, .int 0), (6, .int 1)]) hx hb dX6_chance_225 hl (by decide) rfl (fun ls hl => ?_)
  refine lv_lload hx hb dX6_chance_227 (lv_at hl 2 rfl) ?_
  refine lv_lconst (v := 0) hx hb dX6_chance_229 (by decide) ?_
  refine W.lcmp hx hb dX6_chance_230 ?_
  refine tpi (v := 0) (by decide) ?_
  refine lv_if_ne (tgt := 237) hx hb dX6_chance_231 (by decide) (fun h => absurd (by decide) h) (fun _ => ?_)
  refine lv_lload hx hb dX6_chance_234 (lv_at hl 0 rfl) ?_
  exact W.lret (v := 1000000) hx hb hr (fun t ht hW => ⟨1000000, rfl, rfl, ht⟩) (fun q hq => absurd hq List.not_mem_nil) dX6_chance_236

set_option maxHeartbeats 4000000 in
set_option maxRecDepth 100000 in
theorem k_X6_score_3 (l : Launch) (D : va_G) (κ ε : Nat → Nat) (h0 h1 h2 h3 h4 h5 h6 h7 : Nat) (p0 : Int32) (p1 : Int32) (p2 : Int32) (p3 : Int32) (p4 : Int32) (p5 : Int32) (p6 : Int32) : Met l yX6_score wsX6_score ({ frames := 3, cells := 0, slots := 0, locals := 91 }) (va_Pc [.ref h0, .ref h1, .int 2, .int p0] (Pre0 D κ [(h0, .inr (8, [.int p1, .int 0, .int 2, .ref h2, .ref h1, .int p2, .int p3, .int p4, .int p5, .int 0, .ref h3])), (h1, .inl (κ 4, 4, .inr (.inr (.inr (.inr (sel [h4, h5, h6, h7])))))), (h2, .inr (1, [.int p6, .ref (ε 1), .int 0])), (h4, .inl (κ 0, 14, .inl (fun _ => 0))), (h5, .inl (κ 0, 196, .inl (fun _ => 0)))])) (vp_Si (fun r => (r = 0))) 0 0 (fun _ => False) := by
  refine Met.ofW (cc := cX6_score) (maxL := 6) (ret := (some .int)) (by decide) rfl ?_
  intro p e s m args below meth c s₁ B hml hv
  obtain ⟨rfl, hP, hK⟩ := hv
  have hx := B.exec
  have hb := B.bytes
  have hr := B.returns
  have hts := atoms_spec (ws := wsX6_score) B.pre
  have hown : s.vm.findClass RX6 = some m.cls := findClass_of_methodNamed B.named
  have hlocks := B.notSynchronized
  have hP : va_P D vwCl [(h0, .inr (8, [.int p1, .int 0, .int 2, .ref h2, .ref h1, .int p2, .int p3, .int p4, .int p5, .int 0, .ref h3])), (h1, .inl (κ 4, 4, .inr (.inr (.inr (.inr (sel [h4, h5, h6, h7])))))), (h2, .inr (1, [.int p6, .ref (ε 1), .int 0])), (h4, .inl (κ 0, 14, .inl (fun _ => 0))), (h5, .inl (κ 0, 196, .inl (fun _ => 0)))] s.heap := hP
  have hl := lv_entry [.ref h0, .ref h1, .int 2, .int p0] (n := 6) (Nat.le_of_ble_eq_true rfl)
  rw [lg_entry_eq]
  generalize (lg_sl [.ref h0, .ref h1, .int 2, .int p0] ++ List.replicate (6 - (lg_sl [.ref h0, .ref h1, .int 2, .int p0]).length) Slot.unset).toArray = ls at hl ⊢
  have hl : lv_has ls 6 [(0, .ref h0), (1, .ref h1), (2, .int 2), (3, .int p0)] := hl
  refine lv_iconst (v := 0) hx hb dX6_score_0 (by decide) ?_
  refine lv_istore (lv' := [(4, .int 0), (0, .ref h0), (1, .ref h1), (2, .int 2), (3, .int p0)]) hx hb dX6_score_1 hl (by decide) rfl (fun ls hl => ?_)
  refine lv_iconst (v := 0) hx hb dX6_score_3 (by decide) ?_
  refine lv_istore (lv' := [(5, .int 0), (4, .int 0), (0, .ref h0), (1, .ref h1), (2, .int 2), (3, .int p0)]) hx hb dX6_score_4 hl (by decide) rfl (fun ls hl => ?_)
  refine lv_iload hx hb dX6_score_6 (lv_at hl 0 rfl) ?_
  refine lv_aload_n hx hb dX6_score_8 rfl (lv_at hl 2 rfl) ?_
  refine va_get (D := D) (ci := 8) (v := .ref h2) (C := RX6) (T := TX6) (N := 11) hx hb hts wi_X6_score_RX6 hown hK hP 0 rfl rfl 3 (by decide) (hts _ wd340_X6_score) (fun _ h9 => h9) rfl dX6_score_9 ?_
  refine vp_callSi (W.runV (As := []) (rest := [.int 0]) ⟨hx, hb, hml, hown, hts⟩ (k_Jx4a65c_size_8abf5_0 l D κ ε h2 (p6)) (cwV 0 hts gX6_score_Jx4a65c_size_8abf5 rfl rfl rfl (by decide +kernel) ⟨(Nat.le_of_ble_eq_true rfl), (Nat.le_of_ble_eq_true rfl)⟩) (pre0_V (q0 := 2) (ci := 1) (wc := [(h2, .inr (1, [.int p6, .ref (ε 1), .int 0]))]) hP hK [2] rfl rfl rfl) rfl rfl hl.1 rfl (lv_room (Nat.le_of_ble_eq_true rfl)) dX6_score_12 ⟨(Nat.le_of_ble_eq_true rfl), (Nat.le_of_ble_eq_true rfl)⟩) (fun r hw => ?_)
  rw [hw]
  refine lv_icmp_gt (tgt := 70) hx hb dX6_score_15 (by decide) (fun h => absurd h (by decide)) (fun _ => ?_)
  refine lv_iload hx hb dX6_score_18 (lv_at hl 1 rfl) ?_
  refine lv_aload_n hx hb dX6_score_20 rfl (lv_at hl 2 rfl) ?_
  refine lv_aload_n hx hb dX6_score_21 rfl (lv_at hl 3 rfl) ?_
  refine lv_iload_n hx hb dX6_score_22 rfl (lv_at hl 4 rfl) ?_
  refine lv_iload_n hx hb dX6_score_23 rfl (lv_at hl 5 rfl) ?_
  refine lv_aload_n hx hb dX6_score_24 rfl (lv_at hl 2 rfl) ?_
  refine lv_aload_n hx hb dX6_score_25 rfl (lv_at hl 2 rfl) ?_
  refine va_get (D := D) (ci := 8) (v := .ref h2) (C := RX6) (T := TX6) (N := 11) hx hb hts wi_X6_score_RX6 hown hK hP 0 rfl rfl 3 (by decide) (hts _ wd340_X6_score) (fun _ h9 => h9) rfl dX6_score_26 ?_
  refine lv_iload hx hb dX6_score_29 (lv_at hl 0 rfl) ?_
  refine vp_callSi (W.runV (As := [.ref h2, .int 0]) (rest := [.int p0, .int 2, .ref h1, .ref h0, .int 0]) ⟨hx, hb, hml, hown, hts⟩ (k_X6_at_0 l D κ ε h0 h2 h1 h3 (p1) (2) (p2) (p3) (p4) (p5) (p6)) (cwV 2 hts gX6_score_X6_at rfl rfl rfl (by decide +kernel) ⟨(Nat.le_of_ble_eq_true rfl), (Nat.le_of_ble_eq_true rfl)⟩) (pre0_V (q0 := 0) (ci := 8) (wc := [(h0, .inr (8, [.int p1, .int 0, .int 2, .ref h2, .ref h1, .int p2, .int p3, .int p4, .int p5, .int 0, .ref h3])), (h2, .inr (1, [.int p6, .ref (ε 1), .int 0]))]) hP hK [0, 2] rfl rfl rfl) rfl rfl hl.1 rfl (lv_room (Nat.le_of_ble_eq_true rfl)) dX6_score_31 ⟨(Nat.le_of_ble_eq_true rfl), (Nat.le_of_ble_eq_true rfl)⟩) (fun r hw => ?_)
  rw [hw]
  refine lv_aload_n hx hb dX6_score_34 rfl (lv_at hl 2 rfl) ?_
  refine va_get (D := D) (ci := 8) (v := .ref h2) (C := RX6) (T := TX6) (N := 11) hx hb hts wi_X6_score_RX6 hown hK hP 0 rfl rfl 3 (by decide) (hts _ wd340_X6_score) (fun _ h9 => h9) rfl dX6_score_35 ?_
  refine lv_iload hx hb dX6_score_38 (lv_at hl 0 rfl) ?_
  refine lv_aload_n hx hb dX6_score_40 rfl (lv_at hl 2 rfl) ?_
  refine va_get (D := D) (ci := 8) (v := .int 2) (C := RX6) (T := TX6) (N := 11) hx hb hts wi_X6_score_RX6 hown hK hP 0 rfl rfl 2 (by decide) (hts _ wd341_X6_score) (fun _ h9 => h9) rfl dX6_score_41 ?_
  refine lv_iconst (v := 1) hx hb dX6_score_44 (by decide) ?_
  refine lv_isub hx hb dX6_score_45 ?_
  refine tpi (v := 1) (by decide) ?_
  refine vp_callSi (W.runS (As := [.ref h2, .int 0, .int 1]) (rest := [.int 0, .int p0, .int 2, .ref h1, .ref h0, .int 0]) ⟨hx, hb, hml, hown, hts⟩ (k_X6_ahead_1 l D κ ε h2) (va_cwS 3 hts gX6_score_X6_ahead rfl rfl rfl (by decide +kernel) ⟨(Nat.le_of_ble_eq_true rfl), (Nat.le_of_ble_eq_true rfl)⟩) (pre0_S (wc := []) hP hK [] rfl) rfl rfl hl.1 rfl (lv_room (Nat.le_of_ble_eq_true rfl)) dX6_score_46 ⟨(Nat.le_of_ble_eq_true rfl), (Nat.le_of_ble_eq_true rfl)⟩) (fun r hw => ?_)
  rw [hw]
  refine lv_aload_n hx hb dX6_score_49 rfl (lv_at hl 2 rfl) ?_
  refine va_get (D := D) (ci := 8) (v := .int 2) (C := RX6) (T := TX6) (N := 11) hx hb hts wi_X6_score_RX6 hown hK hP 0 rfl rfl 2 (by decide) (hts _ wd341_X6_score) (fun _ h9 => h9) rfl dX6_score_50 ?_
  refine lv_iconst (v := 1) hx hb dX6_score_53 (by decide) ?_
  refine lv_isub hx hb dX6_score_54 ?_
  refine tpi (v := 1) (by decide) ?_
  refine vp_callSl (W.runV (As := [.ref h1, .int 2, .int p0, .int 0, .int 0, .int 1]) (rest := [.int 0]) ⟨hx, hb, hml, hown, hts⟩ (k_X6_chance_5 l D κ ε h0 h1 h2 h3 h4 h5 h6 h7 (p0) (p1) (2) (p2) (p3) (p4) (p5)) (cwV 6 hts gX6_score_X6_chance rfl rfl rfl (by decide +kernel) ⟨(Nat.le_of_ble_eq_true rfl), (Nat.le_of_ble_eq_true rfl)⟩) (pre0_V (q0 := 0) (ci := 8) (wc := [(h0, .inr (8, [.int p1, .int 0, .int 2, .ref h2, .ref h1, .int p2, .int p3, .int p4, .int p5, .int 0, .ref h3])), (h1, .inl (κ 4, 4, .inr (.inr (.inr (.inr (sel [h4, h5, h6, h7])))))), (h4, .inl (κ 0, 14, .inl (fun _ => 0))), (h5, .inl (κ 0, 196, .inl (fun _ => 0)))]) hP hK [0, 1, 3, 4] rfl rfl rfl) rfl rfl hl.1 rfl (lv_room (Nat.le_of_ble_eq_true rfl)) dX6_score_55 ⟨(Nat.le_of_ble_eq_true rfl), (Nat.le_of_ble_eq_true rfl)⟩) (fun r hw => ?_)
  rw [hw]
  refine vp_callSi (W.runS (As := [.long 1000000]) (rest := [.int 0]) ⟨hx, hb, hml, hown, hts⟩ (k_X6_cost_1 l D κ ε) (va_cwS 1 hts gX6_score_X6_cost rfl rfl rfl (by decide +kernel) ⟨(Nat.le_of_ble_eq_true rfl), (Nat.le_of_ble_eq_true rfl)⟩) (pre0_S (wc := []) hP hK [] rfl) rfl rfl hl.1 rfl (lv_room (Nat.le_of_ble_eq_true rfl)) dX6_score_58 ⟨(Nat.le_of_ble_eq_true rfl), (Nat.le_of_ble_eq_true rfl)⟩) (fun r hw => ?_)
  rw [hw]
  refine lv_iadd hx hb dX6_score_61 ?_
  refine tpi (v := 0) (by decide) ?_
  refine lv_istore (lv' := [(4, .int 0), (5, .int 0), (0, .ref h0), (1, .ref h1), (2, .int 2), (3, .int p0)]) hx hb dX6_score_62 hl (by decide) rfl (fun ls hl => ?_)
  refine lv_iinc (v := 1) (lv' := [(5, .int 1), (4, .int 0), (0, .ref h0), (1, .ref h1), (2, .int 2), (3, .int p0)]) hx hb dX6_score_64 hl (k := 1) rfl (by decide) (by decide) rfl (fun ls hl => ?_)
  refine lv_goto (tgt := 6) hx hb dX6_score_67 (by decide) ?_
  refine lv_iload hx hb dX6_score_6 (lv_at hl 0 rfl) ?_
  refine lv_aload_n hx hb dX6_score_8 rfl (lv_at hl 2 rfl) ?_
  refine va_get (D := D) (ci := 8) (v := .ref h2) (C := RX6) (T := TX6) (N := 11) hx hb hts wi_X6_score_RX6 hown hK hP 0 rfl rfl 3 (by decide) (hts _ wd340_X6_score) (fun _ h9 => h9) rfl dX6_score_9 ?_
  refine vp_callSi (W.runV (As := []) (rest := [.int 1]) ⟨hx, hb, hml, hown, hts⟩ (k_Jx4a65c_size_8abf5_0 l D κ ε h2 (p6)) (cwV 0 hts gX6_score_Jx4a65c_size_8abf5 rfl rfl rfl (by decide +kernel) ⟨(Nat.le_of_ble_eq_true rfl), (Nat.le_of_ble_eq_true rfl)⟩) (pre0_V (q0 := 2) (ci := 1) (wc := [(h2, .inr (1, [.int p6, .ref (ε 1), .int 0]))]) hP hK [2] rfl rfl rfl) rfl rfl hl.1 rfl (lv_room (Nat.le_of_ble_eq_true rfl)) dX6_score_12 ⟨(Nat.le_of_ble_eq_true rfl), (Nat.le_of_ble_eq_true rfl)⟩) (fun r hw => ?_)
  rw [hw]
  refine lv_icmp_gt (tgt := 70) hx hb dX6_score_15 (by decide) (fun _ => ?_) (fun h => absurd (by decide) h)
  refine lv_iload hx hb dX6_score_70 (lv_at hl 1 rfl) ?_
  exact W.iret (v := 0) hx hb hr (fun t ht hW => ⟨0, rfl, rfl, ht⟩) (fun q hq => absurd hq List.not_mem_nil) dX6_score_72

set_option maxHeartbeats 4000000 in
set_option maxRecDepth 100000 in
theorem k_X6_scoreBy_8 (l : Launch) (D : va_G) (κ ε : Nat → Nat) (h0 h1 h2 h3 h4 h5 h6 h7 : Nat) (sz : Nat) (p0 : Int32) (hf0 : ¬ p0 < 1) (hf1 : ¬ 1000 < p0) : Met l yX6_scoreBy wsX6_scoreBy ({ frames := 4, cells := 0, slots := 0, locals := 116 }) (va_Pc [.ref h0, .int 2, .int p0] (Pre2 D κ ε [(h0, .inr (8, [.int 0, .int 0, .int 2, .ref h1, .ref h2, .int 0, .int 500, .int 0, .int 0, .int 0, .ref h3])), (h1, .inr (1, [.int 0, .ref (ε 1), .int 0])), (h2, .inl (κ 4, 4, .inr (.inr (.inr (.inr (sel [h4, h5, h6, h7])))))), (h4, .inl (κ 0, 14, .inl (fun _ => 0))), (h5, .inl (κ 0, 196, .inl (fun _ => 0)))] sz)) (va_Qi (fun r (u : List Value) => (u[0]? = some (.int 0)) ∧ (r = 0)) (fun u t => va_P D vwCl [(h0, .inr (8, u))] t.heap ∧ va_D (va_A [(h0, .inr (8, [.int 0, .int 0, .int 2, .ref h1, .ref h2, .int 0, .int 500, .int 0, .int 0, .int 0, .ref h3])), (h1, .inr (1, [.int 0, .ref (ε 1), .int 0])), (h2, .inl (κ 4, 4, .inr (.inr (.inr (.inr (sel [h4, h5, h6, h7])))))), (h4, .inl (κ 0, 14, .inl (fun _ => 0))), (h5, .inl (κ 0, 196, .inl (fun _ => 0)))] sz) [(h0, .inr (8, u))]) (va_A [(h0, .inr (8, [.int 0, .int 0, .int 2, .ref h1, .ref h2, .int 0, .int 500, .int 0, .int 0, .int 0, .ref h3])), (h1, .inr (1, [.int 0, .ref (ε 1), .int 0])), (h2, .inl (κ 4, 4, .inr (.inr (.inr (.inr (sel [h4, h5, h6, h7])))))), (h4, .inl (κ 0, 14, .inl (fun _ => 0))), (h5, .inl (κ 0, 196, .inl (fun _ => 0)))] sz)) 0 0 (va_A [(h0, .inr (8, [.int 0, .int 0, .int 2, .ref h1, .ref h2, .int 0, .int 500, .int 0, .int 0, .int 0, .ref h3])), (h1, .inr (1, [.int 0, .ref (ε 1), .int 0])), (h2, .inl (κ 4, 4, .inr (.inr (.inr (.inr (sel [h4, h5, h6, h7])))))), (h4, .inl (κ 0, 14, .inl (fun _ => 0))), (h5, .inl (κ 0, 196, .inl (fun _ => 0)))] sz) := by
  refine Met.ofW (cc := cX6_scoreBy) (maxL := 3) (ret := (some .int)) (by decide) rfl ?_
  intro p e s m args below meth c s₁ B hml hv
  obtain ⟨rfl, hsz, hP, hK, hD0, hE9⟩ := hv
  have hx := B.exec
  have hb := B.bytes
  have hr := B.returns
  have hts := atoms_spec (ws := wsX6_scoreBy) B.pre
  have hown : s.vm.findClass RX6 = some m.cls := findClass_of_methodNamed B.named
  have hlocks := B.notSynchronized
  subst hsz
  have hD := hD0.self (sz := s.heap.size)
  generalize hAe : va_A [(h0, .inr (8, [.int 0, .int 0, .int 2, .ref h1, .ref h2, .int 0, .int 500, .int 0, .int 0, .int 0, .ref h3])), (h1, .inr (1, [.int 0, .ref (ε 1), .int 0])), (h2, .inl (κ 4, 4, .inr (.inr (.inr (.inr (sel [h4, h5, h6, h7])))))), (h4, .inl (κ 0, 14, .inl (fun _ => 0))), (h5, .inl (κ 0, 196, .inl (fun _ => 0)))] s.heap.size = A at hD hE9 ⊢
  have hE := hE9.1
  have hDc := hE9.2
  have hA : ∀ q : Nat, s.heap.size ≤ q → A q := fun q h => by rw [← hAe]; exact Or.inr h
  have hS : va_S A s.heap s.heap [] := va_S.rf
  have hP : va_P D vwCl [(h0, .inr (8, [.int 0, .int 0, .int 2, .ref h1, .ref h2, .int 0, .int 500, .int 0, .int 0, .int 0, .ref h3])), (h1, .inr (1, [.int 0, .ref (ε 1), .int 0])), (h2, .inl (κ 4, 4, .inr (.inr (.inr (.inr (sel [h4, h5, h6, h7])))))), (h4, .inl (κ 0, 14, .inl (fun _ => 0))), (h5, .inl (κ 0, 196, .inl (fun _ => 0)))] s.heap := hP
  have hl := lv_entry [.ref h0, .int 2, .int p0] (n := 3) (Nat.le_of_ble_eq_true rfl)
  rw [lg_entry_eq]
  generalize (lg_sl [.ref h0, .int 2, .int p0] ++ List.replicate (3 - (lg_sl [.ref h0, .int 2, .int p0]).length) Slot.unset).toArray = ls at hl ⊢
  have hl : lv_has ls 3 [(0, .ref h0), (1, .int 2), (2, .int p0)] := hl
  refine lv_aload_n hx hb dX6_scoreBy_0 rfl (lv_at hl 0 rfl) ?_
  refine lv_iload_n hx hb dX6_scoreBy_1 rfl (lv_at hl 1 rfl) ?_
  refine lv_iconst (v := 0) hx hb dX6_scoreBy_2 (by decide) ?_
  refine lv_iconst (v := 4) hx hb dX6_scoreBy_3 (by decide) ?_
  refine vp_callSi (W.runS (As := [.int 2, .int 0, .int 4]) (rest := [.ref h0]) ⟨hx, hb, hml, hown, hts⟩ (k_X6_isIn_52 l D κ ε) (va_cwS 3 hts gX6_scoreBy_X6_isIn rfl rfl rfl (by decide +kernel) ⟨(Nat.le_of_ble_eq_true rfl), (Nat.le_of_ble_eq_true rfl)⟩) (pre0_S (wc := []) hP hK [] rfl) rfl rfl hl.1 rfl (lv_room (Nat.le_of_ble_eq_true rfl)) dX6_scoreBy_4 ⟨(Nat.le_of_ble_eq_true rfl), (Nat.le_of_ble_eq_true rfl)⟩) (fun r hw => ?_)
  rw [hw]
  refine lv_if_eq (tgt := 21) hx hb dX6_scoreBy_7 (by decide) (fun h => absurd h (by decide)) (fun _ => ?_)
  refine lv_iload_n hx hb dX6_scoreBy_10 rfl (lv_at hl 2 rfl) ?_
  refine lv_iconst (v := 1) hx hb dX6_scoreBy_11 (by decide) ?_
  refine lv_sipush (v := 1000) hx hb dX6_scoreBy_12 (by decide) ?_
  refine vp_callSi (W.runS (As := [.int p0, .int 1, .int 1000]) (rest := [.ref h0]) ⟨hx, hb, hml, hown, hts⟩ (k_X6_isIn_29 l D κ ε (p0) hf0 hf1) (va_cwS 3 hts gX6_scoreBy_X6_isIn rfl rfl rfl (by decide +kernel) ⟨(Nat.le_of_ble_eq_true rfl), (Nat.le_of_ble_eq_true rfl)⟩) (pre0_S (wc := []) hP hK [] rfl) rfl rfl hl.1 rfl (lv_room (Nat.le_of_ble_eq_true rfl)) dX6_scoreBy_15 ⟨(Nat.le_of_ble_eq_true rfl), (Nat.le_of_ble_eq_true rfl)⟩) (fun r hw => ?_)
  rw [hw]
  refine lv_if_ne (tgt := 25) hx hb dX6_scoreBy_18 (by decide) (fun _ => ?_) (fun h => absurd h (by decide))
  refine lv_iconst (v := 0) hx hb dX6_scoreBy_25 (by decide) ?_
  refine lv_iconst (v := 1) hx hb dX6_scoreBy_26 (by decide) ?_
  have hF := va_free (wc := [(h0, .inr (8, [.int 0, .int 0, .int 2, .ref h1, .ref h2, .int 0, .int 500, .int 0, .int 0, .int 0, .ref h3]))]) hD hS hA [0] rfl
  refine va_calli (va_runV (As := [.int 0, .int 1]) (rest := []) ⟨hx, hb, hml, hown, hts⟩ (k_X6_start_0 l D κ ε h0 h1 h2 h3 s.heap.size (0) (2) (0) (500) (0) (0)) (cwV 2 hts gX6_scoreBy_X6_start rfl rfl rfl (by decide +kernel) ⟨(Nat.le_of_ble_eq_true rfl), (Nat.le_of_ble_eq_true rfl)⟩) (pre2_V (q0 := 0) (ci := 8) (wc := [(h0, .inr (8, [.int 0, .int 0, .int 2, .ref h1, .ref h2, .int 0, .int 500, .int 0, .int 0, .int 0, .ref h3]))]) hP hD hK hE9 hS hA [0] (by decide) rfl rfl rfl) rfl rfl hl.1 rfl (lv_room (Nat.le_of_ble_eq_true rfl)) dX6_scoreBy_27 ⟨(Nat.le_of_ble_eq_true rfl), (Nat.le_of_ble_eq_true rfl)⟩) hS (fun q _ h => hF q h) hF (fun r u1 t H locs ht hvm hw hB hz1 hk1 hS => ?_)
  try dsimp only at hw hB
  obtain ⟨hP1, hD1⟩ := hB
  rw [ht] at hP1
  obtain ⟨hP, hD⟩ := post_j (ws' := [(h0, .inr (8, [.int 0, .int 0, .int 2, .ref h1, .ref h2, .int 0, .int 500, .int 0, .int 0, .int 0, .ref h3])), (h1, .inr (1, [.int 0, .ref (ε 1), .int 0])), (h2, .inl (κ 4, 4, .inr (.inr (.inr (.inr (sel [h4, h5, h6, h7])))))), (h4, .inl (κ 0, 14, .inl (fun _ => 0))), (h5, .inl (κ 0, 196, .inl (fun _ => 0)))]) (wr := [(h1, .inr (1, [.int 0, .ref (ε 1), .int 0])), (h2, .inl (κ 4, 4, .inr (.inr (.inr (.inr (sel [h4, h5, h6, h7])))))), (h4, .inl (κ 0, 14, .inl (fun _ => 0))), (h5, .inl (κ 0, 196, .inl (fun _ => 0)))]) (w1 := [(h0, .inr (8, [.int 0, .int 0, .int 2, .ref h1, .ref h2, .int 0, .int 500, .int 0, .int 0, .int 0, .ref h3]))]) hP hD hF [0] rfl [1, 2, 3, 4] rfl (by decide) (by decide) hk1 hP1 hD1 [4, 0, 1, 2, 3] (by decide) rfl
  have hP : va_P D vwCl [(h0, .inr (8, [.int 0, .int 0, .int 2, .ref h1, .ref h2, .int 0, .int 500, .int 0, .int 0, .int 0, .ref h3])), (h1, .inr (1, [.int 0, .ref (ε 1), .int 0])), (h2, .inl (κ 4, 4, .inr (.inr (.inr (.inr (sel [h4, h5, h6, h7])))))), (h4, .inl (κ 0, 14, .inl (fun _ => 0))), (h5, .inl (κ 0, 196, .inl (fun _ => 0)))] H := hP
  have hD : va_D A [(h0, .inr (8, [.int 0, .int 0, .int 2, .ref h1, .ref h2, .int 0, .int 500, .int 0, .int 0, .int 0, .ref h3])), (h1, .inr (1, [.int 0, .ref (ε 1), .int 0])), (h2, .inl (κ 4, 4, .inr (.inr (.inr (.inr (sel [h4, h5, h6, h7])))))), (h4, .inl (κ 0, 14, .inl (fun _ => 0))), (h5, .inl (κ 0, 196, .inl (fun _ => 0)))] := hD
  rw [hw]
  refine lv_if_eq (tgt := 37) hx hb dX6_scoreBy_30 (by decide) (fun _ => ?_) (fun h => absurd (by decide) h)
  refine lv_aload_n hx hb dX6_scoreBy_37 rfl (lv_at hl 0 rfl) ?_
  refine lv_aload_n hx hb dX6_scoreBy_38 rfl (lv_at hl 0 rfl) ?_
  refine va_get (D := D) (ci := 8) (v := .ref h2) (C := RX6) (T := TX6) (N := 11) hx hb hts wi_X6_scoreBy_RX6 hown hK hP 0 rfl rfl 4 (by decide) (hts _ wd426_X6_scoreBy) (fun _ h9 => h9) rfl dX6_scoreBy_39 ?_
  refine lv_iload_n hx hb dX6_scoreBy_42 rfl (lv_at hl 1 rfl) ?_
  refine lv_iload_n hx hb dX6_scoreBy_43 rfl (lv_at hl 2 rfl) ?_
  refine vp_callSi (W.runV (As := [.ref h2, .int 2, .int p0]) (rest := []) ⟨hx, hb, hml, hown, hts⟩ (k_X6_score_3 l D κ ε h0 h2 h1 h3 h4 h5 h6 h7 (p0) (0) (0) (500) (0) (0) (0)) (cwV 3 hts gX6_scoreBy_X6_score rfl rfl rfl (by decide +kernel) ⟨(Nat.le_of_ble_eq_true rfl), (Nat.le_of_ble_eq_true rfl)⟩) (pre0_V (q0 := 0) (ci := 8) (wc := [(h0, .inr (8, [.int 0, .int 0, .int 2, .ref h1, .ref h2, .int 0, .int 500, .int 0, .int 0, .int 0, .ref h3])), (h2, .inl (κ 4, 4, .inr (.inr (.inr (.inr (sel [h4, h5, h6, h7])))))), (h1, .inr (1, [.int 0, .ref (ε 1), .int 0])), (h4, .inl (κ 0, 14, .inl (fun _ => 0))), (h5, .inl (κ 0, 196, .inl (fun _ => 0)))]) hP hK [0, 2, 1, 3, 4] rfl rfl rfl) rfl rfl hl.1 rfl (lv_room (Nat.le_of_ble_eq_true rfl)) dX6_scoreBy_44 ⟨(Nat.le_of_ble_eq_true rfl), (Nat.le_of_ble_eq_true rfl)⟩) (fun r hw => ?_)
  rw [hw]
  have hP9 := hP.sub (ws' := [(h0, .inr (8, [.int 0, .int 0, .int 2, .ref h1, .ref h2, .int 0, .int 500, .int 0, .int 0, .int 0, .ref h3]))]) [0] rfl
  have hD9 := hD.sub (ws' := [(h0, .inr (8, [.int 0, .int 0, .int 2, .ref h1, .ref h2, .int 0, .int 500, .int 0, .int 0, .int 0, .ref h3]))]) [0] (by decide) rfl
  exact W.iret (v := 0) hx hb hr (fun t ht hW => ⟨⟨0, [.int 0, .int 0, .int 2, .ref h1, .ref h2, .int 0, .int 500, .int 0, .int 0, .int 0, .ref h3], rfl, ⟨rfl, rfl⟩, by rw [ht]; exact hP9, hD9⟩, hS.F ht⟩) hS.2.2 dX6_scoreBy_47

set_option maxHeartbeats 4000000 in
set_option maxRecDepth 100000 in
theorem k_X5_isWay_4 (l : Launch) (D : va_G) (κ ε : Nat → Nat) (p0 : Int32) : Met l yX5_isWay wsX5_isWay ({ frames := 0, cells := 0, slots := 0, locals := 0 }) (va_Pc [.int 3, .int p0] (Pre0 D κ [])) (vp_Si (fun r => ((p0 < 1) ∧ (r = 0)) ∨ ((¬ p0 < 1) ∧ (1000 < p0) ∧ (r = 0)) ∨ ((¬ p0 < 1) ∧ (¬ 1000 < p0) ∧ (r = 1)))) 0 0 (fun _ => False) := by
  refine Met.ofW (cc := cX5_isWay) (maxL := 2) (ret := (some .boolean)) (by decide) rfl ?_
  intro p e s m args below meth c s₁ B hml hv
  obtain ⟨rfl, hP, hK⟩ := hv
  have hx := B.exec
  have hb := B.bytes
  have hr := B.returns
  have hts := atoms_spec (ws := wsX5_isWay) B.pre
  have hown : s.vm.findClass RX5 = some m.cls := findClass_of_methodNamed B.named
  have hlocks := B.notSynchronized
  have hP : va_P D vwCl [] s.heap := hP
  have hl := lv_entry [.int 3, .int p0] (n := 2) (Nat.le_of_ble_eq_true rfl)
  rw [lg_entry_eq]
  generalize (lg_sl [.int 3, .int p0] ++ List.replicate (2 - (lg_sl [.int 3, .int p0]).length) Slot.unset).toArray = ls at hl ⊢
  have hl : lv_has ls 2 [(0, .int 3), (1, .int p0)] := hl
  refine lv_iload_n hx hb dX5_isWay_0 rfl (lv_at hl 0 rfl) ?_
  refine lv_if_lt (tgt := 25) hx hb dX5_isWay_1 (by decide) (fun h => absurd h (by decide)) (fun _ => ?_)
  refine lv_iload_n hx hb dX5_isWay_4 rfl (lv_at hl 0 rfl) ?_
  refine lv_iconst (v := 4) hx hb dX5_isWay_5 (by decide) ?_
  refine lv_icmp_gt (tgt := 25) hx hb dX5_isWay_6 (by decide) (fun h => absurd h (by decide)) (fun _ => ?_)
  refine lv_iload_n hx hb dX5_isWay_9 rfl (lv_at hl 1 rfl) ?_
  refine lv_iconst (v := 1) hx hb dX5_isWay_10 (by decide) ?_
  refine lv_icmp_lt (tgt := 25) hx hb dX5_isWay_11 (by decide) (fun c1 => ?_) (fun c1 => ?_)
  · skip
    refine lv_iconst (v := 0) hx hb dX5_isWay_25 (by decide) ?_
    exact W.zret (v := 0) hx hb hr rfl (fun t ht hW => ⟨0, rfl, (Or.inl ⟨c1, rfl⟩), ht⟩) (fun q hq => absurd hq List.not_mem_nil) dX5_isWay_26
  · skip
    refine lv_iload_n hx hb dX5_isWay_14 rfl (lv_at hl 1 rfl) ?_
    refine lv_sipush (v := 1000) hx hb dX5_isWay_15 (by decide) ?_
    refine lv_icmp_gt (tgt := 25) hx hb dX5_isWay_18 (by decide) (fun c2 => ?_) (fun c2 => ?_)
    · skip
      refine lv_iconst (v := 0) hx hb dX5_isWay_25 (by decide) ?_
      exact W.zret (v := 0) hx hb hr rfl (fun t ht hW => ⟨0, rfl, (Or.inr (Or.inl ⟨c1, c2, rfl⟩)), ht⟩) (fun q hq => absurd hq List.not_mem_nil) dX5_isWay_26
    · skip
      refine lv_iconst (v := 1) hx hb dX5_isWay_21 (by decide) ?_
      refine lv_goto (tgt := 26) hx hb dX5_isWay_22 (by decide) ?_
      exact W.zret (v := 1) hx hb hr rfl (fun t ht hW => ⟨1, rfl, (Or.inr (Or.inr ⟨c1, c2, rfl⟩)), ht⟩) (fun q hq => absurd hq List.not_mem_nil) dX5_isWay_26

set_option maxHeartbeats 4000000 in
set_option maxRecDepth 100000 in
theorem k_X1_refine_6 (l : Launch) (D : va_G) (κ ε : Nat → Nat) (h0 h1 h2 h3 h4 h5 h6 h7 h8 h9 h10 h11 : Nat) (sz : Nat) (p0 : Int32) (p1 : Int32) (p2 : Int32) (p3 : Int32) : Met l yX1_refine wsX1_refine ({ frames := 2, cells := 0, slots := 0, locals := 48 }) (va_Pc [.ref h0, .int 1, .int 0] (Pre2 D κ ε [(h0, .inr (3, [.ref h1, .int 3, .int p0, .ref h2, .ref h3, .long 0, .int p1])), (h1, .inr (2, [.int p2, .int p3, .ref h4, .ref h5])), (h3, .inl (κ 0, 13, .inl (fun _ => 0))), (h4, .inl (κ 3, 4, .inr (.inr (.inr (.inr (sel [h6, h7, h8, h9])))))), (h6, .inr (6, [.ref h10, .ref h11, .int 0]))] sz)) (va_Qv (fun u : Unit => True) (fun u t => va_P D vwCl [(h0, .inr (3, [.ref h1, .int 3, .int p0, .ref h2, .ref h3, .long 0, .int 0])), (h1, .inr (2, [.int p2, .int p3, .ref h4, .ref h5])), (h3, .inl (κ 0, 13, .inl (fun _ => 0))), (h4, .inl (κ 3, 4, .inr (.inr (.inr (.inr (sel [h6, h7, h8, h9])))))), (h6, .inr (6, [.ref h10, .ref h11, .int 0]))] t.heap ∧ va_D (va_A [(h0, .inr (3, [.ref h1, .int 3, .int p0, .ref h2, .ref h3, .long 0, .int p1])), (h1, .inr (2, [.int p2, .int p3, .ref h4, .ref h5])), (h3, .inl (κ 0, 13, .inl (fun _ => 0))), (h4, .inl (κ 3, 4, .inr (.inr (.inr (.inr (sel [h6, h7, h8, h9])))))), (h6, .inr (6, [.ref h10, .ref h11, .int 0]))] sz) [(h0, .inr (3, [.ref h1, .int 3, .int p0, .ref h2, .ref h3, .long 0, .int 0])), (h1, .inr (2, [.int p2, .int p3, .ref h4, .ref h5])), (h3, .inl (κ 0, 13, .inl (fun _ => 0))), (h4, .inl (κ 3, 4, .inr (.inr (.inr (.inr (sel [h6, h7, h8, h9])))))), (h6, .inr (6, [.ref h10, .ref h11, .int 0]))]) (va_A [(h0, .inr (3, [.ref h1, .int 3, .int p0, .ref h2, .ref h3, .long 0, .int p1])), (h1, .inr (2, [.int p2, .int p3, .ref h4, .ref h5])), (h3, .inl (κ 0, 13, .inl (fun _ => 0))), (h4, .inl (κ 3, 4, .inr (.inr (.inr (.inr (sel [h6, h7, h8, h9])))))), (h6, .inr (6, [.ref h10, .ref h11, .int 0]))] sz)) 0 0 (va_A [(h0, .inr (3, [.ref h1, .int 3, .int p0, .ref h2, .ref h3, .long 0, .int p1])), (h1, .inr (2, [.int p2, .int p3, .ref h4, .ref h5])), (h3, .inl (κ 0, 13, .inl (fun _ => 0))), (h4, .inl (κ 3, 4, .inr (.inr (.inr (.inr (sel [h6, h7, h8, h9])))))), (h6, .inr (6, [.ref h10, .ref h11, .int 0]))] sz) := by
  refine Met.ofW (cc := cX1_refine) (maxL := 5) (ret := none) (by decide) rfl ?_
  intro p e s m args below meth c s₁ B hml hv
  obtain ⟨rfl, hsz, hP, hK, hD0, hE9⟩ := hv
  have hx := B.exec
  have hb := B.bytes
  have hr := B.returns
  have hts := atoms_spec (ws := wsX1_refine) B.pre
  have hown : s.vm.findClass RX1 = some m.cls := findClass_of_methodNamed B.named
  have hlocks := B.notSynchronized
  subst hsz
  have hD := hD0.self (sz := s.heap.size)
  generalize hAe : va_A [(h0, .inr (3, [.ref h1, .int 3, .int p0, .ref h2, .ref h3, .long 0, .int p1])), (h1, .inr (2, [.int p2, .int p3, .ref h4, .ref h5])), (h3, .inl (κ 0, 13, .inl (fun _ => 0))), (h4, .inl (κ 3, 4, .inr (.inr (.inr (.inr (sel [h6, h7, h8, h9])))))), (h6, .inr (6, [.ref h10, .ref h11, .int 0]))] s.heap.size = A at hD hE9 ⊢
  have hE := hE9.1
  have hDc := hE9.2
  have hA : ∀ q : Nat, s.heap.size ≤ q → A q := fun q h => by rw [← hAe]; exact Or.inr h
  have hS : va_S A s.heap s.heap [] := va_S.rf
  have hP : va_P D vwCl [(h0, .inr (3, [.ref h1, .int 3, .int p0, .ref h2, .ref h3, .long 0, .int p1])), (h1, .inr (2, [.int p2, .int p3, .ref h4, .ref h5])), (h3, .inl (κ 0, 13, .inl (fun _ => 0))), (h4, .inl (κ 3, 4, .inr (.inr (.inr (.inr (sel [h6, h7, h8, h9])))))), (h6, .inr (6, [.ref h10, .ref h11, .int 0]))] s.heap := hP
  have hl := lv_entry [.ref h0, .int 1, .int 0] (n := 5) (Nat.le_of_ble_eq_true rfl)
  rw [lg_entry_eq]
  generalize (lg_sl [.ref h0, .int 1, .int 0] ++ List.replicate (5 - (lg_sl [.ref h0, .int 1, .int 0]).length) Slot.unset).toArray = ls at hl ⊢
  have hl : lv_has ls 5 [(0, .ref h0), (1, .int 1), (2, .int 0)] := hl
  refine lv_aload_n hx hb dX1_refine_0 rfl (lv_at hl 0 rfl) ?_
  refine va_get (D := D) (ci := 3) (v := .int 3) (C := RX1) (T := TX1) (N := 7) hx hb hts wi_X1_refine_RX1 hown hK hP 0 rfl rfl 1 (by decide) (hts _ wd287_X1_refine) (fun _ h9 => h9) rfl dX1_refine_1 ?_
  refine lv_iconst (v := 4) hx hb dX1_refine_4 (by decide) ?_
  refine lv_icmp_ne (tgt := 23) hx hb dX1_refine_5 (by decide) (fun _ => ?_) (fun h => absurd h (by decide))
  refine lv_iconst (v := 0) hx hb dX1_refine_23 (by decide) ?_
  refine lv_istore_n (lv' := [(3, .int 0), (0, .ref h0), (1, .int 1), (2, .int 0)]) hx hb dX1_refine_24 rfl hl (by decide) rfl (fun ls hl => ?_)
  refine lv_aload_n hx hb dX1_refine_25 rfl (lv_at hl 1 rfl) ?_
  refine lv_iload_n hx hb dX1_refine_26 rfl (lv_at hl 0 rfl) ?_
  refine lv_if_eq (tgt := 41) hx hb dX1_refine_27 (by decide) (fun _ => ?_) (fun h => absurd (by decide) h)
  refine lv_aload_n hx hb dX1_refine_41 rfl (lv_at hl 1 rfl) ?_
  refine va_get (D := D) (ci := 3) (v := .ref h1) (C := RX1) (T := TX1) (N := 7) hx hb hts wi_X1_refine_RX1 hown hK hP 0 rfl rfl 0 (by decide) (hts _ wd288_X1_refine) (fun _ h9 => h9) rfl dX1_refine_42 ?_
  refine lv_iload_n hx hb dX1_refine_45 rfl (lv_at hl 2 rfl) ?_
  refine va_csr (W.runV (As := [.int 1]) (rest := [.ref h0]) ⟨hx, hb, hml, hown, hts⟩ (k_X0_countsOf_0 l D κ ε h1 h4 h5 h6 h7 h8 h9 (p2) (p3)) (cwV 1 hts gX1_refine_X0_countsOf rfl rfl rfl (by decide +kernel) ⟨(Nat.le_of_ble_eq_true rfl), (Nat.le_of_ble_eq_true rfl)⟩) (pre0_V (q0 := 1) (ci := 2) (wc := [(h1, .inr (2, [.int p2, .int p3, .ref h4, .ref h5])), (h4, .inl (κ 3, 4, .inr (.inr (.inr (.inr (sel [h6, h7, h8, h9]))))))]) hP hK [1, 3] rfl rfl rfl) rfl rfl hl.1 rfl (lv_room (Nat.le_of_ble_eq_true rfl)) dX1_refine_46 ⟨(Nat.le_of_ble_eq_true rfl), (Nat.le_of_ble_eq_true rfl)⟩) (fun r hw => ?_)
  rw [hw]
  refine lv_iload_n hx hb dX1_refine_49 rfl (lv_at hl 3 rfl) ?_
  have hF := va_free (wc := [(h0, .inr (3, [.ref h1, .int 3, .int p0, .ref h2, .ref h3, .long 0, .int p1])), (h6, .inr (6, [.ref h10, .ref h11, .int 0])), (h3, .inl (κ 0, 13, .inl (fun _ => 0)))]) hD hS hA [0, 4, 2] rfl
  refine va_callv (va_runV (As := [.ref h6, .int 0]) (rest := []) ⟨hx, hb, hml, hown, hts⟩ (k_X1_gather_0 l D κ ε h0 h6 h1 h2 h3 h10 h11 s.heap.size (3) (p0) (0) (p1)) (cwV 2 hts gX1_refine_X1_gather rfl rfl rfl (by decide +kernel) ⟨(Nat.le_of_ble_eq_true rfl), (Nat.le_of_ble_eq_true rfl)⟩) (pre2_V (q0 := 0) (ci := 3) (wc := [(h0, .inr (3, [.ref h1, .int 3, .int p0, .ref h2, .ref h3, .long 0, .int p1])), (h6, .inr (6, [.ref h10, .ref h11, .int 0])), (h3, .inl (κ 0, 13, .inl (fun _ => 0)))]) hP hD hK hE9 hS hA [0, 4, 2] (by decide) rfl rfl rfl) rfl rfl hl.1 rfl (lv_room (Nat.le_of_ble_eq_true rfl)) dX1_refine_50 ⟨(Nat.le_of_ble_eq_true rfl), (Nat.le_of_ble_eq_true rfl)⟩) hS (fun q _ h => hF q h) hF (fun u1 t H locs ht hvm hw hB hz1 hk1 hS => ?_)
  try dsimp only at hw hB
  obtain ⟨hP1, hD1⟩ := hB
  rw [ht] at hP1
  obtain ⟨hP, hD⟩ := post_j (ws' := [(h0, .inr (3, [.ref h1, .int 3, .int p0, .ref h2, .ref h3, .long 0, .int 0])), (h1, .inr (2, [.int p2, .int p3, .ref h4, .ref h5])), (h3, .inl (κ 0, 13, .inl (fun _ => 0))), (h4, .inl (κ 3, 4, .inr (.inr (.inr (.inr (sel [h6, h7, h8, h9])))))), (h6, .inr (6, [.ref h10, .ref h11, .int 0]))]) (wr := [(h1, .inr (2, [.int p2, .int p3, .ref h4, .ref h5])), (h4, .inl (κ 3, 4, .inr (.inr (.inr (.inr (sel [h6, h7, h8, h9]))))))]) (w1 := [(h0, .inr (3, [.ref h1, .int 3, .int p0, .ref h2, .ref h3, .long 0, .int 0])), (h6, .inr (6, [.ref h10, .ref h11, .int 0])), (h3, .inl (κ 0, 13, .inl (fun _ => 0)))]) hP hD hF [0, 4, 2] rfl [1, 3] rfl (by decide) (by decide) hk1 hP1 hD1 [2, 0, 4, 1, 3] (by decide) rfl
  have hP : va_P D vwCl [(h0, .inr (3, [.ref h1, .int 3, .int p0, .ref h2, .ref h3, .long 0, .int 0])), (h1, .inr (2, [.int p2, .int p3, .ref h4, .ref h5])), (h3, .inl (κ 0, 13, .inl (fun _ => 0))), (h4, .inl (κ 3, 4, .inr (.inr (.inr (.inr (sel [h6, h7, h8, h9])))))), (h6, .inr (6, [.ref h10, .ref h11, .int 0]))] H := hP
  have hD : va_D A [(h0, .inr (3, [.ref h1, .int 3, .int p0, .ref h2, .ref h3, .long 0, .int 0])), (h1, .inr (2, [.int p2, .int p3, .ref h4, .ref h5])), (h3, .inl (κ 0, 13, .inl (fun _ => 0))), (h4, .inl (κ 3, 4, .inr (.inr (.inr (.inr (sel [h6, h7, h8, h9])))))), (h6, .inr (6, [.ref h10, .ref h11, .int 0]))] := hD
  refine lv_aload_n hx hb dX1_refine_53 rfl (lv_at hl 1 rfl) ?_
  refine va_get (D := D) (ci := 3) (v := .int 3) (C := RX1) (T := TX1) (N := 7) hx hb hts wi_X1_refine_RX1 hown hK hP 0 rfl rfl 1 (by decide) (hts _ wd287_X1_refine) (fun _ h9 => h9) rfl dX1_refine_54 ?_
  refine lv_if_eq (tgt := 70) hx hb dX1_refine_57 (by decide) (fun h => absurd h (by decide)) (fun _ => ?_)
  refine lv_aload_n hx hb dX1_refine_60 rfl (lv_at hl 1 rfl) ?_
  refine va_get (D := D) (ci := 3) (v := .long 0) (C := RX1) (T := TX1) (N := 7) hx hb hts wi_X1_refine_RX1 hown hK hP 0 rfl rfl 5 (by decide) (hts _ wd427_X1_refine) (fun _ h9 => h9) rfl dX1_refine_61 ?_
  refine lv_lconst (v := 0) hx hb dX1_refine_64 (by decide) ?_
  refine W.lcmp hx hb dX1_refine_65 ?_
  refine tpi (v := 0) (by decide) ?_
  refine lv_if_gt (tgt := 70) hx hb dX1_refine_66 (by decide) (fun h => absurd h (by decide)) (fun _ => ?_)
  have hP9 := hP
  have hD9 := hD
  exact W.vret hx hb hr (fun t ht hW => ⟨⟨(), rfl, trivial, by rw [ht]; exact hP9, hD9⟩, hS.F ht⟩) hS.2.2 dX1_refine_69

set_option maxHeartbeats 4000000 in
set_option maxRecDepth 100000 in
theorem k_X1_refine_7 (l : Launch) (D : va_G) (κ ε : Nat → Nat) (h0 h1 h2 h3 h4 h5 h6 h7 h8 h9 h10 h11 : Nat) (sz : Nat) (p0 : Int32) (p1 : Int32) (p2 : Int32) (p3 : Int32) : Met l yX1_refine wsX1_refine ({ frames := 2, cells := 0, slots := 0, locals := 48 }) (va_Pc [.ref h0, .int 2, .int 0] (Pre2 D κ ε [(h0, .inr (3, [.ref h1, .int 3, .int p0, .ref h2, .ref h3, .long 0, .int p1])), (h1, .inr (2, [.int p2, .int p3, .ref h4, .ref h5])), (h3, .inl (κ 0, 13, .inl (fun _ => 0))), (h4, .inl (κ 3, 4, .inr (.inr (.inr (.inr (sel [h6, h7, h8, h9])))))), (h7, .inr (6, [.ref h10, .ref h11, .int 0]))] sz)) (va_Qv (fun u : Unit => True) (fun u t => va_P D vwCl [(h0, .inr (3, [.ref h1, .int 3, .int p0, .ref h2, .ref h3, .long 0, .int 0])), (h1, .inr (2, [.int p2, .int p3, .ref h4, .ref h5])), (h3, .inl (κ 0, 13, .inl (fun _ => 0))), (h4, .inl (κ 3, 4, .inr (.inr (.inr (.inr (sel [h6, h7, h8, h9])))))), (h7, .inr (6, [.ref h10, .ref h11, .int 0]))] t.heap ∧ va_D (va_A [(h0, .inr (3, [.ref h1, .int 3, .int p0, .ref h2, .ref h3, .long 0, .int p1])), (h1, .inr (2, [.int p2, .int p3, .ref h4, .ref h5])), (h3, .inl (κ 0, 13, .inl (fun _ => 0))), (h4, .inl (κ 3, 4, .inr (.inr (.inr (.inr (sel [h6, h7, h8, h9])))))), (h7, .inr (6, [.ref h10, .ref h11, .int 0]))] sz) [(h0, .inr (3, [.ref h1, .int 3, .int p0, .ref h2, .ref h3, .long 0, .int 0])), (h1, .inr (2, [.int p2, .int p3, .ref h4, .ref h5])), (h3, .inl (κ 0, 13, .inl (fun _ => 0))), (h4, .inl (κ 3, 4, .inr (.inr (.inr (.inr (sel [h6, h7, h8, h9])))))), (h7, .inr (6, [.ref h10, .ref h11, .int 0]))]) (va_A [(h0, .inr (3, [.ref h1, .int 3, .int p0, .ref h2, .ref h3, .long 0, .int p1])), (h1, .inr (2, [.int p2, .int p3, .ref h4, .ref h5])), (h3, .inl (κ 0, 13, .inl (fun _ => 0))), (h4, .inl (κ 3, 4, .inr (.inr (.inr (.inr (sel [h6, h7, h8, h9])))))), (h7, .inr (6, [.ref h10, .ref h11, .int 0]))] sz)) 0 0 (va_A [(h0, .inr (3, [.ref h1, .int 3, .int p0, .ref h2, .ref h3, .long 0, .int p1])), (h1, .inr (2, [.int p2, .int p3, .ref h4, .ref h5])), (h3, .inl (κ 0, 13, .inl (fun _ => 0))), (h4, .inl (κ 3, 4, .inr (.inr (.inr (.inr (sel [h6, h7, h8, h9])))))), (h7, .inr (6, [.ref h10, .ref h11, .int 0]))] sz) := by
  refine Met.ofW (cc := cX1_refine) (maxL := 5) (ret := none) (by decide) rfl ?_
  intro p e s m args below meth c s₁ B hml hv
  obtain ⟨rfl, hsz, hP, hK, hD0, hE9⟩ := hv
  have hx := B.exec
  have hb := B.bytes
  have hr := B.returns
  have hts := atoms_spec (ws := wsX1_refine) B.pre
  have hown : s.vm.findClass RX1 = some m.cls := findClass_of_methodNamed B.named
  have hlocks := B.notSynchronized
  subst hsz
  have hD := hD0.self (sz := s.heap.size)
  generalize hAe : va_A [(h0, .inr (3, [.ref h1, .int 3, .int p0, .ref h2, .ref h3, .long 0, .int p1])), (h1, .inr (2, [.int p2, .int p3, .ref h4, .ref h5])), (h3, .inl (κ 0, 13, .inl (fun _ => 0))), (h4, .inl (κ 3, 4, .inr (.inr (.inr (.inr (sel [h6, h7, h8, h9])))))), (h7, .inr (6, [.ref h10, .ref h11, .int 0]))] s.heap.size = A at hD hE9 ⊢
  have hE := hE9.1
  have hDc := hE9.2
  have hA : ∀ q : Nat, s.heap.size ≤ q → A q := fun q h => by rw [← hAe]; exact Or.inr h
  have hS : va_S A s.heap s.heap [] := va_S.rf
  have hP : va_P D vwCl [(h0, .inr (3, [.ref h1, .int 3, .int p0, .ref h2, .ref h3, .long 0, .int p1])), (h1, .inr (2, [.int p2, .int p3, .ref h4, .ref h5])), (h3, .inl (κ 0, 13, .inl (fun _ => 0))), (h4, .inl (κ 3, 4, .inr (.inr (.inr (.inr (sel [h6, h7, h8, h9])))))), (h7, .inr (6, [.ref h10, .ref h11, .int 0]))] s.heap := hP
  have hl := lv_entry [.ref h0, .int 2, .int 0] (n := 5) (Nat.le_of_ble_eq_true rfl)
  rw [lg_entry_eq]
  generalize (lg_sl [.ref h0, .int 2, .int 0] ++ List.replicate (5 - (lg_sl [.ref h0, .int 2, .int 0]).length) Slot.unset).toArray = ls at hl ⊢
  have hl : lv_has ls 5 [(0, .ref h0), (1, .int 2), (2, .int 0)] := hl
  refine lv_aload_n hx hb dX1_refine_0 rfl (lv_at hl 0 rfl) ?_
  refine va_get (D := D) (ci := 3) (v := .int 3) (C := RX1) (T := TX1) (N := 7) hx hb hts wi_X1_refine_RX1 hown hK hP 0 rfl rfl 1 (by decide) (hts _ wd287_X1_refine) (fun _ h9 => h9) rfl dX1_refine_1 ?_
  refine lv_iconst (v := 4) hx hb dX1_refine_4 (by decide) ?_
  refine lv_icmp_ne (tgt := 23) hx hb dX1_refine_5 (by decide) (fun _ => ?_) (fun h => absurd h (by decide))
  refine lv_iconst (v := 0) hx hb dX1_refine_23 (by decide) ?_
  refine lv_istore_n (lv' := [(3, .int 0), (0, .ref h0), (1, .int 2), (2, .int 0)]) hx hb dX1_refine_24 rfl hl (by decide) rfl (fun ls hl => ?_)
  refine lv_aload_n hx hb dX1_refine_25 rfl (lv_at hl 1 rfl) ?_
  refine lv_iload_n hx hb dX1_refine_26 rfl (lv_at hl 0 rfl) ?_
  refine lv_if_eq (tgt := 41) hx hb dX1_refine_27 (by decide) (fun _ => ?_) (fun h => absurd (by decide) h)
  refine lv_aload_n hx hb dX1_refine_41 rfl (lv_at hl 1 rfl) ?_
  refine va_get (D := D) (ci := 3) (v := .ref h1) (C := RX1) (T := TX1) (N := 7) hx hb hts wi_X1_refine_RX1 hown hK hP 0 rfl rfl 0 (by decide) (hts _ wd288_X1_refine) (fun _ h9 => h9) rfl dX1_refine_42 ?_
  refine lv_iload_n hx hb dX1_refine_45 rfl (lv_at hl 2 rfl) ?_
  refine va_csr (W.runV (As := [.int 2]) (rest := [.ref h0]) ⟨hx, hb, hml, hown, hts⟩ (k_X0_countsOf_1 l D κ ε h1 h4 h5 h6 h7 h8 h9 (p2) (p3)) (cwV 1 hts gX1_refine_X0_countsOf rfl rfl rfl (by decide +kernel) ⟨(Nat.le_of_ble_eq_true rfl), (Nat.le_of_ble_eq_true rfl)⟩) (pre0_V (q0 := 1) (ci := 2) (wc := [(h1, .inr (2, [.int p2, .int p3, .ref h4, .ref h5])), (h4, .inl (κ 3, 4, .inr (.inr (.inr (.inr (sel [h6, h7, h8, h9]))))))]) hP hK [1, 3] rfl rfl rfl) rfl rfl hl.1 rfl (lv_room (Nat.le_of_ble_eq_true rfl)) dX1_refine_46 ⟨(Nat.le_of_ble_eq_true rfl), (Nat.le_of_ble_eq_true rfl)⟩) (fun r hw => ?_)
  rw [hw]
  refine lv_iload_n hx hb dX1_refine_49 rfl (lv_at hl 3 rfl) ?_
  have hF := va_free (wc := [(h0, .inr (3, [.ref h1, .int 3, .int p0, .ref h2, .ref h3, .long 0, .int p1])), (h7, .inr (6, [.ref h10, .ref h11, .int 0])), (h3, .inl (κ 0, 13, .inl (fun _ => 0)))]) hD hS hA [0, 4, 2] rfl
  refine va_callv (va_runV (As := [.ref h7, .int 0]) (rest := []) ⟨hx, hb, hml, hown, hts⟩ (k_X1_gather_0 l D κ ε h0 h7 h1 h2 h3 h10 h11 s.heap.size (3) (p0) (0) (p1)) (cwV 2 hts gX1_refine_X1_gather rfl rfl rfl (by decide +kernel) ⟨(Nat.le_of_ble_eq_true rfl), (Nat.le_of_ble_eq_true rfl)⟩) (pre2_V (q0 := 0) (ci := 3) (wc := [(h0, .inr (3, [.ref h1, .int 3, .int p0, .ref h2, .ref h3, .long 0, .int p1])), (h7, .inr (6, [.ref h10, .ref h11, .int 0])), (h3, .inl (κ 0, 13, .inl (fun _ => 0)))]) hP hD hK hE9 hS hA [0, 4, 2] (by decide) rfl rfl rfl) rfl rfl hl.1 rfl (lv_room (Nat.le_of_ble_eq_true rfl)) dX1_refine_50 ⟨(Nat.le_of_ble_eq_true rfl), (Nat.le_of_ble_eq_true rfl)⟩) hS (fun q _ h => hF q h) hF (fun u1 t H locs ht hvm hw hB hz1 hk1 hS => ?_)
  try dsimp only at hw hB
  obtain ⟨hP1, hD1⟩ := hB
  rw [ht] at hP1
  obtain ⟨hP, hD⟩ := post_j (ws' := [(h0, .inr (3, [.ref h1, .int 3, .int p0, .ref h2, .ref h3, .long 0, .int 0])), (h1, .inr (2, [.int p2, .int p3, .ref h4, .ref h5])), (h3, .inl (κ 0, 13, .inl (fun _ => 0))), (h4, .inl (κ 3, 4, .inr (.inr (.inr (.inr (sel [h6, h7, h8, h9])))))), (h7, .inr (6, [.ref h10, .ref h11, .int 0]))]) (wr := [(h1, .inr (2, [.int p2, .int p3, .ref h4, .ref h5])), (h4, .inl (κ 3, 4, .inr (.inr (.inr (.inr (sel [h6, h7, h8, h9]))))))]) (w1 := [(h0, .inr (3, [.ref h1, .int 3, .int p0, .ref h2, .ref h3, .long 0, .int 0])), (h7, .inr (6, [.ref h10, .ref h11, .int 0])), (h3, .inl (κ 0, 13, .inl (fun _ => 0)))]) hP hD hF [0, 4, 2] rfl [1, 3] rfl (by decide) (by decide) hk1 hP1 hD1 [2, 0, 4, 1, 3] (by decide) rfl
  have hP : va_P D vwCl [(h0, .inr (3, [.ref h1, .int 3, .int p0, .ref h2, .ref h3, .long 0, .int 0])), (h1, .inr (2, [.int p2, .int p3, .ref h4, .ref h5])), (h3, .inl (κ 0, 13, .inl (fun _ => 0))), (h4, .inl (κ 3, 4, .inr (.inr (.inr (.inr (sel [h6, h7, h8, h9])))))), (h7, .inr (6, [.ref h10, .ref h11, .int 0]))] H := hP
  have hD : va_D A [(h0, .inr (3, [.ref h1, .int 3, .int p0, .ref h2, .ref h3, .long 0, .int 0])), (h1, .inr (2, [.int p2, .int p3, .ref h4, .ref h5])), (h3, .inl (κ 0, 13, .inl (fun _ => 0))), (h4, .inl (κ 3, 4, .inr (.inr (.inr (.inr (sel [h6, h7, h8, h9])))))), (h7, .inr (6, [.ref h10, .ref h11, .int 0]))] := hD
  refine lv_aload_n hx hb dX1_refine_53 rfl (lv_at hl 1 rfl) ?_
  refine va_get (D := D) (ci := 3) (v := .int 3) (C := RX1) (T := TX1) (N := 7) hx hb hts wi_X1_refine_RX1 hown hK hP 0 rfl rfl 1 (by decide) (hts _ wd287_X1_refine) (fun _ h9 => h9) rfl dX1_refine_54 ?_
  refine lv_if_eq (tgt := 70) hx hb dX1_refine_57 (by decide) (fun h => absurd h (by decide)) (fun _ => ?_)
  refine lv_aload_n hx hb dX1_refine_60 rfl (lv_at hl 1 rfl) ?_
  refine va_get (D := D) (ci := 3) (v := .long 0) (C := RX1) (T := TX1) (N := 7) hx hb hts wi_X1_refine_RX1 hown hK hP 0 rfl rfl 5 (by decide) (hts _ wd427_X1_refine) (fun _ h9 => h9) rfl dX1_refine_61 ?_
  refine lv_lconst (v := 0) hx hb dX1_refine_64 (by decide) ?_
  refine W.lcmp hx hb dX1_refine_65 ?_
  refine tpi (v := 0) (by decide) ?_
  refine lv_if_gt (tgt := 70) hx hb dX1_refine_66 (by decide) (fun h => absurd h (by decide)) (fun _ => ?_)
  have hP9 := hP
  have hD9 := hD
  exact W.vret hx hb hr (fun t ht hW => ⟨⟨(), rfl, trivial, by rw [ht]; exact hP9, hD9⟩, hS.F ht⟩) hS.2.2 dX1_refine_69

set_option maxHeartbeats 4000000 in
set_option maxRecDepth 100000 in
theorem k_X1_reckon_4 (l : Launch) (D : va_G) (κ ε : Nat → Nat) (h0 h1 h2 h3 h4 h5 h6 h7 h8 h9 h10 h11 h12 h13 : Nat) (sz : Nat) (p0 : Int32) (p1 : Int32) (p2 : Int32) : Met l yX1_reckon wsX1_reckon ({ frames := 3, cells := 0, slots := 0, locals := 72 }) (va_Pc [.ref h0, .int 2, .int 0] (Pre2 D κ ε [(h0, .inr (3, [.ref h1, .int 3, .int p0, .ref h2, .ref h3, .long 0, .int p1])), (h1, .inr (2, [.int 0, .int p2, .ref h4, .ref h5])), (h2, .inl (κ 0, 13, .inl (fun _ => 0))), (h3, .inl (κ 0, 13, .inl (fun _ => 0))), (h4, .inl (κ 3, 4, .inr (.inr (.inr (.inr (sel [h6, h7, h8, h9])))))), (h6, .inr (6, [.ref h10, .ref h11, .int 0])), (h7, .inr (6, [.ref h12, .ref h13, .int 0]))] sz)) (va_Qv (fun u : Unit => True) (fun u t => va_P D vwCl [(h0, .inr (3, [.ref h1, .int 3, .int p0, .ref h2, .ref h3, .long 0, .int 0])), (h1, .inr (2, [.int 0, .int p2, .ref h4, .ref h5])), (h2, .inl (κ 0, 13, .inl (upd (upd (upd (upd (upd (upd (upd (upd (upd (upd (upd (upd (upd (fun _ => 0) 0 1000000) 1 1000000) 2 1000000) 3 1000000) 4 1000000) 5 1000000) 6 1000000) 7 1000000) 8 1000000) 9 1000000) 10 1000000) 11 1000000) 12 1000000))), (h3, .inl (κ 0, 13, .inl (fun _ => 0))), (h4, .inl (κ 3, 4, .inr (.inr (.inr (.inr (sel [h6, h7, h8, h9])))))), (h6, .inr (6, [.ref h10, .ref h11, .int 0])), (h7, .inr (6, [.ref h12, .ref h13, .int 0]))] t.heap ∧ va_D (va_A [(h0, .inr (3, [.ref h1, .int 3, .int p0, .ref h2, .ref h3, .long 0, .int p1])), (h1, .inr (2, [.int 0, .int p2, .ref h4, .ref h5])), (h2, .inl (κ 0, 13, .inl (fun _ => 0))), (h3, .inl (κ 0, 13, .inl (fun _ => 0))), (h4, .inl (κ 3, 4, .inr (.inr (.inr (.inr (sel [h6, h7, h8, h9])))))), (h6, .inr (6, [.ref h10, .ref h11, .int 0])), (h7, .inr (6, [.ref h12, .ref h13, .int 0]))] sz) [(h0, .inr (3, [.ref h1, .int 3, .int p0, .ref h2, .ref h3, .long 0, .int 0])), (h1, .inr (2, [.int 0, .int p2, .ref h4, .ref h5])), (h2, .inl (κ 0, 13, .inl (upd (upd (upd (upd (upd (upd (upd (upd (upd (upd (upd (upd (upd (fun _ => 0) 0 1000000) 1 1000000) 2 1000000) 3 1000000) 4 1000000) 5 1000000) 6 1000000) 7 1000000) 8 1000000) 9 1000000) 10 1000000) 11 1000000) 12 1000000))), (h3, .inl (κ 0, 13, .inl (fun _ => 0))), (h4, .inl (κ 3, 4, .inr (.inr (.inr (.inr (sel [h6, h7, h8, h9])))))), (h6, .inr (6, [.ref h10, .ref h11, .int 0])), (h7, .inr (6, [.ref h12, .ref h13, .int 0]))]) (va_A [(h0, .inr (3, [.ref h1, .int 3, .int p0, .ref h2, .ref h3, .long 0, .int p1])), (h1, .inr (2, [.int 0, .int p2, .ref h4, .ref h5])), (h2, .inl (κ 0, 13, .inl (fun _ => 0))), (h3, .inl (κ 0, 13, .inl (fun _ => 0))), (h4, .inl (κ 3, 4, .inr (.inr (.inr (.inr (sel [h6, h7, h8, h9])))))), (h6, .inr (6, [.ref h10, .ref h11, .int 0])), (h7, .inr (6, [.ref h12, .ref h13, .int 0]))] sz)) 0 0 (va_A [(h0, .inr (3, [.ref h1, .int 3, .int p0, .ref h2, .ref h3, .long 0, .int p1])), (h1, .inr (2, [.int 0, .int p2, .ref h4, .ref h5])), (h2, .inl (κ 0, 13, .inl (fun _ => 0))), (h3, .inl (κ 0, 13, .inl (fun _ => 0))), (h4, .inl (κ 3, 4, .inr (.inr (.inr (.inr (sel [h6, h7, h8, h9])))))), (h6, .inr (6, [.ref h10, .ref h11, .int 0])), (h7, .inr (6, [.ref h12, .ref h13, .int 0]))] sz) := by
  refine Met.ofW (cc := cX1_reckon) (maxL := 4) (ret := none) (by decide) rfl ?_
  intro p e s m args below meth c s₁ B hml hv
  obtain ⟨rfl, hsz, hP, hK, hD0, hE9⟩ := hv
  have hx := B.exec
  have hb := B.bytes
  have hr := B.returns
  have hts := atoms_spec (ws := wsX1_reckon) B.pre
  have hown : s.vm.findClass RX1 = some m.cls := findClass_of_methodNamed B.named
  have hlocks := B.notSynchronized
  subst hsz
  have hD := hD0.self (sz := s.heap.size)
  generalize hAe : va_A [(h0, .inr (3, [.ref h1, .int 3, .int p0, .ref h2, .ref h3, .long 0, .int p1])), (h1, .inr (2, [.int 0, .int p2, .ref h4, .ref h5])), (h2, .inl (κ 0, 13, .inl (fun _ => 0))), (h3, .inl (κ 0, 13, .inl (fun _ => 0))), (h4, .inl (κ 3, 4, .inr (.inr (.inr (.inr (sel [h6, h7, h8, h9])))))), (h6, .inr (6, [.ref h10, .ref h11, .int 0])), (h7, .inr (6, [.ref h12, .ref h13, .int 0]))] s.heap.size = A at hD hE9 ⊢
  have hE := hE9.1
  have hDc := hE9.2
  have hA : ∀ q : Nat, s.heap.size ≤ q → A q := fun q h => by rw [← hAe]; exact Or.inr h
  have hS : va_S A s.heap s.heap [] := va_S.rf
  have hP : va_P D vwCl [(h0, .inr (3, [.ref h1, .int 3, .int p0, .ref h2, .ref h3, .long 0, .int p1])), (h1, .inr (2, [.int 0, .int p2, .ref h4, .ref h5])), (h2, .inl (κ 0, 13, .inl (fun _ => 0))), (h3, .inl (κ 0, 13, .inl (fun _ => 0))), (h4, .inl (κ 3, 4, .inr (.inr (.inr (.inr (sel [h6, h7, h8, h9])))))), (h6, .inr (6, [.ref h10, .ref h11, .int 0])), (h7, .inr (6, [.ref h12, .ref h13, .int 0]))] s.heap := hP
  have hl := lv_entry [.ref h0, .int 2, .int 0] (n := 4) (Nat.le_of_ble_eq_true rfl)
  rw [lg_entry_eq]
  generalize (lg_sl [.ref h0, .int 2, .int 0] ++ List.replicate (4 - (lg_sl [.ref h0, .int 2, .int 0]).length) Slot.unset).toArray = ls at hl ⊢
  have hl : lv_has ls 4 [(0, .ref h0), (1, .int 2), (2, .int 0)] := hl
  refine lv_aload_n hx hb dX1_reckon_0 rfl (lv_at hl 0 rfl) ?_
  refine va_get (D := D) (ci := 3) (v := .ref h2) (C := RX1) (T := TX1) (N := 7) hx hb hts wi_X1_reckon_RX1 hown hK hP 0 rfl rfl 3 (by decide) (hts _ wd292_X1_reckon) (fun _ h9 => h9) rfl dX1_reckon_1 ?_
  refine lv_ldc (v := 1000000) hx hb hown (hts _ wd293_X1_reckon) dX1_reckon_4 ?_
  refine lv_aload_n hx hb dX1_reckon_6 rfl (lv_at hl 0 rfl) ?_
  refine va_get (D := D) (ci := 3) (v := .ref h1) (C := RX1) (T := TX1) (N := 7) hx hb hts wi_X1_reckon_RX1 hown hK hP 0 rfl rfl 0 (by decide) (hts _ wd294_X1_reckon) (fun _ h9 => h9) rfl dX1_reckon_7 ?_
  refine va_get (D := D) (ci := 2) (v := .int 0) (C := RX0) (T := TX0) (N := 4) hx hb hts wi_X1_reckon_RX0 hown hK hP 1 rfl rfl 0 (by decide) (hts _ wd295_X1_reckon) (fun _ h9 => h9) rfl dX1_reckon_10 ?_
  refine lv_iconst (v := 1) hx hb dX1_reckon_13 (by decide) ?_
  refine lv_iadd hx hb dX1_reckon_14 ?_
  refine tpi (v := 1) (by decide) ?_
  refine lv_idiv hx hb dX1_reckon_15 (by decide) ?_
  refine tpi (v := 1000000) (by decide) ?_
  have hF := va_free (wc := [(h2, .inl (κ 0, 13, .inl (fun _ => 0)))]) hD hS hA [2] rfl
  refine va_callv (va_runS (As := [.ref h2, .int 1000000]) (rest := []) ⟨hx, hb, hml, hown, hts⟩ (k_J7_fill_53178_1 l D κ ε h2 s.heap.size) (va_cwS 2 hts gX1_reckon_J7_fill_53178 rfl rfl rfl (by decide +kernel) ⟨(Nat.le_of_ble_eq_true rfl), (Nat.le_of_ble_eq_true rfl)⟩) (pre2_S (wc := [(h2, .inl (κ 0, 13, .inl (fun _ => 0)))]) hP hD hK hE9 hS hA [2] (by decide) rfl) rfl rfl hl.1 rfl (lv_room (Nat.le_of_ble_eq_true rfl)) dX1_reckon_16 ⟨(Nat.le_of_ble_eq_true rfl), (Nat.le_of_ble_eq_true rfl)⟩) hS (fun q _ h => hF q h) hF (fun u1 t H locs ht hvm hw hB hz1 hk1 hS => ?_)
  try dsimp only at hw hB
  obtain ⟨hP1, hD1⟩ := hB
  rw [ht] at hP1
  obtain ⟨hP, hD⟩ := post_j (ws' := [(h0, .inr (3, [.ref h1, .int 3, .int p0, .ref h2, .ref h3, .long 0, .int p1])), (h1, .inr (2, [.int 0, .int p2, .ref h4, .ref h5])), (h2, .inl (κ 0, 13, .inl (upd (upd (upd (upd (upd (upd (upd (upd (upd (upd (upd (upd (upd (fun _ => 0) 0 1000000) 1 1000000) 2 1000000) 3 1000000) 4 1000000) 5 1000000) 6 1000000) 7 1000000) 8 1000000) 9 1000000) 10 1000000) 11 1000000) 12 1000000))), (h3, .inl (κ 0, 13, .inl (fun _ => 0))), (h4, .inl (κ 3, 4, .inr (.inr (.inr (.inr (sel [h6, h7, h8, h9])))))), (h6, .inr (6, [.ref h10, .ref h11, .int 0])), (h7, .inr (6, [.ref h12, .ref h13, .int 0]))]) (wr := [(h0, .inr (3, [.ref h1, .int 3, .int p0, .ref h2, .ref h3, .long 0, .int p1])), (h1, .inr (2, [.int 0, .int p2, .ref h4, .ref h5])), (h3, .inl (κ 0, 13, .inl (fun _ => 0))), (h4, .inl (κ 3, 4, .inr (.inr (.inr (.inr (sel [h6, h7, h8, h9])))))), (h6, .inr (6, [.ref h10, .ref h11, .int 0])), (h7, .inr (6, [.ref h12, .ref h13, .int 0]))]) (w1 := [(h2, .inl (κ 0, 13, .inl (upd (upd (upd (upd (upd (upd (upd (upd (upd (upd (upd (upd (upd (fun _ => 0) 0 1000000) 1 1000000) 2 1000000) 3 1000000) 4 1000000) 5 1000000) 6 1000000) 7 1000000) 8 1000000) 9 1000000) 10 1000000) 11 1000000) 12 1000000)))]) hP hD hF [2] rfl [0, 1, 3, 4, 5, 6] rfl (by decide) (by decide) hk1 hP1 hD1 [0, 1, 6, 2, 3, 4, 5] (by decide) rfl
  have hP : va_P D vwCl [(h0, .inr (3, [.ref h1, .int 3, .int p0, .ref h2, .ref h3, .long 0, .int p1])), (h1, .inr (2, [.int 0, .int p2, .ref h4, .ref h5])), (h2, .inl (κ 0, 13, .inl (upd (upd (upd (upd (upd (upd (upd (upd (upd (upd (upd (upd (upd (fun _ => 0) 0 1000000) 1 1000000) 2 1000000) 3 1000000) 4 1000000) 5 1000000) 6 1000000) 7 1000000) 8 1000000) 9 1000000) 10 1000000) 11 1000000) 12 1000000))), (h3, .inl (κ 0, 13, .inl (fun _ => 0))), (h4, .inl (κ 3, 4, .inr (.inr (.inr (.inr (sel [h6, h7, h8, h9])))))), (h6, .inr (6, [.ref h10, .ref h11, .int 0])), (h7, .inr (6, [.ref h12, .ref h13, .int 0]))] H := hP
  have hD : va_D A [(h0, .inr (3, [.ref h1, .int 3, .int p0, .ref h2, .ref h3, .long 0, .int p1])), (h1, .inr (2, [.int 0, .int p2, .ref h4, .ref h5])), (h2, .inl (κ 0, 13, .inl (upd (upd (upd (upd (upd (upd (upd (upd (upd (upd (upd (upd (upd (fun _ => 0) 0 1000000) 1 1000000) 2 1000000) 3 1000000) 4 1000000) 5 1000000) 6 1000000) 7 1000000) 8 1000000) 9 1000000) 10 1000000) 11 1000000) 12 1000000))), (h3, .inl (κ 0, 13, .inl (fun _ => 0))), (h4, .inl (κ 3, 4, .inr (.inr (.inr (.inr (sel [h6, h7, h8, h9])))))), (h6, .inr (6, [.ref h10, .ref h11, .int 0])), (h7, .inr (6, [.ref h12, .ref h13, .int 0]))] := hD
  refine lv_aload_n hx hb dX1_reckon_19 rfl (lv_at hl 0 rfl) ?_
  refine va_get (D := D) (ci := 3) (v := .int 3) (C := RX1) (T := TX1) (N := 7) hx hb hts wi_X1_reckon_RX1 hown hK hP 0 rfl rfl 1 (by decide) (hts _ wd296_X1_reckon) (fun _ h9 => h9) rfl dX1_reckon_20 ?_
  refine lv_if_ne (tgt := 30) hx hb dX1_reckon_23 (by decide) (fun _ => ?_) (fun h => absurd h (by decide))
  refine lv_iconst (v := 1) hx hb dX1_reckon_30 (by decide) ?_
  refine lv_istore_n (lv' := [(3, .int 1), (0, .ref h0), (1, .int 2), (2, .int 0)]) hx hb dX1_reckon_31 rfl hl (by decide) rfl (fun ls hl => ?_)
  refine lv_iload_n hx hb dX1_reckon_32 rfl (lv_at hl 0 rfl) ?_
  refine lv_iload_n hx hb dX1_reckon_33 rfl (lv_at hl 2 rfl) ?_
  refine lv_icmp_gt (tgt := 57) hx hb dX1_reckon_34 (by decide) (fun h => absurd h (by decide)) (fun _ => ?_)
  refine lv_aload_n hx hb dX1_reckon_37 rfl (lv_at hl 1 rfl) ?_
  refine lv_iload_n hx hb dX1_reckon_38 rfl (lv_at hl 0 rfl) ?_
  refine lv_iload_n hx hb dX1_reckon_39 rfl (lv_at hl 3 rfl) ?_
  refine va_getsN hx hb hE.2.2.1 hS hown (va_Nw.use rfl hE.2.2.2.2.2.2.2.1) (fun _ h9 => h9) dX1_reckon_40 ?_
  refine lv_iload_n hx hb dX1_reckon_43 rfl (lv_at hl 0 rfl) ?_
  refine lv_iconst (v := 1) hx hb dX1_reckon_44 (by decide) ?_
  refine lv_isub hx hb dX1_reckon_45 ?_
  refine tpi (v := 0) (by decide) ?_
  refine va_ti hx hb hE.2.2.2.1 hS (vpl (by decide)) (v := .int 1) rfl dX1_reckon_46 ?_
  refine lv_irem hx hb dX1_reckon_47 (by decide) ?_
  refine tpi (v := 0) (by decide) ?_
  have hF := va_free (wc := [(h0, .inr (3, [.ref h1, .int 3, .int p0, .ref h2, .ref h3, .long 0, .int p1])), (h1, .inr (2, [.int 0, .int p2, .ref h4, .ref h5])), (h3, .inl (κ 0, 13, .inl (fun _ => 0))), (h4, .inl (κ 3, 4, .inr (.inr (.inr (.inr (sel [h6, h7, h8, h9])))))), (h6, .inr (6, [.ref h10, .ref h11, .int 0]))]) hD hS hA [0, 1, 3, 4, 5] rfl
  refine va_callv (va_runV (As := [.int 1, .int 0]) (rest := []) ⟨hx, hb, hml, hown, hts⟩ (k_X1_refine_6 l D κ ε h0 h1 h2 h3 h4 h5 h6 h7 h8 h9 h10 h11 H.size (p0) (p1) (0) (p2)) (cwV 2 hts gX1_reckon_X1_refine rfl rfl rfl (by decide +kernel) ⟨(Nat.le_of_ble_eq_true rfl), (Nat.le_of_ble_eq_true rfl)⟩) (pre2_V (q0 := 0) (ci := 3) (wc := [(h0, .inr (3, [.ref h1, .int 3, .int p0, .ref h2, .ref h3, .long 0, .int p1])), (h1, .inr (2, [.int 0, .int p2, .ref h4, .ref h5])), (h3, .inl (κ 0, 13, .inl (fun _ => 0))), (h4, .inl (κ 3, 4, .inr (.inr (.inr (.inr (sel [h6, h7, h8, h9])))))), (h6, .inr (6, [.ref h10, .ref h11, .int 0]))]) hP hD hK hE9 hS hA [0, 1, 3, 4, 5] (by decide) rfl rfl rfl) rfl rfl hl.1 rfl (lv_room (Nat.le_of_ble_eq_true rfl)) dX1_reckon_48 ⟨(Nat.le_of_ble_eq_true rfl), (Nat.le_of_ble_eq_true rfl)⟩) hS (fun q _ h => hF q h) hF (fun u2 t H locs ht hvm hw hB hz1 hk1 hS => ?_)
  try dsimp only at hw hB
  obtain ⟨hP1, hD1⟩ := hB
  rw [ht] at hP1
  obtain ⟨hP, hD⟩ := post_j (ws' := [(h0, .inr (3, [.ref h1, .int 3, .int p0, .ref h2, .ref h3, .long 0, .int 0])), (h1, .inr (2, [.int 0, .int p2, .ref h4, .ref h5])), (h2, .inl (κ 0, 13, .inl (upd (upd (upd (upd (upd (upd (upd (upd (upd (upd (upd (upd (upd (fun _ => 0) 0 1000000) 1 1000000) 2 1000000) 3 1000000) 4 1000000) 5 1000000) 6 1000000) 7 1000000) 8 1000000) 9 1000000) 10 1000000) 11 1000000) 12 1000000))), (h3, .inl (κ 0, 13, .inl (fun _ => 0))), (h4, .inl (κ 3, 4, .inr (.inr (.inr (.inr (sel [h6, h7, h8, h9])))))), (h6, .inr (6, [.ref h10, .ref h11, .int 0])), (h7, .inr (6, [.ref h12, .ref h13, .int 0]))]) (wr := [(h2, .inl (κ 0, 13, .inl (upd (upd (upd (upd (upd (upd (upd (upd (upd (upd (upd (upd (upd (fun _ => 0) 0 1000000) 1 1000000) 2 1000000) 3 1000000) 4 1000000) 5 1000000) 6 1000000) 7 1000000) 8 1000000) 9 1000000) 10 1000000) 11 1000000) 12 1000000))), (h7, .inr (6, [.ref h12, .ref h13, .int 0]))]) (w1 := [(h0, .inr (3, [.ref h1, .int 3, .int p0, .ref h2, .ref h3, .long 0, .int 0])), (h1, .inr (2, [.int 0, .int p2, .ref h4, .ref h5])), (h3, .inl (κ 0, 13, .inl (fun _ => 0))), (h4, .inl (κ 3, 4, .inr (.inr (.inr (.inr (sel [h6, h7, h8, h9])))))), (h6, .inr (6, [.ref h10, .ref h11, .int 0]))]) hP hD hF [0, 1, 3, 4, 5] rfl [2, 6] rfl (by decide) (by decide) hk1 hP1 hD1 [2, 3, 0, 4, 5, 6, 1] (by decide) rfl
  have hP : va_P D vwCl [(h0, .inr (3, [.ref h1, .int 3, .int p0, .ref h2, .ref h3, .long 0, .int 0])), (h1, .inr (2, [.int 0, .int p2, .ref h4, .ref h5])), (h2, .inl (κ 0, 13, .inl (upd (upd (upd (upd (upd (upd (upd (upd (upd (upd (upd (upd (upd (fun _ => 0) 0 1000000) 1 1000000) 2 1000000) 3 1000000) 4 1000000) 5 1000000) 6 1000000) 7 1000000) 8 1000000) 9 1000000) 10 1000000) 11 1000000) 12 1000000))), (h3, .inl (κ 0, 13, .inl (fun _ => 0))), (h4, .inl (κ 3, 4, .inr (.inr (.inr (.inr (sel [h6, h7, h8, h9])))))), (h6, .inr (6, [.ref h10, .ref h11, .int 0])), (h7, .inr (6, [.ref h12, .ref h13, .int 0]))] H := hP
  have hD : va_D A [(h0, .inr (3, [.ref h1, .int 3, .int p0, .ref h2, .ref h3, .long 0, .int 0])), (h1, .inr (2, [.int 0, .int p2, .ref h4, .ref h5])), (h2, .inl (κ 0, 13, .inl (upd (upd (upd (upd (upd (upd (upd (upd (upd (upd (upd (upd (upd (fun _ => 0) 0 1000000) 1 1000000) 2 1000000) 3 1000000) 4 1000000) 5 1000000) 6 1000000) 7 1000000) 8 1000000) 9 1000000) 10 1000000) 11 1000000) 12 1000000))), (h3, .inl (κ 0, 13, .inl (fun _ => 0))), (h4, .inl (κ 3, 4, .inr (.inr (.inr (.inr (sel [h6, h7, h8, h9])))))), (h6, .inr (6, [.ref h10, .ref h11, .int 0])), (h7, .inr (6, [.ref h12, .ref h13, .int 0]))] := hD
  refine lv_iinc (v := 2) (lv' := [(3, .int 2), (0, .ref h0), (1, .int 2), (2, .int 0)]) hx hb dX1_reckon_51 hl (k := 0) rfl (by decide) (by decide) rfl (fun ls hl => ?_)
  refine lv_goto (tgt := 32) hx hb dX1_reckon_54 (by decide) ?_
  refine lv_iload_n hx hb dX1_reckon_32 rfl (lv_at hl 0 rfl) ?_
  refine lv_iload_n hx hb dX1_reckon_33 rfl (lv_at hl 2 rfl) ?_
  refine lv_icmp_gt (tgt := 57) hx hb dX1_reckon_34 (by decide) (fun h => absurd h (by decide)) (fun _ => ?_)
  refine lv_aload_n hx hb dX1_reckon_37 rfl (lv_at hl 1 rfl) ?_
  refine lv_iload_n hx hb dX1_reckon_38 rfl (lv_at hl 0 rfl) ?_
  refine lv_iload_n hx hb dX1_reckon_39 rfl (lv_at hl 3 rfl) ?_
  refine va_getsN hx hb hE.2.2.1 hS hown (va_Nw.use rfl hE.2.2.2.2.2.2.2.1) (fun _ h9 => h9) dX1_reckon_40 ?_
  refine lv_iload_n hx hb dX1_reckon_43 rfl (lv_at hl 0 rfl) ?_
  refine lv_iconst (v := 1) hx hb dX1_reckon_44 (by decide) ?_
  refine lv_isub hx hb dX1_reckon_45 ?_
  refine tpi (v := 1) (by decide) ?_
  refine va_ti hx hb hE.2.2.2.1 hS (vpl (by decide)) (v := .int 14) rfl dX1_reckon_46 ?_
  refine lv_irem hx hb dX1_reckon_47 (by decide) ?_
  refine tpi (v := 0) (by decide) ?_
  have hF := va_free (wc := [(h0, .inr (3, [.ref h1, .int 3, .int p0, .ref h2, .ref h3, .long 0, .int 0])), (h1, .inr (2, [.int 0, .int p2, .ref h4, .ref h5])), (h3, .inl (κ 0, 13, .inl (fun _ => 0))), (h4, .inl (κ 3, 4, .inr (.inr (.inr (.inr (sel [h6, h7, h8, h9])))))), (h7, .inr (6, [.ref h12, .ref h13, .int 0]))]) hD hS hA [0, 1, 3, 4, 6] rfl
  refine va_callv (va_runV (As := [.int 2, .int 0]) (rest := []) ⟨hx, hb, hml, hown, hts⟩ (k_X1_refine_7 l D κ ε h0 h1 h2 h3 h4 h5 h6 h7 h8 h9 h12 h13 H.size (p0) (0) (0) (p2)) (cwV 2 hts gX1_reckon_X1_refine rfl rfl rfl (by decide +kernel) ⟨(Nat.le_of_ble_eq_true rfl), (Nat.le_of_ble_eq_true rfl)⟩) (pre2_V (q0 := 0) (ci := 3) (wc := [(h0, .inr (3, [.ref h1, .int 3, .int p0, .ref h2, .ref h3, .long 0, .int 0])), (h1, .inr (2, [.int 0, .int p2, .ref h4, .ref h5])), (h3, .inl (κ 0, 13, .inl (fun _ => 0))), (h4, .inl (κ 3, 4, .inr (.inr (.inr (.inr (sel [h6, h7, h8, h9])))))), (h7, .inr (6, [.ref h12, .ref h13, .int 0]))]) hP hD hK hE9 hS hA [0, 1, 3, 4, 6] (by decide) rfl rfl rfl) rfl rfl hl.1 rfl (lv_room (Nat.le_of_ble_eq_true rfl)) dX1_reckon_48 ⟨(Nat.le_of_ble_eq_true rfl), (Nat.le_of_ble_eq_true rfl)⟩) hS (fun q _ h => hF q h) hF (fun u3 t H locs ht hvm hw hB hz1 hk1 hS => ?_)
  try dsimp only at hw hB
  obtain ⟨hP1, hD1⟩ := hB
  rw [ht] at hP1
  obtain ⟨hP, hD⟩ := post_j (ws' := [(h0, .inr (3, [.ref h1, .int 3, .int p0, .ref h2, .ref h3, .long 0, .int 0])), (h1, .inr (2, [.int 0, .int p2, .ref h4, .ref h5])), (h2, .inl (κ 0, 13, .inl (upd (upd (upd (upd (upd (upd (upd (upd (upd (upd (upd (upd (upd (fun _ => 0) 0 1000000) 1 1000000) 2 1000000) 3 1000000) 4 1000000) 5 1000000) 6 1000000) 7 1000000) 8 1000000) 9 1000000) 10 1000000) 11 1000000) 12 1000000))), (h3, .inl (κ 0, 13, .inl (fun _ => 0))), (h4, .inl (κ 3, 4, .inr (.inr (.inr (.inr (sel [h6, h7, h8, h9])))))), (h6, .inr (6, [.ref h10, .ref h11, .int 0])), (h7, .inr (6, [.ref h12, .ref h13, .int 0]))]) (wr := [(h2, .inl (κ 0, 13, .inl (upd (upd (upd (upd (upd (upd (upd (upd (upd (upd (upd (upd (upd (fun _ => 0) 0 1000000) 1 1000000) 2 1000000) 3 1000000) 4 1000000) 5 1000000) 6 1000000) 7 1000000) 8 1000000) 9 1000000) 10 1000000) 11 1000000) 12 1000000))), (h6, .inr (6, [.ref h10, .ref h11, .int 0]))]) (w1 := [(h0, .inr (3, [.ref h1, .int 3, .int p0, .ref h2, .ref h3, .long 0, .int 0])), (h1, .inr (2, [.int 0, .int p2, .ref h4, .ref h5])), (h3, .inl (κ 0, 13, .inl (fun _ => 0))), (h4, .inl (κ 3, 4, .inr (.inr (.inr (.inr (sel [h6, h7, h8, h9])))))), (h7, .inr (6, [.ref h12, .ref h13, .int 0]))]) hP hD hF [0, 1, 3, 4, 6] rfl [2, 5] rfl (by decide) (by decide) hk1 hP1 hD1 [2, 3, 0, 4, 5, 1, 6] (by decide) rfl
  have hP : va_P D vwCl [(h0, .inr (3, [.ref h1, .int 3, .int p0, .ref h2, .ref h3, .long 0, .int 0])), (h1, .inr (2, [.int 0, .int p2, .ref h4, .ref h5])), (h2, .inl (κ 0, 13, .inl (upd (upd (upd (upd (upd (upd (upd (upd (upd (upd (upd (upd (upd (fun _ => 0) 0 1000000) 1 1000000) 2 1000000) 3 1000000) 4 1000000) 5 1000000) 6 1000000) 7 1000000) 8 1000000) 9 1000000) 10 1000000) 11 1000000) 12 1000000))), (h3, .inl (κ 0, 13, .inl (fun _ => 0))), (h4, .inl (κ 3, 4, .inr (.inr (.inr (.inr (sel [h6, h7, h8, h9])))))), (h6, .inr (6, [.ref h10, .ref h11, .int 0])), (h7, .inr (6, [.ref h12, .ref h13, .int 0]))] H := hP
  have hD : va_D A [(h0, .inr (3, [.ref h1, .int 3, .int p0, .ref h2, .ref h3, .long 0, .int 0])), (h1, .inr (2, [.int 0, .int p2, .ref h4, .ref h5])), (h2, .inl (κ 0, 13, .inl (upd (upd (upd (upd (upd (upd (upd (upd (upd (upd (upd (upd (upd (fun _ => 0) 0 1000000) 1 1000000) 2 1000000) 3 1000000) 4 1000000) 5 1000000) 6 1000000) 7 1000000) 8 1000000) 9 1000000) 10 1000000) 11 1000000) 12 1000000))), (h3, .inl (κ 0, 13, .inl (fun _ => 0))), (h4, .inl (κ 3, 4, .inr (.inr (.inr (.inr (sel [h6, h7, h8, h9])))))), (h6, .inr (6, [.ref h10, .ref h11, .int 0])), (h7, .inr (6, [.ref h12, .ref h13, .int 0]))] := hD
  refine lv_iinc (v := 3) (lv' := [(3, .int 3), (0, .ref h0), (1, .int 2), (2, .int 0)]) hx hb dX1_reckon_51 hl (k := 0) rfl (by decide) (by decide) rfl (fun ls hl => ?_)
  refine lv_goto (tgt := 32) hx hb dX1_reckon_54 (by decide) ?_
  refine lv_iload_n hx hb dX1_reckon_32 rfl (lv_at hl 0 rfl) ?_
  refine lv_iload_n hx hb dX1_reckon_33 rfl (lv_at hl 2 rfl) ?_
  refine lv_icmp_gt (tgt := 57) hx hb dX1_reckon_34 (by decide) (fun _ => ?_) (fun h => absurd (by decide) h)
  have hP9 := hP
  have hD9 := hD
  exact W.vret hx hb hr (fun t ht hW => ⟨⟨(), rfl, trivial, by rw [ht]; exact hP9, hD9⟩, hS.F ht⟩) hS.2.2 dX1_reckon_57

set_option maxHeartbeats 4000000 in
set_option maxRecDepth 100000 in
theorem k_X5_sumOfCosts_4 (l : Launch) (D : va_G) (κ ε : Nat → Nat) (h0 h1 h2 h3 h4 h5 h6 h7 h8 h9 h10 h11 h12 h13 h14 h15 h16 h17 h18 : Nat) (sz : Nat) (p0 : Int32) (p1 : Int32) (p2 : Int32) (p3 : Int32) : Met l yX5_sumOfCosts wsX5_sumOfCosts ({ frames := 4, cells := 0, slots := 0, locals := 95 }) (va_Pc [.ref h0] (Pre2 D κ ε [(h0, .inr (7, [.ref h1, .ref h2, .ref h3, .ref h4, .ref h5, .ref h6, .int 0, .int p0, .int p1, .int 0])), (h1, .inr (2, [.int 0, .int 2, .ref h7, .ref h8])), (h2, .inr (3, [.ref h1, .int 3, .int p2, .ref h9, .ref h10, .long 0, .int p3])), (h7, .inl (κ 3, 4, .inr (.inr (.inr (.inr (sel [h11, h12, h13, h14])))))), (h9, .inl (κ 0, 13, .inl (fun _ => 0))), (h10, .inl (κ 0, 13, .inl (fun _ => 0))), (h11, .inr (6, [.ref h15, .ref h16, .int 0])), (h12, .inr (6, [.ref h17, .ref h18, .int 0]))] sz)) (va_Qi (fun r (u : Unit) => (r = 0)) (fun u t => va_P D vwCl [(h0, .inr (7, [.ref h1, .ref h2, .ref h3, .ref h4, .ref h5, .ref h6, .int 0, .int p0, .int p1, .int 0])), (h1, .inr (2, [.int 0, .int 2, .ref h7, .ref h8])), (h2, .inr (3, [.ref h1, .int 3, .int p2, .ref h9, .ref h10, .long 0, .int 0])), (h7, .inl (κ 3, 4, .inr (.inr (.inr (.inr (sel [h11, h12, h13, h14])))))), (h9, .inl (κ 0, 13, .inl (upd (upd (upd (upd (upd (upd (upd (upd (upd (upd (upd (upd (upd (fun _ => 0) 0 1000000) 1 1000000) 2 1000000) 3 1000000) 4 1000000) 5 1000000) 6 1000000) 7 1000000) 8 1000000) 9 1000000) 10 1000000) 11 1000000) 12 1000000))), (h10, .inl (κ 0, 13, .inl (fun _ => 0))), (h11, .inr (6, [.ref h15, .ref h16, .int 0])), (h12, .inr (6, [.ref h17, .ref h18, .int 0]))] t.heap ∧ va_D (va_A [(h0, .inr (7, [.ref h1, .ref h2, .ref h3, .ref h4, .ref h5, .ref h6, .int 0, .int p0, .int p1, .int 0])), (h1, .inr (2, [.int 0, .int 2, .ref h7, .ref h8])), (h2, .inr (3, [.ref h1, .int 3, .int p2, .ref h9, .ref h10, .long 0, .int p3])), (h7, .inl (κ 3, 4, .inr (.inr (.inr (.inr (sel [h11, h12, h13, h14])))))), (h9, .inl (κ 0, 13, .inl (fun _ => 0))), (h10, .inl (κ 0, 13, .inl (fun _ => 0))), (h11, .inr (6, [.ref h15, .ref h16, .int 0])), (h12, .inr (6, [.ref h17, .ref h18, .int 0]))] sz) [(h0, .inr (7, [.ref h1, .ref h2, .ref h3, .ref h4, .ref h5, .ref h6, .int 0, .int p0, .int p1, .int 0])), (h1, .inr (2, [.int 0, .int 2, .ref h7, .ref h8])), (h2, .inr (3, [.ref h1, .int 3, .int p2, .ref h9, .ref h10, .long 0, .int 0])), (h7, .inl (κ 3, 4, .inr (.inr (.inr (.inr (sel [h11, h12, h13, h14])))))), (h9, .inl (κ 0, 13, .inl (upd (upd (upd (upd (upd (upd (upd (upd (upd (upd (upd (upd (upd (fun _ => 0) 0 1000000) 1 1000000) 2 1000000) 3 1000000) 4 1000000) 5 1000000) 6 1000000) 7 1000000) 8 1000000) 9 1000000) 10 1000000) 11 1000000) 12 1000000))), (h10, .inl (κ 0, 13, .inl (fun _ => 0))), (h11, .inr (6, [.ref h15, .ref h16, .int 0])), (h12, .inr (6, [.ref h17, .ref h18, .int 0]))]) (va_A [(h0, .inr (7, [.ref h1, .ref h2, .ref h3, .ref h4, .ref h5, .ref h6, .int 0, .int p0, .int p1, .int 0])), (h1, .inr (2, [.int 0, .int 2, .ref h7, .ref h8])), (h2, .inr (3, [.ref h1, .int 3, .int p2, .ref h9, .ref h10, .long 0, .int p3])), (h7, .inl (κ 3, 4, .inr (.inr (.inr (.inr (sel [h11, h12, h13, h14])))))), (h9, .inl (κ 0, 13, .inl (fun _ => 0))), (h10, .inl (κ 0, 13, .inl (fun _ => 0))), (h11, .inr (6, [.ref h15, .ref h16, .int 0])), (h12, .inr (6, [.ref h17, .ref h18, .int 0]))] sz)) 0 0 (va_A [(h0, .inr (7, [.ref h1, .ref h2, .ref h3, .ref h4, .ref h5, .ref h6, .int 0, .int p0, .int p1, .int 0])), (h1, .inr (2, [.int 0, .int 2, .ref h7, .ref h8])), (h2, .inr (3, [.ref h1, .int 3, .int p2, .ref h9, .ref h10, .long 0, .int p3])), (h7, .inl (κ 3, 4, .inr (.inr (.inr (.inr (sel [h11, h12, h13, h14])))))), (h9, .inl (κ 0, 13, .inl (fun _ => 0))), (h10, .inl (κ 0, 13, .inl (fun _ => 0))), (h11, .inr (6, [.ref h15, .ref h16, .int 0])), (h12, .inr (6, [.ref h17, .ref h18, .int 0]))] sz) := by
  refine Met.ofW (cc := cX5_sumOfCosts) (maxL := 4) (ret := (some .int)) (by decide) rfl ?_
  intro p e s m args below meth c s₁ B hml hv
  obtain ⟨rfl, hsz, hP, hK, hD0, hE9⟩ := hv
  have hx := B.exec
  have hb := B.bytes
  have hr := B.returns
  have hts := atoms_spec (ws := wsX5_sumOfCosts) B.pre
  have hown : s.vm.findClass RX5 = some m.cls := findClass_of_methodNamed B.named
  have hlocks := B.notSynchronized
  subst hsz
  have hD := hD0.self (sz := s.heap.size)
  generalize hAe : va_A [(h0, .inr (7, [.ref h1, .ref h2, .ref h3, .ref h4, .ref h5, .ref h6, .int 0, .int p0, .int p1, .int 0])), (h1, .inr (2, [.int 0, .int 2, .ref h7, .ref h8])), (h2, .inr (3, [.ref h1, .int 3, .int p2, .ref h9, .ref h10, .long 0, .int p3])), (h7, .inl (κ 3, 4, .inr (.inr (.inr (.inr (sel [h11, h12, h13, h14])))))), (h9, .inl (κ 0, 13, .inl (fun _ => 0))), (h10, .inl (κ 0, 13, .inl (fun _ => 0))), (h11, .inr (6, [.ref h15, .ref h16, .int 0])), (h12, .inr (6, [.ref h17, .ref h18, .int 0]))] s.heap.size = A at hD hE9 ⊢
  have hE := hE9.1
  have hDc := hE9.2
  have hA : ∀ q : Nat, s.heap.size ≤ q → A q := fun q h => by rw [← hAe]; exact Or.inr h
  have hS : va_S A s.heap s.heap [] := va_S.rf
  have hP : va_P D vwCl [(h0, .inr (7, [.ref h1, .ref h2, .ref h3, .ref h4, .ref h5, .ref h6, .int 0, .int p0, .int p1, .int 0])), (h1, .inr (2, [.int 0, .int 2, .ref h7, .ref h8])), (h2, .inr (3, [.ref h1, .int 3, .int p2, .ref h9, .ref h10, .long 0, .int p3])), (h7, .inl (κ 3, 4, .inr (.inr (.inr (.inr (sel [h11, h12, h13, h14])))))), (h9, .inl (κ 0, 13, .inl (fun _ => 0))), (h10, .inl (κ 0, 13, .inl (fun _ => 0))), (h11, .inr (6, [.ref h15, .ref h16, .int 0])), (h12, .inr (6, [.ref h17, .ref h18, .int 0]))] s.heap := hP
  have hl := lv_entry [.ref h0] (n := 4) (Nat.le_of_ble_eq_true rfl)
  rw [lg_entry_eq]
  generalize (lg_sl [.ref h0] ++ List.replicate (4 - (lg_sl [.ref h0]).length) Slot.unset).toArray = ls at hl ⊢
  have hl : lv_has ls 4 [(0, .ref h0)] := hl
  refine lv_iconst (v := 0) hx hb dX5_sumOfCosts_0 (by decide) ?_
  refine lv_istore_n (lv' := [(1, .int 0), (0, .ref h0)]) hx hb dX5_sumOfCosts_1 rfl hl (by decide) rfl (fun ls hl => ?_)
  refine lv_iconst (v := 0) hx hb dX5_sumOfCosts_2 (by decide) ?_
  refine lv_istore_n (lv' := [(2, .int 0), (1, .int 0), (0, .ref h0)]) hx hb dX5_sumOfCosts_3 rfl hl (by decide) rfl (fun ls hl => ?_)
  refine lv_iload_n hx hb dX5_sumOfCosts_4 rfl (lv_at hl 0 rfl) ?_
  refine lv_aload_n hx hb dX5_sumOfCosts_5 rfl (lv_at hl 2 rfl) ?_
  refine va_get (D := D) (ci := 7) (v := .int 0) (C := RX5) (T := TX5) (N := 10) hx hb hts wi_X5_sumOfCosts_RX5 hown hK hP 0 rfl rfl 6 (by decide) (hts _ wd335_X5_sumOfCosts) (fun _ h9 => h9) rfl dX5_sumOfCosts_6 ?_
  refine lv_icmp_gt (tgt := 81) hx hb dX5_sumOfCosts_9 (by decide) (fun h => absurd h (by decide)) (fun _ => ?_)
  refine lv_aload_n hx hb dX5_sumOfCosts_12 rfl (lv_at hl 2 rfl) ?_
  refine va_get (D := D) (ci := 7) (v := .ref h2) (C := RX5) (T := TX5) (N := 10) hx hb hts wi_X5_sumOfCosts_RX5 hown hK hP 0 rfl rfl 1 (by decide) (hts _ wd336_X5_sumOfCosts) (fun _ h9 => h9) rfl dX5_sumOfCosts_13 ?_
  refine lv_aload_n hx hb dX5_sumOfCosts_16 rfl (lv_at hl 2 rfl) ?_
  refine va_get (D := D) (ci := 7) (v := .ref h1) (C := RX5) (T := TX5) (N := 10) hx hb hts wi_X5_sumOfCosts_RX5 hown hK hP 0 rfl rfl 0 (by decide) (hts _ wd337_X5_sumOfCosts) (fun _ h9 => h9) rfl dX5_sumOfCosts_17 ?_
  refine va_get (D := D) (ci := 2) (v := .int 2) (C := RX0) (T := TX0) (N := 4) hx hb hts wi_X5_sumOfCosts_RX0 hown hK hP 1 rfl rfl 1 (by decide) (hts _ wd338_X5_sumOfCosts) (fun _ h9 => h9) rfl dX5_sumOfCosts_20 ?_
  refine lv_aload_n hx hb dX5_sumOfCosts_23 rfl (lv_at hl 2 rfl) ?_
  refine lv_iload_n hx hb dX5_sumOfCosts_24 rfl (lv_at hl 0 rfl) ?_
  refine lv_iconst (v := 1) hx hb dX5_sumOfCosts_25 (by decide) ?_
  refine lv_isub hx hb dX5_sumOfCosts_26 ?_
  refine tpi (v := (-1)) (by decide) ?_
  refine lv_aload_n hx hb dX5_sumOfCosts_27 rfl (lv_at hl 2 rfl) ?_
  refine va_get (D := D) (ci := 7) (v := .ref h1) (C := RX5) (T := TX5) (N := 10) hx hb hts wi_X5_sumOfCosts_RX5 hown hK hP 0 rfl rfl 0 (by decide) (hts _ wd337_X5_sumOfCosts) (fun _ h9 => h9) rfl dX5_sumOfCosts_28 ?_
  refine va_get (D := D) (ci := 2) (v := .int 2) (C := RX0) (T := TX0) (N := 4) hx hb hts wi_X5_sumOfCosts_RX0 hown hK hP 1 rfl rfl 1 (by decide) (hts _ wd338_X5_sumOfCosts) (fun _ h9 => h9) rfl dX5_sumOfCosts_31 ?_
  refine lv_iconst (v := 1) hx hb dX5_sumOfCosts_34 (by decide) ?_
  refine lv_isub hx hb dX5_sumOfCosts_35 ?_
  refine tpi (v := 1) (by decide) ?_
  refine vp_callSi (W.runV (As := [.int (-1), .int 1]) (rest := [.int 2, .ref h2]) ⟨hx, hb, hml, hown, hts⟩ (k_X5_keyUpTo_2 l D κ ε h0 h1 h2 h3 h4 h5 h6 (0) (p0) (p1)) (cwV 2 hts gX5_sumOfCosts_X5_keyUpTo rfl rfl rfl (by decide +kernel) ⟨(Nat.le_of_ble_eq_true rfl), (Nat.le_of_ble_eq_true rfl)⟩) (pre0_V (q0 := 0) (ci := 7) (wc := [(h0, .inr (7, [.ref h1, .ref h2, .ref h3, .ref h4, .ref h5, .ref h6, .int 0, .int p0, .int p1, .int 0]))]) hP hK [0] rfl rfl rfl) rfl rfl hl.1 rfl (lv_room (Nat.le_of_ble_eq_true rfl)) dX5_sumOfCosts_36 ⟨(Nat.le_of_ble_eq_true rfl), (Nat.le_of_ble_eq_true rfl)⟩) (fun r hw => ?_)
  rw [hw]
  have hF := va_free (wc := [(h2, .inr (3, [.ref h1, .int 3, .int p2, .ref h9, .ref h10, .long 0, .int p3])), (h1, .inr (2, [.int 0, .int 2, .ref h7, .ref h8])), (h9, .inl (κ 0, 13, .inl (fun _ => 0))), (h10, .inl (κ 0, 13, .inl (fun _ => 0))), (h7, .inl (κ 3, 4, .inr (.inr (.inr (.inr (sel [h11, h12, h13, h14])))))), (h11, .inr (6, [.ref h15, .ref h16, .int 0])), (h12, .inr (6, [.ref h17, .ref h18, .int 0]))]) hD hS hA [2, 1, 4, 5, 3, 6, 7] rfl
  refine va_callv (va_runV (As := [.int 2, .int 0]) (rest := []) ⟨hx, hb, hml, hown, hts⟩ (k_X1_reckon_4 l D κ ε h2 h1 h9 h10 h7 h8 h11 h12 h13 h14 h15 h16 h17 h18 s.heap.size (p2) (p3) (2)) (cwV 2 hts gX5_sumOfCosts_X1_reckon rfl rfl rfl (by decide +kernel) ⟨(Nat.le_of_ble_eq_true rfl), (Nat.le_of_ble_eq_true rfl)⟩) (pre2_V (q0 := 2) (ci := 3) (wc := [(h2, .inr (3, [.ref h1, .int 3, .int p2, .ref h9, .ref h10, .long 0, .int p3])), (h1, .inr (2, [.int 0, .int 2, .ref h7, .ref h8])), (h9, .inl (κ 0, 13, .inl (fun _ => 0))), (h10, .inl (κ 0, 13, .inl (fun _ => 0))), (h7, .inl (κ 3, 4, .inr (.inr (.inr (.inr (sel [h11, h12, h13, h14])))))), (h11, .inr (6, [.ref h15, .ref h16, .int 0])), (h12, .inr (6, [.ref h17, .ref h18, .int 0]))]) hP hD hK hE9 hS hA [2, 1, 4, 5, 3, 6, 7] (by decide) rfl rfl rfl) rfl rfl hl.1 rfl (lv_room (Nat.le_of_ble_eq_true rfl)) dX5_sumOfCosts_39 ⟨(Nat.le_of_ble_eq_true rfl), (Nat.le_of_ble_eq_true rfl)⟩) hS (fun q _ h => hF q h) hF (fun u1 t H locs ht hvm hw hB hz1 hk1 hS => ?_)
  try dsimp only at hw hB
  obtain ⟨hP1, hD1⟩ := hB
  rw [ht] at hP1
  obtain ⟨hP, hD⟩ := post_j (ws' := [(h0, .inr (7, [.ref h1, .ref h2, .ref h3, .ref h4, .ref h5, .ref h6, .int 0, .int p0, .int p1, .int 0])), (h1, .inr (2, [.int 0, .int 2, .ref h7, .ref h8])), (h2, .inr (3, [.ref h1, .int 3, .int p2, .ref h9, .ref h10, .long 0, .int 0])), (h7, .inl (κ 3, 4, .inr (.inr (.inr (.inr (sel [h11, h12, h13, h14])))))), (h9, .inl (κ 0, 13, .inl (upd (upd (upd (upd (upd (upd (upd (upd (upd (upd (upd (upd (upd (fun _ => 0) 0 1000000) 1 1000000) 2 1000000) 3 1000000) 4 1000000) 5 1000000) 6 1000000) 7 1000000) 8 1000000) 9 1000000) 10 1000000) 11 1000000) 12 1000000))), (h10, .inl (κ 0, 13, .inl (fun _ => 0))), (h11, .inr (6, [.ref h15, .ref h16, .int 0])), (h12, .inr (6, [.ref h17, .ref h18, .int 0]))]) (wr := [(h0, .inr (7, [.ref h1, .ref h2, .ref h3, .ref h4, .ref h5, .ref h6, .int 0, .int p0, .int p1, .int 0]))]) (w1 := [(h2, .inr (3, [.ref h1, .int 3, .int p2, .ref h9, .ref h10, .long 0, .int 0])), (h1, .inr (2, [.int 0, .int 2, .ref h7, .ref h8])), (h9, .inl (κ 0, 13, .inl (upd (upd (upd (upd (upd (upd (upd (upd (upd (upd (upd (upd (upd (fun _ => 0) 0 1000000) 1 1000000) 2 1000000) 3 1000000) 4 1000000) 5 1000000) 6 1000000) 7 1000000) 8 1000000) 9 1000000) 10 1000000) 11 1000000) 12 1000000))), (h10, .inl (κ 0, 13, .inl (fun _ => 0))), (h7, .inl (κ 3, 4, .inr (.inr (.inr (.inr (sel [h11, h12, h13, h14])))))), (h11, .inr (6, [.ref h15, .ref h16, .int 0])), (h12, .inr (6, [.ref h17, .ref h18, .int 0]))]) hP hD hF [2, 1, 4, 5, 3, 6, 7] rfl [0] rfl (by decide) (by decide) hk1 hP1 hD1 [0, 2, 1, 5, 3, 4, 6, 7] (by decide) rfl
  have hP : va_P D vwCl [(h0, .inr (7, [.ref h1, .ref h2, .ref h3, .ref h4, .ref h5, .ref h6, .int 0, .int p0, .int p1, .int 0])), (h1, .inr (2, [.int 0, .int 2, .ref h7, .ref h8])), (h2, .inr (3, [.ref h1, .int 3, .int p2, .ref h9, .ref h10, .long 0, .int 0])), (h7, .inl (κ 3, 4, .inr (.inr (.inr (.inr (sel [h11, h12, h13, h14])))))), (h9, .inl (κ 0, 13, .inl (upd (upd (upd (upd (upd (upd (upd (upd (upd (upd (upd (upd (upd (fun _ => 0) 0 1000000) 1 1000000) 2 1000000) 3 1000000) 4 1000000) 5 1000000) 6 1000000) 7 1000000) 8 1000000) 9 1000000) 10 1000000) 11 1000000) 12 1000000))), (h10, .inl (κ 0, 13, .inl (fun _ => 0))), (h11, .inr (6, [.ref h15, .ref h16, .int 0])), (h12, .inr (6, [.ref h17, .ref h18, .int 0]))] H := hP
  have hD : va_D A [(h0, .inr (7, [.ref h1, .ref h2, .ref h3, .ref h4, .ref h5, .ref h6, .int 0, .int p0, .int p1, .int 0])), (h1, .inr (2, [.int 0, .int 2, .ref h7, .ref h8])), (h2, .inr (3, [.ref h1, .int 3, .int p2, .ref h9, .ref h10, .long 0, .int 0])), (h7, .inl (κ 3, 4, .inr (.inr (.inr (.inr (sel [h11, h12, h13, h14])))))), (h9, .inl (κ 0, 13, .inl (upd (upd (upd (upd (upd (upd (upd (upd (upd (upd (upd (upd (upd (fun _ => 0) 0 1000000) 1 1000000) 2 1000000) 3 1000000) 4 1000000) 5 1000000) 6 1000000) 7 1000000) 8 1000000) 9 1000000) 10 1000000) 11 1000000) 12 1000000))), (h10, .inl (κ 0, 13, .inl (fun _ => 0))), (h11, .inr (6, [.ref h15, .ref h16, .int 0])), (h12, .inr (6, [.ref h17, .ref h18, .int 0]))] := hD
  refine lv_aload_n hx hb dX5_sumOfCosts_42 rfl (lv_at hl 2 rfl) ?_
  refine lv_iload_n hx hb dX5_sumOfCosts_43 rfl (lv_at hl 0 rfl) ?_
  refine vp_callSi (W.runV (As := [.int 0]) (rest := []) ⟨hx, hb, hml, hown, hts⟩ (k_X5_digitAt_0 l D κ ε h0 h1 h2 h3 h4 h5 h6 h7 h8 (p0) (p1) (2)) (cwV 1 hts gX5_sumOfCosts_X5_digitAt rfl rfl rfl (by decide +kernel) ⟨(Nat.le_of_ble_eq_true rfl), (Nat.le_of_ble_eq_true rfl)⟩) (pre0_V (q0 := 0) (ci := 7) (wc := [(h0, .inr (7, [.ref h1, .ref h2, .ref h3, .ref h4, .ref h5, .ref h6, .int 0, .int p0, .int p1, .int 0])), (h1, .inr (2, [.int 0, .int 2, .ref h7, .ref h8]))]) hP hK [0, 1] rfl rfl rfl) rfl rfl hl.1 rfl (lv_room (Nat.le_of_ble_eq_true rfl)) dX5_sumOfCosts_44 ⟨(Nat.le_of_ble_eq_true rfl), (Nat.le_of_ble_eq_true rfl)⟩) (fun r hw => ?_)
  rw [hw]
  refine lv_iconst (v := 1) hx hb dX5_sumOfCosts_47 (by decide) ?_
  refine lv_isub hx hb dX5_sumOfCosts_48 ?_
  refine tpi (v := 0) (by decide) ?_
  refine lv_istore_n (lv' := [(3, .int 0), (2, .int 0), (1, .int 0), (0, .ref h0)]) hx hb dX5_sumOfCosts_49 rfl hl (by decide) rfl (fun ls hl => ?_)
  refine lv_iload_n hx hb dX5_sumOfCosts_50 rfl (lv_at hl 0 rfl) ?_
  refine lv_if_lt (tgt := 75) hx hb dX5_sumOfCosts_51 (by decide) (fun h => absurd h (by decide)) (fun _ => ?_)
  refine lv_iload_n hx hb dX5_sumOfCosts_54 rfl (lv_at hl 0 rfl) ?_
  refine lv_bipush (v := 12) hx hb dX5_sumOfCosts_55 (by decide) ?_
  refine lv_icmp_gt (tgt := 75) hx hb dX5_sumOfCosts_57 (by decide) (fun h => absurd h (by decide)) (fun _ => ?_)
  refine lv_iload_n hx hb dX5_sumOfCosts_60 rfl (lv_at hl 2 rfl) ?_
  refine lv_aload_n hx hb dX5_sumOfCosts_61 rfl (lv_at hl 3 rfl) ?_
  refine va_get (D := D) (ci := 7) (v := .ref h2) (C := RX5) (T := TX5) (N := 10) hx hb hts wi_X5_sumOfCosts_RX5 hown hK hP 0 rfl rfl 1 (by decide) (hts _ wd336_X5_sumOfCosts) (fun _ h9 => h9) rfl dX5_sumOfCosts_62 ?_
  refine va_get (D := D) (ci := 3) (v := .ref h9) (C := RX1) (T := TX1) (N := 7) hx hb hts wi_X5_sumOfCosts_RX1 hown hK hP 2 rfl rfl 3 (by decide) (hts _ wd339_X5_sumOfCosts) (fun _ h9 => h9) rfl dX5_sumOfCosts_65 ?_
  refine lv_iload_n hx hb dX5_sumOfCosts_68 rfl (lv_at hl 0 rfl) ?_
  refine va_iald (cA := κ 0) (n := 13) (f := (upd (upd (upd (upd (upd (upd (upd (upd (upd (upd (upd (upd (upd (fun _ => 0) 0 1000000) 1 1000000) 2 1000000) 3 1000000) 4 1000000) 5 1000000) 6 1000000) 7 1000000) 8 1000000) 9 1000000) 10 1000000) 11 1000000) 12 1000000)) hx hb hK hP 4 0 rfl rfl (vpl (by decide)) dX5_sumOfCosts_69 ?_
  refine tpi (v := 1000000) (by decide) ?_
  refine vp_callSi (W.runS (As := [.int 1000000]) (rest := [.int 0]) ⟨hx, hb, hml, hown, hts⟩ (k_X5_cost_1 l D κ ε) (va_cwS 1 hts gX5_sumOfCosts_X5_cost rfl rfl rfl (by decide +kernel) ⟨(Nat.le_of_ble_eq_true rfl), (Nat.le_of_ble_eq_true rfl)⟩) (pre0_S (wc := []) hP hK [] rfl) rfl rfl hl.1 rfl (lv_room (Nat.le_of_ble_eq_true rfl)) dX5_sumOfCosts_70 ⟨(Nat.le_of_ble_eq_true rfl), (Nat.le_of_ble_eq_true rfl)⟩) (fun r hw => ?_)
  rw [hw]
  refine lv_iadd hx hb dX5_sumOfCosts_73 ?_
  refine tpi (v := 0) (by decide) ?_
  refine lv_istore_n (lv' := [(1, .int 0), (3, .int 0), (2, .int 0), (0, .ref h0)]) hx hb dX5_sumOfCosts_74 rfl hl (by decide) rfl (fun ls hl => ?_)
  refine lv_iinc (v := 1) (lv' := [(2, .int 1), (1, .int 0), (3, .int 0), (0, .ref h0)]) hx hb dX5_sumOfCosts_75 hl (k := 2) rfl (by decide) (by decide) rfl (fun ls hl => ?_)
  refine lv_goto (tgt := 4) hx hb dX5_sumOfCosts_78 (by decide) ?_
  refine lv_iload_n hx hb dX5_sumOfCosts_4 rfl (lv_at hl 0 rfl) ?_
  refine lv_aload_n hx hb dX5_sumOfCosts_5 rfl (lv_at hl 3 rfl) ?_
  refine va_get (D := D) (ci := 7) (v := .int 0) (C := RX5) (T := TX5) (N := 10) hx hb hts wi_X5_sumOfCosts_RX5 hown hK hP 0 rfl rfl 6 (by decide) (hts _ wd335_X5_sumOfCosts) (fun _ h9 => h9) rfl dX5_sumOfCosts_6 ?_
  refine lv_icmp_gt (tgt := 81) hx hb dX5_sumOfCosts_9 (by decide) (fun _ => ?_) (fun h => absurd (by decide) h)
  refine lv_iload_n hx hb dX5_sumOfCosts_81 rfl (lv_at hl 1 rfl) ?_
  have hP9 := hP
  have hD9 := hD
  exact W.iret (v := 0) hx hb hr (fun t ht hW => ⟨⟨0, (), rfl, rfl, by rw [ht]; exact hP9, hD9⟩, hS.F ht⟩) hS.2.2 dX5_sumOfCosts_82

set_option maxHeartbeats 4000000 in
set_option maxRecDepth 100000 in
theorem k_X5_scoreBy_3 (l : Launch) (hst : l.stackTraces = false) (D : va_G) (κ ε : Nat → Nat) (h0 h1 h2 h3 h4 h5 h6 h7 h8 h9 h10 h11 h12 h13 h14 h15 h16 h17 h18 : Nat) (sz : Nat) (p0 : Int32) : vx_Met l yX5_scoreBy wsX5_scoreBy ({ frames := 6, cells := 1, slots := 6, locals := 120 }) (va_Pc [.ref h0, .int 3, .int p0] (Pre2 D κ ε [(h0, .inr (7, [.ref h1, .ref h2, .ref h3, .ref h4, .ref h5, .ref h6, .int 0, .int 0, .int 0, .int 0])), (h1, .inr (2, [.int 0, .int 2, .ref h7, .ref h8])), (h2, .inr (3, [.ref h1, .int 0, .int 500, .ref h9, .ref h10, .long 0, .int 0])), (h7, .inl (κ 3, 4, .inr (.inr (.inr (.inr (sel [h11, h12, h13, h14])))))), (h9, .inl (κ 0, 13, .inl (fun _ => 0))), (h10, .inl (κ 0, 13, .inl (fun _ => 0))), (h11, .inr (6, [.ref h15, .ref h16, .int 0])), (h12, .inr (6, [.ref h17, .ref h18, .int 0]))] sz)) (va_Qi (fun r (u : Unit) => (¬ p0 < 1) ∧ (¬ 1000 < p0) ∧ (r = 0)) (fun _ _ => True) (va_A [(h0, .inr (7, [.ref h1, .ref h2, .ref h3, .ref h4, .ref h5, .ref h6, .int 0, .int 0, .int 0, .int 0])), (h1, .inr (2, [.int 0, .int 2, .ref h7, .ref h8])), (h2, .inr (3, [.ref h1, .int 0, .int 500, .ref h9, .ref h10, .long 0, .int 0])), (h7, .inl (κ 3, 4, .inr (.inr (.inr (.inr (sel [h11, h12, h13, h14])))))), (h9, .inl (κ 0, 13, .inl (fun _ => 0))), (h10, .inl (κ 0, 13, .inl (fun _ => 0))), (h11, .inr (6, [.ref h15, .ref h16, .int 0])), (h12, .inr (6, [.ref h17, .ref h18, .int 0]))] sz)) (vx_X (fun _ : Unit => True) (fun E _ _ => ((p0 < 1) ∧ E = "java/lang/IllegalArgumentException") ∨ ((¬ p0 < 1) ∧ (1000 < p0) ∧ E = "java/lang/IllegalArgumentException")) (va_A [(h0, .inr (7, [.ref h1, .ref h2, .ref h3, .ref h4, .ref h5, .ref h6, .int 0, .int 0, .int 0, .int 0])), (h1, .inr (2, [.int 0, .int 2, .ref h7, .ref h8])), (h2, .inr (3, [.ref h1, .int 0, .int 500, .ref h9, .ref h10, .long 0, .int 0])), (h7, .inl (κ 3, 4, .inr (.inr (.inr (.inr (sel [h11, h12, h13, h14])))))), (h9, .inl (κ 0, 13, .inl (fun _ => 0))), (h10, .inl (κ 0, 13, .inl (fun _ => 0))), (h11, .inr (6, [.ref h15, .ref h16, .int 0])), (h12, .inr (6, [.ref h17, .ref h18, .int 0]))] sz)) 1 6 (va_A [(h0, .inr (7, [.ref h1, .ref h2, .ref h3, .ref h4, .ref h5, .ref h6, .int 0, .int 0, .int 0, .int 0])), (h1, .inr (2, [.int 0, .int 2, .ref h7, .ref h8])), (h2, .inr (3, [.ref h1, .int 0, .int 500, .ref h9, .ref h10, .long 0, .int 0])), (h7, .inl (κ 3, 4, .inr (.inr (.inr (.inr (sel [h11, h12, h13, h14])))))), (h9, .inl (κ 0, 13, .inl (fun _ => 0))), (h10, .inl (κ 0, 13, .inl (fun _ => 0))), (h11, .inr (6, [.ref h15, .ref h16, .int 0])), (h12, .inr (6, [.ref h17, .ref h18, .int 0]))] sz) := by
  refine vx_ofW (cc := cX5_scoreBy) (maxL := 6) (ret := (some .int)) (by decide) rfl ?_
  intro p e s m args below meth c s₁ B hml hnx hv
  obtain ⟨rfl, hsz, hP, hK, hD0, hE9⟩ := hv
  have hx := B.exec
  have hb := B.bytes
  have hr := B.returns
  have hts := atoms_spec (ws := wsX5_scoreBy) B.pre
  have hown : s.vm.findClass RX5 = some m.cls := findClass_of_methodNamed B.named
  have hlocks := B.notSynchronized
  subst hsz
  have hD := hD0.self (sz := s.heap.size)
  generalize hAe : va_A [(h0, .inr (7, [.ref h1, .ref h2, .ref h3, .ref h4, .ref h5, .ref h6, .int 0, .int 0, .int 0, .int 0])), (h1, .inr (2, [.int 0, .int 2, .ref h7, .ref h8])), (h2, .inr (3, [.ref h1, .int 0, .int 500, .ref h9, .ref h10, .long 0, .int 0])), (h7, .inl (κ 3, 4, .inr (.inr (.inr (.inr (sel [h11, h12, h13, h14])))))), (h9, .inl (κ 0, 13, .inl (fun _ => 0))), (h10, .inl (κ 0, 13, .inl (fun _ => 0))), (h11, .inr (6, [.ref h15, .ref h16, .int 0])), (h12, .inr (6, [.ref h17, .ref h18, .int 0]))] s.heap.size = A at hD hE9 ⊢
  have hE := hE9.1
  have hDc := hE9.2
  have hA : ∀ q : Nat, s.heap.size ≤ q → A q := fun q h => by rw [← hAe]; exact Or.inr h
  have hS : va_S A s.heap s.heap [] := va_S.rf
  have hP : va_P D vwCl [(h0, .inr (7, [.ref h1, .ref h2, .ref h3, .ref h4, .ref h5, .ref h6, .int 0, .int 0, .int 0, .int 0])), (h1, .inr (2, [.int 0, .int 2, .ref h7, .ref h8])), (h2, .inr (3, [.ref h1, .int 0, .int 500, .ref h9, .ref h10, .long 0, .int 0])), (h7, .inl (κ 3, 4, .inr (.inr (.inr (.inr (sel [h11, h12, h13, h14])))))), (h9, .inl (κ 0, 13, .inl (fun _ => 0))), (h10, .inl (κ 0, 13, .inl (fun _ => 0))), (h11, .inr (6, [.ref h15, .ref h16, .int 0])), (h12, .inr (6, [.ref h17, .ref h18, .int 0]))] s.heap := hP
  have hl := lv_entry [.ref h0, .int 3, .int p0] (n := 6) (Nat.le_of_ble_eq_true rfl)
  rw [lg_entry_eq]
  generalize (lg_sl [.ref h0, .int 3, .int p0] ++ List.replicate (6 - (lg_sl [.ref h0, .int 3, .int p0]).length) Slot.unset).toArray = ls at hl ⊢
  have hl : lv_has ls 6 [(0, .ref h0), (1, .int 3), (2, .int p0)] := hl
  refine lv_iload_n hx hb dX5_scoreBy_0 rfl (lv_at hl 1 rfl) ?_
  refine lv_iload_n hx hb dX5_scoreBy_1 rfl (lv_at hl 2 rfl) ?_
  refine vp_callSi (W.runS (As := [.int 3, .int p0]) (rest := []) ⟨hx, hb, hml, hown, hts⟩ (k_X5_isWay_4 l D κ ε (p0)) (va_cwS 2 hts gX5_scoreBy_X5_isWay rfl rfl rfl (by decide +kernel) ⟨(Nat.le_of_ble_eq_true rfl), (Nat.le_of_ble_eq_true rfl)⟩) (pre0_S (wc := []) hP hK [] rfl) rfl rfl hl.1 rfl (lv_room (Nat.le_of_ble_eq_true rfl)) dX5_scoreBy_2 ⟨(Nat.le_of_ble_eq_true rfl), (Nat.le_of_ble_eq_true rfl)⟩) (fun r hw => ?_)
  rcases hw with ⟨c1, rfl⟩ | ⟨c2, c3, rfl⟩ | ⟨c4, c5, rfl⟩
  · skip
    refine lv_if_ne (tgt := 18) hx hb dX5_scoreBy_5 (by decide) (fun h => absurd (by decide) h) (fun _ => ?_)
    exact vx_throwS (names := ["java/lang/RuntimeException", "java/lang/Exception"]) (sa := ε 25) hx hb hst hown (by decide +kernel) (by decide +kernel) (hts _ wd420_X5_scoreBy) (hts _ wd421_X5_scoreBy) (hE.2.2.2.2.2.2.1 _ (List.mem_of_getElem? (i := 15) rfl)) (vx_hat (B := [.castable "java/lang/IllegalArgumentException" "java/lang/IllegalArgumentException", .declares (Bundle.initS "java/lang/RuntimeException"), .declares (Bundle.initS "java/lang/Exception"), .declares (Bundle.initS "java/lang/Throwable")]) (fun w hw => hts w (at1_X5_scoreBy_82 w hw)) at2_RX5_82 (vx_c (va_Nw.use rfl hE.2.2.2.2.2.2.2.2.2.2.2.2.2.2.1) (vx_c (va_Nw.use rfl hDc.1) (vx_c (va_Nw.use rfl hDc.2.1) (vx_c (va_Nw.use rfl hDc.2.2) vx_n))))) at2_RX5_82g hE.1 hE.2.1 hS (by rw [hml]; exact hl.1) dX5_scoreBy_8 dX5_scoreBy_11 dX5_scoreBy_12 dX5_scoreBy_14 dX5_scoreBy_17 (fun x hx => (hnx x hx).elim) (by decide) (by decide) (Nat.le_of_ble_eq_true rfl) (Nat.le_of_ble_eq_true rfl) hlocks (fun t _ h1 h2 => ⟨(), trivial, (Or.inl ⟨c1, rfl⟩), thF (H0 := s.heap) hS h1 h2⟩) hS.2.2 (Nat.le_of_ble_eq_true rfl) (Nat.le_of_ble_eq_true rfl)
  · skip
    refine lv_if_ne (tgt := 18) hx hb dX5_scoreBy_5 (by decide) (fun h => absurd (by decide) h) (fun _ => ?_)
    exact vx_throwS (names := ["java/lang/RuntimeException", "java/lang/Exception"]) (sa := ε 25) hx hb hst hown (by decide +kernel) (by decide +kernel) (hts _ wd420_X5_scoreBy) (hts _ wd421_X5_scoreBy) (hE.2.2.2.2.2.2.1 _ (List.mem_of_getElem? (i := 15) rfl)) (vx_hat (B := [.castable "java/lang/IllegalArgumentException" "java/lang/IllegalArgumentException", .declares (Bundle.initS "java/lang/RuntimeException"), .declares (Bundle.initS "java/lang/Exception"), .declares (Bundle.initS "java/lang/Throwable")]) (fun w hw => hts w (at1_X5_scoreBy_82 w hw)) at2_RX5_82 (vx_c (va_Nw.use rfl hE.2.2.2.2.2.2.2.2.2.2.2.2.2.2.1) (vx_c (va_Nw.use rfl hDc.1) (vx_c (va_Nw.use rfl hDc.2.1) (vx_c (va_Nw.use rfl hDc.2.2) vx_n))))) at2_RX5_82g hE.1 hE.2.1 hS (by rw [hml]; exact hl.1) dX5_scoreBy_8 dX5_scoreBy_11 dX5_scoreBy_12 dX5_scoreBy_14 dX5_scoreBy_17 (fun x hx => (hnx x hx).elim) (by decide) (by decide) (Nat.le_of_ble_eq_true rfl) (Nat.le_of_ble_eq_true rfl) hlocks (fun t _ h1 h2 => ⟨(), trivial, (Or.inr ⟨c2, c3, rfl⟩), thF (H0 := s.heap) hS h1 h2⟩) hS.2.2 (Nat.le_of_ble_eq_true rfl) (Nat.le_of_ble_eq_true rfl)
  · skip
    refine lv_if_ne (tgt := 18) hx hb dX5_scoreBy_5 (by decide) (fun _ => ?_) (fun h => absurd h (by decide))
    refine lv_aload_n hx hb dX5_scoreBy_18 rfl (lv_at hl 0 rfl) ?_
    refine va_get (D := D) (ci := 7) (v := .ref h2) (C := RX5) (T := TX5) (N := 10) hx hb hts wi_X5_scoreBy_RX5 hown hK hP 0 rfl rfl 1 (by decide) (hts _ wd422_X5_scoreBy) (fun _ h9 => h9) rfl dX5_scoreBy_19 ?_
    refine va_get (D := D) (ci := 3) (v := .int 0) (C := RX1) (T := TX1) (N := 7) hx hb hts wi_X5_scoreBy_RX1 hown hK hP 2 rfl rfl 1 (by decide) (hts _ wd423_X5_scoreBy) (fun _ h9 => h9) rfl dX5_scoreBy_22 ?_
    refine lv_istore_n (lv' := [(3, .int 0), (0, .ref h0), (1, .int 3), (2, .int p0)]) hx hb dX5_scoreBy_25 rfl hl (by decide) rfl (fun ls hl => ?_)
    refine lv_aload_n hx hb dX5_scoreBy_26 rfl (lv_at hl 1 rfl) ?_
    refine va_get (D := D) (ci := 7) (v := .ref h2) (C := RX5) (T := TX5) (N := 10) hx hb hts wi_X5_scoreBy_RX5 hown hK hP 0 rfl rfl 1 (by decide) (hts _ wd422_X5_scoreBy) (fun _ h9 => h9) rfl dX5_scoreBy_27 ?_
    refine va_get (D := D) (ci := 3) (v := .int 500) (C := RX1) (T := TX1) (N := 7) hx hb hts wi_X5_scoreBy_RX1 hown hK hP 2 rfl rfl 2 (by decide) (hts _ wd424_X5_scoreBy) (fun _ h9 => h9) rfl dX5_scoreBy_30 ?_
    refine lv_istore (lv' := [(4, .int 500), (3, .int 0), (0, .ref h0), (1, .int 3), (2, .int p0)]) hx hb dX5_scoreBy_33 hl (by decide) rfl (fun ls hl => ?_)
    refine lv_aload_n hx hb dX5_scoreBy_35 rfl (lv_at hl 2 rfl) ?_
    refine va_get (D := D) (ci := 7) (v := .ref h2) (C := RX5) (T := TX5) (N := 10) hx hb hts wi_X5_scoreBy_RX5 hown hK hP 0 rfl rfl 1 (by decide) (hts _ wd422_X5_scoreBy) (fun _ h9 => h9) rfl dX5_scoreBy_36 ?_
    refine lv_iload_n hx hb dX5_scoreBy_39 rfl (lv_at hl 3 rfl) ?_
    refine va_put (D := D) (ci := 3) (v := .int 3) (ty := .int) (C := RX1) (T := TX1) (N := 7) hx hb hts wi_X5_scoreBy_RX1 tyX1 tyX1_ok nmX1 hown hK hP hD hS 2 rfl rfl 1 (by decide) (hts _ wd423_X5_scoreBy) (fun _ h9 => h9) rfl (by decide +kernel) rfl rfl (Nat.le_of_ble_eq_true rfl) dX5_scoreBy_40 (fun H locs hP hD hS => ?_)
    have hP : va_P D vwCl [(h0, .inr (7, [.ref h1, .ref h2, .ref h3, .ref h4, .ref h5, .ref h6, .int 0, .int 0, .int 0, .int 0])), (h1, .inr (2, [.int 0, .int 2, .ref h7, .ref h8])), (h2, .inr (3, [.ref h1, .int 3, .int 500, .ref h9, .ref h10, .long 0, .int 0])), (h7, .inl (κ 3, 4, .inr (.inr (.inr (.inr (sel [h11, h12, h13, h14])))))), (h9, .inl (κ 0, 13, .inl (fun _ => 0))), (h10, .inl (κ 0, 13, .inl (fun _ => 0))), (h11, .inr (6, [.ref h15, .ref h16, .int 0])), (h12, .inr (6, [.ref h17, .ref h18, .int 0]))] H := hP
    have hD : va_D A [(h0, .inr (7, [.ref h1, .ref h2, .ref h3, .ref h4, .ref h5, .ref h6, .int 0, .int 0, .int 0, .int 0])), (h1, .inr (2, [.int 0, .int 2, .ref h7, .ref h8])), (h2, .inr (3, [.ref h1, .int 3, .int 500, .ref h9, .ref h10, .long 0, .int 0])), (h7, .inl (κ 3, 4, .inr (.inr (.inr (.inr (sel [h11, h12, h13, h14])))))), (h9, .inl (κ 0, 13, .inl (fun _ => 0))), (h10, .inl (κ 0, 13, .inl (fun _ => 0))), (h11, .inr (6, [.ref h15, .ref h16, .int 0])), (h12, .inr (6, [.ref h17, .ref h18, .int 0]))] := hD
    refine lv_aload_n hx hb dX5_scoreBy_43 rfl (lv_at hl 2 rfl) ?_
    refine va_get (D := D) (ci := 7) (v := .ref h2) (C := RX5) (T := TX5) (N := 10) hx hb hts wi_X5_scoreBy_RX5 hown hK hP 0 rfl rfl 1 (by decide) (hts _ wd422_X5_scoreBy) (fun _ h9 => h9) rfl dX5_scoreBy_44 ?_
    refine lv_iload_n hx hb dX5_scoreBy_47 rfl (lv_at hl 4 rfl) ?_
    refine va_put (D := D) (ci := 3) (v := .int p0) (ty := .int) (C := RX1) (T := TX1) (N := 7) hx hb hts wi_X5_scoreBy_RX1 tyX1 tyX1_ok nmX1 hown hK hP hD hS 2 rfl rfl 2 (by decide) (hts _ wd424_X5_scoreBy) (fun _ h9 => h9) rfl (by decide +kernel) rfl rfl (Nat.le_of_ble_eq_true rfl) dX5_scoreBy_48 (fun H locs hP hD hS => ?_)
    have hP : va_P D vwCl [(h0, .inr (7, [.ref h1, .ref h2, .ref h3, .ref h4, .ref h5, .ref h6, .int 0, .int 0, .int 0, .int 0])), (h1, .inr (2, [.int 0, .int 2, .ref h7, .ref h8])), (h2, .inr (3, [.ref h1, .int 3, .int p0, .ref h9, .ref h10, .long 0, .int 0])), (h7, .inl (κ 3, 4, .inr (.inr (.inr (.inr (sel [h11, h12, h13, h14])))))), (h9, .inl (κ 0, 13, .inl (fun _ => 0))), (h10, .inl (κ 0, 13, .inl (fun _ => 0))), (h11, .inr (6, [.ref h15, .ref h16, .int 0])), (h12, .inr (6, [.ref h17, .ref h18, .int 0]))] H := hP
    have hD : va_D A [(h0, .inr (7, [.ref h1, .ref h2, .ref h3, .ref h4, .ref h5, .ref h6, .int 0, .int 0, .int 0, .int 0])), (h1, .inr (2, [.int 0, .int 2, .ref h7, .ref h8])), (h2, .inr (3, [.ref h1, .int 3, .int p0, .ref h9, .ref h10, .long 0, .int 0])), (h7, .inl (κ 3, 4, .inr (.inr (.inr (.inr (sel [h11, h12, h13, h14])))))), (h9, .inl (κ 0, 13, .inl (fun _ => 0))), (h10, .inl (κ 0, 13, .inl (fun _ => 0))), (h11, .inr (6, [.ref h15, .ref h16, .int 0])), (h12, .inr (6, [.ref h17, .ref h18, .int 0]))] := hD
    refine lv_aload_n hx hb dX5_scoreBy_51 rfl (lv_at hl 2 rfl) ?_
    have hF := va_free (wc := [(h0, .inr (7, [.ref h1, .ref h2, .ref h3, .ref h4, .ref h5, .ref h6, .int 0, .int 0, .int 0, .int 0])), (h1, .inr (2, [.int 0, .int 2, .ref h7, .ref h8])), (h2, .inr (3, [.ref h1, .int 3, .int p0, .ref h9, .ref h10, .long 0, .int 0])), (h7, .inl (κ 3, 4, .inr (.inr (.inr (.inr (sel [h11, h12, h13, h14])))))), (h9, .inl (κ 0, 13, .inl (fun _ => 0))), (h10, .inl (κ 0, 13, .inl (fun _ => 0))), (h11, .inr (6, [.ref h15, .ref h16, .int 0])), (h12, .inr (6, [.ref h17, .ref h18, .int 0]))]) hD hS hA [0, 1, 2, 3, 4, 5, 6, 7] rfl
    refine va_calli (va_runV (As := []) (rest := []) ⟨hx, hb, hml, hown, hts⟩ (k_X5_sumOfCosts_4 l D κ ε h0 h1 h2 h3 h4 h5 h6 h7 h8 h9 h10 h11 h12 h13 h14 h15 h16 h17 h18 H.size (0) (0) (p0) (0)) (cwV 0 hts gX5_scoreBy_X5_sumOfCosts rfl rfl rfl (by decide +kernel) ⟨(Nat.le_of_ble_eq_true rfl), (Nat.le_of_ble_eq_true rfl)⟩) (pre2_V (q0 := 0) (ci := 7) (wc := [(h0, .inr (7, [.ref h1, .ref h2, .ref h3, .ref h4, .ref h5, .ref h6, .int 0, .int 0, .int 0, .int 0])), (h1, .inr (2, [.int 0, .int 2, .ref h7, .ref h8])), (h2, .inr (3, [.ref h1, .int 3, .int p0, .ref h9, .ref h10, .long 0, .int 0])), (h7, .inl (κ 3, 4, .inr (.inr (.inr (.inr (sel [h11, h12, h13, h14])))))), (h9, .inl (κ 0, 13, .inl (fun _ => 0))), (h10, .inl (κ 0, 13, .inl (fun _ => 0))), (h11, .inr (6, [.ref h15, .ref h16, .int 0])), (h12, .inr (6, [.ref h17, .ref h18, .int 0]))]) hP hD hK hE9 hS hA [0, 1, 2, 3, 4, 5, 6, 7] (by decide) rfl rfl rfl) rfl rfl hl.1 rfl (lv_room (Nat.le_of_ble_eq_true rfl)) dX5_scoreBy_52 ⟨(Nat.le_of_ble_eq_true rfl), (Nat.le_of_ble_eq_true rfl)⟩) hS (fun q _ h => hF q h) hF (fun r u6 t H locs ht hvm hw hB hz1 hk1 hS => ?_)
    try dsimp only at hw hB
    obtain ⟨hP1, hD1⟩ := hB
    rw [ht] at hP1
    obtain ⟨hP, hD⟩ := post_j (ws' := [(h0, .inr (7, [.ref h1, .ref h2, .ref h3, .ref h4, .ref h5, .ref h6, .int 0, .int 0, .int 0, .int 0])), (h1, .inr (2, [.int 0, .int 2, .ref h7, .ref h8])), (h2, .inr (3, [.ref h1, .int 3, .int p0, .ref h9, .ref h10, .long 0, .int 0])), (h7, .inl (κ 3, 4, .inr (.inr (.inr (.inr (sel [h11, h12, h13, h14])))))), (h9, .inl (κ 0, 13, .inl (upd (upd (upd (upd (upd (upd (upd (upd (upd (upd (upd (upd (upd (fun _ => 0) 0 1000000) 1 1000000) 2 1000000) 3 1000000) 4 1000000) 5 1000000) 6 1000000) 7 1000000) 8 1000000) 9 1000000) 10 1000000) 11 1000000) 12 1000000))), (h10, .inl (κ 0, 13, .inl (fun _ => 0))), (h11, .inr (6, [.ref h15, .ref h16, .int 0])), (h12, .inr (6, [.ref h17, .ref h18, .int 0]))]) (wr := []) (w1 := [(h0, .inr (7, [.ref h1, .ref h2, .ref h3, .ref h4, .ref h5, .ref h6, .int 0, .int 0, .int 0, .int 0])), (h1, .inr (2, [.int 0, .int 2, .ref h7, .ref h8])), (h2, .inr (3, [.ref h1, .int 3, .int p0, .ref h9, .ref h10, .long 0, .int 0])), (h7, .inl (κ 3, 4, .inr (.inr (.inr (.inr (sel [h11, h12, h13, h14])))))), (h9, .inl (κ 0, 13, .inl (upd (upd (upd (upd (upd (upd (upd (upd (upd (upd (upd (upd (upd (fun _ => 0) 0 1000000) 1 1000000) 2 1000000) 3 1000000) 4 1000000) 5 1000000) 6 1000000) 7 1000000) 8 1000000) 9 1000000) 10 1000000) 11 1000000) 12 1000000))), (h10, .inl (κ 0, 13, .inl (fun _ => 0))), (h11, .inr (6, [.ref h15, .ref h16, .int 0])), (h12, .inr (6, [.ref h17, .ref h18, .int 0]))]) hP hD hF [0, 1, 2, 3, 4, 5, 6, 7] rfl [] rfl (by decide) (by decide) hk1 hP1 hD1 [0, 1, 2, 3, 4, 5, 6, 7] (by decide) rfl
    have hP : va_P D vwCl [(h0, .inr (7, [.ref h1, .ref h2, .ref h3, .ref h4, .ref h5, .ref h6, .int 0, .int 0, .int 0, .int 0])), (h1, .inr (2, [.int 0, .int 2, .ref h7, .ref h8])), (h2, .inr (3, [.ref h1, .int 3, .int p0, .ref h9, .ref h10, .long 0, .int 0])), (h7, .inl (κ 3, 4, .inr (.inr (.inr (.inr (sel [h11, h12, h13, h14])))))), (h9, .inl (κ 0, 13, .inl (upd (upd (upd (upd (upd (upd (upd (upd (upd (upd (upd (upd (upd (fun _ => 0) 0 1000000) 1 1000000) 2 1000000) 3 1000000) 4 1000000) 5 1000000) 6 1000000) 7 1000000) 8 1000000) 9 1000000) 10 1000000) 11 1000000) 12 1000000))), (h10, .inl (κ 0, 13, .inl (fun _ => 0))), (h11, .inr (6, [.ref h15, .ref h16, .int 0])), (h12, .inr (6, [.ref h17, .ref h18, .int 0]))] H := hP
    have hD : va_D A [(h0, .inr (7, [.ref h1, .ref h2, .ref h3, .ref h4, .ref h5, .ref h6, .int 0, .int 0, .int 0, .int 0])), (h1, .inr (2, [.int 0, .int 2, .ref h7, .ref h8])), (h2, .inr (3, [.ref h1, .int 3, .int p0, .ref h9, .ref h10, .long 0, .int 0])), (h7, .inl (κ 3, 4, .inr (.inr (.inr (.inr (sel [h11, h12, h13, h14])))))), (h9, .inl (κ 0, 13, .inl (upd (upd (upd (upd (upd (upd (upd (upd (upd (upd (upd (upd (upd (fun _ => 0) 0 1000000) 1 1000000) 2 1000000) 3 1000000) 4 1000000) 5 1000000) 6 1000000) 7 1000000) 8 1000000) 9 1000000) 10 1000000) 11 1000000) 12 1000000))), (h10, .inl (κ 0, 13, .inl (fun _ => 0))), (h11, .inr (6, [.ref h15, .ref h16, .int 0])), (h12, .inr (6, [.ref h17, .ref h18, .int 0]))] := hD
    rw [hw]
    refine lv_istore (lv' := [(5, .int 0), (4, .int 500), (3, .int 0), (0, .ref h0), (1, .int 3), (2, .int p0)]) hx hb dX5_scoreBy_55 hl (by decide) rfl (fun ls hl => ?_)
    refine lv_aload_n hx hb dX5_scoreBy_57 rfl (lv_at hl 3 rfl) ?_
    refine va_get (D := D) (ci := 7) (v := .ref h2) (C := RX5) (T := TX5) (N := 10) hx hb hts wi_X5_scoreBy_RX5 hown hK hP 0 rfl rfl 1 (by decide) (hts _ wd422_X5_scoreBy) (fun _ h9 => h9) rfl dX5_scoreBy_58 ?_
    refine lv_iload_n hx hb dX5_scoreBy_61 rfl (lv_at hl 2 rfl) ?_
    refine va_put (D := D) (ci := 3) (v := .int 0) (ty := .int) (C := RX1) (T := TX1) (N := 7) hx hb hts wi_X5_scoreBy_RX1 tyX1 tyX1_ok nmX1 hown hK hP hD hS 2 rfl rfl 1 (by decide) (hts _ wd423_X5_scoreBy) (fun _ h9 => h9) rfl (by decide +kernel) rfl rfl (Nat.le_of_ble_eq_true rfl) dX5_scoreBy_62 (fun H locs hP hD hS => ?_)
    have hP : va_P D vwCl [(h0, .inr (7, [.ref h1, .ref h2, .ref h3, .ref h4, .ref h5, .ref h6, .int 0, .int 0, .int 0, .int 0])), (h1, .inr (2, [.int 0, .int 2, .ref h7, .ref h8])), (h2, .inr (3, [.ref h1, .int 0, .int p0, .ref h9, .ref h10, .long 0, .int 0])), (h7, .inl (κ 3, 4, .inr (.inr (.inr (.inr (sel [h11, h12, h13, h14])))))), (h9, .inl (κ 0, 13, .inl (upd (upd (upd (upd (upd (upd (upd (upd (upd (upd (upd (upd (upd (fun _ => 0) 0 1000000) 1 1000000) 2 1000000) 3 1000000) 4 1000000) 5 1000000) 6 1000000) 7 1000000) 8 1000000) 9 1000000) 10 1000000) 11 1000000) 12 1000000))), (h10, .inl (κ 0, 13, .inl (fun _ => 0))), (h11, .inr (6, [.ref h15, .ref h16, .int 0])), (h12, .inr (6, [.ref h17, .ref h18, .int 0]))] H := hP
    have hD : va_D A [(h0, .inr (7, [.ref h1, .ref h2, .ref h3, .ref h4, .ref h5, .ref h6, .int 0, .int 0, .int 0, .int 0])), (h1, .inr (2, [.int 0, .int 2, .ref h7, .ref h8])), (h2, .inr (3, [.ref h1, .int 0, .int p0, .ref h9, .ref h10, .long 0, .int 0])), (h7, .inl (κ 3, 4, .inr (.inr (.inr (.inr (sel [h11, h12, h13, h14])))))), (h9, .inl (κ 0, 13, .inl (upd (upd (upd (upd (upd (upd (upd (upd (upd (upd (upd (upd (upd (fun _ => 0) 0 1000000) 1 1000000) 2 1000000) 3 1000000) 4 1000000) 5 1000000) 6 1000000) 7 1000000) 8 1000000) 9 1000000) 10 1000000) 11 1000000) 12 1000000))), (h10, .inl (κ 0, 13, .inl (fun _ => 0))), (h11, .inr (6, [.ref h15, .ref h16, .int 0])), (h12, .inr (6, [.ref h17, .ref h18, .int 0]))] := hD
    refine lv_aload_n hx hb dX5_scoreBy_65 rfl (lv_at hl 3 rfl) ?_
    refine va_get (D := D) (ci := 7) (v := .ref h2) (C := RX5) (T := TX5) (N := 10) hx hb hts wi_X5_scoreBy_RX5 hown hK hP 0 rfl rfl 1 (by decide) (hts _ wd422_X5_scoreBy) (fun _ h9 => h9) rfl dX5_scoreBy_66 ?_
    refine lv_iload hx hb dX5_scoreBy_69 (lv_at hl 1 rfl) ?_
    refine va_put (D := D) (ci := 3) (v := .int 500) (ty := .int) (C := RX1) (T := TX1) (N := 7) hx hb hts wi_X5_scoreBy_RX1 tyX1 tyX1_ok nmX1 hown hK hP hD hS 2 rfl rfl 2 (by decide) (hts _ wd424_X5_scoreBy) (fun _ h9 => h9) rfl (by decide +kernel) rfl rfl (Nat.le_of_ble_eq_true rfl) dX5_scoreBy_71 (fun H locs hP hD hS => ?_)
    have hP : va_P D vwCl [(h0, .inr (7, [.ref h1, .ref h2, .ref h3, .ref h4, .ref h5, .ref h6, .int 0, .int 0, .int 0, .int 0])), (h1, .inr (2, [.int 0, .int 2, .ref h7, .ref h8])), (h2, .inr (3, [.ref h1, .int 0, .int 500, .ref h9, .ref h10, .long 0, .int 0])), (h7, .inl (κ 3, 4, .inr (.inr (.inr (.inr (sel [h11, h12, h13, h14])))))), (h9, .inl (κ 0, 13, .inl (upd (upd (upd (upd (upd (upd (upd (upd (upd (upd (upd (upd (upd (fun _ => 0) 0 1000000) 1 1000000) 2 1000000) 3 1000000) 4 1000000) 5 1000000) 6 1000000) 7 1000000) 8 1000000) 9 1000000) 10 1000000) 11 1000000) 12 1000000))), (h10, .inl (κ 0, 13, .inl (fun _ => 0))), (h11, .inr (6, [.ref h15, .ref h16, .int 0])), (h12, .inr (6, [.ref h17, .ref h18, .int 0]))] H := hP
    have hD : va_D A [(h0, .inr (7, [.ref h1, .ref h2, .ref h3, .ref h4, .ref h5, .ref h6, .int 0, .int 0, .int 0, .int 0])), (h1, .inr (2, [.int 0, .int 2, .ref h7, .ref h8])), (h2, .inr (3, [.ref h1, .int 0, .int 500, .ref h9, .ref h10, .long 0, .int 0])), (h7, .inl (κ 3, 4, .inr (.inr (.inr (.inr (sel [h11, h12, h13, h14])))))), (h9, .inl (κ 0, 13, .inl (upd (upd (upd (upd (upd (upd (upd (upd (upd (upd (upd (upd (upd (fun _ => 0) 0 1000000) 1 1000000) 2 1000000) 3 1000000) 4 1000000) 5 1000000) 6 1000000) 7 1000000) 8 1000000) 9 1000000) 10 1000000) 11 1000000) 12 1000000))), (h10, .inl (κ 0, 13, .inl (fun _ => 0))), (h11, .inr (6, [.ref h15, .ref h16, .int 0])), (h12, .inr (6, [.ref h17, .ref h18, .int 0]))] := hD
    refine lv_iload hx hb dX5_scoreBy_74 (lv_at hl 0 rfl) ?_
    refine W.widen (k := 1) (n := 6) (Nat.le_of_ble_eq_true rfl) (Nat.le_of_ble_eq_true rfl) ?_
    refine vx_ret ?_
    exact W.iret (v := 0) hx hb hr (fun t ht hW => ⟨⟨0, (), rfl, ⟨c4, c5, rfl⟩, trivial⟩, hS.F ht⟩) hS.2.2 dX5_scoreBy_76

set_option maxHeartbeats 4000000 in
set_option maxRecDepth 100000 in
theorem k_L_scoreBy_3 (l : Launch) (hst : l.stackTraces = false) (D : va_G) (κ ε : Nat → Nat) (h0 h1 h2 h3 h4 h5 h6 h7 h8 h9 h10 h11 h12 h13 h14 h15 h16 h17 h18 h19 : Nat) (sz : Nat) (p0 : Int32) : Met l yL_scoreBy wsL_scoreBy ({ frames := 7, cells := 1, slots := 6, locals := 145 }) (va_Pc [.ref h0, .int 3, .int p0, .ref h1] (Pre2 D κ ε [(h0, .inr (7, [.ref h2, .ref h3, .ref h4, .ref h5, .ref h6, .ref h7, .int 0, .int 0, .int 0, .int 0])), (h1, .inl (κ 2, 1, .inr (.inl (fun _ => 0)))), (h2, .inr (2, [.int 0, .int 2, .ref h8, .ref h9])), (h3, .inr (3, [.ref h2, .int 0, .int 500, .ref h10, .ref h11, .long 0, .int 0])), (h8, .inl (κ 3, 4, .inr (.inr (.inr (.inr (sel [h12, h13, h14, h15])))))), (h10, .inl (κ 0, 13, .inl (fun _ => 0))), (h11, .inl (κ 0, 13, .inl (fun _ => 0))), (h12, .inr (6, [.ref h16, .ref h17, .int 0])), (h13, .inr (6, [.ref h18, .ref h19, .int 0]))] sz)) (va_Qi (fun r (u : Nat → Int64) => ((p0 < 1) ∧ (r = 1)) ∨ ((¬ p0 < 1) ∧ (1000 < p0) ∧ (r = 1)) ∨ ((¬ p0 < 1) ∧ (¬ 1000 < p0) ∧ (u 0 = 0) ∧ (r = 0))) (fun u t => va_P D vwCl [(h1, .inl (κ 2, 1, .inr (.inl u)))] t.heap ∧ va_D (va_A [(h0, .inr (7, [.ref h2, .ref h3, .ref h4, .ref h5, .ref h6, .ref h7, .int 0, .int 0, .int 0, .int 0])), (h1, .inl (κ 2, 1, .inr (.inl (fun _ => 0)))), (h2, .inr (2, [.int 0, .int 2, .ref h8, .ref h9])), (h3, .inr (3, [.ref h2, .int 0, .int 500, .ref h10, .ref h11, .long 0, .int 0])), (h8, .inl (κ 3, 4, .inr (.inr (.inr (.inr (sel [h12, h13, h14, h15])))))), (h10, .inl (κ 0, 13, .inl (fun _ => 0))), (h11, .inl (κ 0, 13, .inl (fun _ => 0))), (h12, .inr (6, [.ref h16, .ref h17, .int 0])), (h13, .inr (6, [.ref h18, .ref h19, .int 0]))] sz) [(h1, .inl (κ 2, 1, .inr (.inl u)))]) (va_A [(h0, .inr (7, [.ref h2, .ref h3, .ref h4, .ref h5, .ref h6, .ref h7, .int 0, .int 0, .int 0, .int 0])), (h1, .inl (κ 2, 1, .inr (.inl (fun _ => 0)))), (h2, .inr (2, [.int 0, .int 2, .ref h8, .ref h9])), (h3, .inr (3, [.ref h2, .int 0, .int 500, .ref h10, .ref h11, .long 0, .int 0])), (h8, .inl (κ 3, 4, .inr (.inr (.inr (.inr (sel [h12, h13, h14, h15])))))), (h10, .inl (κ 0, 13, .inl (fun _ => 0))), (h11, .inl (κ 0, 13, .inl (fun _ => 0))), (h12, .inr (6, [.ref h16, .ref h17, .int 0])), (h13, .inr (6, [.ref h18, .ref h19, .int 0]))] sz)) 1 6 (va_A [(h0, .inr (7, [.ref h2, .ref h3, .ref h4, .ref h5, .ref h6, .ref h7, .int 0, .int 0, .int 0, .int 0])), (h1, .inl (κ 2, 1, .inr (.inl (fun _ => 0)))), (h2, .inr (2, [.int 0, .int 2, .ref h8, .ref h9])), (h3, .inr (3, [.ref h2, .int 0, .int 500, .ref h10, .ref h11, .long 0, .int 0])), (h8, .inl (κ 3, 4, .inr (.inr (.inr (.inr (sel [h12, h13, h14, h15])))))), (h10, .inl (κ 0, 13, .inl (fun _ => 0))), (h11, .inl (κ 0, 13, .inl (fun _ => 0))), (h12, .inr (6, [.ref h16, .ref h17, .int 0])), (h13, .inr (6, [.ref h18, .ref h19, .int 0]))] sz) := by
  refine va_MetW (cc := cL_scoreBy) (maxL := 5) (ret := (some .int)) (hh := [(0, 10, 13, 19)]) (by decide) rfl ?_
  intro p e s m args below meth c s₁ B hml hv
  obtain ⟨rfl, hsz, hP, hK, hD0, hE9⟩ := hv
  have hx := B.exec
  have hb := B.bytes
  have hr := B.returns
  have hts := atoms_spec (ws := wsL_scoreBy) B.pre
  have hown : s.vm.findClass RL = some m.cls := findClass_of_methodNamed B.named
  have hlocks := B.notSynchronized
  have htab : c.exceptionTable.toList = tableOf [(0, 10, 13, 19)] := vx_table (x := yL_scoreBy) B (hts (.codeWith yL_scoreBy cL_scoreBy 5 (some .int) [(0, 10, 13, 19)]) List.mem_cons_self)
  subst hsz
  have hD := hD0.self (sz := s.heap.size)
  generalize hAe : va_A [(h0, .inr (7, [.ref h2, .ref h3, .ref h4, .ref h5, .ref h6, .ref h7, .int 0, .int 0, .int 0, .int 0])), (h1, .inl (κ 2, 1, .inr (.inl (fun _ => 0)))), (h2, .inr (2, [.int 0, .int 2, .ref h8, .ref h9])), (h3, .inr (3, [.ref h2, .int 0, .int 500, .ref h10, .ref h11, .long 0, .int 0])), (h8, .inl (κ 3, 4, .inr (.inr (.inr (.inr (sel [h12, h13, h14, h15])))))), (h10, .inl (κ 0, 13, .inl (fun _ => 0))), (h11, .inl (κ 0, 13, .inl (fun _ => 0))), (h12, .inr (6, [.ref h16, .ref h17, .int 0])), (h13, .inr (6, [.ref h18, .ref h19, .int 0]))] s.heap.size = A at hD hE9 ⊢
  have hE := hE9.1
  have hDc := hE9.2
  have hA : ∀ q : Nat, s.heap.size ≤ q → A q := fun q h => by rw [← hAe]; exact Or.inr h
  have hS : va_S A s.heap s.heap [] := va_S.rf
  have hP : va_P D vwCl [(h0, .inr (7, [.ref h2, .ref h3, .ref h4, .ref h5, .ref h6, .ref h7, .int 0, .int 0, .int 0, .int 0])), (h1, .inl (κ 2, 1, .inr (.inl (fun _ => 0)))), (h2, .inr (2, [.int 0, .int 2, .ref h8, .ref h9])), (h3, .inr (3, [.ref h2, .int 0, .int 500, .ref h10, .ref h11, .long 0, .int 0])), (h8, .inl (κ 3, 4, .inr (.inr (.inr (.inr (sel [h12, h13, h14, h15])))))), (h10, .inl (κ 0, 13, .inl (fun _ => 0))), (h11, .inl (κ 0, 13, .inl (fun _ => 0))), (h12, .inr (6, [.ref h16, .ref h17, .int 0])), (h13, .inr (6, [.ref h18, .ref h19, .int 0]))] s.heap := hP
  have hl := lv_entry [.ref h0, .int 3, .int p0, .ref h1] (n := 5) (Nat.le_of_ble_eq_true rfl)
  rw [lg_entry_eq]
  generalize (lg_sl [.ref h0, .int 3, .int p0, .ref h1] ++ List.replicate (5 - (lg_sl [.ref h0, .int 3, .int p0, .ref h1]).length) Slot.unset).toArray = ls at hl ⊢
  have hl : lv_has ls 5 [(0, .ref h0), (1, .int 3), (2, .int p0), (3, .ref h1)] := hl
  refine lv_aload_n hx hb dL_scoreBy_0 rfl (lv_at hl 3 rfl) ?_
  refine lv_iconst (v := 0) hx hb dL_scoreBy_1 (by decide) ?_
  refine lv_aload_n hx hb dL_scoreBy_2 rfl (lv_at hl 0 rfl) ?_
  refine lv_iload_n hx hb dL_scoreBy_3 rfl (lv_at hl 1 rfl) ?_
  refine lv_iload_n hx hb dL_scoreBy_4 rfl (lv_at hl 2 rfl) ?_
  have hF := va_free (wc := [(h0, .inr (7, [.ref h2, .ref h3, .ref h4, .ref h5, .ref h6, .ref h7, .int 0, .int 0, .int 0, .int 0])), (h2, .inr (2, [.int 0, .int 2, .ref h8, .ref h9])), (h3, .inr (3, [.ref h2, .int 0, .int 500, .ref h10, .ref h11, .long 0, .int 0])), (h8, .inl (κ 3, 4, .inr (.inr (.inr (.inr (sel [h12, h13, h14, h15])))))), (h10, .inl (κ 0, 13, .inl (fun _ => 0))), (h11, .inl (κ 0, 13, .inl (fun _ => 0))), (h12, .inr (6, [.ref h16, .ref h17, .int 0])), (h13, .inr (6, [.ref h18, .ref h19, .int 0]))]) hD hS hA [0, 2, 3, 4, 5, 6, 7, 8] rfl
  refine vx_calli (vx_runV (As := [.int 3, .int p0]) (rest := [.int 0, .ref h1]) ⟨hx, hb, hml, hown, hts⟩ (k_X5_scoreBy_3 l hst D κ ε h0 h2 h3 h4 h5 h6 h7 h8 h9 h10 h11 h12 h13 h14 h15 h16 h17 h18 h19 s.heap.size (p0)) (cwV 2 hts gL_scoreBy_X5_scoreBy rfl rfl rfl (by decide +kernel) ⟨(Nat.le_of_ble_eq_true rfl), (Nat.le_of_ble_eq_true rfl)⟩) (pre2_V (q0 := 0) (ci := 7) (wc := [(h0, .inr (7, [.ref h2, .ref h3, .ref h4, .ref h5, .ref h6, .ref h7, .int 0, .int 0, .int 0, .int 0])), (h2, .inr (2, [.int 0, .int 2, .ref h8, .ref h9])), (h3, .inr (3, [.ref h2, .int 0, .int 500, .ref h10, .ref h11, .long 0, .int 0])), (h8, .inl (κ 3, 4, .inr (.inr (.inr (.inr (sel [h12, h13, h14, h15])))))), (h10, .inl (κ 0, 13, .inl (fun _ => 0))), (h11, .inl (κ 0, 13, .inl (fun _ => 0))), (h12, .inr (6, [.ref h16, .ref h17, .int 0])), (h13, .inr (6, [.ref h18, .ref h19, .int 0]))]) hP hD hK hE9 hS hA [0, 2, 3, 4, 5, 6, 7, 8] (by decide) rfl rfl rfl) rfl rfl hl.1 rfl (lv_room (Nat.le_of_ble_eq_true rfl)) dL_scoreBy_5 ⟨(Nat.le_of_ble_eq_true rfl), (Nat.le_of_ble_eq_true rfl)⟩) hS (fun q _ h => hF q h) hF (fun q _ h => hF q h) (fun E9 ce q9 u t H locs ht hvm hw hB hz1 hk1 hS hce hcv hcl => ?_) (fun r u t H locs ht hvm hw hB hz1 hk1 hS => ?_)
  · try dsimp only at hB
    have hP1 : va_P D vwCl [] H := P_nil
    obtain ⟨hP, hD⟩ := post_j (ws' := [(h1, .inl (κ 2, 1, .inr (.inl (fun _ => 0))))]) (wr := [(h1, .inl (κ 2, 1, .inr (.inl (fun _ => 0))))]) (w1 := []) hP hD hF [0, 2, 3, 4, 5, 6, 7, 8] rfl [1] rfl (by decide) (by decide) hk1 hP1 D_nil [0] (by decide) rfl
    have hP : va_P D vwCl [(h1, .inl (κ 2, 1, .inr (.inl (fun _ => 0))))] H := hP
    have hD : va_D A [(h1, .inl (κ 2, 1, .inr (.inl (fun _ => 0))))] := hD
    rcases hB with ⟨c2, rfl⟩ | ⟨c3, c4, rfl⟩
    · skip
      refine vx_catch (name := "java/lang/IllegalArgumentException") hown [] ⟨0, 10, 13, 19⟩ [] (htab.trans rfl) (fun z hz => nomatch hz) (by decide) (by decide) (hts _ wd425_L_scoreBy) (va_Nw.use rfl hE.2.2.2.2.2.2.2.2.2.2.2.2.2.2.1) hce hcv hcl ?_
      refine lv_astore (lv' := [(4, .ref q9), (0, .ref h0), (1, .int 3), (2, .int p0), (3, .ref h1)]) hx hb dL_scoreBy_13 hl (by decide) rfl (fun ls hl => ?_)
      refine lv_iconst (v := 1) hx hb dL_scoreBy_15 (by decide) ?_
      have hP9 := hP.sub (ws' := [(h1, .inl (κ 2, 1, .inr (.inl (fun _ => 0))))]) [0] rfl
      have hD9 := hD.sub (ws' := [(h1, .inl (κ 2, 1, .inr (.inl (fun _ => 0))))]) [0] (by decide) rfl
      refine W.widen (k := 1) (n := 6) (Nat.le_of_ble_eq_true rfl) (Nat.le_of_ble_eq_true rfl) ?_
      exact W.iret (v := 1) hx hb hr (fun t ht hW => ⟨⟨1, (fun _ => 0), rfl, (Or.inl ⟨c2, rfl⟩), by rw [ht]; exact hP9, hD9⟩, hS.F ht⟩) hS.2.2 dL_scoreBy_16
    · skip
      refine vx_catch (name := "java/lang/IllegalArgumentException") hown [] ⟨0, 10, 13, 19⟩ [] (htab.trans rfl) (fun z hz => nomatch hz) (by decide) (by decide) (hts _ wd425_L_scoreBy) (va_Nw.use rfl hE.2.2.2.2.2.2.2.2.2.2.2.2.2.2.1) hce hcv hcl ?_
      refine lv_astore (lv' := [(4, .ref q9), (0, .ref h0), (1, .int 3), (2, .int p0), (3, .ref h1)]) hx hb dL_scoreBy_13 hl (by decide) rfl (fun ls hl => ?_)
      refine lv_iconst (v := 1) hx hb dL_scoreBy_15 (by decide) ?_
      have hP9 := hP.sub (ws' := [(h1, .inl (κ 2, 1, .inr (.inl (fun _ => 0))))]) [0] rfl
      have hD9 := hD.sub (ws' := [(h1, .inl (κ 2, 1, .inr (.inl (fun _ => 0))))]) [0] (by decide) rfl
      refine W.widen (k := 1) (n := 6) (Nat.le_of_ble_eq_true rfl) (Nat.le_of_ble_eq_true rfl) ?_
      exact W.iret (v := 1) hx hb hr (fun t ht hW => ⟨⟨1, (fun _ => 0), rfl, (Or.inr (Or.inl ⟨c3, c4, rfl⟩)), by rw [ht]; exact hP9, hD9⟩, hS.F ht⟩) hS.2.2 dL_scoreBy_16
  · try dsimp only at hw hB
    have hP1 : va_P D vwCl [] H := P_nil
    obtain ⟨hP, hD⟩ := post_j (ws' := [(h1, .inl (κ 2, 1, .inr (.inl (fun _ => 0))))]) (wr := [(h1, .inl (κ 2, 1, .inr (.inl (fun _ => 0))))]) (w1 := []) hP hD hF [0, 2, 3, 4, 5, 6, 7, 8] rfl [1] rfl (by decide) (by decide) hk1 hP1 D_nil [0] (by decide) rfl
    have hP : va_P D vwCl [(h1, .inl (κ 2, 1, .inr (.inl (fun _ => 0))))] H := hP
    have hD : va_D A [(h1, .inl (κ 2, 1, .inr (.inl (fun _ => 0))))] := hD
    obtain ⟨c5, c6, rfl⟩ := hw
    refine lv_i2l (v := 0) hx hb dL_scoreBy_8 (by decide) ?_
    refine va_last (cA := κ 2) (n := 1) (f := (fun _ => 0)) hx hb hK hP hD hS 0 2 rfl rfl (vpl (by decide)) dL_scoreBy_9 (fun H locs hP hD hS => ?_)
    have hP : va_P D vwCl [(h1, .inl (κ 2, 1, .inr (.inl (vp_updL (fun _ => 0) 0 0))))] H := hP
    have hD : va_D A [(h1, .inl (κ 2, 1, .inr (.inl (vp_updL (fun _ => 0) 0 0))))] := hD
    refine lv_goto (tgt := 17) hx hb dL_scoreBy_10 (by decide) ?_
    refine lv_iconst (v := 0) hx hb dL_scoreBy_17 (by decide) ?_
    have hP9 := hP.sub (ws' := [(h1, .inl (κ 2, 1, .inr (.inl (vp_updL (fun _ => 0) 0 0))))]) [0] rfl
    have hD9 := hD.sub (ws' := [(h1, .inl (κ 2, 1, .inr (.inl (vp_updL (fun _ => 0) 0 0))))]) [0] (by decide) rfl
    refine W.widen (k := 1) (n := 6) (Nat.le_of_ble_eq_true rfl) (Nat.le_of_ble_eq_true rfl) ?_
    exact W.iret (v := 0) hx hb hr (fun t ht hW => ⟨⟨0, (vp_updL (fun _ => 0) 0 0), rfl, (Or.inr (Or.inr ⟨c5, c6, rfl, rfl⟩)), by rw [ht]; exact hP9, hD9⟩, hS.F ht⟩) hS.2.2 dL_scoreBy_18

set_option maxHeartbeats 4000000 in
set_option maxRecDepth 100000 in
theorem k_X6_isIn_53 (l : Launch) (D : va_G) (κ ε : Nat → Nat) : Met l yX6_isIn wsX6_isIn ({ frames := 0, cells := 0, slots := 0, locals := 0 }) (va_Pc [.int 3, .int 0, .int 4] (Pre0 D κ [])) (vp_Si (fun r => (r = 1))) 0 0 (fun _ => False) := by
  refine Met.ofW (cc := cX6_isIn) (maxL := 3) (ret := (some .boolean)) (by decide) rfl ?_
  intro p e s m args below meth c s₁ B hml hv
  obtain ⟨rfl, hP, hK⟩ := hv
  have hx := B.exec
  have hb := B.bytes
  have hr := B.returns
  have hts := atoms_spec (ws := wsX6_isIn) B.pre
  have hown : s.vm.findClass RX6 = some m.cls := findClass_of_methodNamed B.named
  have hlocks := B.notSynchronized
  have hP : va_P D vwCl [] s.heap := hP
  have hl := lv_entry [.int 3, .int 0, .int 4] (n := 3) (Nat.le_of_ble_eq_true rfl)
  rw [lg_entry_eq]
  generalize (lg_sl [.int 3, .int 0, .int 4] ++ List.replicate (3 - (lg_sl [.int 3, .int 0, .int 4]).length) Slot.unset).toArray = ls at hl ⊢
  have hl : lv_has ls 3 [(0, .int 3), (1, .int 0), (2, .int 4)] := hl
  refine lv_iload_n hx hb dX6_isIn_0 rfl (lv_at hl 0 rfl) ?_
  refine lv_iload_n hx hb dX6_isIn_1 rfl (lv_at hl 1 rfl) ?_
  refine lv_icmp_lt (tgt := 14) hx hb dX6_isIn_2 (by decide) (fun h => absurd h (by decide)) (fun _ => ?_)
  refine lv_iload_n hx hb dX6_isIn_5 rfl (lv_at hl 0 rfl) ?_
  refine lv_iload_n hx hb dX6_isIn_6 rfl (lv_at hl 2 rfl) ?_
  refine lv_icmp_gt (tgt := 14) hx hb dX6_isIn_7 (by decide) (fun h => absurd h (by decide)) (fun _ => ?_)
  refine lv_iconst (v := 1) hx hb dX6_isIn_10 (by decide) ?_
  refine lv_goto (tgt := 15) hx hb dX6_isIn_11 (by decide) ?_
  exact W.zret (v := 1) hx hb hr rfl (fun t ht hW => ⟨1, rfl, rfl, ht⟩) (fun q hq => absurd hq List.not_mem_nil) dX6_isIn_15

set_option maxHeartbeats 4000000 in
set_option maxRecDepth 100000 in
theorem k_X6_scoreBy_9 (l : Launch) (D : va_G) (κ ε : Nat → Nat) (h0 h1 h2 h3 : Nat) (sz : Nat) (p0 : Int32) (hf0 : p0 < 1) : Met l yX6_scoreBy wsX6_scoreBy ({ frames := 2, cells := 0, slots := 0, locals := 44 }) (va_Pc [.ref h0, .int 3, .int p0] (Pre2 D κ ε [(h0, .inr (8, [.int 0, .int 0, .int 2, .ref h1, .ref h2, .int 0, .int 500, .int 0, .int 0, .int 0, .ref h3]))] sz)) (va_Qi (fun r (u : List Value) => (u[0]? = some (.int 1)) ∧ (r = 0)) (fun u t => va_P D vwCl [(h0, .inr (8, u))] t.heap ∧ va_D (va_A [(h0, .inr (8, [.int 0, .int 0, .int 2, .ref h1, .ref h2, .int 0, .int 500, .int 0, .int 0, .int 0, .ref h3]))] sz) [(h0, .inr (8, u))]) (va_A [(h0, .inr (8, [.int 0, .int 0, .int 2, .ref h1, .ref h2, .int 0, .int 500, .int 0, .int 0, .int 0, .ref h3]))] sz)) 0 0 (va_A [(h0, .inr (8, [.int 0, .int 0, .int 2, .ref h1, .ref h2, .int 0, .int 500, .int 0, .int 0, .int 0, .ref h3]))] sz) := by
  refine Met.ofW (cc := cX6_scoreBy) (maxL := 3) (ret := (some .int)) (by decide) rfl ?_
  intro p e s m args below meth c s₁ B hml hv
  obtain ⟨rfl, hsz, hP, hK, hD0, hE9⟩ := hv
  have hx := B.exec
  have hb := B.bytes
  have hr := B.returns
  have hts := atoms_spec (ws := wsX6_scoreBy) B.pre
  have hown : s.vm.findClass RX6 = some m.cls := findClass_of_methodNamed B.named
  have hlocks := B.notSynchronized
  subst hsz
  have hD := hD0.self (sz := s.heap.size)
  generalize hAe : va_A [(h0, .inr (8, [.int 0, .int 0, .int 2, .ref h1, .ref h2, .int 0, .int 500, .int 0, .int 0, .int 0, .ref h3]))] s.heap.size = A at hD hE9 ⊢
  have hE := hE9.1
  have hDc := hE9.2
  have hA : ∀ q : Nat, s.heap.size ≤ q → A q := fun q h => by rw [← hAe]; exact Or.inr h
  have hS : va_S A s.heap s.heap [] := va_S.rf
  have hP : va_P D vwCl [(h0, .inr (8, [.int 0, .int 0, .int 2, .ref h1, .ref h2, .int 0, .int 500, .int 0, .int 0, .int 0, .ref h3]))] s.heap := hP
  have hl := lv_entry [.ref h0, .int 3, .int p0] (n := 3) (Nat.le_of_ble_eq_true rfl)
  rw [lg_entry_eq]
  generalize (lg_sl [.ref h0, .int 3, .int p0] ++ List.replicate (3 - (lg_sl [.ref h0, .int 3, .int p0]).length) Slot.unset).toArray = ls at hl ⊢
  have hl : lv_has ls 3 [(0, .ref h0), (1, .int 3), (2, .int p0)] := hl
  refine lv_aload_n hx hb dX6_scoreBy_0 rfl (lv_at hl 0 rfl) ?_
  refine lv_iload_n hx hb dX6_scoreBy_1 rfl (lv_at hl 1 rfl) ?_
  refine lv_iconst (v := 0) hx hb dX6_scoreBy_2 (by decide) ?_
  refine lv_iconst (v := 4) hx hb dX6_scoreBy_3 (by decide) ?_
  refine vp_callSi (W.runS (As := [.int 3, .int 0, .int 4]) (rest := [.ref h0]) ⟨hx, hb, hml, hown, hts⟩ (k_X6_isIn_53 l D κ ε) (va_cwS 3 hts gX6_scoreBy_X6_isIn rfl rfl rfl (by decide +kernel) ⟨(Nat.le_of_ble_eq_true rfl), (Nat.le_of_ble_eq_true rfl)⟩) (pre0_S (wc := []) hP hK [] rfl) rfl rfl hl.1 rfl (lv_room (Nat.le_of_ble_eq_true rfl)) dX6_scoreBy_4 ⟨(Nat.le_of_ble_eq_true rfl), (Nat.le_of_ble_eq_true rfl)⟩) (fun r hw => ?_)
  rw [hw]
  refine lv_if_eq (tgt := 21) hx hb dX6_scoreBy_7 (by decide) (fun h => absurd h (by decide)) (fun _ => ?_)
  refine lv_iload_n hx hb dX6_scoreBy_10 rfl (lv_at hl 2 rfl) ?_
  refine lv_iconst (v := 1) hx hb dX6_scoreBy_11 (by decide) ?_
  refine lv_sipush (v := 1000) hx hb dX6_scoreBy_12 (by decide) ?_
  refine vp_callSi (W.runS (As := [.int p0, .int 1, .int 1000]) (rest := [.ref h0]) ⟨hx, hb, hml, hown, hts⟩ (k_X6_isIn_17 l D κ ε (p0) hf0) (va_cwS 3 hts gX6_scoreBy_X6_isIn rfl rfl rfl (by decide +kernel) ⟨(Nat.le_of_ble_eq_true rfl), (Nat.le_of_ble_eq_true rfl)⟩) (pre0_S (wc := []) hP hK [] rfl) rfl rfl hl.1 rfl (lv_room (Nat.le_of_ble_eq_true rfl)) dX6_scoreBy_15 ⟨(Nat.le_of_ble_eq_true rfl), (Nat.le_of_ble_eq_true rfl)⟩) (fun r hw => ?_)
  rw [hw]
  refine lv_if_ne (tgt := 25) hx hb dX6_scoreBy_18 (by decide) (fun h => absurd (by decide) h) (fun _ => ?_)
  refine lv_iconst (v := 1) hx hb dX6_scoreBy_21 (by decide) ?_
  refine lv_goto (tgt := 26) hx hb dX6_scoreBy_22 (by decide) ?_
  refine lv_iconst (v := 1) hx hb dX6_scoreBy_26 (by decide) ?_
  have hF := va_free (wc := [(h0, .inr (8, [.int 0, .int 0, .int 2, .ref h1, .ref h2, .int 0, .int 500, .int 0, .int 0, .int 0, .ref h3]))]) hD hS hA [0] rfl
  refine va_calli (va_runV (As := [.int 1, .int 1]) (rest := []) ⟨hx, hb, hml, hown, hts⟩ (k_X6_start_1 l D κ ε h0 h1 h2 h3 s.heap.size (0) (2) (0) (500) (0) (0)) (cwV 2 hts gX6_scoreBy_X6_start rfl rfl rfl (by decide +kernel) ⟨(Nat.le_of_ble_eq_true rfl), (Nat.le_of_ble_eq_true rfl)⟩) (pre2_V (q0 := 0) (ci := 8) (wc := [(h0, .inr (8, [.int 0, .int 0, .int 2, .ref h1, .ref h2, .int 0, .int 500, .int 0, .int 0, .int 0, .ref h3]))]) hP hD hK hE9 hS hA [0] (by decide) rfl rfl rfl) rfl rfl hl.1 rfl (lv_room (Nat.le_of_ble_eq_true rfl)) dX6_scoreBy_27 ⟨(Nat.le_of_ble_eq_true rfl), (Nat.le_of_ble_eq_true rfl)⟩) hS (fun q _ h => hF q h) hF (fun r u1 t H locs ht hvm hw hB hz1 hk1 hS => ?_)
  try dsimp only at hw hB
  obtain ⟨hP1, hD1⟩ := hB
  rw [ht] at hP1
  obtain ⟨hP, hD⟩ := post_j (ws' := [(h0, .inr (8, [.int 1, .int 0, .int 2, .ref h1, .ref h2, .int 0, .int 500, .int 0, .int 0, .int 0, .ref h3]))]) (wr := []) (w1 := [(h0, .inr (8, [.int 1, .int 0, .int 2, .ref h1, .ref h2, .int 0, .int 500, .int 0, .int 0, .int 0, .ref h3]))]) hP hD hF [0] rfl [] rfl (by decide) (by decide) hk1 hP1 hD1 [0] (by decide) rfl
  have hP : va_P D vwCl [(h0, .inr (8, [.int 1, .int 0, .int 2, .ref h1, .ref h2, .int 0, .int 500, .int 0, .int 0, .int 0, .ref h3]))] H := hP
  have hD : va_D A [(h0, .inr (8, [.int 1, .int 0, .int 2, .ref h1, .ref h2, .int 0, .int 500, .int 0, .int 0, .int 0, .ref h3]))] := hD
  rw [hw]
  refine lv_if_eq (tgt := 37) hx hb dX6_scoreBy_30 (by decide) (fun h => absurd h (by decide)) (fun _ => ?_)
  refine lv_iconst (v := 0) hx hb dX6_scoreBy_33 (by decide) ?_
  refine lv_goto (tgt := 47) hx hb dX6_scoreBy_34 (by decide) ?_
  have hP9 := hP.sub (ws' := [(h0, .inr (8, [.int 1, .int 0, .int 2, .ref h1, .ref h2, .int 0, .int 500, .int 0, .int 0, .int 0, .ref h3]))]) [0] rfl
  have hD9 := hD.sub (ws' := [(h0, .inr (8, [.int 1, .int 0, .int 2, .ref h1, .ref h2, .int 0, .int 500, .int 0, .int 0, .int 0, .ref h3]))]) [0] (by decide) rfl
  exact W.iret (v := 0) hx hb hr (fun t ht hW => ⟨⟨0, [.int 1, .int 0, .int 2, .ref h1, .ref h2, .int 0, .int 500, .int 0, .int 0, .int 0, .ref h3], rfl, ⟨rfl, rfl⟩, by rw [ht]; exact hP9, hD9⟩, hS.F ht⟩) hS.2.2 dX6_scoreBy_47

set_option maxHeartbeats 4000000 in
set_option maxRecDepth 100000 in
theorem k_X6_scoreBy_10 (l : Launch) (D : va_G) (κ ε : Nat → Nat) (h0 h1 h2 h3 : Nat) (sz : Nat) (p0 : Int32) (hf0 : ¬ p0 < 1) (hf1 : 1000 < p0) : Met l yX6_scoreBy wsX6_scoreBy ({ frames := 2, cells := 0, slots := 0, locals := 44 }) (va_Pc [.ref h0, .int 3, .int p0] (Pre2 D κ ε [(h0, .inr (8, [.int 0, .int 0, .int 2, .ref h1, .ref h2, .int 0, .int 500, .int 0, .int 0, .int 0, .ref h3]))] sz)) (va_Qi (fun r (u : List Value) => (u[0]? = some (.int 1)) ∧ (r = 0)) (fun u t => va_P D vwCl [(h0, .inr (8, u))] t.heap ∧ va_D (va_A [(h0, .inr (8, [.int 0, .int 0, .int 2, .ref h1, .ref h2, .int 0, .int 500, .int 0, .int 0, .int 0, .ref h3]))] sz) [(h0, .inr (8, u))]) (va_A [(h0, .inr (8, [.int 0, .int 0, .int 2, .ref h1, .ref h2, .int 0, .int 500, .int 0, .int 0, .int 0, .ref h3]))] sz)) 0 0 (va_A [(h0, .inr (8, [.int 0, .int 0, .int 2, .ref h1, .ref h2, .int 0, .int 500, .int 0, .int 0, .int 0, .ref h3]))] sz) := by
  refine Met.ofW (cc := cX6_scoreBy) (maxL := 3) (ret := (some .int)) (by decide) rfl ?_
  intro p e s m args below meth c s₁ B hml hv
  obtain ⟨rfl, hsz, hP, hK, hD0, hE9⟩ := hv
  have hx := B.exec
  have hb := B.bytes
  have hr := B.returns
  have hts := atoms_spec (ws := wsX6_scoreBy) B.pre
  have hown : s.vm.findClass RX6 = some m.cls := findClass_of_methodNamed B.named
  have hlocks := B.notSynchronized
  subst hsz
  have hD := hD0.self (sz := s.heap.size)
  generalize hAe : va_A [(h0, .inr (8, [.int 0, .int 0, .int 2, .ref h1, .ref h2, .int 0, .int 500, .int 0, .int 0, .int 0, .ref h3]))] s.heap.size = A at hD hE9 ⊢
  have hE := hE9.1
  have hDc := hE9.2
  have hA : ∀ q : Nat, s.heap.size ≤ q → A q := fun q h => by rw [← hAe]; exact Or.inr h
  have hS : va_S A s.heap s.heap [] := va_S.rf
  have hP : va_P D vwCl [(h0, .inr (8, [.int 0, .int 0, .int 2, .ref h1, .ref h2, .int 0, .int 500, .int 0, .int 0, .int 0, .ref h3]))] s.heap := hP
  have hl := lv_entry [.ref h0, .int 3, .int p0] (n := 3) (Nat.le_of_ble_eq_true rfl)
  rw [lg_entry_eq]
  generalize (lg_sl [.ref h0, .int 3, .int p0] ++ List.replicate (3 - (lg_sl [.ref h0, .int 3, .int p0]).length) Slot.unset).toArray = ls at hl ⊢
  have hl : lv_has ls 3 [(0, .ref h0), (1, .int 3), (2, .int p0)] := hl
  refine lv_aload_n hx hb dX6_scoreBy_0 rfl (lv_at hl 0 rfl) ?_
  refine lv_iload_n hx hb dX6_scoreBy_1 rfl (lv_at hl 1 rfl) ?_
  refine lv_iconst (v := 0) hx hb dX6_scoreBy_2 (by decide) ?_
  refine lv_iconst (v := 4) hx hb dX6_scoreBy_3 (by decide) ?_
  refine vp_callSi (W.runS (As := [.int 3, .int 0, .int 4]) (rest := [.ref h0]) ⟨hx, hb, hml, hown, hts⟩ (k_X6_isIn_53 l D κ ε) (va_cwS 3 hts gX6_scoreBy_X6_isIn rfl rfl rfl (by decide +kernel) ⟨(Nat.le_of_ble_eq_true rfl), (Nat.le_of_ble_eq_true rfl)⟩) (pre0_S (wc := []) hP hK [] rfl) rfl rfl hl.1 rfl (lv_room (Nat.le_of_ble_eq_true rfl)) dX6_scoreBy_4 ⟨(Nat.le_of_ble_eq_true rfl), (Nat.le_of_ble_eq_true rfl)⟩) (fun r hw => ?_)
  rw [hw]
  refine lv_if_eq (tgt := 21) hx hb dX6_scoreBy_7 (by decide) (fun h => absurd h (by decide)) (fun _ => ?_)
  refine lv_iload_n hx hb dX6_scoreBy_10 rfl (lv_at hl 2 rfl) ?_
  refine lv_iconst (v := 1) hx hb dX6_scoreBy_11 (by decide) ?_
  refine lv_sipush (v := 1000) hx hb dX6_scoreBy_12 (by decide) ?_
  refine vp_callSi (W.runS (As := [.int p0, .int 1, .int 1000]) (rest := [.ref h0]) ⟨hx, hb, hml, hown, hts⟩ (k_X6_isIn_28 l D κ ε (p0) hf0 hf1) (va_cwS 3 hts gX6_scoreBy_X6_isIn rfl rfl rfl (by decide +kernel) ⟨(Nat.le_of_ble_eq_true rfl), (Nat.le_of_ble_eq_true rfl)⟩) (pre0_S (wc := []) hP hK [] rfl) rfl rfl hl.1 rfl (lv_room (Nat.le_of_ble_eq_true rfl)) dX6_scoreBy_15 ⟨(Nat.le_of_ble_eq_true rfl), (Nat.le_of_ble_eq_true rfl)⟩) (fun r hw => ?_)
  rw [hw]
  refine lv_if_ne (tgt := 25) hx hb dX6_scoreBy_18 (by decide) (fun h => absurd (by decide) h) (fun _ => ?_)
  refine lv_iconst (v := 1) hx hb dX6_scoreBy_21 (by decide) ?_
  refine lv_goto (tgt := 26) hx hb dX6_scoreBy_22 (by decide) ?_
  refine lv_iconst (v := 1) hx hb dX6_scoreBy_26 (by decide) ?_
  have hF := va_free (wc := [(h0, .inr (8, [.int 0, .int 0, .int 2, .ref h1, .ref h2, .int 0, .int 500, .int 0, .int 0, .int 0, .ref h3]))]) hD hS hA [0] rfl
  refine va_calli (va_runV (As := [.int 1, .int 1]) (rest := []) ⟨hx, hb, hml, hown, hts⟩ (k_X6_start_1 l D κ ε h0 h1 h2 h3 s.heap.size (0) (2) (0) (500) (0) (0)) (cwV 2 hts gX6_scoreBy_X6_start rfl rfl rfl (by decide +kernel) ⟨(Nat.le_of_ble_eq_true rfl), (Nat.le_of_ble_eq_true rfl)⟩) (pre2_V (q0 := 0) (ci := 8) (wc := [(h0, .inr (8, [.int 0, .int 0, .int 2, .ref h1, .ref h2, .int 0, .int 500, .int 0, .int 0, .int 0, .ref h3]))]) hP hD hK hE9 hS hA [0] (by decide) rfl rfl rfl) rfl rfl hl.1 rfl (lv_room (Nat.le_of_ble_eq_true rfl)) dX6_scoreBy_27 ⟨(Nat.le_of_ble_eq_true rfl), (Nat.le_of_ble_eq_true rfl)⟩) hS (fun q _ h => hF q h) hF (fun r u1 t H locs ht hvm hw hB hz1 hk1 hS => ?_)
  try dsimp only at hw hB
  obtain ⟨hP1, hD1⟩ := hB
  rw [ht] at hP1
  obtain ⟨hP, hD⟩ := post_j (ws' := [(h0, .inr (8, [.int 1, .int 0, .int 2, .ref h1, .ref h2, .int 0, .int 500, .int 0, .int 0, .int 0, .ref h3]))]) (wr := []) (w1 := [(h0, .inr (8, [.int 1, .int 0, .int 2, .ref h1, .ref h2, .int 0, .int 500, .int 0, .int 0, .int 0, .ref h3]))]) hP hD hF [0] rfl [] rfl (by decide) (by decide) hk1 hP1 hD1 [0] (by decide) rfl
  have hP : va_P D vwCl [(h0, .inr (8, [.int 1, .int 0, .int 2, .ref h1, .ref h2, .int 0, .int 500, .int 0, .int 0, .int 0, .ref h3]))] H := hP
  have hD : va_D A [(h0, .inr (8, [.int 1, .int 0, .int 2, .ref h1, .ref h2, .int 0, .int 500, .int 0, .int 0, .int 0, .ref h3]))] := hD
  rw [hw]
  refine lv_if_eq (tgt := 37) hx hb dX6_scoreBy_30 (by decide) (fun h => absurd h (by decide)) (fun _ => ?_)
  refine lv_iconst (v := 0) hx hb dX6_scoreBy_33 (by decide) ?_
  refine lv_goto (tgt := 47) hx hb dX6_scoreBy_34 (by decide) ?_
  have hP9 := hP.sub (ws' := [(h0, .inr (8, [.int 1, .int 0, .int 2, .ref h1, .ref h2, .int 0, .int 500, .int 0, .int 0, .int 0, .ref h3]))]) [0] rfl
  have hD9 := hD.sub (ws' := [(h0, .inr (8, [.int 1, .int 0, .int 2, .ref h1, .ref h2, .int 0, .int 500, .int 0, .int 0, .int 0, .ref h3]))]) [0] (by decide) rfl
  exact W.iret (v := 0) hx hb hr (fun t ht hW => ⟨⟨0, [.int 1, .int 0, .int 2, .ref h1, .ref h2, .int 0, .int 500, .int 0, .int 0, .int 0, .ref h3], rfl, ⟨rfl, rfl⟩, by rw [ht]; exact hP9, hD9⟩, hS.F ht⟩) hS.2.2 dX6_scoreBy_47

set_option maxHeartbeats 4000000 in
set_option maxRecDepth 100000 in
theorem k_X6_chance_6 (l : Launch) (D : va_G) (κ ε : Nat → Nat) (h0 h1 h2 h3 h4 h5 h6 h7 : Nat) (p0 : Int32) (p1 : Int32) (p2 : Int32) (p3 : Int32) (p4 : Int32) (p5 : Int32) (p6 : Int32) : Met l yX6_chance wsX6_chance ({ frames := 1, cells := 0, slots := 0, locals := 23 }) (va_Pc [.ref h0, .ref h1, .int 3, .int p0, .int 0, .int 0, .int 0] (Pre0 D κ [(h0, .inr (8, [.int p1, .int 0, .int p2, .ref h2, .ref h1, .int p3, .int p4, .int p5, .int p6, .int 0, .ref h3])), (h1, .inl (κ 4, 4, .inr (.inr (.inr (.inr (sel [h4, h5, h6, h7])))))), (h4, .inl (κ 0, 14, .inl (fun _ => 0)))])) (vp_Sl (fun r => (r = 1000000))) 0 0 (fun _ => False) := by
  refine Met.ofW (cc := cX6_chance) (maxL := 15) (ret := (some .long)) (by decide) rfl ?_
  intro p e s m args below meth c s₁ B hml hv
  obtain ⟨rfl, hP, hK⟩ := hv
  have hx := B.exec
  have hb := B.bytes
  have hr := B.returns
  have hts := atoms_spec (ws := wsX6_chance) B.pre
  have hown : s.vm.findClass RX6 = some m.cls := findClass_of_methodNamed B.named
  have hlocks := B.notSynchronized
  have hP : va_P D vwCl [(h0, .inr (8, [.int p1, .int 0, .int p2, .ref h2, .ref h1, .int p3, .int p4, .int p5, .int p6, .int 0, .ref h3])), (h1, .inl (κ 4, 4, .inr (.inr (.inr (.inr (sel [h4, h5, h6, h7])))))), (h4, .inl (κ 0, 14, .inl (fun _ => 0)))] s.heap := hP
  have hl := lv_entry [.ref h0, .ref h1, .int 3, .int p0, .int 0, .int 0, .int 0] (n := 15) (Nat.le_of_ble_eq_true rfl)
  rw [lg_entry_eq]
  generalize (lg_sl [.ref h0, .ref h1, .int 3, .int p0, .int 0, .int 0, .int 0] ++ List.replicate (15 - (lg_sl [.ref h0, .ref h1, .int 3, .int p0, .int 0, .int 0, .int 0]).length) Slot.unset).toArray = ls at hl ⊢
  have hl : lv_has ls 15 [(0, .ref h0), (1, .ref h1), (2, .int 3), (3, .int p0), (4, .int 0), (5, .int 0), (6, .int 0)] := hl
  refine lv_lconst (v := 0) hx hb dX6_chance_0 (by decide) ?_
  refine lv_lstore (lv' := [(7, .long 0), (0, .ref h0), (1, .ref h1), (2, .int 3), (3, .int p0), (4, .int 0), (5, .int 0), (6, .int 0)]) hx hb dX6_chance_1 hl (by decide) rfl (fun ls hl => ?_)
  refine lv_lconst (v := 0) hx hb dX6_chance_3 (by decide) ?_
  refine lv_lstore (lv' := [(9, .long 0), (7, .long 0), (0, .ref h0), (1, .ref h1), (2, .int 3), (3, .int p0), (4, .int 0), (5, .int 0), (6, .int 0)]) hx hb dX6_chance_4 hl (by decide) rfl (fun ls hl => ?_)
  refine lv_lconst (v := 0) hx hb dX6_chance_6 (by decide) ?_
  refine lv_lstore (lv' := [(11, .long 0), (9, .long 0), (7, .long 0), (0, .ref h0), (1, .ref h1), (2, .int 3), (3, .int p0), (4, .int 0), (5, .int 0), (6, .int 0)]) hx hb dX6_chance_7 hl (by decide) rfl (fun ls hl => ?_)
  refine lv_iload_n hx hb dX6_chance_9 rfl (lv_at hl 5 rfl) ?_
  refine lv_iconst (v := 4) hx hb dX6_chance_10 (by decide) ?_
  refine lv_icmp_ne (tgt := 106) hx hb dX6_chance_11 (by decide) (fun _ => ?_) (fun h => absurd h (by decide))
  refine lv_aload_n hx hb dX6_chance_106 rfl (lv_at hl 4 rfl) ?_
  refine lv_iload hx hb dX6_chance_107 (lv_at hl 9 rfl) ?_
  refine ya_ld2 hx hb hK hP 1 rfl (vpl (by decide)) (v := .ref h4) rfl dX6_chance_109 ?_
  refine lv_iload hx hb dX6_chance_110 (lv_at hl 8 rfl) ?_
  refine lv_bipush (v := 14) hx hb dX6_chance_112 (by decide) ?_
  refine lv_imul hx hb dX6_chance_114 ?_
  refine tpi (v := 0) (by decide) ?_
  refine lv_iload hx hb dX6_chance_115 (lv_at hl 7 rfl) ?_
  refine lv_iadd hx hb dX6_chance_117 ?_
  refine tpi (v := 0) (by decide) ?_
  refine lv_iconst (v := 1) hx hb dX6_chance_118 (by decide) ?_
  refine lv_iadd hx hb dX6_chance_119 ?_
  refine tpi (v := 1) (by decide) ?_
  refine va_iald (cA := κ 0) (n := 14) (f := (fun _ => 0)) hx hb hK hP 2 0 rfl rfl (vpl (by decide)) dX6_chance_120 ?_
  refine tpi (v := 0) (by decide) ?_
  refine lv_i2l (v := 0) hx hb dX6_chance_121 (by decide) ?_
  refine lv_lstore (lv' := [(7, .long 0), (11, .long 0), (9, .long 0), (0, .ref h0), (1, .ref h1), (2, .int 3), (3, .int p0), (4, .int 0), (5, .int 0), (6, .int 0)]) hx hb dX6_chance_122 hl (by decide) rfl (fun ls hl => ?_)
  refine lv_aload_n hx hb dX6_chance_124 rfl (lv_at hl 4 rfl) ?_
  refine lv_iload hx hb dX6_chance_125 (lv_at hl 9 rfl) ?_
  refine ya_ld2 hx hb hK hP 1 rfl (vpl (by decide)) (v := .ref h4) rfl dX6_chance_127 ?_
  refine lv_iload hx hb dX6_chance_128 (lv_at hl 8 rfl) ?_
  refine vp_callSi (W.runS (As := [.ref h4, .int 0]) (rest := []) ⟨hx, hb, hml, hown, hts⟩ (k_X6_sum_0 l D κ ε h4) (va_cwS 2 hts gX6_chance_X6_sum rfl rfl rfl (by decide +kernel) ⟨(Nat.le_of_ble_eq_true rfl), (Nat.le_of_ble_eq_true rfl)⟩) (pre0_S (wc := [(h4, .inl (κ 0, 14, .inl (fun _ => 0)))]) hP hK [2] rfl) rfl rfl hl.1 rfl (lv_room (Nat.le_of_ble_eq_true rfl)) dX6_chance_130 ⟨(Nat.le_of_ble_eq_true rfl), (Nat.le_of_ble_eq_true rfl)⟩) (fun r hw => ?_)
  rw [hw]
  refine lv_i2l (v := 0) hx hb dX6_chance_133 (by decide) ?_
  refine lv_lstore (lv' := [(9, .long 0), (7, .long 0), (11, .long 0), (0, .ref h0), (1, .ref h1), (2, .int 3), (3, .int p0), (4, .int 0), (5, .int 0), (6, .int 0)]) hx hb dX6_chance_134 hl (by decide) rfl (fun ls hl => ?_)
  refine lv_aload_n hx hb dX6_chance_136 rfl (lv_at hl 4 rfl) ?_
  refine lv_iload hx hb dX6_chance_137 (lv_at hl 9 rfl) ?_
  refine ya_ld2 hx hb hK hP 1 rfl (vpl (by decide)) (v := .ref h4) rfl dX6_chance_139 ?_
  refine lv_iload hx hb dX6_chance_140 (lv_at hl 8 rfl) ?_
  refine vp_callSi (W.runS (As := [.ref h4, .int 0]) (rest := []) ⟨hx, hb, hml, hown, hts⟩ (k_X6_sorts_0 l D κ ε h4) (va_cwS 2 hts gX6_chance_X6_sorts rfl rfl rfl (by decide +kernel) ⟨(Nat.le_of_ble_eq_true rfl), (Nat.le_of_ble_eq_true rfl)⟩) (pre0_S (wc := [(h4, .inl (κ 0, 14, .inl (fun _ => 0)))]) hP hK [2] rfl) rfl rfl hl.1 rfl (lv_room (Nat.le_of_ble_eq_true rfl)) dX6_chance_142 ⟨(Nat.le_of_ble_eq_true rfl), (Nat.le_of_ble_eq_true rfl)⟩) (fun r hw => ?_)
  rw [hw]
  refine lv_i2l (v := 0) hx hb dX6_chance_145 (by decide) ?_
  refine lv_lstore (lv' := [(11, .long 0), (9, .long 0), (7, .long 0), (0, .ref h0), (1, .ref h1), (2, .int 3), (3, .int p0), (4, .int 0), (5, .int 0), (6, .int 0)]) hx hb dX6_chance_146 hl (by decide) rfl (fun ls hl => ?_)
  refine lv_iload_n hx hb dX6_chance_148 rfl (lv_at hl 5 rfl) ?_
  refine lv_if_ne (tgt := 184) hx hb dX6_chance_149 (by decide) (fun _ => ?_) (fun h => absurd h (by decide))
  refine lv_iload hx hb dX6_chance_184 (lv_at hl 9 rfl) ?_
  refine lv_if_ne (tgt := 202) hx hb dX6_chance_186 (by decide) (fun h => absurd (by decide) h) (fun _ => ?_)
  refine lv_ldc (v := 1000000) hx hb hown (hts _ wd428_X6_chance) dX6_chance_189 ?_
  refine lv_aload_n hx hb dX6_chance_191 rfl (lv_at hl 3 rfl) ?_
  refine va_get (D := D) (ci := 8) (v := .int 0) (C := RX6) (T := TX6) (N := 11) hx hb hts wi_X6_chance_RX6 hown hK hP 0 rfl rfl 1 (by decide) (hts _ wd307_X6_chance) (fun _ h9 => h9) rfl dX6_chance_192 ?_
  refine lv_iconst (v := 1) hx hb dX6_chance_195 (by decide) ?_
  refine lv_iadd hx hb dX6_chance_196 ?_
  refine tpi (v := 1) (by decide) ?_
  refine lv_idiv hx hb dX6_chance_197 (by decide) ?_
  refine tpi (v := 1000000) (by decide) ?_
  refine lv_i2l (v := 1000000) hx hb dX6_chance_198 (by decide) ?_
  refine lv_goto (tgt := 225) hx hb dX6_chance_199 (by decide) ?_
  refine lv_lstore (lv' := [(13, .long 1000000), (11, .long 0), (9, .long 0), (7, .long 0), (0, .ref h0), (1, .ref h1), (2, .int 3), (3, .int p0), (4, .int 0), (5, .int 0), (6, .int 0)]) hx hb dX6_chance_225 hl (by decide) rfl (fun ls hl => ?_)
  refine lv_lload hx hb dX6_chance_227 (lv_at hl 2 rfl) ?_
  refine lv_lconst (v := 0) hx hb dX6_chance_229 (by decide) ?_
  refine W.lcmp hx hb dX6_chance_230 ?_
  refine tpi (v := 0) (by decide) ?_
  refine lv_if_ne (tgt := 237) hx hb dX6_chance_231 (by decide) (fun h => absurd (by decide) h) (fun _ => ?_)
  refine lv_lload hx hb dX6_chance_234 (lv_at hl 0 rfl) ?_
  exact W.lret (v := 1000000) hx hb hr (fun t ht hW => ⟨1000000, rfl, rfl, ht⟩) (fun q hq => absurd hq List.not_mem_nil) dX6_chance_236

set_option maxHeartbeats 4000000 in
set_option maxRecDepth 100000 in
theorem k_X6_chance_7 (l : Launch) (D : va_G) (κ ε : Nat → Nat) (h0 h1 h2 h3 h4 h5 h6 h7 : Nat) (p0 : Int32) (p1 : Int32) (p2 : Int32) (p3 : Int32) (p4 : Int32) (p5 : Int32) (p6 : Int32) : Met l yX6_chance wsX6_chance ({ frames := 2, cells := 0, slots := 0, locals := 57 }) (va_Pc [.ref h0, .ref h1, .int 3, .int p0, .int 0, .int 0, .int 1] (Pre0 D κ [(h0, .inr (8, [.int p1, .int 0, .int p2, .ref h2, .ref h1, .int p3, .int p4, .int p5, .int p6, .int 0, .ref h3])), (h1, .inl (κ 4, 4, .inr (.inr (.inr (.inr (sel [h4, h5, h6, h7])))))), (h4, .inl (κ 0, 14, .inl (fun _ => 0))), (h5, .inl (κ 0, 196, .inl (fun _ => 0)))])) (vp_Sl (fun r => (r = 1000000))) 0 0 (fun _ => False) := by
  refine Met.ofW (cc := cX6_chance) (maxL := 15) (ret := (some .long)) (by decide) rfl ?_
  intro p e s m args below meth c s₁ B hml hv
  obtain ⟨rfl, hP, hK⟩ := hv
  have hx := B.exec
  have hb := B.bytes
  have hr := B.returns
  have hts := atoms_spec (ws := wsX6_chance) B.pre
  have hown : s.vm.findClass RX6 = some m.cls := findClass_of_methodNamed B.named
  have hlocks := B.notSynchronized
  have hP : va_P D vwCl [(h0, .inr (8, [.int p1, .int 0, .int p2, .ref h2, .ref h1, .int p3, .int p4, .int p5, .int p6, .int 0, .ref h3])), (h1, .inl (κ 4, 4, .inr (.inr (.inr (.inr (sel [h4, h5, h6, h7])))))), (h4, .inl (κ 0, 14, .inl (fun _ => 0))), (h5, .inl (κ 0, 196, .inl (fun _ => 0)))] s.heap := hP
  have hl := lv_entry [.ref h0, .ref h1, .int 3, .int p0, .int 0, .int 0, .int 1] (n := 15) (Nat.le_of_ble_eq_true rfl)
  rw [lg_entry_eq]
  generalize (lg_sl [.ref h0, .ref h1, .int 3, .int p0, .int 0, .int 0, .int 1] ++ List.replicate (15 - (lg_sl [.ref h0, .ref h1, .int 3, .int p0, .int 0, .int 0, .int 1]).length) Slot.unset).toArray = ls at hl ⊢
  have hl : lv_has ls 15 [(0, .ref h0), (1, .ref h1), (2, .int 3), (3, .int p0), (4, .int 0), (5, .int 0), (6, .int 1)] := hl
  refine lv_lconst (v := 0) hx hb dX6_chance_0 (by decide) ?_
  refine lv_lstore (lv' := [(7, .long 0), (0, .ref h0), (1, .ref h1), (2, .int 3), (3, .int p0), (4, .int 0), (5, .int 0), (6, .int 1)]) hx hb dX6_chance_1 hl (by decide) rfl (fun ls hl => ?_)
  refine lv_lconst (v := 0) hx hb dX6_chance_3 (by decide) ?_
  refine lv_lstore (lv' := [(9, .long 0), (7, .long 0), (0, .ref h0), (1, .ref h1), (2, .int 3), (3, .int p0), (4, .int 0), (5, .int 0), (6, .int 1)]) hx hb dX6_chance_4 hl (by decide) rfl (fun ls hl => ?_)
  refine lv_lconst (v := 0) hx hb dX6_chance_6 (by decide) ?_
  refine lv_lstore (lv' := [(11, .long 0), (9, .long 0), (7, .long 0), (0, .ref h0), (1, .ref h1), (2, .int 3), (3, .int p0), (4, .int 0), (5, .int 0), (6, .int 1)]) hx hb dX6_chance_7 hl (by decide) rfl (fun ls hl => ?_)
  refine lv_iload_n hx hb dX6_chance_9 rfl (lv_at hl 5 rfl) ?_
  refine lv_iconst (v := 4) hx hb dX6_chance_10 (by decide) ?_
  refine lv_icmp_ne (tgt := 106) hx hb dX6_chance_11 (by decide) (fun _ => ?_) (fun h => absurd h (by decide))
  refine lv_aload_n hx hb dX6_chance_106 rfl (lv_at hl 4 rfl) ?_
  refine lv_iload hx hb dX6_chance_107 (lv_at hl 9 rfl) ?_
  refine ya_ld2 hx hb hK hP 1 rfl (vpl (by decide)) (v := .ref h5) rfl dX6_chance_109 ?_
  refine lv_iload hx hb dX6_chance_110 (lv_at hl 8 rfl) ?_
  refine lv_bipush (v := 14) hx hb dX6_chance_112 (by decide) ?_
  refine lv_imul hx hb dX6_chance_114 ?_
  refine tpi (v := 0) (by decide) ?_
  refine lv_iload hx hb dX6_chance_115 (lv_at hl 7 rfl) ?_
  refine lv_iadd hx hb dX6_chance_117 ?_
  refine tpi (v := 0) (by decide) ?_
  refine lv_iconst (v := 1) hx hb dX6_chance_118 (by decide) ?_
  refine lv_iadd hx hb dX6_chance_119 ?_
  refine tpi (v := 1) (by decide) ?_
  refine va_iald (cA := κ 0) (n := 196) (f := (fun _ => 0)) hx hb hK hP 3 0 rfl rfl (vpl (by decide)) dX6_chance_120 ?_
  refine tpi (v := 0) (by decide) ?_
  refine lv_i2l (v := 0) hx hb dX6_chance_121 (by decide) ?_
  refine lv_lstore (lv' := [(7, .long 0), (11, .long 0), (9, .long 0), (0, .ref h0), (1, .ref h1), (2, .int 3), (3, .int p0), (4, .int 0), (5, .int 0), (6, .int 1)]) hx hb dX6_chance_122 hl (by decide) rfl (fun ls hl => ?_)
  refine lv_aload_n hx hb dX6_chance_124 rfl (lv_at hl 4 rfl) ?_
  refine lv_iload hx hb dX6_chance_125 (lv_at hl 9 rfl) ?_
  refine ya_ld2 hx hb hK hP 1 rfl (vpl (by decide)) (v := .ref h5) rfl dX6_chance_127 ?_
  refine lv_iload hx hb dX6_chance_128 (lv_at hl 8 rfl) ?_
  refine vp_callSi (W.runS (As := [.ref h5, .int 0]) (rest := []) ⟨hx, hb, hml, hown, hts⟩ (k_X6_sum_1 l D κ ε h5) (va_cwS 2 hts gX6_chance_X6_sum rfl rfl rfl (by decide +kernel) ⟨(Nat.le_of_ble_eq_true rfl), (Nat.le_of_ble_eq_true rfl)⟩) (pre0_S (wc := [(h5, .inl (κ 0, 196, .inl (fun _ => 0)))]) hP hK [3] rfl) rfl rfl hl.1 rfl (lv_room (Nat.le_of_ble_eq_true rfl)) dX6_chance_130 ⟨(Nat.le_of_ble_eq_true rfl), (Nat.le_of_ble_eq_true rfl)⟩) (fun r hw => ?_)
  rw [hw]
  refine lv_i2l (v := 0) hx hb dX6_chance_133 (by decide) ?_
  refine lv_lstore (lv' := [(9, .long 0), (7, .long 0), (11, .long 0), (0, .ref h0), (1, .ref h1), (2, .int 3), (3, .int p0), (4, .int 0), (5, .int 0), (6, .int 1)]) hx hb dX6_chance_134 hl (by decide) rfl (fun ls hl => ?_)
  refine lv_aload_n hx hb dX6_chance_136 rfl (lv_at hl 4 rfl) ?_
  refine lv_iload hx hb dX6_chance_137 (lv_at hl 9 rfl) ?_
  refine ya_ld2 hx hb hK hP 1 rfl (vpl (by decide)) (v := .ref h5) rfl dX6_chance_139 ?_
  refine lv_iload hx hb dX6_chance_140 (lv_at hl 8 rfl) ?_
  refine vp_callSi (W.runS (As := [.ref h5, .int 0]) (rest := []) ⟨hx, hb, hml, hown, hts⟩ (k_X6_sorts_1 l D κ ε h5) (va_cwS 2 hts gX6_chance_X6_sorts rfl rfl rfl (by decide +kernel) ⟨(Nat.le_of_ble_eq_true rfl), (Nat.le_of_ble_eq_true rfl)⟩) (pre0_S (wc := [(h5, .inl (κ 0, 196, .inl (fun _ => 0)))]) hP hK [3] rfl) rfl rfl hl.1 rfl (lv_room (Nat.le_of_ble_eq_true rfl)) dX6_chance_142 ⟨(Nat.le_of_ble_eq_true rfl), (Nat.le_of_ble_eq_true rfl)⟩) (fun r hw => ?_)
  rw [hw]
  refine lv_i2l (v := 0) hx hb dX6_chance_145 (by decide) ?_
  refine lv_lstore (lv' := [(11, .long 0), (9, .long 0), (7, .long 0), (0, .ref h0), (1, .ref h1), (2, .int 3), (3, .int p0), (4, .int 0), (5, .int 0), (6, .int 1)]) hx hb dX6_chance_146 hl (by decide) rfl (fun ls hl => ?_)
  refine lv_iload_n hx hb dX6_chance_148 rfl (lv_at hl 5 rfl) ?_
  refine lv_if_ne (tgt := 184) hx hb dX6_chance_149 (by decide) (fun _ => ?_) (fun h => absurd h (by decide))
  refine lv_iload hx hb dX6_chance_184 (lv_at hl 9 rfl) ?_
  refine lv_if_ne (tgt := 202) hx hb dX6_chance_186 (by decide) (fun _ => ?_) (fun h => absurd h (by decide))
  refine lv_aload_n hx hb dX6_chance_202 rfl (lv_at hl 3 rfl) ?_
  refine lv_aload_n hx hb dX6_chance_203 rfl (lv_at hl 4 rfl) ?_
  refine lv_iload_n hx hb dX6_chance_204 rfl (lv_at hl 5 rfl) ?_
  refine lv_iload_n hx hb dX6_chance_205 rfl (lv_at hl 6 rfl) ?_
  refine lv_iload hx hb dX6_chance_206 (lv_at hl 7 rfl) ?_
  refine lv_iload hx hb dX6_chance_208 (lv_at hl 8 rfl) ?_
  refine lv_iload hx hb dX6_chance_210 (lv_at hl 9 rfl) ?_
  refine lv_iconst (v := 1) hx hb dX6_chance_212 (by decide) ?_
  refine lv_isub hx hb dX6_chance_213 ?_
  refine tpi (v := 0) (by decide) ?_
  refine vp_callSi (W.runS (As := [.int 0]) (rest := [.int 0, .int 0, .int p0, .int 3, .ref h1, .ref h0]) ⟨hx, hb, hml, hown, hts⟩ (k_X6_power_0 l D κ ε) (va_cwS 1 hts gX6_chance_X6_power rfl rfl rfl (by decide +kernel) ⟨(Nat.le_of_ble_eq_true rfl), (Nat.le_of_ble_eq_true rfl)⟩) (pre0_S (wc := []) hP hK [] rfl) rfl rfl hl.1 rfl (lv_room (Nat.le_of_ble_eq_true rfl)) dX6_chance_214 ⟨(Nat.le_of_ble_eq_true rfl), (Nat.le_of_ble_eq_true rfl)⟩) (fun r hw => ?_)
  rw [hw]
  refine lv_irem hx hb dX6_chance_217 (by decide) ?_
  refine tpi (v := 0) (by decide) ?_
  refine lv_iload hx hb dX6_chance_218 (lv_at hl 9 rfl) ?_
  refine lv_iconst (v := 1) hx hb dX6_chance_220 (by decide) ?_
  refine lv_isub hx hb dX6_chance_221 ?_
  refine tpi (v := 0) (by decide) ?_
  refine vp_callSl (W.runV (As := [.ref h1, .int 3, .int p0, .int 0, .int 0, .int 0]) (rest := []) ⟨hx, hb, hml, hown, hts⟩ (k_X6_chance_6 l D κ ε h0 h1 h2 h3 h4 h5 h6 h7 (p0) (p1) (p2) (p3) (p4) (p5) (p6)) (cwV 6 hts gX6_chance_X6_chance rfl rfl rfl (by decide +kernel) ⟨(Nat.le_of_ble_eq_true rfl), (Nat.le_of_ble_eq_true rfl)⟩) (pre0_V (q0 := 0) (ci := 8) (wc := [(h0, .inr (8, [.int p1, .int 0, .int p2, .ref h2, .ref h1, .int p3, .int p4, .int p5, .int p6, .int 0, .ref h3])), (h1, .inl (κ 4, 4, .inr (.inr (.inr (.inr (sel [h4, h5, h6, h7])))))), (h4, .inl (κ 0, 14, .inl (fun _ => 0)))]) hP hK [0, 1, 2] rfl rfl rfl) rfl rfl hl.1 rfl (lv_room (Nat.le_of_ble_eq_true rfl)) dX6_chance_222 ⟨(Nat.le_of_ble_eq_true rfl), (Nat.le_of_ble_eq_true rfl)⟩) (fun r hw => ?_)
  rw [hw]
  refine lv_lstore (lv' := [(13, .long 1000000), (11, .long 0), (9, .long 0), (7, .long 0), (0, .ref h0), (1, .ref h1), (2, .int 3), (3, .int p0), (4, .int 0), (5, .int 0), (6, .int 1)]) hx hb dX6_chance_225 hl (by decide) rfl (fun ls hl => ?_)
  refine lv_lload hx hb dX6_chance_227 (lv_at hl 2 rfl) ?_
  refine lv_lconst (v := 0) hx hb dX6_chance_229 (by decide) ?_
  refine W.lcmp hx hb dX6_chance_230 ?_
  refine tpi (v := 0) (by decide) ?_
  refine lv_if_ne (tgt := 237) hx hb dX6_chance_231 (by decide) (fun h => absurd (by decide) h) (fun _ => ?_)
  refine lv_lload hx hb dX6_chance_234 (lv_at hl 0 rfl) ?_
  exact W.lret (v := 1000000) hx hb hr (fun t ht hW => ⟨1000000, rfl, rfl, ht⟩) (fun q hq => absurd hq List.not_mem_nil) dX6_chance_236

set_option maxHeartbeats 4000000 in
set_option maxRecDepth 100000 in
theorem k_X6_score_4 (l : Launch) (D : va_G) (κ ε : Nat → Nat) (h0 h1 h2 h3 h4 h5 h6 h7 : Nat) (p0 : Int32) (p1 : Int32) (p2 : Int32) (p3 : Int32) (p4 : Int32) (p5 : Int32) (p6 : Int32) : Met l yX6_score wsX6_score ({ frames := 3, cells := 0, slots := 0, locals := 91 }) (va_Pc [.ref h0, .ref h1, .int 3, .int p0] (Pre0 D κ [(h0, .inr (8, [.int p1, .int 0, .int 2, .ref h2, .ref h1, .int p2, .int p3, .int p4, .int p5, .int 0, .ref h3])), (h1, .inl (κ 4, 4, .inr (.inr (.inr (.inr (sel [h4, h5, h6, h7])))))), (h2, .inr (1, [.int p6, .ref (ε 1), .int 0])), (h4, .inl (κ 0, 14, .inl (fun _ => 0))), (h5, .inl (κ 0, 196, .inl (fun _ => 0)))])) (vp_Si (fun r => (r = 0))) 0 0 (fun _ => False) := by
  refine Met.ofW (cc := cX6_score) (maxL := 6) (ret := (some .int)) (by decide) rfl ?_
  intro p e s m args below meth c s₁ B hml hv
  obtain ⟨rfl, hP, hK⟩ := hv
  have hx := B.exec
  have hb := B.bytes
  have hr := B.returns
  have hts := atoms_spec (ws := wsX6_score) B.pre
  have hown : s.vm.findClass RX6 = some m.cls := findClass_of_methodNamed B.named
  have hlocks := B.notSynchronized
  have hP : va_P D vwCl [(h0, .inr (8, [.int p1, .int 0, .int 2, .ref h2, .ref h1, .int p2, .int p3, .int p4, .int p5, .int 0, .ref h3])), (h1, .inl (κ 4, 4, .inr (.inr (.inr (.inr (sel [h4, h5, h6, h7])))))), (h2, .inr (1, [.int p6, .ref (ε 1), .int 0])), (h4, .inl (κ 0, 14, .inl (fun _ => 0))), (h5, .inl (κ 0, 196, .inl (fun _ => 0)))] s.heap := hP
  have hl := lv_entry [.ref h0, .ref h1, .int 3, .int p0] (n := 6) (Nat.le_of_ble_eq_true rfl)
  rw [lg_entry_eq]
  generalize (lg_sl [.ref h0, .ref h1, .int 3, .int p0] ++ List.replicate (6 - (lg_sl [.ref h0, .ref h1, .int 3, .int p0]).length) Slot.unset).toArray = ls at hl ⊢
  have hl : lv_has ls 6 [(0, .ref h0), (1, .ref h1), (2, .int 3), (3, .int p0)] := hl
  refine lv_iconst (v := 0) hx hb dX6_score_0 (by decide) ?_
  refine lv_istore (lv' := [(4, .int 0), (0, .ref h0), (1, .ref h1), (2, .int 3), (3, .int p0)]) hx hb dX6_score_1 hl (by decide) rfl (fun ls hl => ?_)
  refine lv_iconst (v := 0) hx hb dX6_score_3 (by decide) ?_
  refine lv_istore (lv' := [(5, .int 0), (4, .int 0), (0, .ref h0), (1, .ref h1), (2, .int 3), (3, .int p0)]) hx hb dX6_score_4 hl (by decide) rfl (fun ls hl => ?_)
  refine lv_iload hx hb dX6_score_6 (lv_at hl 0 rfl) ?_
  refine lv_aload_n hx hb dX6_score_8 rfl (lv_at hl 2 rfl) ?_
  refine va_get (D := D) (ci := 8) (v := .ref h2) (C := RX6) (T := TX6) (N := 11) hx hb hts wi_X6_score_RX6 hown hK hP 0 rfl rfl 3 (by decide) (hts _ wd340_X6_score) (fun _ h9 => h9) rfl dX6_score_9 ?_
  refine vp_callSi (W.runV (As := []) (rest := [.int 0]) ⟨hx, hb, hml, hown, hts⟩ (k_Jx4a65c_size_8abf5_0 l D κ ε h2 (p6)) (cwV 0 hts gX6_score_Jx4a65c_size_8abf5 rfl rfl rfl (by decide +kernel) ⟨(Nat.le_of_ble_eq_true rfl), (Nat.le_of_ble_eq_true rfl)⟩) (pre0_V (q0 := 2) (ci := 1) (wc := [(h2, .inr (1, [.int p6, .ref (ε 1), .int 0]))]) hP hK [2] rfl rfl rfl) rfl rfl hl.1 rfl (lv_room (Nat.le_of_ble_eq_true rfl)) dX6_score_12 ⟨(Nat.le_of_ble_eq_true rfl), (Nat.le_of_ble_eq_true rfl)⟩) (fun r hw => ?_)
  rw [hw]
  refine lv_icmp_gt (tgt := 70) hx hb dX6_score_15 (by decide) (fun h => absurd h (by decide)) (fun _ => ?_)
  refine lv_iload hx hb dX6_score_18 (lv_at hl 1 rfl) ?_
  refine lv_aload_n hx hb dX6_score_20 rfl (lv_at hl 2 rfl) ?_
  refine lv_aload_n hx hb dX6_score_21 rfl (lv_at hl 3 rfl) ?_
  refine lv_iload_n hx hb dX6_score_22 rfl (lv_at hl 4 rfl) ?_
  refine lv_iload_n hx hb dX6_score_23 rfl (lv_at hl 5 rfl) ?_
  refine lv_aload_n hx hb dX6_score_24 rfl (lv_at hl 2 rfl) ?_
  refine lv_aload_n hx hb dX6_score_25 rfl (lv_at hl 2 rfl) ?_
  refine va_get (D := D) (ci := 8) (v := .ref h2) (C := RX6) (T := TX6) (N := 11) hx hb hts wi_X6_score_RX6 hown hK hP 0 rfl rfl 3 (by decide) (hts _ wd340_X6_score) (fun _ h9 => h9) rfl dX6_score_26 ?_
  refine lv_iload hx hb dX6_score_29 (lv_at hl 0 rfl) ?_
  refine vp_callSi (W.runV (As := [.ref h2, .int 0]) (rest := [.int p0, .int 3, .ref h1, .ref h0, .int 0]) ⟨hx, hb, hml, hown, hts⟩ (k_X6_at_0 l D κ ε h0 h2 h1 h3 (p1) (2) (p2) (p3) (p4) (p5) (p6)) (cwV 2 hts gX6_score_X6_at rfl rfl rfl (by decide +kernel) ⟨(Nat.le_of_ble_eq_true rfl), (Nat.le_of_ble_eq_true rfl)⟩) (pre0_V (q0 := 0) (ci := 8) (wc := [(h0, .inr (8, [.int p1, .int 0, .int 2, .ref h2, .ref h1, .int p2, .int p3, .int p4, .int p5, .int 0, .ref h3])), (h2, .inr (1, [.int p6, .ref (ε 1), .int 0]))]) hP hK [0, 2] rfl rfl rfl) rfl rfl hl.1 rfl (lv_room (Nat.le_of_ble_eq_true rfl)) dX6_score_31 ⟨(Nat.le_of_ble_eq_true rfl), (Nat.le_of_ble_eq_true rfl)⟩) (fun r hw => ?_)
  rw [hw]
  refine lv_aload_n hx hb dX6_score_34 rfl (lv_at hl 2 rfl) ?_
  refine va_get (D := D) (ci := 8) (v := .ref h2) (C := RX6) (T := TX6) (N := 11) hx hb hts wi_X6_score_RX6 hown hK hP 0 rfl rfl 3 (by decide) (hts _ wd340_X6_score) (fun _ h9 => h9) rfl dX6_score_35 ?_
  refine lv_iload hx hb dX6_score_38 (lv_at hl 0 rfl) ?_
  refine lv_aload_n hx hb dX6_score_40 rfl (lv_at hl 2 rfl) ?_
  refine va_get (D := D) (ci := 8) (v := .int 2) (C := RX6) (T := TX6) (N := 11) hx hb hts wi_X6_score_RX6 hown hK hP 0 rfl rfl 2 (by decide) (hts _ wd341_X6_score) (fun _ h9 => h9) rfl dX6_score_41 ?_
  refine lv_iconst (v := 1) hx hb dX6_score_44 (by decide) ?_
  refine lv_isub hx hb dX6_score_45 ?_
  refine tpi (v := 1) (by decide) ?_
  refine vp_callSi (W.runS (As := [.ref h2, .int 0, .int 1]) (rest := [.int 0, .int p0, .int 3, .ref h1, .ref h0, .int 0]) ⟨hx, hb, hml, hown, hts⟩ (k_X6_ahead_1 l D κ ε h2) (va_cwS 3 hts gX6_score_X6_ahead rfl rfl rfl (by decide +kernel) ⟨(Nat.le_of_ble_eq_true rfl), (Nat.le_of_ble_eq_true rfl)⟩) (pre0_S (wc := []) hP hK [] rfl) rfl rfl hl.1 rfl (lv_room (Nat.le_of_ble_eq_true rfl)) dX6_score_46 ⟨(Nat.le_of_ble_eq_true rfl), (Nat.le_of_ble_eq_true rfl)⟩) (fun r hw => ?_)
  rw [hw]
  refine lv_aload_n hx hb dX6_score_49 rfl (lv_at hl 2 rfl) ?_
  refine va_get (D := D) (ci := 8) (v := .int 2) (C := RX6) (T := TX6) (N := 11) hx hb hts wi_X6_score_RX6 hown hK hP 0 rfl rfl 2 (by decide) (hts _ wd341_X6_score) (fun _ h9 => h9) rfl dX6_score_50 ?_
  refine lv_iconst (v := 1) hx hb dX6_score_53 (by decide) ?_
  refine lv_isub hx hb dX6_score_54 ?_
  refine tpi (v := 1) (by decide) ?_
  refine vp_callSl (W.runV (As := [.ref h1, .int 3, .int p0, .int 0, .int 0, .int 1]) (rest := [.int 0]) ⟨hx, hb, hml, hown, hts⟩ (k_X6_chance_7 l D κ ε h0 h1 h2 h3 h4 h5 h6 h7 (p0) (p1) (2) (p2) (p3) (p4) (p5)) (cwV 6 hts gX6_score_X6_chance rfl rfl rfl (by decide +kernel) ⟨(Nat.le_of_ble_eq_true rfl), (Nat.le_of_ble_eq_true rfl)⟩) (pre0_V (q0 := 0) (ci := 8) (wc := [(h0, .inr (8, [.int p1, .int 0, .int 2, .ref h2, .ref h1, .int p2, .int p3, .int p4, .int p5, .int 0, .ref h3])), (h1, .inl (κ 4, 4, .inr (.inr (.inr (.inr (sel [h4, h5, h6, h7])))))), (h4, .inl (κ 0, 14, .inl (fun _ => 0))), (h5, .inl (κ 0, 196, .inl (fun _ => 0)))]) hP hK [0, 1, 3, 4] rfl rfl rfl) rfl rfl hl.1 rfl (lv_room (Nat.le_of_ble_eq_true rfl)) dX6_score_55 ⟨(Nat.le_of_ble_eq_true rfl), (Nat.le_of_ble_eq_true rfl)⟩) (fun r hw => ?_)
  rw [hw]
  refine vp_callSi (W.runS (As := [.long 1000000]) (rest := [.int 0]) ⟨hx, hb, hml, hown, hts⟩ (k_X6_cost_1 l D κ ε) (va_cwS 1 hts gX6_score_X6_cost rfl rfl rfl (by decide +kernel) ⟨(Nat.le_of_ble_eq_true rfl), (Nat.le_of_ble_eq_true rfl)⟩) (pre0_S (wc := []) hP hK [] rfl) rfl rfl hl.1 rfl (lv_room (Nat.le_of_ble_eq_true rfl)) dX6_score_58 ⟨(Nat.le_of_ble_eq_true rfl), (Nat.le_of_ble_eq_true rfl)⟩) (fun r hw => ?_)
  rw [hw]
  refine lv_iadd hx hb dX6_score_61 ?_
  refine tpi (v := 0) (by decide) ?_
  refine lv_istore (lv' := [(4, .int 0), (5, .int 0), (0, .ref h0), (1, .ref h1), (2, .int 3), (3, .int p0)]) hx hb dX6_score_62 hl (by decide) rfl (fun ls hl => ?_)
  refine lv_iinc (v := 1) (lv' := [(5, .int 1), (4, .int 0), (0, .ref h0), (1, .ref h1), (2, .int 3), (3, .int p0)]) hx hb dX6_score_64 hl (k := 1) rfl (by decide) (by decide) rfl (fun ls hl => ?_)
  refine lv_goto (tgt := 6) hx hb dX6_score_67 (by decide) ?_
  refine lv_iload hx hb dX6_score_6 (lv_at hl 0 rfl) ?_
  refine lv_aload_n hx hb dX6_score_8 rfl (lv_at hl 2 rfl) ?_
  refine va_get (D := D) (ci := 8) (v := .ref h2) (C := RX6) (T := TX6) (N := 11) hx hb hts wi_X6_score_RX6 hown hK hP 0 rfl rfl 3 (by decide) (hts _ wd340_X6_score) (fun _ h9 => h9) rfl dX6_score_9 ?_
  refine vp_callSi (W.runV (As := []) (rest := [.int 1]) ⟨hx, hb, hml, hown, hts⟩ (k_Jx4a65c_size_8abf5_0 l D κ ε h2 (p6)) (cwV 0 hts gX6_score_Jx4a65c_size_8abf5 rfl rfl rfl (by decide +kernel) ⟨(Nat.le_of_ble_eq_true rfl), (Nat.le_of_ble_eq_true rfl)⟩) (pre0_V (q0 := 2) (ci := 1) (wc := [(h2, .inr (1, [.int p6, .ref (ε 1), .int 0]))]) hP hK [2] rfl rfl rfl) rfl rfl hl.1 rfl (lv_room (Nat.le_of_ble_eq_true rfl)) dX6_score_12 ⟨(Nat.le_of_ble_eq_true rfl), (Nat.le_of_ble_eq_true rfl)⟩) (fun r hw => ?_)
  rw [hw]
  refine lv_icmp_gt (tgt := 70) hx hb dX6_score_15 (by decide) (fun _ => ?_) (fun h => absurd (by decide) h)
  refine lv_iload hx hb dX6_score_70 (lv_at hl 1 rfl) ?_
  exact W.iret (v := 0) hx hb hr (fun t ht hW => ⟨0, rfl, rfl, ht⟩) (fun q hq => absurd hq List.not_mem_nil) dX6_score_72

set_option maxHeartbeats 4000000 in
set_option maxRecDepth 100000 in
theorem k_X6_scoreBy_11 (l : Launch) (D : va_G) (κ ε : Nat → Nat) (h0 h1 h2 h3 h4 h5 h6 h7 : Nat) (sz : Nat) (p0 : Int32) (hf0 : ¬ p0 < 1) (hf1 : ¬ 1000 < p0) : Met l yX6_scoreBy wsX6_scoreBy ({ frames := 4, cells := 0, slots := 0, locals := 116 }) (va_Pc [.ref h0, .int 3, .int p0] (Pre2 D κ ε [(h0, .inr (8, [.int 0, .int 0, .int 2, .ref h1, .ref h2, .int 0, .int 500, .int 0, .int 0, .int 0, .ref h3])), (h1, .inr (1, [.int 0, .ref (ε 1), .int 0])), (h2, .inl (κ 4, 4, .inr (.inr (.inr (.inr (sel [h4, h5, h6, h7])))))), (h4, .inl (κ 0, 14, .inl (fun _ => 0))), (h5, .inl (κ 0, 196, .inl (fun _ => 0)))] sz)) (va_Qi (fun r (u : List Value) => (u[0]? = some (.int 0)) ∧ (r = 0)) (fun u t => va_P D vwCl [(h0, .inr (8, u))] t.heap ∧ va_D (va_A [(h0, .inr (8, [.int 0, .int 0, .int 2, .ref h1, .ref h2, .int 0, .int 500, .int 0, .int 0, .int 0, .ref h3])), (h1, .inr (1, [.int 0, .ref (ε 1), .int 0])), (h2, .inl (κ 4, 4, .inr (.inr (.inr (.inr (sel [h4, h5, h6, h7])))))), (h4, .inl (κ 0, 14, .inl (fun _ => 0))), (h5, .inl (κ 0, 196, .inl (fun _ => 0)))] sz) [(h0, .inr (8, u))]) (va_A [(h0, .inr (8, [.int 0, .int 0, .int 2, .ref h1, .ref h2, .int 0, .int 500, .int 0, .int 0, .int 0, .ref h3])), (h1, .inr (1, [.int 0, .ref (ε 1), .int 0])), (h2, .inl (κ 4, 4, .inr (.inr (.inr (.inr (sel [h4, h5, h6, h7])))))), (h4, .inl (κ 0, 14, .inl (fun _ => 0))), (h5, .inl (κ 0, 196, .inl (fun _ => 0)))] sz)) 0 0 (va_A [(h0, .inr (8, [.int 0, .int 0, .int 2, .ref h1, .ref h2, .int 0, .int 500, .int 0, .int 0, .int 0, .ref h3])), (h1, .inr (1, [.int 0, .ref (ε 1), .int 0])), (h2, .inl (κ 4, 4, .inr (.inr (.inr (.inr (sel [h4, h5, h6, h7])))))), (h4, .inl (κ 0, 14, .inl (fun _ => 0))), (h5, .inl (κ 0, 196, .inl (fun _ => 0)))] sz) := by
  refine Met.ofW (cc := cX6_scoreBy) (maxL := 3) (ret := (some .int)) (by decide) rfl ?_
  intro p e s m args below meth c s₁ B hml hv
  obtain ⟨rfl, hsz, hP, hK, hD0, hE9⟩ := hv
  have hx := B.exec
  have hb := B.bytes
  have hr := B.returns
  have hts := atoms_spec (ws := wsX6_scoreBy) B.pre
  have hown : s.vm.findClass RX6 = some m.cls := findClass_of_methodNamed B.named
  have hlocks := B.notSynchronized
  subst hsz
  have hD := hD0.self (sz := s.heap.size)
  generalize hAe : va_A [(h0, .inr (8, [.int 0, .int 0, .int 2, .ref h1, .ref h2, .int 0, .int 500, .int 0, .int 0, .int 0, .ref h3])), (h1, .inr (1, [.int 0, .ref (ε 1), .int 0])), (h2, .inl (κ 4, 4, .inr (.inr (.inr (.inr (sel [h4, h5, h6, h7])))))), (h4, .inl (κ 0, 14, .inl (fun _ => 0))), (h5, .inl (κ 0, 196, .inl (fun _ => 0)))] s.heap.size = A at hD hE9 ⊢
  have hE := hE9.1
  have hDc := hE9.2
  have hA : ∀ q : Nat, s.heap.size ≤ q → A q := fun q h => by rw [← hAe]; exact Or.inr h
  have hS : va_S A s.heap s.heap [] := va_S.rf
  have hP : va_P D vwCl [(h0, .inr (8, [.int 0, .int 0, .int 2, .ref h1, .ref h2, .int 0, .int 500, .int 0, .int 0, .int 0, .ref h3])), (h1, .inr (1, [.int 0, .ref (ε 1), .int 0])), (h2, .inl (κ 4, 4, .inr (.inr (.inr (.inr (sel [h4, h5, h6, h7])))))), (h4, .inl (κ 0, 14, .inl (fun _ => 0))), (h5, .inl (κ 0, 196, .inl (fun _ => 0)))] s.heap := hP
  have hl := lv_entry [.ref h0, .int 3, .int p0] (n := 3) (Nat.le_of_ble_eq_true rfl)
  rw [lg_entry_eq]
  generalize (lg_sl [.ref h0, .int 3, .int p0] ++ List.replicate (3 - (lg_sl [.ref h0, .int 3, .int p0]).length) Slot.unset).toArray = ls at hl ⊢
  have hl : lv_has ls 3 [(0, .ref h0), (1, .int 3), (2, .int p0)] := hl
  refine lv_aload_n hx hb dX6_scoreBy_0 rfl (lv_at hl 0 rfl) ?_
  refine lv_iload_n hx hb dX6_scoreBy_1 rfl (lv_at hl 1 rfl) ?_
  refine lv_iconst (v := 0) hx hb dX6_scoreBy_2 (by decide) ?_
  refine lv_iconst (v := 4) hx hb dX6_scoreBy_3 (by decide) ?_
  refine vp_callSi (W.runS (As := [.int 3, .int 0, .int 4]) (rest := [.ref h0]) ⟨hx, hb, hml, hown, hts⟩ (k_X6_isIn_53 l D κ ε) (va_cwS 3 hts gX6_scoreBy_X6_isIn rfl rfl rfl (by decide +kernel) ⟨(Nat.le_of_ble_eq_true rfl), (Nat.le_of_ble_eq_true rfl)⟩) (pre0_S (wc := []) hP hK [] rfl) rfl rfl hl.1 rfl (lv_room (Nat.le_of_ble_eq_true rfl)) dX6_scoreBy_4 ⟨(Nat.le_of_ble_eq_true rfl), (Nat.le_of_ble_eq_true rfl)⟩) (fun r hw => ?_)
  rw [hw]
  refine lv_if_eq (tgt := 21) hx hb dX6_scoreBy_7 (by decide) (fun h => absurd h (by decide)) (fun _ => ?_)
  refine lv_iload_n hx hb dX6_scoreBy_10 rfl (lv_at hl 2 rfl) ?_
  refine lv_iconst (v := 1) hx hb dX6_scoreBy_11 (by decide) ?_
  refine lv_sipush (v := 1000) hx hb dX6_scoreBy_12 (by decide) ?_
  refine vp_callSi (W.runS (As := [.int p0, .int 1, .int 1000]) (rest := [.ref h0]) ⟨hx, hb, hml, hown, hts⟩ (k_X6_isIn_29 l D κ ε (p0) hf0 hf1) (va_cwS 3 hts gX6_scoreBy_X6_isIn rfl rfl rfl (by decide +kernel) ⟨(Nat.le_of_ble_eq_true rfl), (Nat.le_of_ble_eq_true rfl)⟩) (pre0_S (wc := []) hP hK [] rfl) rfl rfl hl.1 rfl (lv_room (Nat.le_of_ble_eq_true rfl)) dX6_scoreBy_15 ⟨(Nat.le_of_ble_eq_true rfl), (Nat.le_of_ble_eq_true rfl)⟩) (fun r hw => ?_)
  rw [hw]
  refine lv_if_ne (tgt := 25) hx hb dX6_scoreBy_18 (by decide) (fun _ => ?_) (fun h => absurd h (by decide))
  refine lv_iconst (v := 0) hx hb dX6_scoreBy_25 (by decide) ?_
  refine lv_iconst (v := 1) hx hb dX6_scoreBy_26 (by decide) ?_
  have hF := va_free (wc := [(h0, .inr (8, [.int 0, .int 0, .int 2, .ref h1, .ref h2, .int 0, .int 500, .int 0, .int 0, .int 0, .ref h3]))]) hD hS hA [0] rfl
  refine va_calli (va_runV (As := [.int 0, .int 1]) (rest := []) ⟨hx, hb, hml, hown, hts⟩ (k_X6_start_0 l D κ ε h0 h1 h2 h3 s.heap.size (0) (2) (0) (500) (0) (0)) (cwV 2 hts gX6_scoreBy_X6_start rfl rfl rfl (by decide +kernel) ⟨(Nat.le_of_ble_eq_true rfl), (Nat.le_of_ble_eq_true rfl)⟩) (pre2_V (q0 := 0) (ci := 8) (wc := [(h0, .inr (8, [.int 0, .int 0, .int 2, .ref h1, .ref h2, .int 0, .int 500, .int 0, .int 0, .int 0, .ref h3]))]) hP hD hK hE9 hS hA [0] (by decide) rfl rfl rfl) rfl rfl hl.1 rfl (lv_room (Nat.le_of_ble_eq_true rfl)) dX6_scoreBy_27 ⟨(Nat.le_of_ble_eq_true rfl), (Nat.le_of_ble_eq_true rfl)⟩) hS (fun q _ h => hF q h) hF (fun r u1 t H locs ht hvm hw hB hz1 hk1 hS => ?_)
  try dsimp only at hw hB
  obtain ⟨hP1, hD1⟩ := hB
  rw [ht] at hP1
  obtain ⟨hP, hD⟩ := post_j (ws' := [(h0, .inr (8, [.int 0, .int 0, .int 2, .ref h1, .ref h2, .int 0, .int 500, .int 0, .int 0, .int 0, .ref h3])), (h1, .inr (1, [.int 0, .ref (ε 1), .int 0])), (h2, .inl (κ 4, 4, .inr (.inr (.inr (.inr (sel [h4, h5, h6, h7])))))), (h4, .inl (κ 0, 14, .inl (fun _ => 0))), (h5, .inl (κ 0, 196, .inl (fun _ => 0)))]) (wr := [(h1, .inr (1, [.int 0, .ref (ε 1), .int 0])), (h2, .inl (κ 4, 4, .inr (.inr (.inr (.inr (sel [h4, h5, h6, h7])))))), (h4, .inl (κ 0, 14, .inl (fun _ => 0))), (h5, .inl (κ 0, 196, .inl (fun _ => 0)))]) (w1 := [(h0, .inr (8, [.int 0, .int 0, .int 2, .ref h1, .ref h2, .int 0, .int 500, .int 0, .int 0, .int 0, .ref h3]))]) hP hD hF [0] rfl [1, 2, 3, 4] rfl (by decide) (by decide) hk1 hP1 hD1 [4, 0, 1, 2, 3] (by decide) rfl
  have hP : va_P D vwCl [(h0, .inr (8, [.int 0, .int 0, .int 2, .ref h1, .ref h2, .int 0, .int 500, .int 0, .int 0, .int 0, .ref h3])), (h1, .inr (1, [.int 0, .ref (ε 1), .int 0])), (h2, .inl (κ 4, 4, .inr (.inr (.inr (.inr (sel [h4, h5, h6, h7])))))), (h4, .inl (κ 0, 14, .inl (fun _ => 0))), (h5, .inl (κ 0, 196, .inl (fun _ => 0)))] H := hP
  have hD : va_D A [(h0, .inr (8, [.int 0, .int 0, .int 2, .ref h1, .ref h2, .int 0, .int 500, .int 0, .int 0, .int 0, .ref h3])), (h1, .inr (1, [.int 0, .ref (ε 1), .int 0])), (h2, .inl (κ 4, 4, .inr (.inr (.inr (.inr (sel [h4, h5, h6, h7])))))), (h4, .inl (κ 0, 14, .inl (fun _ => 0))), (h5, .inl (κ 0, 196, .inl (fun _ => 0)))] := hD
  rw [hw]
  refine lv_if_eq (tgt := 37) hx hb dX6_scoreBy_30 (by decide) (fun _ => ?_) (fun h => absurd (by decide) h)
  refine lv_aload_n hx hb dX6_scoreBy_37 rfl (lv_at hl 0 rfl) ?_
  refine lv_aload_n hx hb dX6_scoreBy_38 rfl (lv_at hl 0 rfl) ?_
  refine va_get (D := D) (ci := 8) (v := .ref h2) (C := RX6) (T := TX6) (N := 11) hx hb hts wi_X6_scoreBy_RX6 hown hK hP 0 rfl rfl 4 (by decide) (hts _ wd426_X6_scoreBy) (fun _ h9 => h9) rfl dX6_scoreBy_39 ?_
  refine lv_iload_n hx hb dX6_scoreBy_42 rfl (lv_at hl 1 rfl) ?_
  refine lv_iload_n hx hb dX6_scoreBy_43 rfl (lv_at hl 2 rfl) ?_
  refine vp_callSi (W.runV (As := [.ref h2, .int 3, .int p0]) (rest := []) ⟨hx, hb, hml, hown, hts⟩ (k_X6_score_4 l D κ ε h0 h2 h1 h3 h4 h5 h6 h7 (p0) (0) (0) (500) (0) (0) (0)) (cwV 3 hts gX6_scoreBy_X6_score rfl rfl rfl (by decide +kernel) ⟨(Nat.le_of_ble_eq_true rfl), (Nat.le_of_ble_eq_true rfl)⟩) (pre0_V (q0 := 0) (ci := 8) (wc := [(h0, .inr (8, [.int 0, .int 0, .int 2, .ref h1, .ref h2, .int 0, .int 500, .int 0, .int 0, .int 0, .ref h3])), (h2, .inl (κ 4, 4, .inr (.inr (.inr (.inr (sel [h4, h5, h6, h7])))))), (h1, .inr (1, [.int 0, .ref (ε 1), .int 0])), (h4, .inl (κ 0, 14, .inl (fun _ => 0))), (h5, .inl (κ 0, 196, .inl (fun _ => 0)))]) hP hK [0, 2, 1, 3, 4] rfl rfl rfl) rfl rfl hl.1 rfl (lv_room (Nat.le_of_ble_eq_true rfl)) dX6_scoreBy_44 ⟨(Nat.le_of_ble_eq_true rfl), (Nat.le_of_ble_eq_true rfl)⟩) (fun r hw => ?_)
  rw [hw]
  have hP9 := hP.sub (ws' := [(h0, .inr (8, [.int 0, .int 0, .int 2, .ref h1, .ref h2, .int 0, .int 500, .int 0, .int 0, .int 0, .ref h3]))]) [0] rfl
  have hD9 := hD.sub (ws' := [(h0, .inr (8, [.int 0, .int 0, .int 2, .ref h1, .ref h2, .int 0, .int 500, .int 0, .int 0, .int 0, .ref h3]))]) [0] (by decide) rfl
  exact W.iret (v := 0) hx hb hr (fun t ht hW => ⟨⟨0, [.int 0, .int 0, .int 2, .ref h1, .ref h2, .int 0, .int 500, .int 0, .int 0, .int 0, .ref h3], rfl, ⟨rfl, rfl⟩, by rw [ht]; exact hP9, hD9⟩, hS.F ht⟩) hS.2.2 dX6_scoreBy_47

set_option maxHeartbeats 4000000 in
set_option maxRecDepth 100000 in
theorem k_X5_isWay_5 (l : Launch) (D : va_G) (κ ε : Nat → Nat) (p0 : Int32) : Met l yX5_isWay wsX5_isWay ({ frames := 0, cells := 0, slots := 0, locals := 0 }) (va_Pc [.int 4, .int p0] (Pre0 D κ [])) (vp_Si (fun r => ((p0 < 1) ∧ (r = 0)) ∨ ((¬ p0 < 1) ∧ (1000 < p0) ∧ (r = 0)) ∨ ((¬ p0 < 1) ∧ (¬ 1000 < p0) ∧ (r = 1)))) 0 0 (fun _ => False) := by
  refine Met.ofW (cc := cX5_isWay) (maxL := 2) (ret := (some .boolean)) (by decide) rfl ?_
  intro p e s m args below meth c s₁ B hml hv
  obtain ⟨rfl, hP, hK⟩ := hv
  have hx := B.exec
  have hb := B.bytes
  have hr := B.returns
  have hts := atoms_spec (ws := wsX5_isWay) B.pre
  have hown : s.vm.findClass RX5 = some m.cls := findClass_of_methodNamed B.named
  have hlocks := B.notSynchronized
  have hP : va_P D vwCl [] s.heap := hP
  have hl := lv_entry [.int 4, .int p0] (n := 2) (Nat.le_of_ble_eq_true rfl)
  rw [lg_entry_eq]
  generalize (lg_sl [.int 4, .int p0] ++ List.replicate (2 - (lg_sl [.int 4, .int p0]).length) Slot.unset).toArray = ls at hl ⊢
  have hl : lv_has ls 2 [(0, .int 4), (1, .int p0)] := hl
  refine lv_iload_n hx hb dX5_isWay_0 rfl (lv_at hl 0 rfl) ?_
  refine lv_if_lt (tgt := 25) hx hb dX5_isWay_1 (by decide) (fun h => absurd h (by decide)) (fun _ => ?_)
  refine lv_iload_n hx hb dX5_isWay_4 rfl (lv_at hl 0 rfl) ?_
  refine lv_iconst (v := 4) hx hb dX5_isWay_5 (by decide) ?_
  refine lv_icmp_gt (tgt := 25) hx hb dX5_isWay_6 (by decide) (fun h => absurd h (by decide)) (fun _ => ?_)
  refine lv_iload_n hx hb dX5_isWay_9 rfl (lv_at hl 1 rfl) ?_
  refine lv_iconst (v := 1) hx hb dX5_isWay_10 (by decide) ?_
  refine lv_icmp_lt (tgt := 25) hx hb dX5_isWay_11 (by decide) (fun c1 => ?_) (fun c1 => ?_)
  · skip
    refine lv_iconst (v := 0) hx hb dX5_isWay_25 (by decide) ?_
    exact W.zret (v := 0) hx hb hr rfl (fun t ht hW => ⟨0, rfl, (Or.inl ⟨c1, rfl⟩), ht⟩) (fun q hq => absurd hq List.not_mem_nil) dX5_isWay_26
  · skip
    refine lv_iload_n hx hb dX5_isWay_14 rfl (lv_at hl 1 rfl) ?_
    refine lv_sipush (v := 1000) hx hb dX5_isWay_15 (by decide) ?_
    refine lv_icmp_gt (tgt := 25) hx hb dX5_isWay_18 (by decide) (fun c2 => ?_) (fun c2 => ?_)
    · skip
      refine lv_iconst (v := 0) hx hb dX5_isWay_25 (by decide) ?_
      exact W.zret (v := 0) hx hb hr rfl (fun t ht hW => ⟨0, rfl, (Or.inr (Or.inl ⟨c1, c2, rfl⟩)), ht⟩) (fun q hq => absurd hq List.not_mem_nil) dX5_isWay_26
    · skip
      refine lv_iconst (v := 1) hx hb dX5_isWay_21 (by decide) ?_
      refine lv_goto (tgt := 26) hx hb dX5_isWay_22 (by decide) ?_
      exact W.zret (v := 1) hx hb hr rfl (fun t ht hW => ⟨1, rfl, (Or.inr (Or.inr ⟨c1, c2, rfl⟩)), ht⟩) (fun q hq => absurd hq List.not_mem_nil) dX5_isWay_26

theorem wd429_X1_refine : (.fieldLink RX1 55 "Canticle$Ledger" "order" "I" : Cond) ∈ wsX1_refine := by decide +kernel

set_option maxHeartbeats 4000000 in
set_option maxRecDepth 100000 in
theorem k_X1_refine_8 (l : Launch) (D : va_G) (κ ε : Nat → Nat) (h0 h1 h2 h3 h4 h5 h6 h7 h8 h9 h10 h11 : Nat) (sz : Nat) (p0 : Int32) (p1 : Int32) (p2 : Int32) : Met l yX1_refine wsX1_refine ({ frames := 2, cells := 0, slots := 0, locals := 48 }) (va_Pc [.ref h0, .int 1, .int 0] (Pre2 D κ ε [(h0, .inr (3, [.ref h1, .int 4, .int p0, .ref h2, .ref h3, .long 0, .int p1])), (h1, .inr (2, [.int p2, .int 2, .ref h4, .ref h5])), (h3, .inl (κ 0, 13, .inl (fun _ => 0))), (h5, .inl (κ 3, 4, .inr (.inr (.inr (.inr (sel [h6, h7, h8, h9])))))), (h6, .inr (6, [.ref h10, .ref h11, .int 0]))] sz)) (va_Qv (fun u : Unit => True) (fun u t => va_P D vwCl [(h0, .inr (3, [.ref h1, .int 4, .int p0, .ref h2, .ref h3, .long 0, .int 0])), (h1, .inr (2, [.int p2, .int 2, .ref h4, .ref h5])), (h3, .inl (κ 0, 13, .inl (fun _ => 0))), (h5, .inl (κ 3, 4, .inr (.inr (.inr (.inr (sel [h6, h7, h8, h9])))))), (h6, .inr (6, [.ref h10, .ref h11, .int 0]))] t.heap ∧ va_D (va_A [(h0, .inr (3, [.ref h1, .int 4, .int p0, .ref h2, .ref h3, .long 0, .int p1])), (h1, .inr (2, [.int p2, .int 2, .ref h4, .ref h5])), (h3, .inl (κ 0, 13, .inl (fun _ => 0))), (h5, .inl (κ 3, 4, .inr (.inr (.inr (.inr (sel [h6, h7, h8, h9])))))), (h6, .inr (6, [.ref h10, .ref h11, .int 0]))] sz) [(h0, .inr (3, [.ref h1, .int 4, .int p0, .ref h2, .ref h3, .long 0, .int 0])), (h1, .inr (2, [.int p2, .int 2, .ref h4, .ref h5])), (h3, .inl (κ 0, 13, .inl (fun _ => 0))), (h5, .inl (κ 3, 4, .inr (.inr (.inr (.inr (sel [h6, h7, h8, h9])))))), (h6, .inr (6, [.ref h10, .ref h11, .int 0]))]) (va_A [(h0, .inr (3, [.ref h1, .int 4, .int p0, .ref h2, .ref h3, .long 0, .int p1])), (h1, .inr (2, [.int p2, .int 2, .ref h4, .ref h5])), (h3, .inl (κ 0, 13, .inl (fun _ => 0))), (h5, .inl (κ 3, 4, .inr (.inr (.inr (.inr (sel [h6, h7, h8, h9])))))), (h6, .inr (6, [.ref h10, .ref h11, .int 0]))] sz)) 0 0 (va_A [(h0, .inr (3, [.ref h1, .int 4, .int p0, .ref h2, .ref h3, .long 0, .int p1])), (h1, .inr (2, [.int p2, .int 2, .ref h4, .ref h5])), (h3, .inl (κ 0, 13, .inl (fun _ => 0))), (h5, .inl (κ 3, 4, .inr (.inr (.inr (.inr (sel [h6, h7, h8, h9])))))), (h6, .inr (6, [.ref h10, .ref h11, .int 0]))] sz) := by
  refine Met.ofW (cc := cX1_refine) (maxL := 5) (ret := none) (by decide) rfl ?_
  intro p e s m args below meth c s₁ B hml hv
  obtain ⟨rfl, hsz, hP, hK, hD0, hE9⟩ := hv
  have hx := B.exec
  have hb := B.bytes
  have hr := B.returns
  have hts := atoms_spec (ws := wsX1_refine) B.pre
  have hown : s.vm.findClass RX1 = some m.cls := findClass_of_methodNamed B.named
  have hlocks := B.notSynchronized
  subst hsz
  have hD := hD0.self (sz := s.heap.size)
  generalize hAe : va_A [(h0, .inr (3, [.ref h1, .int 4, .int p0, .ref h2, .ref h3, .long 0, .int p1])), (h1, .inr (2, [.int p2, .int 2, .ref h4, .ref h5])), (h3, .inl (κ 0, 13, .inl (fun _ => 0))), (h5, .inl (κ 3, 4, .inr (.inr (.inr (.inr (sel [h6, h7, h8, h9])))))), (h6, .inr (6, [.ref h10, .ref h11, .int 0]))] s.heap.size = A at hD hE9 ⊢
  have hE := hE9.1
  have hDc := hE9.2
  have hA : ∀ q : Nat, s.heap.size ≤ q → A q := fun q h => by rw [← hAe]; exact Or.inr h
  have hS : va_S A s.heap s.heap [] := va_S.rf
  have hP : va_P D vwCl [(h0, .inr (3, [.ref h1, .int 4, .int p0, .ref h2, .ref h3, .long 0, .int p1])), (h1, .inr (2, [.int p2, .int 2, .ref h4, .ref h5])), (h3, .inl (κ 0, 13, .inl (fun _ => 0))), (h5, .inl (κ 3, 4, .inr (.inr (.inr (.inr (sel [h6, h7, h8, h9])))))), (h6, .inr (6, [.ref h10, .ref h11, .int 0]))] s.heap := hP
  have hl := lv_entry [.ref h0, .int 1, .int 0] (n := 5) (Nat.le_of_ble_eq_true rfl)
  rw [lg_entry_eq]
  generalize (lg_sl [.ref h0, .int 1, .int 0] ++ List.replicate (5 - (lg_sl [.ref h0, .int 1, .int 0]).length) Slot.unset).toArray = ls at hl ⊢
  have hl : lv_has ls 5 [(0, .ref h0), (1, .int 1), (2, .int 0)] := hl
  refine lv_aload_n hx hb dX1_refine_0 rfl (lv_at hl 0 rfl) ?_
  refine va_get (D := D) (ci := 3) (v := .int 4) (C := RX1) (T := TX1) (N := 7) hx hb hts wi_X1_refine_RX1 hown hK hP 0 rfl rfl 1 (by decide) (hts _ wd287_X1_refine) (fun _ h9 => h9) rfl dX1_refine_1 ?_
  refine lv_iconst (v := 4) hx hb dX1_refine_4 (by decide) ?_
  refine lv_icmp_ne (tgt := 23) hx hb dX1_refine_5 (by decide) (fun h => absurd (by decide) h) (fun _ => ?_)
  refine lv_iload_n hx hb dX1_refine_8 rfl (lv_at hl 1 rfl) ?_
  refine lv_aload_n hx hb dX1_refine_9 rfl (lv_at hl 0 rfl) ?_
  refine va_get (D := D) (ci := 3) (v := .ref h1) (C := RX1) (T := TX1) (N := 7) hx hb hts wi_X1_refine_RX1 hown hK hP 0 rfl rfl 0 (by decide) (hts _ wd288_X1_refine) (fun _ h9 => h9) rfl dX1_refine_10 ?_
  refine va_get (D := D) (ci := 2) (v := .int 2) (C := RX0) (T := TX0) (N := 4) hx hb hts wi_X1_refine_RX0 hown hK hP 1 rfl rfl 1 (by decide) (hts _ wd429_X1_refine) (fun _ h9 => h9) rfl dX1_refine_13 ?_
  refine lv_icmp_ge (tgt := 23) hx hb dX1_refine_16 (by decide) (fun h => absurd h (by decide)) (fun _ => ?_)
  refine lv_iconst (v := 1) hx hb dX1_refine_19 (by decide) ?_
  refine lv_goto (tgt := 24) hx hb dX1_refine_20 (by decide) ?_
  refine lv_istore_n (lv' := [(3, .int 1), (0, .ref h0), (1, .int 1), (2, .int 0)]) hx hb dX1_refine_24 rfl hl (by decide) rfl (fun ls hl => ?_)
  refine lv_aload_n hx hb dX1_refine_25 rfl (lv_at hl 1 rfl) ?_
  refine lv_iload_n hx hb dX1_refine_26 rfl (lv_at hl 0 rfl) ?_
  refine lv_if_eq (tgt := 41) hx hb dX1_refine_27 (by decide) (fun h => absurd h (by decide)) (fun _ => ?_)
  refine lv_aload_n hx hb dX1_refine_30 rfl (lv_at hl 1 rfl) ?_
  refine va_get (D := D) (ci := 3) (v := .ref h1) (C := RX1) (T := TX1) (N := 7) hx hb hts wi_X1_refine_RX1 hown hK hP 0 rfl rfl 0 (by decide) (hts _ wd288_X1_refine) (fun _ h9 => h9) rfl dX1_refine_31 ?_
  refine lv_iload_n hx hb dX1_refine_34 rfl (lv_at hl 2 rfl) ?_
  refine va_csr (W.runV (As := [.int 1]) (rest := [.ref h0]) ⟨hx, hb, hml, hown, hts⟩ (k_X0_varietyOf_0 l D κ ε h1 h4 h5 h6 h7 h8 h9 (p2) (2)) (cwV 1 hts gX1_refine_X0_varietyOf rfl rfl rfl (by decide +kernel) ⟨(Nat.le_of_ble_eq_true rfl), (Nat.le_of_ble_eq_true rfl)⟩) (pre0_V (q0 := 1) (ci := 2) (wc := [(h1, .inr (2, [.int p2, .int 2, .ref h4, .ref h5])), (h5, .inl (κ 3, 4, .inr (.inr (.inr (.inr (sel [h6, h7, h8, h9]))))))]) hP hK [1, 3] rfl rfl rfl) rfl rfl hl.1 rfl (lv_room (Nat.le_of_ble_eq_true rfl)) dX1_refine_35 ⟨(Nat.le_of_ble_eq_true rfl), (Nat.le_of_ble_eq_true rfl)⟩) (fun r hw => ?_)
  rw [hw]
  refine lv_goto (tgt := 49) hx hb dX1_refine_38 (by decide) ?_
  refine lv_iload_n hx hb dX1_refine_49 rfl (lv_at hl 3 rfl) ?_
  have hF := va_free (wc := [(h0, .inr (3, [.ref h1, .int 4, .int p0, .ref h2, .ref h3, .long 0, .int p1])), (h6, .inr (6, [.ref h10, .ref h11, .int 0])), (h3, .inl (κ 0, 13, .inl (fun _ => 0)))]) hD hS hA [0, 4, 2] rfl
  refine va_callv (va_runV (As := [.ref h6, .int 0]) (rest := []) ⟨hx, hb, hml, hown, hts⟩ (k_X1_gather_0 l D κ ε h0 h6 h1 h2 h3 h10 h11 s.heap.size (4) (p0) (0) (p1)) (cwV 2 hts gX1_refine_X1_gather rfl rfl rfl (by decide +kernel) ⟨(Nat.le_of_ble_eq_true rfl), (Nat.le_of_ble_eq_true rfl)⟩) (pre2_V (q0 := 0) (ci := 3) (wc := [(h0, .inr (3, [.ref h1, .int 4, .int p0, .ref h2, .ref h3, .long 0, .int p1])), (h6, .inr (6, [.ref h10, .ref h11, .int 0])), (h3, .inl (κ 0, 13, .inl (fun _ => 0)))]) hP hD hK hE9 hS hA [0, 4, 2] (by decide) rfl rfl rfl) rfl rfl hl.1 rfl (lv_room (Nat.le_of_ble_eq_true rfl)) dX1_refine_50 ⟨(Nat.le_of_ble_eq_true rfl), (Nat.le_of_ble_eq_true rfl)⟩) hS (fun q _ h => hF q h) hF (fun u1 t H locs ht hvm hw hB hz1 hk1 hS => ?_)
  try dsimp only at hw hB
  obtain ⟨hP1, hD1⟩ := hB
  rw [ht] at hP1
  obtain ⟨hP, hD⟩ := post_j (ws' := [(h0, .inr (3, [.ref h1, .int 4, .int p0, .ref h2, .ref h3, .long 0, .int 0])), (h1, .inr (2, [.int p2, .int 2, .ref h4, .ref h5])), (h3, .inl (κ 0, 13, .inl (fun _ => 0))), (h5, .inl (κ 3, 4, .inr (.inr (.inr (.inr (sel [h6, h7, h8, h9])))))), (h6, .inr (6, [.ref h10, .ref h11, .int 0]))]) (wr := [(h1, .inr (2, [.int p2, .int 2, .ref h4, .ref h5])), (h5, .inl (κ 3, 4, .inr (.inr (.inr (.inr (sel [h6, h7, h8, h9]))))))]) (w1 := [(h0, .inr (3, [.ref h1, .int 4, .int p0, .ref h2, .ref h3, .long 0, .int 0])), (h6, .inr (6, [.ref h10, .ref h11, .int 0])), (h3, .inl (κ 0, 13, .inl (fun _ => 0)))]) hP hD hF [0, 4, 2] rfl [1, 3] rfl (by decide) (by decide) hk1 hP1 hD1 [2, 0, 4, 1, 3] (by decide) rfl
  have hP : va_P D vwCl [(h0, .inr (3, [.ref h1, .int 4, .int p0, .ref h2, .ref h3, .long 0, .int 0])), (h1, .inr (2, [.int p2, .int 2, .ref h4, .ref h5])), (h3, .inl (κ 0, 13, .inl (fun _ => 0))), (h5, .inl (κ 3, 4, .inr (.inr (.inr (.inr (sel [h6, h7, h8, h9])))))), (h6, .inr (6, [.ref h10, .ref h11, .int 0]))] H := hP
  have hD : va_D A [(h0, .inr (3, [.ref h1, .int 4, .int p0, .ref h2, .ref h3, .long 0, .int 0])), (h1, .inr (2, [.int p2, .int 2, .ref h4, .ref h5])), (h3, .inl (κ 0, 13, .inl (fun _ => 0))), (h5, .inl (κ 3, 4, .inr (.inr (.inr (.inr (sel [h6, h7, h8, h9])))))), (h6, .inr (6, [.ref h10, .ref h11, .int 0]))] := hD
  refine lv_aload_n hx hb dX1_refine_53 rfl (lv_at hl 1 rfl) ?_
  refine va_get (D := D) (ci := 3) (v := .int 4) (C := RX1) (T := TX1) (N := 7) hx hb hts wi_X1_refine_RX1 hown hK hP 0 rfl rfl 1 (by decide) (hts _ wd287_X1_refine) (fun _ h9 => h9) rfl dX1_refine_54 ?_
  refine lv_if_eq (tgt := 70) hx hb dX1_refine_57 (by decide) (fun h => absurd h (by decide)) (fun _ => ?_)
  refine lv_aload_n hx hb dX1_refine_60 rfl (lv_at hl 1 rfl) ?_
  refine va_get (D := D) (ci := 3) (v := .long 0) (C := RX1) (T := TX1) (N := 7) hx hb hts wi_X1_refine_RX1 hown hK hP 0 rfl rfl 5 (by decide) (hts _ wd427_X1_refine) (fun _ h9 => h9) rfl dX1_refine_61 ?_
  refine lv_lconst (v := 0) hx hb dX1_refine_64 (by decide) ?_
  refine W.lcmp hx hb dX1_refine_65 ?_
  refine tpi (v := 0) (by decide) ?_
  refine lv_if_gt (tgt := 70) hx hb dX1_refine_66 (by decide) (fun h => absurd h (by decide)) (fun _ => ?_)
  have hP9 := hP
  have hD9 := hD
  exact W.vret hx hb hr (fun t ht hW => ⟨⟨(), rfl, trivial, by rw [ht]; exact hP9, hD9⟩, hS.F ht⟩) hS.2.2 dX1_refine_69

set_option maxHeartbeats 4000000 in
set_option maxRecDepth 100000 in
theorem k_X1_refine_9 (l : Launch) (D : va_G) (κ ε : Nat → Nat) (h0 h1 h2 h3 h4 h5 h6 h7 h8 h9 h10 h11 : Nat) (sz : Nat) (p0 : Int32) (p1 : Int32) (p2 : Int32) : Met l yX1_refine wsX1_refine ({ frames := 2, cells := 0, slots := 0, locals := 48 }) (va_Pc [.ref h0, .int 2, .int 0] (Pre2 D κ ε [(h0, .inr (3, [.ref h1, .int 4, .int p0, .ref h2, .ref h3, .long 0, .int p1])), (h1, .inr (2, [.int p2, .int 2, .ref h4, .ref h5])), (h3, .inl (κ 0, 13, .inl (fun _ => 0))), (h4, .inl (κ 3, 4, .inr (.inr (.inr (.inr (sel [h6, h7, h8, h9])))))), (h7, .inr (6, [.ref h10, .ref h11, .int 0]))] sz)) (va_Qv (fun u : Unit => True) (fun u t => va_P D vwCl [(h0, .inr (3, [.ref h1, .int 4, .int p0, .ref h2, .ref h3, .long 0, .int 0])), (h1, .inr (2, [.int p2, .int 2, .ref h4, .ref h5])), (h3, .inl (κ 0, 13, .inl (fun _ => 0))), (h4, .inl (κ 3, 4, .inr (.inr (.inr (.inr (sel [h6, h7, h8, h9])))))), (h7, .inr (6, [.ref h10, .ref h11, .int 0]))] t.heap ∧ va_D (va_A [(h0, .inr (3, [.ref h1, .int 4, .int p0, .ref h2, .ref h3, .long 0, .int p1])), (h1, .inr (2, [.int p2, .int 2, .ref h4, .ref h5])), (h3, .inl (κ 0, 13, .inl (fun _ => 0))), (h4, .inl (κ 3, 4, .inr (.inr (.inr (.inr (sel [h6, h7, h8, h9])))))), (h7, .inr (6, [.ref h10, .ref h11, .int 0]))] sz) [(h0, .inr (3, [.ref h1, .int 4, .int p0, .ref h2, .ref h3, .long 0, .int 0])), (h1, .inr (2, [.int p2, .int 2, .ref h4, .ref h5])), (h3, .inl (κ 0, 13, .inl (fun _ => 0))), (h4, .inl (κ 3, 4, .inr (.inr (.inr (.inr (sel [h6, h7, h8, h9])))))), (h7, .inr (6, [.ref h10, .ref h11, .int 0]))]) (va_A [(h0, .inr (3, [.ref h1, .int 4, .int p0, .ref h2, .ref h3, .long 0, .int p1])), (h1, .inr (2, [.int p2, .int 2, .ref h4, .ref h5])), (h3, .inl (κ 0, 13, .inl (fun _ => 0))), (h4, .inl (κ 3, 4, .inr (.inr (.inr (.inr (sel [h6, h7, h8, h9])))))), (h7, .inr (6, [.ref h10, .ref h11, .int 0]))] sz)) 0 0 (va_A [(h0, .inr (3, [.ref h1, .int 4, .int p0, .ref h2, .ref h3, .long 0, .int p1])), (h1, .inr (2, [.int p2, .int 2, .ref h4, .ref h5])), (h3, .inl (κ 0, 13, .inl (fun _ => 0))), (h4, .inl (κ 3, 4, .inr (.inr (.inr (.inr (sel [h6, h7, h8, h9])))))), (h7, .inr (6, [.ref h10, .ref h11, .int 0]))] sz) := by
  refine Met.ofW (cc := cX1_refine) (maxL := 5) (ret := none) (by decide) rfl ?_
  intro p e s m args below meth c s₁ B hml hv
  obtain ⟨rfl, hsz, hP, hK, hD0, hE9⟩ := hv
  have hx := B.exec
  have hb := B.bytes
  have hr := B.returns
  have hts := atoms_spec (ws := wsX1_refine) B.pre
  have hown : s.vm.findClass RX1 = some m.cls := findClass_of_methodNamed B.named
  have hlocks := B.notSynchronized
  subst hsz
  have hD := hD0.self (sz := s.heap.size)
  generalize hAe : va_A [(h0, .inr (3, [.ref h1, .int 4, .int p0, .ref h2, .ref h3, .long 0, .int p1])), (h1, .inr (2, [.int p2, .int 2, .ref h4, .ref h5])), (h3, .inl (κ 0, 13, .inl (fun _ => 0))), (h4, .inl (κ 3, 4, .inr (.inr (.inr (.inr (sel [h6, h7, h8, h9])))))), (h7, .inr (6, [.ref h10, .ref h11, .int 0]))] s.heap.size = A at hD hE9 ⊢
  have hE := hE9.1
  have hDc := hE9.2
  have hA : ∀ q : Nat, s.heap.size ≤ q → A q := fun q h => by rw [← hAe]; exact Or.inr h
  have hS : va_S A s.heap s.heap [] := va_S.rf
  have hP : va_P D vwCl [(h0, .inr (3, [.ref h1, .int 4, .int p0, .ref h2, .ref h3, .long 0, .int p1])), (h1, .inr (2, [.int p2, .int 2, .ref h4, .ref h5])), (h3, .inl (κ 0, 13, .inl (fun _ => 0))), (h4, .inl (κ 3, 4, .inr (.inr (.inr (.inr (sel [h6, h7, h8, h9])))))), (h7, .inr (6, [.ref h10, .ref h11, .int 0]))] s.heap := hP
  have hl := lv_entry [.ref h0, .int 2, .int 0] (n := 5) (Nat.le_of_ble_eq_true rfl)
  rw [lg_entry_eq]
  generalize (lg_sl [.ref h0, .int 2, .int 0] ++ List.replicate (5 - (lg_sl [.ref h0, .int 2, .int 0]).length) Slot.unset).toArray = ls at hl ⊢
  have hl : lv_has ls 5 [(0, .ref h0), (1, .int 2), (2, .int 0)] := hl
  refine lv_aload_n hx hb dX1_refine_0 rfl (lv_at hl 0 rfl) ?_
  refine va_get (D := D) (ci := 3) (v := .int 4) (C := RX1) (T := TX1) (N := 7) hx hb hts wi_X1_refine_RX1 hown hK hP 0 rfl rfl 1 (by decide) (hts _ wd287_X1_refine) (fun _ h9 => h9) rfl dX1_refine_1 ?_
  refine lv_iconst (v := 4) hx hb dX1_refine_4 (by decide) ?_
  refine lv_icmp_ne (tgt := 23) hx hb dX1_refine_5 (by decide) (fun h => absurd (by decide) h) (fun _ => ?_)
  refine lv_iload_n hx hb dX1_refine_8 rfl (lv_at hl 1 rfl) ?_
  refine lv_aload_n hx hb dX1_refine_9 rfl (lv_at hl 0 rfl) ?_
  refine va_get (D := D) (ci := 3) (v := .ref h1) (C := RX1) (T := TX1) (N := 7) hx hb hts wi_X1_refine_RX1 hown hK hP 0 rfl rfl 0 (by decide) (hts _ wd288_X1_refine) (fun _ h9 => h9) rfl dX1_refine_10 ?_
  refine va_get (D := D) (ci := 2) (v := .int 2) (C := RX0) (T := TX0) (N := 4) hx hb hts wi_X1_refine_RX0 hown hK hP 1 rfl rfl 1 (by decide) (hts _ wd429_X1_refine) (fun _ h9 => h9) rfl dX1_refine_13 ?_
  refine lv_icmp_ge (tgt := 23) hx hb dX1_refine_16 (by decide) (fun _ => ?_) (fun h => absurd (by decide) h)
  refine lv_iconst (v := 0) hx hb dX1_refine_23 (by decide) ?_
  refine lv_istore_n (lv' := [(3, .int 0), (0, .ref h0), (1, .int 2), (2, .int 0)]) hx hb dX1_refine_24 rfl hl (by decide) rfl (fun ls hl => ?_)
  refine lv_aload_n hx hb dX1_refine_25 rfl (lv_at hl 1 rfl) ?_
  refine lv_iload_n hx hb dX1_refine_26 rfl (lv_at hl 0 rfl) ?_
  refine lv_if_eq (tgt := 41) hx hb dX1_refine_27 (by decide) (fun _ => ?_) (fun h => absurd (by decide) h)
  refine lv_aload_n hx hb dX1_refine_41 rfl (lv_at hl 1 rfl) ?_
  refine va_get (D := D) (ci := 3) (v := .ref h1) (C := RX1) (T := TX1) (N := 7) hx hb hts wi_X1_refine_RX1 hown hK hP 0 rfl rfl 0 (by decide) (hts _ wd288_X1_refine) (fun _ h9 => h9) rfl dX1_refine_42 ?_
  refine lv_iload_n hx hb dX1_refine_45 rfl (lv_at hl 2 rfl) ?_
  refine va_csr (W.runV (As := [.int 2]) (rest := [.ref h0]) ⟨hx, hb, hml, hown, hts⟩ (k_X0_countsOf_1 l D κ ε h1 h4 h5 h6 h7 h8 h9 (p2) (2)) (cwV 1 hts gX1_refine_X0_countsOf rfl rfl rfl (by decide +kernel) ⟨(Nat.le_of_ble_eq_true rfl), (Nat.le_of_ble_eq_true rfl)⟩) (pre0_V (q0 := 1) (ci := 2) (wc := [(h1, .inr (2, [.int p2, .int 2, .ref h4, .ref h5])), (h4, .inl (κ 3, 4, .inr (.inr (.inr (.inr (sel [h6, h7, h8, h9]))))))]) hP hK [1, 3] rfl rfl rfl) rfl rfl hl.1 rfl (lv_room (Nat.le_of_ble_eq_true rfl)) dX1_refine_46 ⟨(Nat.le_of_ble_eq_true rfl), (Nat.le_of_ble_eq_true rfl)⟩) (fun r hw => ?_)
  rw [hw]
  refine lv_iload_n hx hb dX1_refine_49 rfl (lv_at hl 3 rfl) ?_
  have hF := va_free (wc := [(h0, .inr (3, [.ref h1, .int 4, .int p0, .ref h2, .ref h3, .long 0, .int p1])), (h7, .inr (6, [.ref h10, .ref h11, .int 0])), (h3, .inl (κ 0, 13, .inl (fun _ => 0)))]) hD hS hA [0, 4, 2] rfl
  refine va_callv (va_runV (As := [.ref h7, .int 0]) (rest := []) ⟨hx, hb, hml, hown, hts⟩ (k_X1_gather_0 l D κ ε h0 h7 h1 h2 h3 h10 h11 s.heap.size (4) (p0) (0) (p1)) (cwV 2 hts gX1_refine_X1_gather rfl rfl rfl (by decide +kernel) ⟨(Nat.le_of_ble_eq_true rfl), (Nat.le_of_ble_eq_true rfl)⟩) (pre2_V (q0 := 0) (ci := 3) (wc := [(h0, .inr (3, [.ref h1, .int 4, .int p0, .ref h2, .ref h3, .long 0, .int p1])), (h7, .inr (6, [.ref h10, .ref h11, .int 0])), (h3, .inl (κ 0, 13, .inl (fun _ => 0)))]) hP hD hK hE9 hS hA [0, 4, 2] (by decide) rfl rfl rfl) rfl rfl hl.1 rfl (lv_room (Nat.le_of_ble_eq_true rfl)) dX1_refine_50 ⟨(Nat.le_of_ble_eq_true rfl), (Nat.le_of_ble_eq_true rfl)⟩) hS (fun q _ h => hF q h) hF (fun u1 t H locs ht hvm hw hB hz1 hk1 hS => ?_)
  try dsimp only at hw hB
  obtain ⟨hP1, hD1⟩ := hB
  rw [ht] at hP1
  obtain ⟨hP, hD⟩ := post_j (ws' := [(h0, .inr (3, [.ref h1, .int 4, .int p0, .ref h2, .ref h3, .long 0, .int 0])), (h1, .inr (2, [.int p2, .int 2, .ref h4, .ref h5])), (h3, .inl (κ 0, 13, .inl (fun _ => 0))), (h4, .inl (κ 3, 4, .inr (.inr (.inr (.inr (sel [h6, h7, h8, h9])))))), (h7, .inr (6, [.ref h10, .ref h11, .int 0]))]) (wr := [(h1, .inr (2, [.int p2, .int 2, .ref h4, .ref h5])), (h4, .inl (κ 3, 4, .inr (.inr (.inr (.inr (sel [h6, h7, h8, h9]))))))]) (w1 := [(h0, .inr (3, [.ref h1, .int 4, .int p0, .ref h2, .ref h3, .long 0, .int 0])), (h7, .inr (6, [.ref h10, .ref h11, .int 0])), (h3, .inl (κ 0, 13, .inl (fun _ => 0)))]) hP hD hF [0, 4, 2] rfl [1, 3] rfl (by decide) (by decide) hk1 hP1 hD1 [2, 0, 4, 1, 3] (by decide) rfl
  have hP : va_P D vwCl [(h0, .inr (3, [.ref h1, .int 4, .int p0, .ref h2, .ref h3, .long 0, .int 0])), (h1, .inr (2, [.int p2, .int 2, .ref h4, .ref h5])), (h3, .inl (κ 0, 13, .inl (fun _ => 0))), (h4, .inl (κ 3, 4, .inr (.inr (.inr (.inr (sel [h6, h7, h8, h9])))))), (h7, .inr (6, [.ref h10, .ref h11, .int 0]))] H := hP
  have hD : va_D A [(h0, .inr (3, [.ref h1, .int 4, .int p0, .ref h2, .ref h3, .long 0, .int 0])), (h1, .inr (2, [.int p2, .int 2, .ref h4, .ref h5])), (h3, .inl (κ 0, 13, .inl (fun _ => 0))), (h4, .inl (κ 3, 4, .inr (.inr (.inr (.inr (sel [h6, h7, h8, h9])))))), (h7, .inr (6, [.ref h10, .ref h11, .int 0]))] := hD
  refine lv_aload_n hx hb dX1_refine_53 rfl (lv_at hl 1 rfl) ?_
  refine va_get (D := D) (ci := 3) (v := .int 4) (C := RX1) (T := TX1) (N := 7) hx hb hts wi_X1_refine_RX1 hown hK hP 0 rfl rfl 1 (by decide) (hts _ wd287_X1_refine) (fun _ h9 => h9) rfl dX1_refine_54 ?_
  refine lv_if_eq (tgt := 70) hx hb dX1_refine_57 (by decide) (fun h => absurd h (by decide)) (fun _ => ?_)
  refine lv_aload_n hx hb dX1_refine_60 rfl (lv_at hl 1 rfl) ?_
  refine va_get (D := D) (ci := 3) (v := .long 0) (C := RX1) (T := TX1) (N := 7) hx hb hts wi_X1_refine_RX1 hown hK hP 0 rfl rfl 5 (by decide) (hts _ wd427_X1_refine) (fun _ h9 => h9) rfl dX1_refine_61 ?_
  refine lv_lconst (v := 0) hx hb dX1_refine_64 (by decide) ?_
  refine W.lcmp hx hb dX1_refine_65 ?_
  refine tpi (v := 0) (by decide) ?_
  refine lv_if_gt (tgt := 70) hx hb dX1_refine_66 (by decide) (fun h => absurd h (by decide)) (fun _ => ?_)
  have hP9 := hP
  have hD9 := hD
  exact W.vret hx hb hr (fun t ht hW => ⟨⟨(), rfl, trivial, by rw [ht]; exact hP9, hD9⟩, hS.F ht⟩) hS.2.2 dX1_refine_69

set_option maxHeartbeats 4000000 in
set_option maxRecDepth 100000 in
theorem k_X1_reckon_5 (l : Launch) (D : va_G) (κ ε : Nat → Nat) (h0 h1 h2 h3 h4 h5 h6 h7 h8 h9 h10 h11 h12 h13 h14 h15 h16 h17 : Nat) (sz : Nat) (p0 : Int32) (p1 : Int32) : Met l yX1_reckon wsX1_reckon ({ frames := 3, cells := 0, slots := 0, locals := 72 }) (va_Pc [.ref h0, .int 2, .int 0] (Pre2 D κ ε [(h0, .inr (3, [.ref h1, .int 4, .int p0, .ref h2, .ref h3, .long 0, .int p1])), (h1, .inr (2, [.int 0, .int 2, .ref h4, .ref h5])), (h2, .inl (κ 0, 13, .inl (fun _ => 0))), (h3, .inl (κ 0, 13, .inl (fun _ => 0))), (h4, .inl (κ 3, 4, .inr (.inr (.inr (.inr (sel [h6, h7, h8, h9])))))), (h5, .inl (κ 3, 4, .inr (.inr (.inr (.inr (sel [h10, h11, h12, h13])))))), (h7, .inr (6, [.ref h14, .ref h15, .int 0])), (h10, .inr (6, [.ref h16, .ref h17, .int 0]))] sz)) (va_Qv (fun u : Unit => True) (fun u t => va_P D vwCl [(h0, .inr (3, [.ref h1, .int 4, .int p0, .ref h2, .ref h3, .long 0, .int 0])), (h1, .inr (2, [.int 0, .int 2, .ref h4, .ref h5])), (h2, .inl (κ 0, 13, .inl (upd (upd (upd (upd (upd (upd (upd (upd (upd (upd (upd (upd (upd (fun _ => 0) 0 1000000) 1 1000000) 2 1000000) 3 1000000) 4 1000000) 5 1000000) 6 1000000) 7 1000000) 8 1000000) 9 1000000) 10 1000000) 11 1000000) 12 1000000))), (h3, .inl (κ 0, 13, .inl (fun _ => 0))), (h4, .inl (κ 3, 4, .inr (.inr (.inr (.inr (sel [h6, h7, h8, h9])))))), (h5, .inl (κ 3, 4, .inr (.inr (.inr (.inr (sel [h10, h11, h12, h13])))))), (h7, .inr (6, [.ref h14, .ref h15, .int 0])), (h10, .inr (6, [.ref h16, .ref h17, .int 0]))] t.heap ∧ va_D (va_A [(h0, .inr (3, [.ref h1, .int 4, .int p0, .ref h2, .ref h3, .long 0, .int p1])), (h1, .inr (2, [.int 0, .int 2, .ref h4, .ref h5])), (h2, .inl (κ 0, 13, .inl (fun _ => 0))), (h3, .inl (κ 0, 13, .inl (fun _ => 0))), (h4, .inl (κ 3, 4, .inr (.inr (.inr (.inr (sel [h6, h7, h8, h9])))))), (h5, .inl (κ 3, 4, .inr (.inr (.inr (.inr (sel [h10, h11, h12, h13])))))), (h7, .inr (6, [.ref h14, .ref h15, .int 0])), (h10, .inr (6, [.ref h16, .ref h17, .int 0]))] sz) [(h0, .inr (3, [.ref h1, .int 4, .int p0, .ref h2, .ref h3, .long 0, .int 0])), (h1, .inr (2, [.int 0, .int 2, .ref h4, .ref h5])), (h2, .inl (κ 0, 13, .inl (upd (upd (upd (upd (upd (upd (upd (upd (upd (upd (upd (upd (upd (fun _ => 0) 0 1000000) 1 1000000) 2 1000000) 3 1000000) 4 1000000) 5 1000000) 6 1000000) 7 1000000) 8 1000000) 9 1000000) 10 1000000) 11 1000000) 12 1000000))), (h3, .inl (κ 0, 13, .inl (fun _ => 0))), (h4, .inl (κ 3, 4, .inr (.inr (.inr (.inr (sel [h6, h7, h8, h9])))))), (h5, .inl (κ 3, 4, .inr (.inr (.inr (.inr (sel [h10, h11, h12, h13])))))), (h7, .inr (6, [.ref h14, .ref h15, .int 0])), (h10, .inr (6, [.ref h16, .ref h17, .int 0]))]) (va_A [(h0, .inr (3, [.ref h1, .int 4, .int p0, .ref h2, .ref h3, .long 0, .int p1])), (h1, .inr (2, [.int 0, .int 2, .ref h4, .ref h5])), (h2, .inl (κ 0, 13, .inl (fun _ => 0))), (h3, .inl (κ 0, 13, .inl (fun _ => 0))), (h4, .inl (κ 3, 4, .inr (.inr (.inr (.inr (sel [h6, h7, h8, h9])))))), (h5, .inl (κ 3, 4, .inr (.inr (.inr (.inr (sel [h10, h11, h12, h13])))))), (h7, .inr (6, [.ref h14, .ref h15, .int 0])), (h10, .inr (6, [.ref h16, .ref h17, .int 0]))] sz)) 0 0 (va_A [(h0, .inr (3, [.ref h1, .int 4, .int p0, .ref h2, .ref h3, .long 0, .int p1])), (h1, .inr (2, [.int 0, .int 2, .ref h4, .ref h5])), (h2, .inl (κ 0, 13, .inl (fun _ => 0))), (h3, .inl (κ 0, 13, .inl (fun _ => 0))), (h4, .inl (κ 3, 4, .inr (.inr (.inr (.inr (sel [h6, h7, h8, h9])))))), (h5, .inl (κ 3, 4, .inr (.inr (.inr (.inr (sel [h10, h11, h12, h13])))))), (h7, .inr (6, [.ref h14, .ref h15, .int 0])), (h10, .inr (6, [.ref h16, .ref h17, .int 0]))] sz) := by
  refine Met.ofW (cc := cX1_reckon) (maxL := 4) (ret := none) (by decide) rfl ?_
  intro p e s m args below meth c s₁ B hml hv
  obtain ⟨rfl, hsz, hP, hK, hD0, hE9⟩ := hv
  have hx := B.exec
  have hb := B.bytes
  have hr := B.returns
  have hts := atoms_spec (ws := wsX1_reckon) B.pre
  have hown : s.vm.findClass RX1 = some m.cls := findClass_of_methodNamed B.named
  have hlocks := B.notSynchronized
  subst hsz
  have hD := hD0.self (sz := s.heap.size)
  generalize hAe : va_A [(h0, .inr (3, [.ref h1, .int 4, .int p0, .ref h2, .ref h3, .long 0, .int p1])), (h1, .inr (2, [.int 0, .int 2, .ref h4, .ref h5])), (h2, .inl (κ 0, 13, .inl (fun _ => 0))), (h3, .inl (κ 0, 13, .inl (fun _ => 0))), (h4, .inl (κ 3, 4, .inr (.inr (.inr (.inr (sel [h6, h7, h8, h9])))))), (h5, .inl (κ 3, 4, .inr (.inr (.inr (.inr (sel [h10, h11, h12, h13])))))), (h7, .inr (6, [.ref h14, .ref h15, .int 0])), (h10, .inr (6, [.ref h16, .ref h17, .int 0]))] s.heap.size = A at hD hE9 ⊢
  have hE := hE9.1
  have hDc := hE9.2
  have hA : ∀ q : Nat, s.heap.size ≤ q → A q := fun q h => by rw [← hAe]; exact Or.inr h
  have hS : va_S A s.heap s.heap [] := va_S.rf
  have hP : va_P D vwCl [(h0, .inr (3, [.ref h1, .int 4, .int p0, .ref h2, .ref h3, .long 0, .int p1])), (h1, .inr (2, [.int 0, .int 2, .ref h4, .ref h5])), (h2, .inl (κ 0, 13, .inl (fun _ => 0))), (h3, .inl (κ 0, 13, .inl (fun _ => 0))), (h4, .inl (κ 3, 4, .inr (.inr (.inr (.inr (sel [h6, h7, h8, h9])))))), (h5, .inl (κ 3, 4, .inr (.inr (.inr (.inr (sel [h10, h11, h12, h13])))))), (h7, .inr (6, [.ref h14, .ref h15, .int 0])), (h10, .inr (6, [.ref h16, .ref h17, .int 0]))] s.heap := hP
  have hl := lv_entry [.ref h0, .int 2, .int 0] (n := 4) (Nat.le_of_ble_eq_true rfl)
  rw [lg_entry_eq]
  generalize (lg_sl [.ref h0, .int 2, .int 0] ++ List.replicate (4 - (lg_sl [.ref h0, .int 2, .int 0]).length) Slot.unset).toArray = ls at hl ⊢
  have hl : lv_has ls 4 [(0, .ref h0), (1, .int 2), (2, .int 0)] := hl
  refine lv_aload_n hx hb dX1_reckon_0 rfl (lv_at hl 0 rfl) ?_
  refine va_get (D := D) (ci := 3) (v := .ref h2) (C := RX1) (T := TX1) (N := 7) hx hb hts wi_X1_reckon_RX1 hown hK hP 0 rfl rfl 3 (by decide) (hts _ wd292_X1_reckon) (fun _ h9 => h9) rfl dX1_reckon_1 ?_
  refine lv_ldc (v := 1000000) hx hb hown (hts _ wd293_X1_reckon) dX1_reckon_4 ?_
  refine lv_aload_n hx hb dX1_reckon_6 rfl (lv_at hl 0 rfl) ?_
  refine va_get (D := D) (ci := 3) (v := .ref h1) (C := RX1) (T := TX1) (N := 7) hx hb hts wi_X1_reckon_RX1 hown hK hP 0 rfl rfl 0 (by decide) (hts _ wd294_X1_reckon) (fun _ h9 => h9) rfl dX1_reckon_7 ?_
  refine va_get (D := D) (ci := 2) (v := .int 0) (C := RX0) (T := TX0) (N := 4) hx hb hts wi_X1_reckon_RX0 hown hK hP 1 rfl rfl 0 (by decide) (hts _ wd295_X1_reckon) (fun _ h9 => h9) rfl dX1_reckon_10 ?_
  refine lv_iconst (v := 1) hx hb dX1_reckon_13 (by decide) ?_
  refine lv_iadd hx hb dX1_reckon_14 ?_
  refine tpi (v := 1) (by decide) ?_
  refine lv_idiv hx hb dX1_reckon_15 (by decide) ?_
  refine tpi (v := 1000000) (by decide) ?_
  have hF := va_free (wc := [(h2, .inl (κ 0, 13, .inl (fun _ => 0)))]) hD hS hA [2] rfl
  refine va_callv (va_runS (As := [.ref h2, .int 1000000]) (rest := []) ⟨hx, hb, hml, hown, hts⟩ (k_J7_fill_53178_1 l D κ ε h2 s.heap.size) (va_cwS 2 hts gX1_reckon_J7_fill_53178 rfl rfl rfl (by decide +kernel) ⟨(Nat.le_of_ble_eq_true rfl), (Nat.le_of_ble_eq_true rfl)⟩) (pre2_S (wc := [(h2, .inl (κ 0, 13, .inl (fun _ => 0)))]) hP hD hK hE9 hS hA [2] (by decide) rfl) rfl rfl hl.1 rfl (lv_room (Nat.le_of_ble_eq_true rfl)) dX1_reckon_16 ⟨(Nat.le_of_ble_eq_true rfl), (Nat.le_of_ble_eq_true rfl)⟩) hS (fun q _ h => hF q h) hF (fun u1 t H locs ht hvm hw hB hz1 hk1 hS => ?_)
  try dsimp only at hw hB
  obtain ⟨hP1, hD1⟩ := hB
  rw [ht] at hP1
  obtain ⟨hP, hD⟩ := post_j (ws' := [(h0, .inr (3, [.ref h1, .int 4, .int p0, .ref h2, .ref h3, .long 0, .int p1])), (h1, .inr (2, [.int 0, .int 2, .ref h4, .ref h5])), (h2, .inl (κ 0, 13, .inl (upd (upd (upd (upd (upd (upd (upd (upd (upd (upd (upd (upd (upd (fun _ => 0) 0 1000000) 1 1000000) 2 1000000) 3 1000000) 4 1000000) 5 1000000) 6 1000000) 7 1000000) 8 1000000) 9 1000000) 10 1000000) 11 1000000) 12 1000000))), (h3, .inl (κ 0, 13, .inl (fun _ => 0))), (h4, .inl (κ 3, 4, .inr (.inr (.inr (.inr (sel [h6, h7, h8, h9])))))), (h5, .inl (κ 3, 4, .inr (.inr (.inr (.inr (sel [h10, h11, h12, h13])))))), (h7, .inr (6, [.ref h14, .ref h15, .int 0])), (h10, .inr (6, [.ref h16, .ref h17, .int 0]))]) (wr := [(h0, .inr (3, [.ref h1, .int 4, .int p0, .ref h2, .ref h3, .long 0, .int p1])), (h1, .inr (2, [.int 0, .int 2, .ref h4, .ref h5])), (h3, .inl (κ 0, 13, .inl (fun _ => 0))), (h4, .inl (κ 3, 4, .inr (.inr (.inr (.inr (sel [h6, h7, h8, h9])))))), (h5, .inl (κ 3, 4, .inr (.inr (.inr (.inr (sel [h10, h11, h12, h13])))))), (h7, .inr (6, [.ref h14, .ref h15, .int 0])), (h10, .inr (6, [.ref h16, .ref h17, .int 0]))]) (w1 := [(h2, .inl (κ 0, 13, .inl (upd (upd (upd (upd (upd (upd (upd (upd (upd (upd (upd (upd (upd (fun _ => 0) 0 1000000) 1 1000000) 2 1000000) 3 1000000) 4 1000000) 5 1000000) 6 1000000) 7 1000000) 8 1000000) 9 1000000) 10 1000000) 11 1000000) 12 1000000)))]) hP hD hF [2] rfl [0, 1, 3, 4, 5, 6, 7] rfl (by decide) (by decide) hk1 hP1 hD1 [0, 1, 7, 2, 3, 4, 5, 6] (by decide) rfl
  have hP : va_P D vwCl [(h0, .inr (3, [.ref h1, .int 4, .int p0, .ref h2, .ref h3, .long 0, .int p1])), (h1, .inr (2, [.int 0, .int 2, .ref h4, .ref h5])), (h2, .inl (κ 0, 13, .inl (upd (upd (upd (upd (upd (upd (upd (upd (upd (upd (upd (upd (upd (fun _ => 0) 0 1000000) 1 1000000) 2 1000000) 3 1000000) 4 1000000) 5 1000000) 6 1000000) 7 1000000) 8 1000000) 9 1000000) 10 1000000) 11 1000000) 12 1000000))), (h3, .inl (κ 0, 13, .inl (fun _ => 0))), (h4, .inl (κ 3, 4, .inr (.inr (.inr (.inr (sel [h6, h7, h8, h9])))))), (h5, .inl (κ 3, 4, .inr (.inr (.inr (.inr (sel [h10, h11, h12, h13])))))), (h7, .inr (6, [.ref h14, .ref h15, .int 0])), (h10, .inr (6, [.ref h16, .ref h17, .int 0]))] H := hP
  have hD : va_D A [(h0, .inr (3, [.ref h1, .int 4, .int p0, .ref h2, .ref h3, .long 0, .int p1])), (h1, .inr (2, [.int 0, .int 2, .ref h4, .ref h5])), (h2, .inl (κ 0, 13, .inl (upd (upd (upd (upd (upd (upd (upd (upd (upd (upd (upd (upd (upd (fun _ => 0) 0 1000000) 1 1000000) 2 1000000) 3 1000000) 4 1000000) 5 1000000) 6 1000000) 7 1000000) 8 1000000) 9 1000000) 10 1000000) 11 1000000) 12 1000000))), (h3, .inl (κ 0, 13, .inl (fun _ => 0))), (h4, .inl (κ 3, 4, .inr (.inr (.inr (.inr (sel [h6, h7, h8, h9])))))), (h5, .inl (κ 3, 4, .inr (.inr (.inr (.inr (sel [h10, h11, h12, h13])))))), (h7, .inr (6, [.ref h14, .ref h15, .int 0])), (h10, .inr (6, [.ref h16, .ref h17, .int 0]))] := hD
  refine lv_aload_n hx hb dX1_reckon_19 rfl (lv_at hl 0 rfl) ?_
  refine va_get (D := D) (ci := 3) (v := .int 4) (C := RX1) (T := TX1) (N := 7) hx hb hts wi_X1_reckon_RX1 hown hK hP 0 rfl rfl 1 (by decide) (hts _ wd296_X1_reckon) (fun _ h9 => h9) rfl dX1_reckon_20 ?_
  refine lv_if_ne (tgt := 30) hx hb dX1_reckon_23 (by decide) (fun _ => ?_) (fun h => absurd h (by decide))
  refine lv_iconst (v := 1) hx hb dX1_reckon_30 (by decide) ?_
  refine lv_istore_n (lv' := [(3, .int 1), (0, .ref h0), (1, .int 2), (2, .int 0)]) hx hb dX1_reckon_31 rfl hl (by decide) rfl (fun ls hl => ?_)
  refine lv_iload_n hx hb dX1_reckon_32 rfl (lv_at hl 0 rfl) ?_
  refine lv_iload_n hx hb dX1_reckon_33 rfl (lv_at hl 2 rfl) ?_
  refine lv_icmp_gt (tgt := 57) hx hb dX1_reckon_34 (by decide) (fun h => absurd h (by decide)) (fun _ => ?_)
  refine lv_aload_n hx hb dX1_reckon_37 rfl (lv_at hl 1 rfl) ?_
  refine lv_iload_n hx hb dX1_reckon_38 rfl (lv_at hl 0 rfl) ?_
  refine lv_iload_n hx hb dX1_reckon_39 rfl (lv_at hl 3 rfl) ?_
  refine va_getsN hx hb hE.2.2.1 hS hown (va_Nw.use rfl hE.2.2.2.2.2.2.2.1) (fun _ h9 => h9) dX1_reckon_40 ?_
  refine lv_iload_n hx hb dX1_reckon_43 rfl (lv_at hl 0 rfl) ?_
  refine lv_iconst (v := 1) hx hb dX1_reckon_44 (by decide) ?_
  refine lv_isub hx hb dX1_reckon_45 ?_
  refine tpi (v := 0) (by decide) ?_
  refine va_ti hx hb hE.2.2.2.1 hS (vpl (by decide)) (v := .int 1) rfl dX1_reckon_46 ?_
  refine lv_irem hx hb dX1_reckon_47 (by decide) ?_
  refine tpi (v := 0) (by decide) ?_
  have hF := va_free (wc := [(h0, .inr (3, [.ref h1, .int 4, .int p0, .ref h2, .ref h3, .long 0, .int p1])), (h1, .inr (2, [.int 0, .int 2, .ref h4, .ref h5])), (h3, .inl (κ 0, 13, .inl (fun _ => 0))), (h5, .inl (κ 3, 4, .inr (.inr (.inr (.inr (sel [h10, h11, h12, h13])))))), (h10, .inr (6, [.ref h16, .ref h17, .int 0]))]) hD hS hA [0, 1, 3, 5, 7] rfl
  refine va_callv (va_runV (As := [.int 1, .int 0]) (rest := []) ⟨hx, hb, hml, hown, hts⟩ (k_X1_refine_8 l D κ ε h0 h1 h2 h3 h4 h5 h10 h11 h12 h13 h16 h17 H.size (p0) (p1) (0)) (cwV 2 hts gX1_reckon_X1_refine rfl rfl rfl (by decide +kernel) ⟨(Nat.le_of_ble_eq_true rfl), (Nat.le_of_ble_eq_true rfl)⟩) (pre2_V (q0 := 0) (ci := 3) (wc := [(h0, .inr (3, [.ref h1, .int 4, .int p0, .ref h2, .ref h3, .long 0, .int p1])), (h1, .inr (2, [.int 0, .int 2, .ref h4, .ref h5])), (h3, .inl (κ 0, 13, .inl (fun _ => 0))), (h5, .inl (κ 3, 4, .inr (.inr (.inr (.inr (sel [h10, h11, h12, h13])))))), (h10, .inr (6, [.ref h16, .ref h17, .int 0]))]) hP hD hK hE9 hS hA [0, 1, 3, 5, 7] (by decide) rfl rfl rfl) rfl rfl hl.1 rfl (lv_room (Nat.le_of_ble_eq_true rfl)) dX1_reckon_48 ⟨(Nat.le_of_ble_eq_true rfl), (Nat.le_of_ble_eq_true rfl)⟩) hS (fun q _ h => hF q h) hF (fun u2 t H locs ht hvm hw hB hz1 hk1 hS => ?_)
  try dsimp only at hw hB
  obtain ⟨hP1, hD1⟩ := hB
  rw [ht] at hP1
  obtain ⟨hP, hD⟩ := post_j (ws' := [(h0, .inr (3, [.ref h1, .int 4, .int p0, .ref h2, .ref h3, .long 0, .int 0])), (h1, .inr (2, [.int 0, .int 2, .ref h4, .ref h5])), (h2, .inl (κ 0, 13, .inl (upd (upd (upd (upd (upd (upd (upd (upd (upd (upd (upd (upd (upd (fun _ => 0) 0 1000000) 1 1000000) 2 1000000) 3 1000000) 4 1000000) 5 1000000) 6 1000000) 7 1000000) 8 1000000) 9 1000000) 10 1000000) 11 1000000) 12 1000000))), (h3, .inl (κ 0, 13, .inl (fun _ => 0))), (h4, .inl (κ 3, 4, .inr (.inr (.inr (.inr (sel [h6, h7, h8, h9])))))), (h5, .inl (κ 3, 4, .inr (.inr (.inr (.inr (sel [h10, h11, h12, h13])))))), (h7, .inr (6, [.ref h14, .ref h15, .int 0])), (h10, .inr (6, [.ref h16, .ref h17, .int 0]))]) (wr := [(h2, .inl (κ 0, 13, .inl (upd (upd (upd (upd (upd (upd (upd (upd (upd (upd (upd (upd (upd (fun _ => 0) 0 1000000) 1 1000000) 2 1000000) 3 1000000) 4 1000000) 5 1000000) 6 1000000) 7 1000000) 8 1000000) 9 1000000) 10 1000000) 11 1000000) 12 1000000))), (h4, .inl (κ 3, 4, .inr (.inr (.inr (.inr (sel [h6, h7, h8, h9])))))), (h7, .inr (6, [.ref h14, .ref h15, .int 0]))]) (w1 := [(h0, .inr (3, [.ref h1, .int 4, .int p0, .ref h2, .ref h3, .long 0, .int 0])), (h1, .inr (2, [.int 0, .int 2, .ref h4, .ref h5])), (h3, .inl (κ 0, 13, .inl (fun _ => 0))), (h5, .inl (κ 3, 4, .inr (.inr (.inr (.inr (sel [h10, h11, h12, h13])))))), (h10, .inr (6, [.ref h16, .ref h17, .int 0]))]) hP hD hF [0, 1, 3, 5, 7] rfl [2, 4, 6] rfl (by decide) (by decide) hk1 hP1 hD1 [3, 4, 0, 5, 1, 6, 2, 7] (by decide) rfl
  have hP : va_P D vwCl [(h0, .inr (3, [.ref h1, .int 4, .int p0, .ref h2, .ref h3, .long 0, .int 0])), (h1, .inr (2, [.int 0, .int 2, .ref h4, .ref h5])), (h2, .inl (κ 0, 13, .inl (upd (upd (upd (upd (upd (upd (upd (upd (upd (upd (upd (upd (upd (fun _ => 0) 0 1000000) 1 1000000) 2 1000000) 3 1000000) 4 1000000) 5 1000000) 6 1000000) 7 1000000) 8 1000000) 9 1000000) 10 1000000) 11 1000000) 12 1000000))), (h3, .inl (κ 0, 13, .inl (fun _ => 0))), (h4, .inl (κ 3, 4, .inr (.inr (.inr (.inr (sel [h6, h7, h8, h9])))))), (h5, .inl (κ 3, 4, .inr (.inr (.inr (.inr (sel [h10, h11, h12, h13])))))), (h7, .inr (6, [.ref h14, .ref h15, .int 0])), (h10, .inr (6, [.ref h16, .ref h17, .int 0]))] H := hP
  have hD : va_D A [(h0, .inr (3, [.ref h1, .int 4, .int p0, .ref h2, .ref h3, .long 0, .int 0])), (h1, .inr (2, [.int 0, .int 2, .ref h4, .ref h5])), (h2, .inl (κ 0, 13, .inl (upd (upd (upd (upd (upd (upd (upd (upd (upd (upd (upd (upd (upd (fun _ => 0) 0 1000000) 1 1000000) 2 1000000) 3 1000000) 4 1000000) 5 1000000) 6 1000000) 7 1000000) 8 1000000) 9 1000000) 10 1000000) 11 1000000) 12 1000000))), (h3, .inl (κ 0, 13, .inl (fun _ => 0))), (h4, .inl (κ 3, 4, .inr (.inr (.inr (.inr (sel [h6, h7, h8, h9])))))), (h5, .inl (κ 3, 4, .inr (.inr (.inr (.inr (sel [h10, h11, h12, h13])))))), (h7, .inr (6, [.ref h14, .ref h15, .int 0])), (h10, .inr (6, [.ref h16, .ref h17, .int 0]))] := hD
  refine lv_iinc (v := 2) (lv' := [(3, .int 2), (0, .ref h0), (1, .int 2), (2, .int 0)]) hx hb dX1_reckon_51 hl (k := 0) rfl (by decide) (by decide) rfl (fun ls hl => ?_)
  refine lv_goto (tgt := 32) hx hb dX1_reckon_54 (by decide) ?_
  refine lv_iload_n hx hb dX1_reckon_32 rfl (lv_at hl 0 rfl) ?_
  refine lv_iload_n hx hb dX1_reckon_33 rfl (lv_at hl 2 rfl) ?_
  refine lv_icmp_gt (tgt := 57) hx hb dX1_reckon_34 (by decide) (fun h => absurd h (by decide)) (fun _ => ?_)
  refine lv_aload_n hx hb dX1_reckon_37 rfl (lv_at hl 1 rfl) ?_
  refine lv_iload_n hx hb dX1_reckon_38 rfl (lv_at hl 0 rfl) ?_
  refine lv_iload_n hx hb dX1_reckon_39 rfl (lv_at hl 3 rfl) ?_
  refine va_getsN hx hb hE.2.2.1 hS hown (va_Nw.use rfl hE.2.2.2.2.2.2.2.1) (fun _ h9 => h9) dX1_reckon_40 ?_
  refine lv_iload_n hx hb dX1_reckon_43 rfl (lv_at hl 0 rfl) ?_
  refine lv_iconst (v := 1) hx hb dX1_reckon_44 (by decide) ?_
  refine lv_isub hx hb dX1_reckon_45 ?_
  refine tpi (v := 1) (by decide) ?_
  refine va_ti hx hb hE.2.2.2.1 hS (vpl (by decide)) (v := .int 14) rfl dX1_reckon_46 ?_
  refine lv_irem hx hb dX1_reckon_47 (by decide) ?_
  refine tpi (v := 0) (by decide) ?_
  have hF := va_free (wc := [(h0, .inr (3, [.ref h1, .int 4, .int p0, .ref h2, .ref h3, .long 0, .int 0])), (h1, .inr (2, [.int 0, .int 2, .ref h4, .ref h5])), (h3, .inl (κ 0, 13, .inl (fun _ => 0))), (h4, .inl (κ 3, 4, .inr (.inr (.inr (.inr (sel [h6, h7, h8, h9])))))), (h7, .inr (6, [.ref h14, .ref h15, .int 0]))]) hD hS hA [0, 1, 3, 4, 6] rfl
  refine va_callv (va_runV (As := [.int 2, .int 0]) (rest := []) ⟨hx, hb, hml, hown, hts⟩ (k_X1_refine_9 l D κ ε h0 h1 h2 h3 h4 h5 h6 h7 h8 h9 h14 h15 H.size (p0) (0) (0)) (cwV 2 hts gX1_reckon_X1_refine rfl rfl rfl (by decide +kernel) ⟨(Nat.le_of_ble_eq_true rfl), (Nat.le_of_ble_eq_true rfl)⟩) (pre2_V (q0 := 0) (ci := 3) (wc := [(h0, .inr (3, [.ref h1, .int 4, .int p0, .ref h2, .ref h3, .long 0, .int 0])), (h1, .inr (2, [.int 0, .int 2, .ref h4, .ref h5])), (h3, .inl (κ 0, 13, .inl (fun _ => 0))), (h4, .inl (κ 3, 4, .inr (.inr (.inr (.inr (sel [h6, h7, h8, h9])))))), (h7, .inr (6, [.ref h14, .ref h15, .int 0]))]) hP hD hK hE9 hS hA [0, 1, 3, 4, 6] (by decide) rfl rfl rfl) rfl rfl hl.1 rfl (lv_room (Nat.le_of_ble_eq_true rfl)) dX1_reckon_48 ⟨(Nat.le_of_ble_eq_true rfl), (Nat.le_of_ble_eq_true rfl)⟩) hS (fun q _ h => hF q h) hF (fun u3 t H locs ht hvm hw hB hz1 hk1 hS => ?_)
  try dsimp only at hw hB
  obtain ⟨hP1, hD1⟩ := hB
  rw [ht] at hP1
  obtain ⟨hP, hD⟩ := post_j (ws' := [(h0, .inr (3, [.ref h1, .int 4, .int p0, .ref h2, .ref h3, .long 0, .int 0])), (h1, .inr (2, [.int 0, .int 2, .ref h4, .ref h5])), (h2, .inl (κ 0, 13, .inl (upd (upd (upd (upd (upd (upd (upd (upd (upd (upd (upd (upd (upd (fun _ => 0) 0 1000000) 1 1000000) 2 1000000) 3 1000000) 4 1000000) 5 1000000) 6 1000000) 7 1000000) 8 1000000) 9 1000000) 10 1000000) 11 1000000) 12 1000000))), (h3, .inl (κ 0, 13, .inl (fun _ => 0))), (h4, .inl (κ 3, 4, .inr (.inr (.inr (.inr (sel [h6, h7, h8, h9])))))), (h5, .inl (κ 3, 4, .inr (.inr (.inr (.inr (sel [h10, h11, h12, h13])))))), (h7, .inr (6, [.ref h14, .ref h15, .int 0])), (h10, .inr (6, [.ref h16, .ref h17, .int 0]))]) (wr := [(h2, .inl (κ 0, 13, .inl (upd (upd (upd (upd (upd (upd (upd (upd (upd (upd (upd (upd (upd (fun _ => 0) 0 1000000) 1 1000000) 2 1000000) 3 1000000) 4 1000000) 5 1000000) 6 1000000) 7 1000000) 8 1000000) 9 1000000) 10 1000000) 11 1000000) 12 1000000))), (h5, .inl (κ 3, 4, .inr (.inr (.inr (.inr (sel [h10, h11, h12, h13])))))), (h10, .inr (6, [.ref h16, .ref h17, .int 0]))]) (w1 := [(h0, .inr (3, [.ref h1, .int 4, .int p0, .ref h2, .ref h3, .long 0, .int 0])), (h1, .inr (2, [.int 0, .int 2, .ref h4, .ref h5])), (h3, .inl (κ 0, 13, .inl (fun _ => 0))), (h4, .inl (κ 3, 4, .inr (.inr (.inr (.inr (sel [h6, h7, h8, h9])))))), (h7, .inr (6, [.ref h14, .ref h15, .int 0]))]) hP hD hF [0, 1, 3, 4, 6] rfl [2, 5, 7] rfl (by decide) (by decide) hk1 hP1 hD1 [3, 4, 0, 5, 6, 1, 7, 2] (by decide) rfl
  have hP : va_P D vwCl [(h0, .inr (3, [.ref h1, .int 4, .int p0, .ref h2, .ref h3, .long 0, .int 0])), (h1, .inr (2, [.int 0, .int 2, .ref h4, .ref h5])), (h2, .inl (κ 0, 13, .inl (upd (upd (upd (upd (upd (upd (upd (upd (upd (upd (upd (upd (upd (fun _ => 0) 0 1000000) 1 1000000) 2 1000000) 3 1000000) 4 1000000) 5 1000000) 6 1000000) 7 1000000) 8 1000000) 9 1000000) 10 1000000) 11 1000000) 12 1000000))), (h3, .inl (κ 0, 13, .inl (fun _ => 0))), (h4, .inl (κ 3, 4, .inr (.inr (.inr (.inr (sel [h6, h7, h8, h9])))))), (h5, .inl (κ 3, 4, .inr (.inr (.inr (.inr (sel [h10, h11, h12, h13])))))), (h7, .inr (6, [.ref h14, .ref h15, .int 0])), (h10, .inr (6, [.ref h16, .ref h17, .int 0]))] H := hP
  have hD : va_D A [(h0, .inr (3, [.ref h1, .int 4, .int p0, .ref h2, .ref h3, .long 0, .int 0])), (h1, .inr (2, [.int 0, .int 2, .ref h4, .ref h5])), (h2, .inl (κ 0, 13, .inl (upd (upd (upd (upd (upd (upd (upd (upd (upd (upd (upd (upd (upd (fun _ => 0) 0 1000000) 1 1000000) 2 1000000) 3 1000000) 4 1000000) 5 1000000) 6 1000000) 7 1000000) 8 1000000) 9 1000000) 10 1000000) 11 1000000) 12 1000000))), (h3, .inl (κ 0, 13, .inl (fun _ => 0))), (h4, .inl (κ 3, 4, .inr (.inr (.inr (.inr (sel [h6, h7, h8, h9])))))), (h5, .inl (κ 3, 4, .inr (.inr (.inr (.inr (sel [h10, h11, h12, h13])))))), (h7, .inr (6, [.ref h14, .ref h15, .int 0])), (h10, .inr (6, [.ref h16, .ref h17, .int 0]))] := hD
  refine lv_iinc (v := 3) (lv' := [(3, .int 3), (0, .ref h0), (1, .int 2), (2, .int 0)]) hx hb dX1_reckon_51 hl (k := 0) rfl (by decide) (by decide) rfl (fun ls hl => ?_)
  refine lv_goto (tgt := 32) hx hb dX1_reckon_54 (by decide) ?_
  refine lv_iload_n hx hb dX1_reckon_32 rfl (lv_at hl 0 rfl) ?_
  refine lv_iload_n hx hb dX1_reckon_33 rfl (lv_at hl 2 rfl) ?_
  refine lv_icmp_gt (tgt := 57) hx hb dX1_reckon_34 (by decide) (fun _ => ?_) (fun h => absurd (by decide) h)
  have hP9 := hP
  have hD9 := hD
  exact W.vret hx hb hr (fun t ht hW => ⟨⟨(), rfl, trivial, by rw [ht]; exact hP9, hD9⟩, hS.F ht⟩) hS.2.2 dX1_reckon_57

set_option maxHeartbeats 4000000 in
set_option maxRecDepth 100000 in
theorem k_X5_sumOfCosts_5 (l : Launch) (D : va_G) (κ ε : Nat → Nat) (h0 h1 h2 h3 h4 h5 h6 h7 h8 h9 h10 h11 h12 h13 h14 h15 h16 h17 h18 h19 h20 h21 h22 : Nat) (sz : Nat) (p0 : Int32) (p1 : Int32) (p2 : Int32) (p3 : Int32) : Met l yX5_sumOfCosts wsX5_sumOfCosts ({ frames := 4, cells := 0, slots := 0, locals := 95 }) (va_Pc [.ref h0] (Pre2 D κ ε [(h0, .inr (7, [.ref h1, .ref h2, .ref h3, .ref h4, .ref h5, .ref h6, .int 0, .int p0, .int p1, .int 0])), (h1, .inr (2, [.int 0, .int 2, .ref h7, .ref h8])), (h2, .inr (3, [.ref h1, .int 4, .int p2, .ref h9, .ref h10, .long 0, .int p3])), (h7, .inl (κ 3, 4, .inr (.inr (.inr (.inr (sel [h11, h12, h13, h14])))))), (h8, .inl (κ 3, 4, .inr (.inr (.inr (.inr (sel [h15, h16, h17, h18])))))), (h9, .inl (κ 0, 13, .inl (fun _ => 0))), (h10, .inl (κ 0, 13, .inl (fun _ => 0))), (h12, .inr (6, [.ref h19, .ref h20, .int 0])), (h15, .inr (6, [.ref h21, .ref h22, .int 0]))] sz)) (va_Qi (fun r (u : Unit) => (r = 0)) (fun u t => va_P D vwCl [(h0, .inr (7, [.ref h1, .ref h2, .ref h3, .ref h4, .ref h5, .ref h6, .int 0, .int p0, .int p1, .int 0])), (h1, .inr (2, [.int 0, .int 2, .ref h7, .ref h8])), (h2, .inr (3, [.ref h1, .int 4, .int p2, .ref h9, .ref h10, .long 0, .int 0])), (h7, .inl (κ 3, 4, .inr (.inr (.inr (.inr (sel [h11, h12, h13, h14])))))), (h8, .inl (κ 3, 4, .inr (.inr (.inr (.inr (sel [h15, h16, h17, h18])))))), (h9, .inl (κ 0, 13, .inl (upd (upd (upd (upd (upd (upd (upd (upd (upd (upd (upd (upd (upd (fun _ => 0) 0 1000000) 1 1000000) 2 1000000) 3 1000000) 4 1000000) 5 1000000) 6 1000000) 7 1000000) 8 1000000) 9 1000000) 10 1000000) 11 1000000) 12 1000000))), (h10, .inl (κ 0, 13, .inl (fun _ => 0))), (h12, .inr (6, [.ref h19, .ref h20, .int 0])), (h15, .inr (6, [.ref h21, .ref h22, .int 0]))] t.heap ∧ va_D (va_A [(h0, .inr (7, [.ref h1, .ref h2, .ref h3, .ref h4, .ref h5, .ref h6, .int 0, .int p0, .int p1, .int 0])), (h1, .inr (2, [.int 0, .int 2, .ref h7, .ref h8])), (h2, .inr (3, [.ref h1, .int 4, .int p2, .ref h9, .ref h10, .long 0, .int p3])), (h7, .inl (κ 3, 4, .inr (.inr (.inr (.inr (sel [h11, h12, h13, h14])))))), (h8, .inl (κ 3, 4, .inr (.inr (.inr (.inr (sel [h15, h16, h17, h18])))))), (h9, .inl (κ 0, 13, .inl (fun _ => 0))), (h10, .inl (κ 0, 13, .inl (fun _ => 0))), (h12, .inr (6, [.ref h19, .ref h20, .int 0])), (h15, .inr (6, [.ref h21, .ref h22, .int 0]))] sz) [(h0, .inr (7, [.ref h1, .ref h2, .ref h3, .ref h4, .ref h5, .ref h6, .int 0, .int p0, .int p1, .int 0])), (h1, .inr (2, [.int 0, .int 2, .ref h7, .ref h8])), (h2, .inr (3, [.ref h1, .int 4, .int p2, .ref h9, .ref h10, .long 0, .int 0])), (h7, .inl (κ 3, 4, .inr (.inr (.inr (.inr (sel [h11, h12, h13, h14])))))), (h8, .inl (κ 3, 4, .inr (.inr (.inr (.inr (sel [h15, h16, h17, h18])))))), (h9, .inl (κ 0, 13, .inl (upd (upd (upd (upd (upd (upd (upd (upd (upd (upd (upd (upd (upd (fun _ => 0) 0 1000000) 1 1000000) 2 1000000) 3 1000000) 4 1000000) 5 1000000) 6 1000000) 7 1000000) 8 1000000) 9 1000000) 10 1000000) 11 1000000) 12 1000000))), (h10, .inl (κ 0, 13, .inl (fun _ => 0))), (h12, .inr (6, [.ref h19, .ref h20, .int 0])), (h15, .inr (6, [.ref h21, .ref h22, .int 0]))]) (va_A [(h0, .inr (7, [.ref h1, .ref h2, .ref h3, .ref h4, .ref h5, .ref h6, .int 0, .int p0, .int p1, .int 0])), (h1, .inr (2, [.int 0, .int 2, .ref h7, .ref h8])), (h2, .inr (3, [.ref h1, .int 4, .int p2, .ref h9, .ref h10, .long 0, .int p3])), (h7, .inl (κ 3, 4, .inr (.inr (.inr (.inr (sel [h11, h12, h13, h14])))))), (h8, .inl (κ 3, 4, .inr (.inr (.inr (.inr (sel [h15, h16, h17, h18])))))), (h9, .inl (κ 0, 13, .inl (fun _ => 0))), (h10, .inl (κ 0, 13, .inl (fun _ => 0))), (h12, .inr (6, [.ref h19, .ref h20, .int 0])), (h15, .inr (6, [.ref h21, .ref h22, .int 0]))] sz)) 0 0 (va_A [(h0, .inr (7, [.ref h1, .ref h2, .ref h3, .ref h4, .ref h5, .ref h6, .int 0, .int p0, .int p1, .int 0])), (h1, .inr (2, [.int 0, .int 2, .ref h7, .ref h8])), (h2, .inr (3, [.ref h1, .int 4, .int p2, .ref h9, .ref h10, .long 0, .int p3])), (h7, .inl (κ 3, 4, .inr (.inr (.inr (.inr (sel [h11, h12, h13, h14])))))), (h8, .inl (κ 3, 4, .inr (.inr (.inr (.inr (sel [h15, h16, h17, h18])))))), (h9, .inl (κ 0, 13, .inl (fun _ => 0))), (h10, .inl (κ 0, 13, .inl (fun _ => 0))), (h12, .inr (6, [.ref h19, .ref h20, .int 0])), (h15, .inr (6, [.ref h21, .ref h22, .int 0]))] sz) := by
  refine Met.ofW (cc := cX5_sumOfCosts) (maxL := 4) (ret := (some .int)) (by decide) rfl ?_
  intro p e s m args below meth c s₁ B hml hv
  obtain ⟨rfl, hsz, hP, hK, hD0, hE9⟩ := hv
  have hx := B.exec
  have hb := B.bytes
  have hr := B.returns
  have hts := atoms_spec (ws := wsX5_sumOfCosts) B.pre
  have hown : s.vm.findClass RX5 = some m.cls := findClass_of_methodNamed B.named
  have hlocks := B.notSynchronized
  subst hsz
  have hD := hD0.self (sz := s.heap.size)
  generalize hAe : va_A [(h0, .inr (7, [.ref h1, .ref h2, .ref h3, .ref h4, .ref h5, .ref h6, .int 0, .int p0, .int p1, .int 0])), (h1, .inr (2, [.int 0, .int 2, .ref h7, .ref h8])), (h2, .inr (3, [.ref h1, .int 4, .int p2, .ref h9, .ref h10, .long 0, .int p3])), (h7, .inl (κ 3, 4, .inr (.inr (.inr (.inr (sel [h11, h12, h13, h14])))))), (h8, .inl (κ 3, 4, .inr (.inr (.inr (.inr (sel [h15, h16, h17, h18])))))), (h9, .inl (κ 0, 13, .inl (fun _ => 0))), (h10, .inl (κ 0, 13, .inl (fun _ => 0))), (h12, .inr (6, [.ref h19, .ref h20, .int 0])), (h15, .inr (6, [.ref h21, .ref h22, .int 0]))] s.heap.size = A at hD hE9 ⊢
  have hE := hE9.1
  have hDc := hE9.2
  have hA : ∀ q : Nat, s.heap.size ≤ q → A q := fun q h => by rw [← hAe]; exact Or.inr h
  have hS : va_S A s.heap s.heap [] := va_S.rf
  have hP : va_P D vwCl [(h0, .inr (7, [.ref h1, .ref h2, .ref h3, .ref h4, .ref h5, .ref h6, .int 0, .int p0, .int p1, .int 0])), (h1, .inr (2, [.int 0, .int 2, .ref h7, .ref h8])), (h2, .inr (3, [.ref h1, .int 4, .int p2, .ref h9, .ref h10, .long 0, .int p3])), (h7, .inl (κ 3, 4, .inr (.inr (.inr (.inr (sel [h11, h12, h13, h14])))))), (h8, .inl (κ 3, 4, .inr (.inr (.inr (.inr (sel [h15, h16, h17, h18])))))), (h9, .inl (κ 0, 13, .inl (fun _ => 0))), (h10, .inl (κ 0, 13, .inl (fun _ => 0))), (h12, .inr (6, [.ref h19, .ref h20, .int 0])), (h15, .inr (6, [.ref h21, .ref h22, .int 0]))] s.heap := hP
  have hl := lv_entry [.ref h0] (n := 4) (Nat.le_of_ble_eq_true rfl)
  rw [lg_entry_eq]
  generalize (lg_sl [.ref h0] ++ List.replicate (4 - (lg_sl [.ref h0]).length) Slot.unset).toArray = ls at hl ⊢
  have hl : lv_has ls 4 [(0, .ref h0)] := hl
  refine lv_iconst (v := 0) hx hb dX5_sumOfCosts_0 (by decide) ?_
  refine lv_istore_n (lv' := [(1, .int 0), (0, .ref h0)]) hx hb dX5_sumOfCosts_1 rfl hl (by decide) rfl (fun ls hl => ?_)
  refine lv_iconst (v := 0) hx hb dX5_sumOfCosts_2 (by decide) ?_
  refine lv_istore_n (lv' := [(2, .int 0), (1, .int 0), (0, .ref h0)]) hx hb dX5_sumOfCosts_3 rfl hl (by decide) rfl (fun ls hl => ?_)
  refine lv_iload_n hx hb dX5_sumOfCosts_4 rfl (lv_at hl 0 rfl) ?_
  refine lv_aload_n hx hb dX5_sumOfCosts_5 rfl (lv_at hl 2 rfl) ?_
  refine va_get (D := D) (ci := 7) (v := .int 0) (C := RX5) (T := TX5) (N := 10) hx hb hts wi_X5_sumOfCosts_RX5 hown hK hP 0 rfl rfl 6 (by decide) (hts _ wd335_X5_sumOfCosts) (fun _ h9 => h9) rfl dX5_sumOfCosts_6 ?_
  refine lv_icmp_gt (tgt := 81) hx hb dX5_sumOfCosts_9 (by decide) (fun h => absurd h (by decide)) (fun _ => ?_)
  refine lv_aload_n hx hb dX5_sumOfCosts_12 rfl (lv_at hl 2 rfl) ?_
  refine va_get (D := D) (ci := 7) (v := .ref h2) (C := RX5) (T := TX5) (N := 10) hx hb hts wi_X5_sumOfCosts_RX5 hown hK hP 0 rfl rfl 1 (by decide) (hts _ wd336_X5_sumOfCosts) (fun _ h9 => h9) rfl dX5_sumOfCosts_13 ?_
  refine lv_aload_n hx hb dX5_sumOfCosts_16 rfl (lv_at hl 2 rfl) ?_
  refine va_get (D := D) (ci := 7) (v := .ref h1) (C := RX5) (T := TX5) (N := 10) hx hb hts wi_X5_sumOfCosts_RX5 hown hK hP 0 rfl rfl 0 (by decide) (hts _ wd337_X5_sumOfCosts) (fun _ h9 => h9) rfl dX5_sumOfCosts_17 ?_
  refine va_get (D := D) (ci := 2) (v := .int 2) (C := RX0) (T := TX0) (N := 4) hx hb hts wi_X5_sumOfCosts_RX0 hown hK hP 1 rfl rfl 1 (by decide) (hts _ wd338_X5_sumOfCosts) (fun _ h9 => h9) rfl dX5_sumOfCosts_20 ?_
  refine lv_aload_n hx hb dX5_sumOfCosts_23 rfl (lv_at hl 2 rfl) ?_
  refine lv_iload_n hx hb dX5_sumOfCosts_24 rfl (lv_at hl 0 rfl) ?_
  refine lv_iconst (v := 1) hx hb dX5_sumOfCosts_25 (by decide) ?_
  refine lv_isub hx hb dX5_sumOfCosts_26 ?_
  refine tpi (v := (-1)) (by decide) ?_
  refine lv_aload_n hx hb dX5_sumOfCosts_27 rfl (lv_at hl 2 rfl) ?_
  refine va_get (D := D) (ci := 7) (v := .ref h1) (C := RX5) (T := TX5) (N := 10) hx hb hts wi_X5_sumOfCosts_RX5 hown hK hP 0 rfl rfl 0 (by decide) (hts _ wd337_X5_sumOfCosts) (fun _ h9 => h9) rfl dX5_sumOfCosts_28 ?_
  refine va_get (D := D) (ci := 2) (v := .int 2) (C := RX0) (T := TX0) (N := 4) hx hb hts wi_X5_sumOfCosts_RX0 hown hK hP 1 rfl rfl 1 (by decide) (hts _ wd338_X5_sumOfCosts) (fun _ h9 => h9) rfl dX5_sumOfCosts_31 ?_
  refine lv_iconst (v := 1) hx hb dX5_sumOfCosts_34 (by decide) ?_
  refine lv_isub hx hb dX5_sumOfCosts_35 ?_
  refine tpi (v := 1) (by decide) ?_
  refine vp_callSi (W.runV (As := [.int (-1), .int 1]) (rest := [.int 2, .ref h2]) ⟨hx, hb, hml, hown, hts⟩ (k_X5_keyUpTo_2 l D κ ε h0 h1 h2 h3 h4 h5 h6 (0) (p0) (p1)) (cwV 2 hts gX5_sumOfCosts_X5_keyUpTo rfl rfl rfl (by decide +kernel) ⟨(Nat.le_of_ble_eq_true rfl), (Nat.le_of_ble_eq_true rfl)⟩) (pre0_V (q0 := 0) (ci := 7) (wc := [(h0, .inr (7, [.ref h1, .ref h2, .ref h3, .ref h4, .ref h5, .ref h6, .int 0, .int p0, .int p1, .int 0]))]) hP hK [0] rfl rfl rfl) rfl rfl hl.1 rfl (lv_room (Nat.le_of_ble_eq_true rfl)) dX5_sumOfCosts_36 ⟨(Nat.le_of_ble_eq_true rfl), (Nat.le_of_ble_eq_true rfl)⟩) (fun r hw => ?_)
  rw [hw]
  have hF := va_free (wc := [(h2, .inr (3, [.ref h1, .int 4, .int p2, .ref h9, .ref h10, .long 0, .int p3])), (h1, .inr (2, [.int 0, .int 2, .ref h7, .ref h8])), (h9, .inl (κ 0, 13, .inl (fun _ => 0))), (h10, .inl (κ 0, 13, .inl (fun _ => 0))), (h7, .inl (κ 3, 4, .inr (.inr (.inr (.inr (sel [h11, h12, h13, h14])))))), (h8, .inl (κ 3, 4, .inr (.inr (.inr (.inr (sel [h15, h16, h17, h18])))))), (h12, .inr (6, [.ref h19, .ref h20, .int 0])), (h15, .inr (6, [.ref h21, .ref h22, .int 0]))]) hD hS hA [2, 1, 5, 6, 3, 4, 7, 8] rfl
  refine va_callv (va_runV (As := [.int 2, .int 0]) (rest := []) ⟨hx, hb, hml, hown, hts⟩ (k_X1_reckon_5 l D κ ε h2 h1 h9 h10 h7 h8 h11 h12 h13 h14 h15 h16 h17 h18 h19 h20 h21 h22 s.heap.size (p2) (p3)) (cwV 2 hts gX5_sumOfCosts_X1_reckon rfl rfl rfl (by decide +kernel) ⟨(Nat.le_of_ble_eq_true rfl), (Nat.le_of_ble_eq_true rfl)⟩) (pre2_V (q0 := 2) (ci := 3) (wc := [(h2, .inr (3, [.ref h1, .int 4, .int p2, .ref h9, .ref h10, .long 0, .int p3])), (h1, .inr (2, [.int 0, .int 2, .ref h7, .ref h8])), (h9, .inl (κ 0, 13, .inl (fun _ => 0))), (h10, .inl (κ 0, 13, .inl (fun _ => 0))), (h7, .inl (κ 3, 4, .inr (.inr (.inr (.inr (sel [h11, h12, h13, h14])))))), (h8, .inl (κ 3, 4, .inr (.inr (.inr (.inr (sel [h15, h16, h17, h18])))))), (h12, .inr (6, [.ref h19, .ref h20, .int 0])), (h15, .inr (6, [.ref h21, .ref h22, .int 0]))]) hP hD hK hE9 hS hA [2, 1, 5, 6, 3, 4, 7, 8] (by decide) rfl rfl rfl) rfl rfl hl.1 rfl (lv_room (Nat.le_of_ble_eq_true rfl)) dX5_sumOfCosts_39 ⟨(Nat.le_of_ble_eq_true rfl), (Nat.le_of_ble_eq_true rfl)⟩) hS (fun q _ h => hF q h) hF (fun u1 t H locs ht hvm hw hB hz1 hk1 hS => ?_)
  try dsimp only at hw hB
  obtain ⟨hP1, hD1⟩ := hB
  rw [ht] at hP1
  obtain ⟨hP, hD⟩ := post_j (ws' := [(h0, .inr (7, [.ref h1, .ref h2, .ref h3, .ref h4, .ref h5, .ref h6, .int 0, .int p0, .int p1, .int 0])), (h1, .inr (2, [.int 0, .int 2, .ref h7, .ref h8])), (h2, .inr (3, [.ref h1, .int 4, .int p2, .ref h9, .ref h10, .long 0, .int 0])), (h7, .inl (κ 3, 4, .inr (.inr (.inr (.inr (sel [h11, h12, h13, h14])))))), (h8, .inl (κ 3, 4, .inr (.inr (.inr (.inr (sel [h15, h16, h17, h18])))))), (h9, .inl (κ 0, 13, .inl (upd (upd (upd (upd (upd (upd (upd (upd (upd (upd (upd (upd (upd (fun _ => 0) 0 1000000) 1 1000000) 2 1000000) 3 1000000) 4 1000000) 5 1000000) 6 1000000) 7 1000000) 8 1000000) 9 1000000) 10 1000000) 11 1000000) 12 1000000))), (h10, .inl (κ 0, 13, .inl (fun _ => 0))), (h12, .inr (6, [.ref h19, .ref h20, .int 0])), (h15, .inr (6, [.ref h21, .ref h22, .int 0]))]) (wr := [(h0, .inr (7, [.ref h1, .ref h2, .ref h3, .ref h4, .ref h5, .ref h6, .int 0, .int p0, .int p1, .int 0]))]) (w1 := [(h2, .inr (3, [.ref h1, .int 4, .int p2, .ref h9, .ref h10, .long 0, .int 0])), (h1, .inr (2, [.int 0, .int 2, .ref h7, .ref h8])), (h9, .inl (κ 0, 13, .inl (upd (upd (upd (upd (upd (upd (upd (upd (upd (upd (upd (upd (upd (fun _ => 0) 0 1000000) 1 1000000) 2 1000000) 3 1000000) 4 1000000) 5 1000000) 6 1000000) 7 1000000) 8 1000000) 9 1000000) 10 1000000) 11 1000000) 12 1000000))), (h10, .inl (κ 0, 13, .inl (fun _ => 0))), (h7, .inl (κ 3, 4, .inr (.inr (.inr (.inr (sel [h11, h12, h13, h14])))))), (h8, .inl (κ 3, 4, .inr (.inr (.inr (.inr (sel [h15, h16, h17, h18])))))), (h12, .inr (6, [.ref h19, .ref h20, .int 0])), (h15, .inr (6, [.ref h21, .ref h22, .int 0]))]) hP hD hF [2, 1, 5, 6, 3, 4, 7, 8] rfl [0] rfl (by decide) (by decide) hk1 hP1 hD1 [0, 2, 1, 5, 6, 3, 4, 7, 8] (by decide) rfl
  have hP : va_P D vwCl [(h0, .inr (7, [.ref h1, .ref h2, .ref h3, .ref h4, .ref h5, .ref h6, .int 0, .int p0, .int p1, .int 0])), (h1, .inr (2, [.int 0, .int 2, .ref h7, .ref h8])), (h2, .inr (3, [.ref h1, .int 4, .int p2, .ref h9, .ref h10, .long 0, .int 0])), (h7, .inl (κ 3, 4, .inr (.inr (.inr (.inr (sel [h11, h12, h13, h14])))))), (h8, .inl (κ 3, 4, .inr (.inr (.inr (.inr (sel [h15, h16, h17, h18])))))), (h9, .inl (κ 0, 13, .inl (upd (upd (upd (upd (upd (upd (upd (upd (upd (upd (upd (upd (upd (fun _ => 0) 0 1000000) 1 1000000) 2 1000000) 3 1000000) 4 1000000) 5 1000000) 6 1000000) 7 1000000) 8 1000000) 9 1000000) 10 1000000) 11 1000000) 12 1000000))), (h10, .inl (κ 0, 13, .inl (fun _ => 0))), (h12, .inr (6, [.ref h19, .ref h20, .int 0])), (h15, .inr (6, [.ref h21, .ref h22, .int 0]))] H := hP
  have hD : va_D A [(h0, .inr (7, [.ref h1, .ref h2, .ref h3, .ref h4, .ref h5, .ref h6, .int 0, .int p0, .int p1, .int 0])), (h1, .inr (2, [.int 0, .int 2, .ref h7, .ref h8])), (h2, .inr (3, [.ref h1, .int 4, .int p2, .ref h9, .ref h10, .long 0, .int 0])), (h7, .inl (κ 3, 4, .inr (.inr (.inr (.inr (sel [h11, h12, h13, h14])))))), (h8, .inl (κ 3, 4, .inr (.inr (.inr (.inr (sel [h15, h16, h17, h18])))))), (h9, .inl (κ 0, 13, .inl (upd (upd (upd (upd (upd (upd (upd (upd (upd (upd (upd (upd (upd (fun _ => 0) 0 1000000) 1 1000000) 2 1000000) 3 1000000) 4 1000000) 5 1000000) 6 1000000) 7 1000000) 8 1000000) 9 1000000) 10 1000000) 11 1000000) 12 1000000))), (h10, .inl (κ 0, 13, .inl (fun _ => 0))), (h12, .inr (6, [.ref h19, .ref h20, .int 0])), (h15, .inr (6, [.ref h21, .ref h22, .int 0]))] := hD
  refine lv_aload_n hx hb dX5_sumOfCosts_42 rfl (lv_at hl 2 rfl) ?_
  refine lv_iload_n hx hb dX5_sumOfCosts_43 rfl (lv_at hl 0 rfl) ?_
  refine vp_callSi (W.runV (As := [.int 0]) (rest := []) ⟨hx, hb, hml, hown, hts⟩ (k_X5_digitAt_0 l D κ ε h0 h1 h2 h3 h4 h5 h6 h7 h8 (p0) (p1) (2)) (cwV 1 hts gX5_sumOfCosts_X5_digitAt rfl rfl rfl (by decide +kernel) ⟨(Nat.le_of_ble_eq_true rfl), (Nat.le_of_ble_eq_true rfl)⟩) (pre0_V (q0 := 0) (ci := 7) (wc := [(h0, .inr (7, [.ref h1, .ref h2, .ref h3, .ref h4, .ref h5, .ref h6, .int 0, .int p0, .int p1, .int 0])), (h1, .inr (2, [.int 0, .int 2, .ref h7, .ref h8]))]) hP hK [0, 1] rfl rfl rfl) rfl rfl hl.1 rfl (lv_room (Nat.le_of_ble_eq_true rfl)) dX5_sumOfCosts_44 ⟨(Nat.le_of_ble_eq_true rfl), (Nat.le_of_ble_eq_true rfl)⟩) (fun r hw => ?_)
  rw [hw]
  refine lv_iconst (v := 1) hx hb dX5_sumOfCosts_47 (by decide) ?_
  refine lv_isub hx hb dX5_sumOfCosts_48 ?_
  refine tpi (v := 0) (by decide) ?_
  refine lv_istore_n (lv' := [(3, .int 0), (2, .int 0), (1, .int 0), (0, .ref h0)]) hx hb dX5_sumOfCosts_49 rfl hl (by decide) rfl (fun ls hl => ?_)
  refine lv_iload_n hx hb dX5_sumOfCosts_50 rfl (lv_at hl 0 rfl) ?_
  refine lv_if_lt (tgt := 75) hx hb dX5_sumOfCosts_51 (by decide) (fun h => absurd h (by decide)) (fun _ => ?_)
  refine lv_iload_n hx hb dX5_sumOfCosts_54 rfl (lv_at hl 0 rfl) ?_
  refine lv_bipush (v := 12) hx hb dX5_sumOfCosts_55 (by decide) ?_
  refine lv_icmp_gt (tgt := 75) hx hb dX5_sumOfCosts_57 (by decide) (fun h => absurd h (by decide)) (fun _ => ?_)
  refine lv_iload_n hx hb dX5_sumOfCosts_60 rfl (lv_at hl 2 rfl) ?_
  refine lv_aload_n hx hb dX5_sumOfCosts_61 rfl (lv_at hl 3 rfl) ?_
  refine va_get (D := D) (ci := 7) (v := .ref h2) (C := RX5) (T := TX5) (N := 10) hx hb hts wi_X5_sumOfCosts_RX5 hown hK hP 0 rfl rfl 1 (by decide) (hts _ wd336_X5_sumOfCosts) (fun _ h9 => h9) rfl dX5_sumOfCosts_62 ?_
  refine va_get (D := D) (ci := 3) (v := .ref h9) (C := RX1) (T := TX1) (N := 7) hx hb hts wi_X5_sumOfCosts_RX1 hown hK hP 2 rfl rfl 3 (by decide) (hts _ wd339_X5_sumOfCosts) (fun _ h9 => h9) rfl dX5_sumOfCosts_65 ?_
  refine lv_iload_n hx hb dX5_sumOfCosts_68 rfl (lv_at hl 0 rfl) ?_
  refine va_iald (cA := κ 0) (n := 13) (f := (upd (upd (upd (upd (upd (upd (upd (upd (upd (upd (upd (upd (upd (fun _ => 0) 0 1000000) 1 1000000) 2 1000000) 3 1000000) 4 1000000) 5 1000000) 6 1000000) 7 1000000) 8 1000000) 9 1000000) 10 1000000) 11 1000000) 12 1000000)) hx hb hK hP 5 0 rfl rfl (vpl (by decide)) dX5_sumOfCosts_69 ?_
  refine tpi (v := 1000000) (by decide) ?_
  refine vp_callSi (W.runS (As := [.int 1000000]) (rest := [.int 0]) ⟨hx, hb, hml, hown, hts⟩ (k_X5_cost_1 l D κ ε) (va_cwS 1 hts gX5_sumOfCosts_X5_cost rfl rfl rfl (by decide +kernel) ⟨(Nat.le_of_ble_eq_true rfl), (Nat.le_of_ble_eq_true rfl)⟩) (pre0_S (wc := []) hP hK [] rfl) rfl rfl hl.1 rfl (lv_room (Nat.le_of_ble_eq_true rfl)) dX5_sumOfCosts_70 ⟨(Nat.le_of_ble_eq_true rfl), (Nat.le_of_ble_eq_true rfl)⟩) (fun r hw => ?_)
  rw [hw]
  refine lv_iadd hx hb dX5_sumOfCosts_73 ?_
  refine tpi (v := 0) (by decide) ?_
  refine lv_istore_n (lv' := [(1, .int 0), (3, .int 0), (2, .int 0), (0, .ref h0)]) hx hb dX5_sumOfCosts_74 rfl hl (by decide) rfl (fun ls hl => ?_)
  refine lv_iinc (v := 1) (lv' := [(2, .int 1), (1, .int 0), (3, .int 0), (0, .ref h0)]) hx hb dX5_sumOfCosts_75 hl (k := 2) rfl (by decide) (by decide) rfl (fun ls hl => ?_)
  refine lv_goto (tgt := 4) hx hb dX5_sumOfCosts_78 (by decide) ?_
  refine lv_iload_n hx hb dX5_sumOfCosts_4 rfl (lv_at hl 0 rfl) ?_
  refine lv_aload_n hx hb dX5_sumOfCosts_5 rfl (lv_at hl 3 rfl) ?_
  refine va_get (D := D) (ci := 7) (v := .int 0) (C := RX5) (T := TX5) (N := 10) hx hb hts wi_X5_sumOfCosts_RX5 hown hK hP 0 rfl rfl 6 (by decide) (hts _ wd335_X5_sumOfCosts) (fun _ h9 => h9) rfl dX5_sumOfCosts_6 ?_
  refine lv_icmp_gt (tgt := 81) hx hb dX5_sumOfCosts_9 (by decide) (fun _ => ?_) (fun h => absurd (by decide) h)
  refine lv_iload_n hx hb dX5_sumOfCosts_81 rfl (lv_at hl 1 rfl) ?_
  have hP9 := hP
  have hD9 := hD
  exact W.iret (v := 0) hx hb hr (fun t ht hW => ⟨⟨0, (), rfl, rfl, by rw [ht]; exact hP9, hD9⟩, hS.F ht⟩) hS.2.2 dX5_sumOfCosts_82

set_option maxHeartbeats 4000000 in
set_option maxRecDepth 100000 in
theorem k_X5_scoreBy_4 (l : Launch) (hst : l.stackTraces = false) (D : va_G) (κ ε : Nat → Nat) (h0 h1 h2 h3 h4 h5 h6 h7 h8 h9 h10 h11 h12 h13 h14 h15 h16 h17 h18 h19 h20 h21 h22 : Nat) (sz : Nat) (p0 : Int32) : vx_Met l yX5_scoreBy wsX5_scoreBy ({ frames := 6, cells := 1, slots := 6, locals := 120 }) (va_Pc [.ref h0, .int 4, .int p0] (Pre2 D κ ε [(h0, .inr (7, [.ref h1, .ref h2, .ref h3, .ref h4, .ref h5, .ref h6, .int 0, .int 0, .int 0, .int 0])), (h1, .inr (2, [.int 0, .int 2, .ref h7, .ref h8])), (h2, .inr (3, [.ref h1, .int 0, .int 500, .ref h9, .ref h10, .long 0, .int 0])), (h7, .inl (κ 3, 4, .inr (.inr (.inr (.inr (sel [h11, h12, h13, h14])))))), (h8, .inl (κ 3, 4, .inr (.inr (.inr (.inr (sel [h15, h16, h17, h18])))))), (h9, .inl (κ 0, 13, .inl (fun _ => 0))), (h10, .inl (κ 0, 13, .inl (fun _ => 0))), (h12, .inr (6, [.ref h19, .ref h20, .int 0])), (h15, .inr (6, [.ref h21, .ref h22, .int 0]))] sz)) (va_Qi (fun r (u : Unit) => (¬ p0 < 1) ∧ (¬ 1000 < p0) ∧ (r = 0)) (fun _ _ => True) (va_A [(h0, .inr (7, [.ref h1, .ref h2, .ref h3, .ref h4, .ref h5, .ref h6, .int 0, .int 0, .int 0, .int 0])), (h1, .inr (2, [.int 0, .int 2, .ref h7, .ref h8])), (h2, .inr (3, [.ref h1, .int 0, .int 500, .ref h9, .ref h10, .long 0, .int 0])), (h7, .inl (κ 3, 4, .inr (.inr (.inr (.inr (sel [h11, h12, h13, h14])))))), (h8, .inl (κ 3, 4, .inr (.inr (.inr (.inr (sel [h15, h16, h17, h18])))))), (h9, .inl (κ 0, 13, .inl (fun _ => 0))), (h10, .inl (κ 0, 13, .inl (fun _ => 0))), (h12, .inr (6, [.ref h19, .ref h20, .int 0])), (h15, .inr (6, [.ref h21, .ref h22, .int 0]))] sz)) (vx_X (fun _ : Unit => True) (fun E _ _ => ((p0 < 1) ∧ E = "java/lang/IllegalArgumentException") ∨ ((¬ p0 < 1) ∧ (1000 < p0) ∧ E = "java/lang/IllegalArgumentException")) (va_A [(h0, .inr (7, [.ref h1, .ref h2, .ref h3, .ref h4, .ref h5, .ref h6, .int 0, .int 0, .int 0, .int 0])), (h1, .inr (2, [.int 0, .int 2, .ref h7, .ref h8])), (h2, .inr (3, [.ref h1, .int 0, .int 500, .ref h9, .ref h10, .long 0, .int 0])), (h7, .inl (κ 3, 4, .inr (.inr (.inr (.inr (sel [h11, h12, h13, h14])))))), (h8, .inl (κ 3, 4, .inr (.inr (.inr (.inr (sel [h15, h16, h17, h18])))))), (h9, .inl (κ 0, 13, .inl (fun _ => 0))), (h10, .inl (κ 0, 13, .inl (fun _ => 0))), (h12, .inr (6, [.ref h19, .ref h20, .int 0])), (h15, .inr (6, [.ref h21, .ref h22, .int 0]))] sz)) 1 6 (va_A [(h0, .inr (7, [.ref h1, .ref h2, .ref h3, .ref h4, .ref h5, .ref h6, .int 0, .int 0, .int 0, .int 0])), (h1, .inr (2, [.int 0, .int 2, .ref h7, .ref h8])), (h2, .inr (3, [.ref h1, .int 0, .int 500, .ref h9, .ref h10, .long 0, .int 0])), (h7, .inl (κ 3, 4, .inr (.inr (.inr (.inr (sel [h11, h12, h13, h14])))))), (h8, .inl (κ 3, 4, .inr (.inr (.inr (.inr (sel [h15, h16, h17, h18])))))), (h9, .inl (κ 0, 13, .inl (fun _ => 0))), (h10, .inl (κ 0, 13, .inl (fun _ => 0))), (h12, .inr (6, [.ref h19, .ref h20, .int 0])), (h15, .inr (6, [.ref h21, .ref h22, .int 0]))] sz) := by
  refine vx_ofW (cc := cX5_scoreBy) (maxL := 6) (ret := (some .int)) (by decide) rfl ?_
  intro p e s m args below meth c s₁ B hml hnx hv
  obtain ⟨rfl, hsz, hP, hK, hD0, hE9⟩ := hv
  have hx := B.exec
  have hb := B.bytes
  have hr := B.returns
  have hts := atoms_spec (ws := wsX5_scoreBy) B.pre
  have hown : s.vm.findClass RX5 = some m.cls := findClass_of_methodNamed B.named
  have hlocks := B.notSynchronized
  subst hsz
  have hD := hD0.self (sz := s.heap.size)
  generalize hAe : va_A [(h0, .inr (7, [.ref h1, .ref h2, .ref h3, .ref h4, .ref h5, .ref h6, .int 0, .int 0, .int 0, .int 0])), (h1, .inr (2, [.int 0, .int 2, .ref h7, .ref h8])), (h2, .inr (3, [.ref h1, .int 0, .int 500, .ref h9, .ref h10, .long 0, .int 0])), (h7, .inl (κ 3, 4, .inr (.inr (.inr (.inr (sel [h11, h12, h13, h14])))))), (h8, .inl (κ 3, 4, .inr (.inr (.inr (.inr (sel [h15, h16, h17, h18])))))), (h9, .inl (κ 0, 13, .inl (fun _ => 0))), (h10, .inl (κ 0, 13, .inl (fun _ => 0))), (h12, .inr (6, [.ref h19, .ref h20, .int 0])), (h15, .inr (6, [.ref h21, .ref h22, .int 0]))] s.heap.size = A at hD hE9 ⊢
  have hE := hE9.1
  have hDc := hE9.2
  have hA : ∀ q : Nat, s.heap.size ≤ q → A q := fun q h => by rw [← hAe]; exact Or.inr h
  have hS : va_S A s.heap s.heap [] := va_S.rf
  have hP : va_P D vwCl [(h0, .inr (7, [.ref h1, .ref h2, .ref h3, .ref h4, .ref h5, .ref h6, .int 0, .int 0, .int 0, .int 0])), (h1, .inr (2, [.int 0, .int 2, .ref h7, .ref h8])), (h2, .inr (3, [.ref h1, .int 0, .int 500, .ref h9, .ref h10, .long 0, .int 0])), (h7, .inl (κ 3, 4, .inr (.inr (.inr (.inr (sel [h11, h12, h13, h14])))))), (h8, .inl (κ 3, 4, .inr (.inr (.inr (.inr (sel [h15, h16, h17, h18])))))), (h9, .inl (κ 0, 13, .inl (fun _ => 0))), (h10, .inl (κ 0, 13, .inl (fun _ => 0))), (h12, .inr (6, [.ref h19, .ref h20, .int 0])), (h15, .inr (6, [.ref h21, .ref h22, .int 0]))] s.heap := hP
  have hl := lv_entry [.ref h0, .int 4, .int p0] (n := 6) (Nat.le_of_ble_eq_true rfl)
  rw [lg_entry_eq]
  generalize (lg_sl [.ref h0, .int 4, .int p0] ++ List.replicate (6 - (lg_sl [.ref h0, .int 4, .int p0]).length) Slot.unset).toArray = ls at hl ⊢
  have hl : lv_has ls 6 [(0, .ref h0), (1, .int 4), (2, .int p0)] := hl
  refine lv_iload_n hx hb dX5_scoreBy_0 rfl (lv_at hl 1 rfl) ?_
  refine lv_iload_n hx hb dX5_scoreBy_1 rfl (lv_at hl 2 rfl) ?_
  refine vp_callSi (W.runS (As := [.int 4, .int p0]) (rest := []) ⟨hx, hb, hml, hown, hts⟩ (k_X5_isWay_5 l D κ ε (p0)) (va_cwS 2 hts gX5_scoreBy_X5_isWay rfl rfl rfl (by decide +kernel) ⟨(Nat.le_of_ble_eq_true rfl), (Nat.le_of_ble_eq_true rfl)⟩) (pre0_S (wc := []) hP hK [] rfl) rfl rfl hl.1 rfl (lv_room (Nat.le_of_ble_eq_true rfl)) dX5_scoreBy_2 ⟨(Nat.le_of_ble_eq_true rfl), (Nat.le_of_ble_eq_true rfl)⟩) (fun r hw => ?_)
  rcases hw with ⟨c1, rfl⟩ | ⟨c2, c3, rfl⟩ | ⟨c4, c5, rfl⟩
  · skip
    refine lv_if_ne (tgt := 18) hx hb dX5_scoreBy_5 (by decide) (fun h => absurd (by decide) h) (fun _ => ?_)
    exact vx_throwS (names := ["java/lang/RuntimeException", "java/lang/Exception"]) (sa := ε 25) hx hb hst hown (by decide +kernel) (by decide +kernel) (hts _ wd420_X5_scoreBy) (hts _ wd421_X5_scoreBy) (hE.2.2.2.2.2.2.1 _ (List.mem_of_getElem? (i := 15) rfl)) (vx_hat (B := [.castable "java/lang/IllegalArgumentException" "java/lang/IllegalArgumentException", .declares (Bundle.initS "java/lang/RuntimeException"), .declares (Bundle.initS "java/lang/Exception"), .declares (Bundle.initS "java/lang/Throwable")]) (fun w hw => hts w (at1_X5_scoreBy_82 w hw)) at2_RX5_82 (vx_c (va_Nw.use rfl hE.2.2.2.2.2.2.2.2.2.2.2.2.2.2.1) (vx_c (va_Nw.use rfl hDc.1) (vx_c (va_Nw.use rfl hDc.2.1) (vx_c (va_Nw.use rfl hDc.2.2) vx_n))))) at2_RX5_82g hE.1 hE.2.1 hS (by rw [hml]; exact hl.1) dX5_scoreBy_8 dX5_scoreBy_11 dX5_scoreBy_12 dX5_scoreBy_14 dX5_scoreBy_17 (fun x hx => (hnx x hx).elim) (by decide) (by decide) (Nat.le_of_ble_eq_true rfl) (Nat.le_of_ble_eq_true rfl) hlocks (fun t _ h1 h2 => ⟨(), trivial, (Or.inl ⟨c1, rfl⟩), thF (H0 := s.heap) hS h1 h2⟩) hS.2.2 (Nat.le_of_ble_eq_true rfl) (Nat.le_of_ble_eq_true rfl)
  · skip
    refine lv_if_ne (tgt := 18) hx hb dX5_scoreBy_5 (by decide) (fun h => absurd (by decide) h) (fun _ => ?_)
    exact vx_throwS (names := ["java/lang/RuntimeException", "java/lang/Exception"]) (sa := ε 25) hx hb hst hown (by decide +kernel) (by decide +kernel) (hts _ wd420_X5_scoreBy) (hts _ wd421_X5_scoreBy) (hE.2.2.2.2.2.2.1 _ (List.mem_of_getElem? (i := 15) rfl)) (vx_hat (B := [.castable "java/lang/IllegalArgumentException" "java/lang/IllegalArgumentException", .declares (Bundle.initS "java/lang/RuntimeException"), .declares (Bundle.initS "java/lang/Exception"), .declares (Bundle.initS "java/lang/Throwable")]) (fun w hw => hts w (at1_X5_scoreBy_82 w hw)) at2_RX5_82 (vx_c (va_Nw.use rfl hE.2.2.2.2.2.2.2.2.2.2.2.2.2.2.1) (vx_c (va_Nw.use rfl hDc.1) (vx_c (va_Nw.use rfl hDc.2.1) (vx_c (va_Nw.use rfl hDc.2.2) vx_n))))) at2_RX5_82g hE.1 hE.2.1 hS (by rw [hml]; exact hl.1) dX5_scoreBy_8 dX5_scoreBy_11 dX5_scoreBy_12 dX5_scoreBy_14 dX5_scoreBy_17 (fun x hx => (hnx x hx).elim) (by decide) (by decide) (Nat.le_of_ble_eq_true rfl) (Nat.le_of_ble_eq_true rfl) hlocks (fun t _ h1 h2 => ⟨(), trivial, (Or.inr ⟨c2, c3, rfl⟩), thF (H0 := s.heap) hS h1 h2⟩) hS.2.2 (Nat.le_of_ble_eq_true rfl) (Nat.le_of_ble_eq_true rfl)
  · skip
    refine lv_if_ne (tgt := 18) hx hb dX5_scoreBy_5 (by decide) (fun _ => ?_) (fun h => absurd h (by decide))
    refine lv_aload_n hx hb dX5_scoreBy_18 rfl (lv_at hl 0 rfl) ?_
    refine va_get (D := D) (ci := 7) (v := .ref h2) (C := RX5) (T := TX5) (N := 10) hx hb hts wi_X5_scoreBy_RX5 hown hK hP 0 rfl rfl 1 (by decide) (hts _ wd422_X5_scoreBy) (fun _ h9 => h9) rfl dX5_scoreBy_19 ?_
    refine va_get (D := D) (ci := 3) (v := .int 0) (C := RX1) (T := TX1) (N := 7) hx hb hts wi_X5_scoreBy_RX1 hown hK hP 2 rfl rfl 1 (by decide) (hts _ wd423_X5_scoreBy) (fun _ h9 => h9) rfl dX5_scoreBy_22 ?_
    refine lv_istore_n (lv' := [(3, .int 0), (0, .ref h0), (1, .int 4), (2, .int p0)]) hx hb dX5_scoreBy_25 rfl hl (by decide) rfl (fun ls hl => ?_)
    refine lv_aload_n hx hb dX5_scoreBy_26 rfl (lv_at hl 1 rfl) ?_
    refine va_get (D := D) (ci := 7) (v := .ref h2) (C := RX5) (T := TX5) (N := 10) hx hb hts wi_X5_scoreBy_RX5 hown hK hP 0 rfl rfl 1 (by decide) (hts _ wd422_X5_scoreBy) (fun _ h9 => h9) rfl dX5_scoreBy_27 ?_
    refine va_get (D := D) (ci := 3) (v := .int 500) (C := RX1) (T := TX1) (N := 7) hx hb hts wi_X5_scoreBy_RX1 hown hK hP 2 rfl rfl 2 (by decide) (hts _ wd424_X5_scoreBy) (fun _ h9 => h9) rfl dX5_scoreBy_30 ?_
    refine lv_istore (lv' := [(4, .int 500), (3, .int 0), (0, .ref h0), (1, .int 4), (2, .int p0)]) hx hb dX5_scoreBy_33 hl (by decide) rfl (fun ls hl => ?_)
    refine lv_aload_n hx hb dX5_scoreBy_35 rfl (lv_at hl 2 rfl) ?_
    refine va_get (D := D) (ci := 7) (v := .ref h2) (C := RX5) (T := TX5) (N := 10) hx hb hts wi_X5_scoreBy_RX5 hown hK hP 0 rfl rfl 1 (by decide) (hts _ wd422_X5_scoreBy) (fun _ h9 => h9) rfl dX5_scoreBy_36 ?_
    refine lv_iload_n hx hb dX5_scoreBy_39 rfl (lv_at hl 3 rfl) ?_
    refine va_put (D := D) (ci := 3) (v := .int 4) (ty := .int) (C := RX1) (T := TX1) (N := 7) hx hb hts wi_X5_scoreBy_RX1 tyX1 tyX1_ok nmX1 hown hK hP hD hS 2 rfl rfl 1 (by decide) (hts _ wd423_X5_scoreBy) (fun _ h9 => h9) rfl (by decide +kernel) rfl rfl (Nat.le_of_ble_eq_true rfl) dX5_scoreBy_40 (fun H locs hP hD hS => ?_)
    have hP : va_P D vwCl [(h0, .inr (7, [.ref h1, .ref h2, .ref h3, .ref h4, .ref h5, .ref h6, .int 0, .int 0, .int 0, .int 0])), (h1, .inr (2, [.int 0, .int 2, .ref h7, .ref h8])), (h2, .inr (3, [.ref h1, .int 4, .int 500, .ref h9, .ref h10, .long 0, .int 0])), (h7, .inl (κ 3, 4, .inr (.inr (.inr (.inr (sel [h11, h12, h13, h14])))))), (h8, .inl (κ 3, 4, .inr (.inr (.inr (.inr (sel [h15, h16, h17, h18])))))), (h9, .inl (κ 0, 13, .inl (fun _ => 0))), (h10, .inl (κ 0, 13, .inl (fun _ => 0))), (h12, .inr (6, [.ref h19, .ref h20, .int 0])), (h15, .inr (6, [.ref h21, .ref h22, .int 0]))] H := hP
    have hD : va_D A [(h0, .inr (7, [.ref h1, .ref h2, .ref h3, .ref h4, .ref h5, .ref h6, .int 0, .int 0, .int 0, .int 0])), (h1, .inr (2, [.int 0, .int 2, .ref h7, .ref h8])), (h2, .inr (3, [.ref h1, .int 4, .int 500, .ref h9, .ref h10, .long 0, .int 0])), (h7, .inl (κ 3, 4, .inr (.inr (.inr (.inr (sel [h11, h12, h13, h14])))))), (h8, .inl (κ 3, 4, .inr (.inr (.inr (.inr (sel [h15, h16, h17, h18])))))), (h9, .inl (κ 0, 13, .inl (fun _ => 0))), (h10, .inl (κ 0, 13, .inl (fun _ => 0))), (h12, .inr (6, [.ref h19, .ref h20, .int 0])), (h15, .inr (6, [.ref h21, .ref h22, .int 0]))] := hD
    refine lv_aload_n hx hb dX5_scoreBy_43 rfl (lv_at hl 2 rfl) ?_
    refine va_get (D := D) (ci := 7) (v := .ref h2) (C := RX5) (T := TX5) (N := 10) hx hb hts wi_X5_scoreBy_RX5 hown hK hP 0 rfl rfl 1 (by decide) (hts _ wd422_X5_scoreBy) (fun _ h9 => h9) rfl dX5_scoreBy_44 ?_
    refine lv_iload_n hx hb dX5_scoreBy_47 rfl (lv_at hl 4 rfl) ?_
    refine va_put (D := D) (ci := 3) (v := .int p0) (ty := .int) (C := RX1) (T := TX1) (N := 7) hx hb hts wi_X5_scoreBy_RX1 tyX1 tyX1_ok nmX1 hown hK hP hD hS 2 rfl rfl 2 (by decide) (hts _ wd424_X5_scoreBy) (fun _ h9 => h9) rfl (by decide +kernel) rfl rfl (Nat.le_of_ble_eq_true rfl) dX5_scoreBy_48 (fun H locs hP hD hS => ?_)
    have hP : va_P D vwCl [(h0, .inr (7, [.ref h1, .ref h2, .ref h3, .ref h4, .ref h5, .ref h6, .int 0, .int 0, .int 0, .int 0])), (h1, .inr (2, [.int 0, .int 2, .ref h7, .ref h8])), (h2, .inr (3, [.ref h1, .int 4, .int p0, .ref h9, .ref h10, .long 0, .int 0])), (h7, .inl (κ 3, 4, .inr (.inr (.inr (.inr (sel [h11, h12, h13, h14])))))), (h8, .inl (κ 3, 4, .inr (.inr (.inr (.inr (sel [h15, h16, h17, h18])))))), (h9, .inl (κ 0, 13, .inl (fun _ => 0))), (h10, .inl (κ 0, 13, .inl (fun _ => 0))), (h12, .inr (6, [.ref h19, .ref h20, .int 0])), (h15, .inr (6, [.ref h21, .ref h22, .int 0]))] H := hP
    have hD : va_D A [(h0, .inr (7, [.ref h1, .ref h2, .ref h3, .ref h4, .ref h5, .ref h6, .int 0, .int 0, .int 0, .int 0])), (h1, .inr (2, [.int 0, .int 2, .ref h7, .ref h8])), (h2, .inr (3, [.ref h1, .int 4, .int p0, .ref h9, .ref h10, .long 0, .int 0])), (h7, .inl (κ 3, 4, .inr (.inr (.inr (.inr (sel [h11, h12, h13, h14])))))), (h8, .inl (κ 3, 4, .inr (.inr (.inr (.inr (sel [h15, h16, h17, h18])))))), (h9, .inl (κ 0, 13, .inl (fun _ => 0))), (h10, .inl (κ 0, 13, .inl (fun _ => 0))), (h12, .inr (6, [.ref h19, .ref h20, .int 0])), (h15, .inr (6, [.ref h21, .ref h22, .int 0]))] := hD
    refine lv_aload_n hx hb dX5_scoreBy_51 rfl (lv_at hl 2 rfl) ?_
    have hF := va_free (wc := [(h0, .inr (7, [.ref h1, .ref h2, .ref h3, .ref h4, .ref h5, .ref h6, .int 0, .int 0, .int 0, .int 0])), (h1, .inr (2, [.int 0, .int 2, .ref h7, .ref h8])), (h2, .inr (3, [.ref h1, .int 4, .int p0, .ref h9, .ref h10, .long 0, .int 0])), (h7, .inl (κ 3, 4, .inr (.inr (.inr (.inr (sel [h11, h12, h13, h14])))))), (h8, .inl (κ 3, 4, .inr (.inr (.inr (.inr (sel [h15, h16, h17, h18])))))), (h9, .inl (κ 0, 13, .inl (fun _ => 0))), (h10, .inl (κ 0, 13, .inl (fun _ => 0))), (h12, .inr (6, [.ref h19, .ref h20, .int 0])), (h15, .inr (6, [.ref h21, .ref h22, .int 0]))]) hD hS hA [0, 1, 2, 3, 4, 5, 6, 7, 8] rfl
    refine va_calli (va_runV (As := []) (rest := []) ⟨hx, hb, hml, hown, hts⟩ (k_X5_sumOfCosts_5 l D κ ε h0 h1 h2 h3 h4 h5 h6 h7 h8 h9 h10 h11 h12 h13 h14 h15 h16 h17 h18 h19 h20 h21 h22 H.size (0) (0) (p0) (0)) (cwV 0 hts gX5_scoreBy_X5_sumOfCosts rfl rfl rfl (by decide +kernel) ⟨(Nat.le_of_ble_eq_true rfl), (Nat.le_of_ble_eq_true rfl)⟩) (pre2_V (q0 := 0) (ci := 7) (wc := [(h0, .inr (7, [.ref h1, .ref h2, .ref h3, .ref h4, .ref h5, .ref h6, .int 0, .int 0, .int 0, .int 0])), (h1, .inr (2, [.int 0, .int 2, .ref h7, .ref h8])), (h2, .inr (3, [.ref h1, .int 4, .int p0, .ref h9, .ref h10, .long 0, .int 0])), (h7, .inl (κ 3, 4, .inr (.inr (.inr (.inr (sel [h11, h12, h13, h14])))))), (h8, .inl (κ 3, 4, .inr (.inr (.inr (.inr (sel [h15, h16, h17, h18])))))), (h9, .inl (κ 0, 13, .inl (fun _ => 0))), (h10, .inl (κ 0, 13, .inl (fun _ => 0))), (h12, .inr (6, [.ref h19, .ref h20, .int 0])), (h15, .inr (6, [.ref h21, .ref h22, .int 0]))]) hP hD hK hE9 hS hA [0, 1, 2, 3, 4, 5, 6, 7, 8] (by decide) rfl rfl rfl) rfl rfl hl.1 rfl (lv_room (Nat.le_of_ble_eq_true rfl)) dX5_scoreBy_52 ⟨(Nat.le_of_ble_eq_true rfl), (Nat.le_of_ble_eq_true rfl)⟩) hS (fun q _ h => hF q h) hF (fun r u6 t H locs ht hvm hw hB hz1 hk1 hS => ?_)
    try dsimp only at hw hB
    obtain ⟨hP1, hD1⟩ := hB
    rw [ht] at hP1
    obtain ⟨hP, hD⟩ := post_j (ws' := [(h0, .inr (7, [.ref h1, .ref h2, .ref h3, .ref h4, .ref h5, .ref h6, .int 0, .int 0, .int 0, .int 0])), (h1, .inr (2, [.int 0, .int 2, .ref h7, .ref h8])), (h2, .inr (3, [.ref h1, .int 4, .int p0, .ref h9, .ref h10, .long 0, .int 0])), (h7, .inl (κ 3, 4, .inr (.inr (.inr (.inr (sel [h11, h12, h13, h14])))))), (h8, .inl (κ 3, 4, .inr (.inr (.inr (.inr (sel [h15, h16, h17, h18])))))), (h9, .inl (κ 0, 13, .inl (upd (upd (upd (upd (upd (upd (upd (upd (upd (upd (upd (upd (upd (fun _ => 0) 0 1000000) 1 1000000) 2 1000000) 3 1000000) 4 1000000) 5 1000000) 6 1000000) 7 1000000) 8 1000000) 9 1000000) 10 1000000) 11 1000000) 12 1000000))), (h10, .inl (κ 0, 13, .inl (fun _ => 0))), (h12, .inr (6, [.ref h19, .ref h20, .int 0])), (h15, .inr (6, [.ref h21, .ref h22, .int 0]))]) (wr := []) (w1 := [(h0, .inr (7, [.ref h1, .ref h2, .ref h3, .ref h4, .ref h5, .ref h6, .int 0, .int 0, .int 0, .int 0])), (h1, .inr (2, [.int 0, .int 2, .ref h7, .ref h8])), (h2, .inr (3, [.ref h1, .int 4, .int p0, .ref h9, .ref h10, .long 0, .int 0])), (h7, .inl (κ 3, 4, .inr (.inr (.inr (.inr (sel [h11, h12, h13, h14])))))), (h8, .inl (κ 3, 4, .inr (.inr (.inr (.inr (sel [h15, h16, h17, h18])))))), (h9, .inl (κ 0, 13, .inl (upd (upd (upd (upd (upd (upd (upd (upd (upd (upd (upd (upd (upd (fun _ => 0) 0 1000000) 1 1000000) 2 1000000) 3 1000000) 4 1000000) 5 1000000) 6 1000000) 7 1000000) 8 1000000) 9 1000000) 10 1000000) 11 1000000) 12 1000000))), (h10, .inl (κ 0, 13, .inl (fun _ => 0))), (h12, .inr (6, [.ref h19, .ref h20, .int 0])), (h15, .inr (6, [.ref h21, .ref h22, .int 0]))]) hP hD hF [0, 1, 2, 3, 4, 5, 6, 7, 8] rfl [] rfl (by decide) (by decide) hk1 hP1 hD1 [0, 1, 2, 3, 4, 5, 6, 7, 8] (by decide) rfl
    have hP : va_P D vwCl [(h0, .inr (7, [.ref h1, .ref h2, .ref h3, .ref h4, .ref h5, .ref h6, .int 0, .int 0, .int 0, .int 0])), (h1, .inr (2, [.int 0, .int 2, .ref h7, .ref h8])), (h2, .inr (3, [.ref h1, .int 4, .int p0, .ref h9, .ref h10, .long 0, .int 0])), (h7, .inl (κ 3, 4, .inr (.inr (.inr (.inr (sel [h11, h12, h13, h14])))))), (h8, .inl (κ 3, 4, .inr (.inr (.inr (.inr (sel [h15, h16, h17, h18])))))), (h9, .inl (κ 0, 13, .inl (upd (upd (upd (upd (upd (upd (upd (upd (upd (upd (upd (upd (upd (fun _ => 0) 0 1000000) 1 1000000) 2 1000000) 3 1000000) 4 1000000) 5 1000000) 6 1000000) 7 1000000) 8 1000000) 9 1000000) 10 1000000) 11 1000000) 12 1000000))), (h10, .inl (κ 0, 13, .inl (fun _ => 0))), (h12, .inr (6, [.ref h19, .ref h20, .int 0])), (h15, .inr (6, [.ref h21, .ref h22, .int 0]))] H := hP
    have hD : va_D A [(h0, .inr (7, [.ref h1, .ref h2, .ref h3, .ref h4, .ref h5, .ref h6, .int 0, .int 0, .int 0, .int 0])), (h1, .inr (2, [.int 0, .int 2, .ref h7, .ref h8])), (h2, .inr (3, [.ref h1, .int 4, .int p0, .ref h9, .ref h10, .long 0, .int 0])), (h7, .inl (κ 3, 4, .inr (.inr (.inr (.inr (sel [h11, h12, h13, h14])))))), (h8, .inl (κ 3, 4, .inr (.inr (.inr (.inr (sel [h15, h16, h17, h18])))))), (h9, .inl (κ 0, 13, .inl (upd (upd (upd (upd (upd (upd (upd (upd (upd (upd (upd (upd (upd (fun _ => 0) 0 1000000) 1 1000000) 2 1000000) 3 1000000) 4 1000000) 5 1000000) 6 1000000) 7 1000000) 8 1000000) 9 1000000) 10 1000000) 11 1000000) 12 1000000))), (h10, .inl (κ 0, 13, .inl (fun _ => 0))), (h12, .inr (6, [.ref h19, .ref h20, .int 0])), (h15, .inr (6, [.ref h21, .ref h22, .int 0]))] := hD
    rw [hw]
    refine lv_istore (lv' := [(5, .int 0), (4, .int 500), (3, .int 0), (0, .ref h0), (1, .int 4), (2, .int p0)]) hx hb dX5_scoreBy_55 hl (by decide) rfl (fun ls hl => ?_)
    refine lv_aload_n hx hb dX5_scoreBy_57 rfl (lv_at hl 3 rfl) ?_
    refine va_get (D := D) (ci := 7) (v := .ref h2) (C := RX5) (T := TX5) (N := 10) hx hb hts wi_X5_scoreBy_RX5 hown hK hP 0 rfl rfl 1 (by decide) (hts _ wd422_X5_scoreBy) (fun _ h9 => h9) rfl dX5_scoreBy_58 ?_
    refine lv_iload_n hx hb dX5_scoreBy_61 rfl (lv_at hl 2 rfl) ?_
    refine va_put (D := D) (ci := 3) (v := .int 0) (ty := .int) (C := RX1) (T := TX1) (N := 7) hx hb hts wi_X5_scoreBy_RX1 tyX1 tyX1_ok nmX1 hown hK hP hD hS 2 rfl rfl 1 (by decide) (hts _ wd423_X5_scoreBy) (fun _ h9 => h9) rfl (by decide +kernel) rfl rfl (Nat.le_of_ble_eq_true rfl) dX5_scoreBy_62 (fun H locs hP hD hS => ?_)
    have hP : va_P D vwCl [(h0, .inr (7, [.ref h1, .ref h2, .ref h3, .ref h4, .ref h5, .ref h6, .int 0, .int 0, .int 0, .int 0])), (h1, .inr (2, [.int 0, .int 2, .ref h7, .ref h8])), (h2, .inr (3, [.ref h1, .int 0, .int p0, .ref h9, .ref h10, .long 0, .int 0])), (h7, .inl (κ 3, 4, .inr (.inr (.inr (.inr (sel [h11, h12, h13, h14])))))), (h8, .inl (κ 3, 4, .inr (.inr (.inr (.inr (sel [h15, h16, h17, h18])))))), (h9, .inl (κ 0, 13, .inl (upd (upd (upd (upd (upd (upd (upd (upd (upd (upd (upd (upd (upd (fun _ => 0) 0 1000000) 1 1000000) 2 1000000) 3 1000000) 4 1000000) 5 1000000) 6 1000000) 7 1000000) 8 1000000) 9 1000000) 10 1000000) 11 1000000) 12 1000000))), (h10, .inl (κ 0, 13, .inl (fun _ => 0))), (h12, .inr (6, [.ref h19, .ref h20, .int 0])), (h15, .inr (6, [.ref h21, .ref h22, .int 0]))] H := hP
    have hD : va_D A [(h0, .inr (7, [.ref h1, .ref h2, .ref h3, .ref h4, .ref h5, .ref h6, .int 0, .int 0, .int 0, .int 0])), (h1, .inr (2, [.int 0, .int 2, .ref h7, .ref h8])), (h2, .inr (3, [.ref h1, .int 0, .int p0, .ref h9, .ref h10, .long 0, .int 0])), (h7, .inl (κ 3, 4, .inr (.inr (.inr (.inr (sel [h11, h12, h13, h14])))))), (h8, .inl (κ 3, 4, .inr (.inr (.inr (.inr (sel [h15, h16, h17, h18])))))), (h9, .inl (κ 0, 13, .inl (upd (upd (upd (upd (upd (upd (upd (upd (upd (upd (upd (upd (upd (fun _ => 0) 0 1000000) 1 1000000) 2 1000000) 3 1000000) 4 1000000) 5 1000000) 6 1000000) 7 1000000) 8 1000000) 9 1000000) 10 1000000) 11 1000000) 12 1000000))), (h10, .inl (κ 0, 13, .inl (fun _ => 0))), (h12, .inr (6, [.ref h19, .ref h20, .int 0])), (h15, .inr (6, [.ref h21, .ref h22, .int 0]))] := hD
    refine lv_aload_n hx hb dX5_scoreBy_65 rfl (lv_at hl 3 rfl) ?_
    refine va_get (D := D) (ci := 7) (v := .ref h2) (C := RX5) (T := TX5) (N := 10) hx hb hts wi_X5_scoreBy_RX5 hown hK hP 0 rfl rfl 1 (by decide) (hts _ wd422_X5_scoreBy) (fun _ h9 => h9) rfl dX5_scoreBy_66 ?_
    refine lv_iload hx hb dX5_scoreBy_69 (lv_at hl 1 rfl) ?_
    refine va_put (D := D) (ci := 3) (v := .int 500) (ty := .int) (C := RX1) (T := TX1) (N := 7) hx hb hts wi_X5_scoreBy_RX1 tyX1 tyX1_ok nmX1 hown hK hP hD hS 2 rfl rfl 2 (by decide) (hts _ wd424_X5_scoreBy) (fun _ h9 => h9) rfl (by decide +kernel) rfl rfl (Nat.le_of_ble_eq_true rfl) dX5_scoreBy_71 (fun H locs hP hD hS => ?_)
    have hP : va_P D vwCl [(h0, .inr (7, [.ref h1, .ref h2, .ref h3, .ref h4, .ref h5, .ref h6, .int 0, .int 0, .int 0, .int 0])), (h1, .inr (2, [.int 0, .int 2, .ref h7, .ref h8])), (h2, .inr (3, [.ref h1, .int 0, .int 500, .ref h9, .ref h10, .long 0, .int 0])), (h7, .inl (κ 3, 4, .inr (.inr (.inr (.inr (sel [h11, h12, h13, h14])))))), (h8, .inl (κ 3, 4, .inr (.inr (.inr (.inr (sel [h15, h16, h17, h18])))))), (h9, .inl (κ 0, 13, .inl (upd (upd (upd (upd (upd (upd (upd (upd (upd (upd (upd (upd (upd (fun _ => 0) 0 1000000) 1 1000000) 2 1000000) 3 1000000) 4 1000000) 5 1000000) 6 1000000) 7 1000000) 8 1000000) 9 1000000) 10 1000000) 11 1000000) 12 1000000))), (h10, .inl (κ 0, 13, .inl (fun _ => 0))), (h12, .inr (6, [.ref h19, .ref h20, .int 0])), (h15, .inr (6, [.ref h21, .ref h22, .int 0]))] H := hP
    have hD : va_D A [(h0, .inr (7, [.ref h1, .ref h2, .ref h3, .ref h4, .ref h5, .ref h6, .int 0, .int 0, .int 0, .int 0])), (h1, .inr (2, [.int 0, .int 2, .ref h7, .ref h8])), (h2, .inr (3, [.ref h1, .int 0, .int 500, .ref h9, .ref h10, .long 0, .int 0])), (h7, .inl (κ 3, 4, .inr (.inr (.inr (.inr (sel [h11, h12, h13, h14])))))), (h8, .inl (κ 3, 4, .inr (.inr (.inr (.inr (sel [h15, h16, h17, h18])))))), (h9, .inl (κ 0, 13, .inl (upd (upd (upd (upd (upd (upd (upd (upd (upd (upd (upd (upd (upd (fun _ => 0) 0 1000000) 1 1000000) 2 1000000) 3 1000000) 4 1000000) 5 1000000) 6 1000000) 7 1000000) 8 1000000) 9 1000000) 10 1000000) 11 1000000) 12 1000000))), (h10, .inl (κ 0, 13, .inl (fun _ => 0))), (h12, .inr (6, [.ref h19, .ref h20, .int 0])), (h15, .inr (6, [.ref h21, .ref h22, .int 0]))] := hD
    refine lv_iload hx hb dX5_scoreBy_74 (lv_at hl 0 rfl) ?_
    refine W.widen (k := 1) (n := 6) (Nat.le_of_ble_eq_true rfl) (Nat.le_of_ble_eq_true rfl) ?_
    refine vx_ret ?_
    exact W.iret (v := 0) hx hb hr (fun t ht hW => ⟨⟨0, (), rfl, ⟨c4, c5, rfl⟩, trivial⟩, hS.F ht⟩) hS.2.2 dX5_scoreBy_76

set_option maxHeartbeats 4000000 in
set_option maxRecDepth 100000 in
theorem k_L_scoreBy_4 (l : Launch) (hst : l.stackTraces = false) (D : va_G) (κ ε : Nat → Nat) (h0 h1 h2 h3 h4 h5 h6 h7 h8 h9 h10 h11 h12 h13 h14 h15 h16 h17 h18 h19 h20 h21 h22 h23 : Nat) (sz : Nat) (p0 : Int32) : Met l yL_scoreBy wsL_scoreBy ({ frames := 7, cells := 1, slots := 6, locals := 145 }) (va_Pc [.ref h0, .int 4, .int p0, .ref h1] (Pre2 D κ ε [(h0, .inr (7, [.ref h2, .ref h3, .ref h4, .ref h5, .ref h6, .ref h7, .int 0, .int 0, .int 0, .int 0])), (h1, .inl (κ 2, 1, .inr (.inl (fun _ => 0)))), (h2, .inr (2, [.int 0, .int 2, .ref h8, .ref h9])), (h3, .inr (3, [.ref h2, .int 0, .int 500, .ref h10, .ref h11, .long 0, .int 0])), (h8, .inl (κ 3, 4, .inr (.inr (.inr (.inr (sel [h12, h13, h14, h15])))))), (h9, .inl (κ 3, 4, .inr (.inr (.inr (.inr (sel [h16, h17, h18, h19])))))), (h10, .inl (κ 0, 13, .inl (fun _ => 0))), (h11, .inl (κ 0, 13, .inl (fun _ => 0))), (h13, .inr (6, [.ref h20, .ref h21, .int 0])), (h16, .inr (6, [.ref h22, .ref h23, .int 0]))] sz)) (va_Qi (fun r (u : Nat → Int64) => ((p0 < 1) ∧ (r = 1)) ∨ ((¬ p0 < 1) ∧ (1000 < p0) ∧ (r = 1)) ∨ ((¬ p0 < 1) ∧ (¬ 1000 < p0) ∧ (u 0 = 0) ∧ (r = 0))) (fun u t => va_P D vwCl [(h1, .inl (κ 2, 1, .inr (.inl u)))] t.heap ∧ va_D (va_A [(h0, .inr (7, [.ref h2, .ref h3, .ref h4, .ref h5, .ref h6, .ref h7, .int 0, .int 0, .int 0, .int 0])), (h1, .inl (κ 2, 1, .inr (.inl (fun _ => 0)))), (h2, .inr (2, [.int 0, .int 2, .ref h8, .ref h9])), (h3, .inr (3, [.ref h2, .int 0, .int 500, .ref h10, .ref h11, .long 0, .int 0])), (h8, .inl (κ 3, 4, .inr (.inr (.inr (.inr (sel [h12, h13, h14, h15])))))), (h9, .inl (κ 3, 4, .inr (.inr (.inr (.inr (sel [h16, h17, h18, h19])))))), (h10, .inl (κ 0, 13, .inl (fun _ => 0))), (h11, .inl (κ 0, 13, .inl (fun _ => 0))), (h13, .inr (6, [.ref h20, .ref h21, .int 0])), (h16, .inr (6, [.ref h22, .ref h23, .int 0]))] sz) [(h1, .inl (κ 2, 1, .inr (.inl u)))]) (va_A [(h0, .inr (7, [.ref h2, .ref h3, .ref h4, .ref h5, .ref h6, .ref h7, .int 0, .int 0, .int 0, .int 0])), (h1, .inl (κ 2, 1, .inr (.inl (fun _ => 0)))), (h2, .inr (2, [.int 0, .int 2, .ref h8, .ref h9])), (h3, .inr (3, [.ref h2, .int 0, .int 500, .ref h10, .ref h11, .long 0, .int 0])), (h8, .inl (κ 3, 4, .inr (.inr (.inr (.inr (sel [h12, h13, h14, h15])))))), (h9, .inl (κ 3, 4, .inr (.inr (.inr (.inr (sel [h16, h17, h18, h19])))))), (h10, .inl (κ 0, 13, .inl (fun _ => 0))), (h11, .inl (κ 0, 13, .inl (fun _ => 0))), (h13, .inr (6, [.ref h20, .ref h21, .int 0])), (h16, .inr (6, [.ref h22, .ref h23, .int 0]))] sz)) 1 6 (va_A [(h0, .inr (7, [.ref h2, .ref h3, .ref h4, .ref h5, .ref h6, .ref h7, .int 0, .int 0, .int 0, .int 0])), (h1, .inl (κ 2, 1, .inr (.inl (fun _ => 0)))), (h2, .inr (2, [.int 0, .int 2, .ref h8, .ref h9])), (h3, .inr (3, [.ref h2, .int 0, .int 500, .ref h10, .ref h11, .long 0, .int 0])), (h8, .inl (κ 3, 4, .inr (.inr (.inr (.inr (sel [h12, h13, h14, h15])))))), (h9, .inl (κ 3, 4, .inr (.inr (.inr (.inr (sel [h16, h17, h18, h19])))))), (h10, .inl (κ 0, 13, .inl (fun _ => 0))), (h11, .inl (κ 0, 13, .inl (fun _ => 0))), (h13, .inr (6, [.ref h20, .ref h21, .int 0])), (h16, .inr (6, [.ref h22, .ref h23, .int 0]))] sz) := by
  refine va_MetW (cc := cL_scoreBy) (maxL := 5) (ret := (some .int)) (hh := [(0, 10, 13, 19)]) (by decide) rfl ?_
  intro p e s m args below meth c s₁ B hml hv
  obtain ⟨rfl, hsz, hP, hK, hD0, hE9⟩ := hv
  have hx := B.exec
  have hb := B.bytes
  have hr := B.returns
  have hts := atoms_spec (ws := wsL_scoreBy) B.pre
  have hown : s.vm.findClass RL = some m.cls := findClass_of_methodNamed B.named
  have hlocks := B.notSynchronized
  have htab : c.exceptionTable.toList = tableOf [(0, 10, 13, 19)] := vx_table (x := yL_scoreBy) B (hts (.codeWith yL_scoreBy cL_scoreBy 5 (some .int) [(0, 10, 13, 19)]) List.mem_cons_self)
  subst hsz
  have hD := hD0.self (sz := s.heap.size)
  generalize hAe : va_A [(h0, .inr (7, [.ref h2, .ref h3, .ref h4, .ref h5, .ref h6, .ref h7, .int 0, .int 0, .int 0, .int 0])), (h1, .inl (κ 2, 1, .inr (.inl (fun _ => 0)))), (h2, .inr (2, [.int 0, .int 2, .ref h8, .ref h9])), (h3, .inr (3, [.ref h2, .int 0, .int 500, .ref h10, .ref h11, .long 0, .int 0])), (h8, .inl (κ 3, 4, .inr (.inr (.inr (.inr (sel [h12, h13, h14, h15])))))), (h9, .inl (κ 3, 4, .inr (.inr (.inr (.inr (sel [h16, h17, h18, h19])))))), (h10, .inl (κ 0, 13, .inl (fun _ => 0))), (h11, .inl (κ 0, 13, .inl (fun _ => 0))), (h13, .inr (6, [.ref h20, .ref h21, .int 0])), (h16, .inr (6, [.ref h22, .ref h23, .int 0]))] s.heap.size = A at hD hE9 ⊢
  have hE := hE9.1
  have hDc := hE9.2
  have hA : ∀ q : Nat, s.heap.size ≤ q → A q := fun q h => by rw [← hAe]; exact Or.inr h
  have hS : va_S A s.heap s.heap [] := va_S.rf
  have hP : va_P D vwCl [(h0, .inr (7, [.ref h2, .ref h3, .ref h4, .ref h5, .ref h6, .ref h7, .int 0, .int 0, .int 0, .int 0])), (h1, .inl (κ 2, 1, .inr (.inl (fun _ => 0)))), (h2, .inr (2, [.int 0, .int 2, .ref h8, .ref h9])), (h3, .inr (3, [.ref h2, .int 0, .int 500, .ref h10, .ref h11, .long 0, .int 0])), (h8, .inl (κ 3, 4, .inr (.inr (.inr (.inr (sel [h12, h13, h14, h15])))))), (h9, .inl (κ 3, 4, .inr (.inr (.inr (.inr (sel [h16, h17, h18, h19])))))), (h10, .inl (κ 0, 13, .inl (fun _ => 0))), (h11, .inl (κ 0, 13, .inl (fun _ => 0))), (h13, .inr (6, [.ref h20, .ref h21, .int 0])), (h16, .inr (6, [.ref h22, .ref h23, .int 0]))] s.heap := hP
  have hl := lv_entry [.ref h0, .int 4, .int p0, .ref h1] (n := 5) (Nat.le_of_ble_eq_true rfl)
  rw [lg_entry_eq]
  generalize (lg_sl [.ref h0, .int 4, .int p0, .ref h1] ++ List.replicate (5 - (lg_sl [.ref h0, .int 4, .int p0, .ref h1]).length) Slot.unset).toArray = ls at hl ⊢
  have hl : lv_has ls 5 [(0, .ref h0), (1, .int 4), (2, .int p0), (3, .ref h1)] := hl
  refine lv_aload_n hx hb dL_scoreBy_0 rfl (lv_at hl 3 rfl) ?_
  refine lv_iconst (v := 0) hx hb dL_scoreBy_1 (by decide) ?_
  refine lv_aload_n hx hb dL_scoreBy_2 rfl (lv_at hl 0 rfl) ?_
  refine lv_iload_n hx hb dL_scoreBy_3 rfl (lv_at hl 1 rfl) ?_
  refine lv_iload_n hx hb dL_scoreBy_4 rfl (lv_at hl 2 rfl) ?_
  have hF := va_free (wc := [(h0, .inr (7, [.ref h2, .ref h3, .ref h4, .ref h5, .ref h6, .ref h7, .int 0, .int 0, .int 0, .int 0])), (h2, .inr (2, [.int 0, .int 2, .ref h8, .ref h9])), (h3, .inr (3, [.ref h2, .int 0, .int 500, .ref h10, .ref h11, .long 0, .int 0])), (h8, .inl (κ 3, 4, .inr (.inr (.inr (.inr (sel [h12, h13, h14, h15])))))), (h9, .inl (κ 3, 4, .inr (.inr (.inr (.inr (sel [h16, h17, h18, h19])))))), (h10, .inl (κ 0, 13, .inl (fun _ => 0))), (h11, .inl (κ 0, 13, .inl (fun _ => 0))), (h13, .inr (6, [.ref h20, .ref h21, .int 0])), (h16, .inr (6, [.ref h22, .ref h23, .int 0]))]) hD hS hA [0, 2, 3, 4, 5, 6, 7, 8, 9] rfl
  refine vx_calli (vx_runV (As := [.int 4, .int p0]) (rest := [.int 0, .ref h1]) ⟨hx, hb, hml, hown, hts⟩ (k_X5_scoreBy_4 l hst D κ ε h0 h2 h3 h4 h5 h6 h7 h8 h9 h10 h11 h12 h13 h14 h15 h16 h17 h18 h19 h20 h21 h22 h23 s.heap.size (p0)) (cwV 2 hts gL_scoreBy_X5_scoreBy rfl rfl rfl (by decide +kernel) ⟨(Nat.le_of_ble_eq_true rfl), (Nat.le_of_ble_eq_true rfl)⟩) (pre2_V (q0 := 0) (ci := 7) (wc := [(h0, .inr (7, [.ref h2, .ref h3, .ref h4, .ref h5, .ref h6, .ref h7, .int 0, .int 0, .int 0, .int 0])), (h2, .inr (2, [.int 0, .int 2, .ref h8, .ref h9])), (h3, .inr (3, [.ref h2, .int 0, .int 500, .ref h10, .ref h11, .long 0, .int 0])), (h8, .inl (κ 3, 4, .inr (.inr (.inr (.inr (sel [h12, h13, h14, h15])))))), (h9, .inl (κ 3, 4, .inr (.inr (.inr (.inr (sel [h16, h17, h18, h19])))))), (h10, .inl (κ 0, 13, .inl (fun _ => 0))), (h11, .inl (κ 0, 13, .inl (fun _ => 0))), (h13, .inr (6, [.ref h20, .ref h21, .int 0])), (h16, .inr (6, [.ref h22, .ref h23, .int 0]))]) hP hD hK hE9 hS hA [0, 2, 3, 4, 5, 6, 7, 8, 9] (by decide) rfl rfl rfl) rfl rfl hl.1 rfl (lv_room (Nat.le_of_ble_eq_true rfl)) dL_scoreBy_5 ⟨(Nat.le_of_ble_eq_true rfl), (Nat.le_of_ble_eq_true rfl)⟩) hS (fun q _ h => hF q h) hF (fun q _ h => hF q h) (fun E9 ce q9 u t H locs ht hvm hw hB hz1 hk1 hS hce hcv hcl => ?_) (fun r u t H locs ht hvm hw hB hz1 hk1 hS => ?_)
  · try dsimp only at hB
    have hP1 : va_P D vwCl [] H := P_nil
    obtain ⟨hP, hD⟩ := post_j (ws' := [(h1, .inl (κ 2, 1, .inr (.inl (fun _ => 0))))]) (wr := [(h1, .inl (κ 2, 1, .inr (.inl (fun _ => 0))))]) (w1 := []) hP hD hF [0, 2, 3, 4, 5, 6, 7, 8, 9] rfl [1] rfl (by decide) (by decide) hk1 hP1 D_nil [0] (by decide) rfl
    have hP : va_P D vwCl [(h1, .inl (κ 2, 1, .inr (.inl (fun _ => 0))))] H := hP
    have hD : va_D A [(h1, .inl (κ 2, 1, .inr (.inl (fun _ => 0))))] := hD
    rcases hB with ⟨c2, rfl⟩ | ⟨c3, c4, rfl⟩
    · skip
      refine vx_catch (name := "java/lang/IllegalArgumentException") hown [] ⟨0, 10, 13, 19⟩ [] (htab.trans rfl) (fun z hz => nomatch hz) (by decide) (by decide) (hts _ wd425_L_scoreBy) (va_Nw.use rfl hE.2.2.2.2.2.2.2.2.2.2.2.2.2.2.1) hce hcv hcl ?_
      refine lv_astore (lv' := [(4, .ref q9), (0, .ref h0), (1, .int 4), (2, .int p0), (3, .ref h1)]) hx hb dL_scoreBy_13 hl (by decide) rfl (fun ls hl => ?_)
      refine lv_iconst (v := 1) hx hb dL_scoreBy_15 (by decide) ?_
      have hP9 := hP.sub (ws' := [(h1, .inl (κ 2, 1, .inr (.inl (fun _ => 0))))]) [0] rfl
      have hD9 := hD.sub (ws' := [(h1, .inl (κ 2, 1, .inr (.inl (fun _ => 0))))]) [0] (by decide) rfl
      refine W.widen (k := 1) (n := 6) (Nat.le_of_ble_eq_true rfl) (Nat.le_of_ble_eq_true rfl) ?_
      exact W.iret (v := 1) hx hb hr (fun t ht hW => ⟨⟨1, (fun _ => 0), rfl, (Or.inl ⟨c2, rfl⟩), by rw [ht]; exact hP9, hD9⟩, hS.F ht⟩) hS.2.2 dL_scoreBy_16
    · skip
      refine vx_catch (name := "java/lang/IllegalArgumentException") hown [] ⟨0, 10, 13, 19⟩ [] (htab.trans rfl) (fun z hz => nomatch hz) (by decide) (by decide) (hts _ wd425_L_scoreBy) (va_Nw.use rfl hE.2.2.2.2.2.2.2.2.2.2.2.2.2.2.1) hce hcv hcl ?_
      refine lv_astore (lv' := [(4, .ref q9), (0, .ref h0), (1, .int 4), (2, .int p0), (3, .ref h1)]) hx hb dL_scoreBy_13 hl (by decide) rfl (fun ls hl => ?_)
      refine lv_iconst (v := 1) hx hb dL_scoreBy_15 (by decide) ?_
      have hP9 := hP.sub (ws' := [(h1, .inl (κ 2, 1, .inr (.inl (fun _ => 0))))]) [0] rfl
      have hD9 := hD.sub (ws' := [(h1, .inl (κ 2, 1, .inr (.inl (fun _ => 0))))]) [0] (by decide) rfl
      refine W.widen (k := 1) (n := 6) (Nat.le_of_ble_eq_true rfl) (Nat.le_of_ble_eq_true rfl) ?_
      exact W.iret (v := 1) hx hb hr (fun t ht hW => ⟨⟨1, (fun _ => 0), rfl, (Or.inr (Or.inl ⟨c3, c4, rfl⟩)), by rw [ht]; exact hP9, hD9⟩, hS.F ht⟩) hS.2.2 dL_scoreBy_16
  · try dsimp only at hw hB
    have hP1 : va_P D vwCl [] H := P_nil
    obtain ⟨hP, hD⟩ := post_j (ws' := [(h1, .inl (κ 2, 1, .inr (.inl (fun _ => 0))))]) (wr := [(h1, .inl (κ 2, 1, .inr (.inl (fun _ => 0))))]) (w1 := []) hP hD hF [0, 2, 3, 4, 5, 6, 7, 8, 9] rfl [1] rfl (by decide) (by decide) hk1 hP1 D_nil [0] (by decide) rfl
    have hP : va_P D vwCl [(h1, .inl (κ 2, 1, .inr (.inl (fun _ => 0))))] H := hP
    have hD : va_D A [(h1, .inl (κ 2, 1, .inr (.inl (fun _ => 0))))] := hD
    obtain ⟨c5, c6, rfl⟩ := hw
    refine lv_i2l (v := 0) hx hb dL_scoreBy_8 (by decide) ?_
    refine va_last (cA := κ 2) (n := 1) (f := (fun _ => 0)) hx hb hK hP hD hS 0 2 rfl rfl (vpl (by decide)) dL_scoreBy_9 (fun H locs hP hD hS => ?_)
    have hP : va_P D vwCl [(h1, .inl (κ 2, 1, .inr (.inl (vp_updL (fun _ => 0) 0 0))))] H := hP
    have hD : va_D A [(h1, .inl (κ 2, 1, .inr (.inl (vp_updL (fun _ => 0) 0 0))))] := hD
    refine lv_goto (tgt := 17) hx hb dL_scoreBy_10 (by decide) ?_
    refine lv_iconst (v := 0) hx hb dL_scoreBy_17 (by decide) ?_
    have hP9 := hP.sub (ws' := [(h1, .inl (κ 2, 1, .inr (.inl (vp_updL (fun _ => 0) 0 0))))]) [0] rfl
    have hD9 := hD.sub (ws' := [(h1, .inl (κ 2, 1, .inr (.inl (vp_updL (fun _ => 0) 0 0))))]) [0] (by decide) rfl
    refine W.widen (k := 1) (n := 6) (Nat.le_of_ble_eq_true rfl) (Nat.le_of_ble_eq_true rfl) ?_
    exact W.iret (v := 0) hx hb hr (fun t ht hW => ⟨⟨0, (vp_updL (fun _ => 0) 0 0), rfl, (Or.inr (Or.inr ⟨c5, c6, rfl, rfl⟩)), by rw [ht]; exact hP9, hD9⟩, hS.F ht⟩) hS.2.2 dL_scoreBy_18

set_option maxHeartbeats 4000000 in
set_option maxRecDepth 100000 in
theorem k_X6_isIn_54 (l : Launch) (D : va_G) (κ ε : Nat → Nat) : Met l yX6_isIn wsX6_isIn ({ frames := 0, cells := 0, slots := 0, locals := 0 }) (va_Pc [.int 4, .int 0, .int 4] (Pre0 D κ [])) (vp_Si (fun r => (r = 1))) 0 0 (fun _ => False) := by
  refine Met.ofW (cc := cX6_isIn) (maxL := 3) (ret := (some .boolean)) (by decide) rfl ?_
  intro p e s m args below meth c s₁ B hml hv
  obtain ⟨rfl, hP, hK⟩ := hv
  have hx := B.exec
  have hb := B.bytes
  have hr := B.returns
  have hts := atoms_spec (ws := wsX6_isIn) B.pre
  have hown : s.vm.findClass RX6 = some m.cls := findClass_of_methodNamed B.named
  have hlocks := B.notSynchronized
  have hP : va_P D vwCl [] s.heap := hP
  have hl := lv_entry [.int 4, .int 0, .int 4] (n := 3) (Nat.le_of_ble_eq_true rfl)
  rw [lg_entry_eq]
  generalize (lg_sl [.int 4, .int 0, .int 4] ++ List.replicate (3 - (lg_sl [.int 4, .int 0, .int 4]).length) Slot.unset).toArray = ls at hl ⊢
  have hl : lv_has ls 3 [(0, .int 4), (1, .int 0), (2, .int 4)] := hl
  refine lv_iload_n hx hb dX6_isIn_0 rfl (lv_at hl 0 rfl) ?_
  refine lv_iload_n hx hb dX6_isIn_1 rfl (lv_at hl 1 rfl) ?_
  refine lv_icmp_lt (tgt := 14) hx hb dX6_isIn_2 (by decide) (fun h => absurd h (by decide)) (fun _ => ?_)
  refine lv_iload_n hx hb dX6_isIn_5 rfl (lv_at hl 0 rfl) ?_
  refine lv_iload_n hx hb dX6_isIn_6 rfl (lv_at hl 2 rfl) ?_
  refine lv_icmp_gt (tgt := 14) hx hb dX6_isIn_7 (by decide) (fun h => absurd h (by decide)) (fun _ => ?_)
  refine lv_iconst (v := 1) hx hb dX6_isIn_10 (by decide) ?_
  refine lv_goto (tgt := 15) hx hb dX6_isIn_11 (by decide) ?_
  exact W.zret (v := 1) hx hb hr rfl (fun t ht hW => ⟨1, rfl, rfl, ht⟩) (fun q hq => absurd hq List.not_mem_nil) dX6_isIn_15

set_option maxHeartbeats 4000000 in
set_option maxRecDepth 100000 in
theorem k_X6_scoreBy_12 (l : Launch) (D : va_G) (κ ε : Nat → Nat) (h0 h1 h2 h3 : Nat) (sz : Nat) (p0 : Int32) (hf0 : p0 < 1) : Met l yX6_scoreBy wsX6_scoreBy ({ frames := 2, cells := 0, slots := 0, locals := 44 }) (va_Pc [.ref h0, .int 4, .int p0] (Pre2 D κ ε [(h0, .inr (8, [.int 0, .int 0, .int 2, .ref h1, .ref h2, .int 0, .int 500, .int 0, .int 0, .int 0, .ref h3]))] sz)) (va_Qi (fun r (u : List Value) => (u[0]? = some (.int 1)) ∧ (r = 0)) (fun u t => va_P D vwCl [(h0, .inr (8, u))] t.heap ∧ va_D (va_A [(h0, .inr (8, [.int 0, .int 0, .int 2, .ref h1, .ref h2, .int 0, .int 500, .int 0, .int 0, .int 0, .ref h3]))] sz) [(h0, .inr (8, u))]) (va_A [(h0, .inr (8, [.int 0, .int 0, .int 2, .ref h1, .ref h2, .int 0, .int 500, .int 0, .int 0, .int 0, .ref h3]))] sz)) 0 0 (va_A [(h0, .inr (8, [.int 0, .int 0, .int 2, .ref h1, .ref h2, .int 0, .int 500, .int 0, .int 0, .int 0, .ref h3]))] sz) := by
  refine Met.ofW (cc := cX6_scoreBy) (maxL := 3) (ret := (some .int)) (by decide) rfl ?_
  intro p e s m args below meth c s₁ B hml hv
  obtain ⟨rfl, hsz, hP, hK, hD0, hE9⟩ := hv
  have hx := B.exec
  have hb := B.bytes
  have hr := B.returns
  have hts := atoms_spec (ws := wsX6_scoreBy) B.pre
  have hown : s.vm.findClass RX6 = some m.cls := findClass_of_methodNamed B.named
  have hlocks := B.notSynchronized
  subst hsz
  have hD := hD0.self (sz := s.heap.size)
  generalize hAe : va_A [(h0, .inr (8, [.int 0, .int 0, .int 2, .ref h1, .ref h2, .int 0, .int 500, .int 0, .int 0, .int 0, .ref h3]))] s.heap.size = A at hD hE9 ⊢
  have hE := hE9.1
  have hDc := hE9.2
  have hA : ∀ q : Nat, s.heap.size ≤ q → A q := fun q h => by rw [← hAe]; exact Or.inr h
  have hS : va_S A s.heap s.heap [] := va_S.rf
  have hP : va_P D vwCl [(h0, .inr (8, [.int 0, .int 0, .int 2, .ref h1, .ref h2, .int 0, .int 500, .int 0, .int 0, .int 0, .ref h3]))] s.heap := hP
  have hl := lv_entry [.ref h0, .int 4, .int p0] (n := 3) (Nat.le_of_ble_eq_true rfl)
  rw [lg_entry_eq]
  generalize (lg_sl [.ref h0, .int 4, .int p0] ++ List.replicate (3 - (lg_sl [.ref h0, .int 4, .int p0]).length) Slot.unset).toArray = ls at hl ⊢
  have hl : lv_has ls 3 [(0, .ref h0), (1, .int 4), (2, .int p0)] := hl
  refine lv_aload_n hx hb dX6_scoreBy_0 rfl (lv_at hl 0 rfl) ?_
  refine lv_iload_n hx hb dX6_scoreBy_1 rfl (lv_at hl 1 rfl) ?_
  refine lv_iconst (v := 0) hx hb dX6_scoreBy_2 (by decide) ?_
  refine lv_iconst (v := 4) hx hb dX6_scoreBy_3 (by decide) ?_
  refine vp_callSi (W.runS (As := [.int 4, .int 0, .int 4]) (rest := [.ref h0]) ⟨hx, hb, hml, hown, hts⟩ (k_X6_isIn_54 l D κ ε) (va_cwS 3 hts gX6_scoreBy_X6_isIn rfl rfl rfl (by decide +kernel) ⟨(Nat.le_of_ble_eq_true rfl), (Nat.le_of_ble_eq_true rfl)⟩) (pre0_S (wc := []) hP hK [] rfl) rfl rfl hl.1 rfl (lv_room (Nat.le_of_ble_eq_true rfl)) dX6_scoreBy_4 ⟨(Nat.le_of_ble_eq_true rfl), (Nat.le_of_ble_eq_true rfl)⟩) (fun r hw => ?_)
  rw [hw]
  refine lv_if_eq (tgt := 21) hx hb dX6_scoreBy_7 (by decide) (fun h => absurd h (by decide)) (fun _ => ?_)
  refine lv_iload_n hx hb dX6_scoreBy_10 rfl (lv_at hl 2 rfl) ?_
  refine lv_iconst (v := 1) hx hb dX6_scoreBy_11 (by decide) ?_
  refine lv_sipush (v := 1000) hx hb dX6_scoreBy_12 (by decide) ?_
  refine vp_callSi (W.runS (As := [.int p0, .int 1, .int 1000]) (rest := [.ref h0]) ⟨hx, hb, hml, hown, hts⟩ (k_X6_isIn_17 l D κ ε (p0) hf0) (va_cwS 3 hts gX6_scoreBy_X6_isIn rfl rfl rfl (by decide +kernel) ⟨(Nat.le_of_ble_eq_true rfl), (Nat.le_of_ble_eq_true rfl)⟩) (pre0_S (wc := []) hP hK [] rfl) rfl rfl hl.1 rfl (lv_room (Nat.le_of_ble_eq_true rfl)) dX6_scoreBy_15 ⟨(Nat.le_of_ble_eq_true rfl), (Nat.le_of_ble_eq_true rfl)⟩) (fun r hw => ?_)
  rw [hw]
  refine lv_if_ne (tgt := 25) hx hb dX6_scoreBy_18 (by decide) (fun h => absurd (by decide) h) (fun _ => ?_)
  refine lv_iconst (v := 1) hx hb dX6_scoreBy_21 (by decide) ?_
  refine lv_goto (tgt := 26) hx hb dX6_scoreBy_22 (by decide) ?_
  refine lv_iconst (v := 1) hx hb dX6_scoreBy_26 (by decide) ?_
  have hF := va_free (wc := [(h0, .inr (8, [.int 0, .int 0, .int 2, .ref h1, .ref h2, .int 0, .int 500, .int 0, .int 0, .int 0, .ref h3]))]) hD hS hA [0] rfl
  refine va_calli (va_runV (As := [.int 1, .int 1]) (rest := []) ⟨hx, hb, hml, hown, hts⟩ (k_X6_start_1 l D κ ε h0 h1 h2 h3 s.heap.size (0) (2) (0) (500) (0) (0)) (cwV 2 hts gX6_scoreBy_X6_start rfl rfl rfl (by decide +kernel) ⟨(Nat.le_of_ble_eq_true rfl), (Nat.le_of_ble_eq_true rfl)⟩) (pre2_V (q0 := 0) (ci := 8) (wc := [(h0, .inr (8, [.int 0, .int 0, .int 2, .ref h1, .ref h2, .int 0, .int 500, .int 0, .int 0, .int 0, .ref h3]))]) hP hD hK hE9 hS hA [0] (by decide) rfl rfl rfl) rfl rfl hl.1 rfl (lv_room (Nat.le_of_ble_eq_true rfl)) dX6_scoreBy_27 ⟨(Nat.le_of_ble_eq_true rfl), (Nat.le_of_ble_eq_true rfl)⟩) hS (fun q _ h => hF q h) hF (fun r u1 t H locs ht hvm hw hB hz1 hk1 hS => ?_)
  try dsimp only at hw hB
  obtain ⟨hP1, hD1⟩ := hB
  rw [ht] at hP1
  obtain ⟨hP, hD⟩ := post_j (ws' := [(h0, .inr (8, [.int 1, .int 0, .int 2, .ref h1, .ref h2, .int 0, .int 500, .int 0, .int 0, .int 0, .ref h3]))]) (wr := []) (w1 := [(h0, .inr (8, [.int 1, .int 0, .int 2, .ref h1, .ref h2, .int 0, .int 500, .int 0, .int 0, .int 0, .ref h3]))]) hP hD hF [0] rfl [] rfl (by decide) (by decide) hk1 hP1 hD1 [0] (by decide) rfl
  have hP : va_P D vwCl [(h0, .inr (8, [.int 1, .int 0, .int 2, .ref h1, .ref h2, .int 0, .int 500, .int 0, .int 0, .int 0, .ref h3]))] H := hP
  have hD : va_D A [(h0, .inr (8, [.int 1, .int 0, .int 2, .ref h1, .ref h2, .int 0, .int 500, .int 0, .int 0, .int 0, .ref h3]))] := hD
  rw [hw]
  refine lv_if_eq (tgt := 37) hx hb dX6_scoreBy_30 (by decide) (fun h => absurd h (by decide)) (fun _ => ?_)
  refine lv_iconst (v := 0) hx hb dX6_scoreBy_33 (by decide) ?_
  refine lv_goto (tgt := 47) hx hb dX6_scoreBy_34 (by decide) ?_
  have hP9 := hP.sub (ws' := [(h0, .inr (8, [.int 1, .int 0, .int 2, .ref h1, .ref h2, .int 0, .int 500, .int 0, .int 0, .int 0, .ref h3]))]) [0] rfl
  have hD9 := hD.sub (ws' := [(h0, .inr (8, [.int 1, .int 0, .int 2, .ref h1, .ref h2, .int 0, .int 500, .int 0, .int 0, .int 0, .ref h3]))]) [0] (by decide) rfl
  exact W.iret (v := 0) hx hb hr (fun t ht hW => ⟨⟨0, [.int 1, .int 0, .int 2, .ref h1, .ref h2, .int 0, .int 500, .int 0, .int 0, .int 0, .ref h3], rfl, ⟨rfl, rfl⟩, by rw [ht]; exact hP9, hD9⟩, hS.F ht⟩) hS.2.2 dX6_scoreBy_47

set_option maxHeartbeats 4000000 in
set_option maxRecDepth 100000 in
theorem k_X6_scoreBy_13 (l : Launch) (D : va_G) (κ ε : Nat → Nat) (h0 h1 h2 h3 : Nat) (sz : Nat) (p0 : Int32) (hf0 : ¬ p0 < 1) (hf1 : 1000 < p0) : Met l yX6_scoreBy wsX6_scoreBy ({ frames := 2, cells := 0, slots := 0, locals := 44 }) (va_Pc [.ref h0, .int 4, .int p0] (Pre2 D κ ε [(h0, .inr (8, [.int 0, .int 0, .int 2, .ref h1, .ref h2, .int 0, .int 500, .int 0, .int 0, .int 0, .ref h3]))] sz)) (va_Qi (fun r (u : List Value) => (u[0]? = some (.int 1)) ∧ (r = 0)) (fun u t => va_P D vwCl [(h0, .inr (8, u))] t.heap ∧ va_D (va_A [(h0, .inr (8, [.int 0, .int 0, .int 2, .ref h1, .ref h2, .int 0, .int 500, .int 0, .int 0, .int 0, .ref h3]))] sz) [(h0, .inr (8, u))]) (va_A [(h0, .inr (8, [.int 0, .int 0, .int 2, .ref h1, .ref h2, .int 0, .int 500, .int 0, .int 0, .int 0, .ref h3]))] sz)) 0 0 (va_A [(h0, .inr (8, [.int 0, .int 0, .int 2, .ref h1, .ref h2, .int 0, .int 500, .int 0, .int 0, .int 0, .ref h3]))] sz) := by
  refine Met.ofW (cc := cX6_scoreBy) (maxL := 3) (ret := (some .int)) (by decide) rfl ?_
  intro p e s m args below meth c s₁ B hml hv
  obtain ⟨rfl, hsz, hP, hK, hD0, hE9⟩ := hv
  have hx := B.exec
  have hb := B.bytes
  have hr := B.returns
  have hts := atoms_spec (ws := wsX6_scoreBy) B.pre
  have hown : s.vm.findClass RX6 = some m.cls := findClass_of_methodNamed B.named
  have hlocks := B.notSynchronized
  subst hsz
  have hD := hD0.self (sz := s.heap.size)
  generalize hAe : va_A [(h0, .inr (8, [.int 0, .int 0, .int 2, .ref h1, .ref h2, .int 0, .int 500, .int 0, .int 0, .int 0, .ref h3]))] s.heap.size = A at hD hE9 ⊢
  have hE := hE9.1
  have hDc := hE9.2
  have hA : ∀ q : Nat, s.heap.size ≤ q → A q := fun q h => by rw [← hAe]; exact Or.inr h
  have hS : va_S A s.heap s.heap [] := va_S.rf
  have hP : va_P D vwCl [(h0, .inr (8, [.int 0, .int 0, .int 2, .ref h1, .ref h2, .int 0, .int 500, .int 0, .int 0, .int 0, .ref h3]))] s.heap := hP
  have hl := lv_entry [.ref h0, .int 4, .int p0] (n := 3) (Nat.le_of_ble_eq_true rfl)
  rw [lg_entry_eq]
  generalize (lg_sl [.ref h0, .int 4, .int p0] ++ List.replicate (3 - (lg_sl [.ref h0, .int 4, .int p0]).length) Slot.unset).toArray = ls at hl ⊢
  have hl : lv_has ls 3 [(0, .ref h0), (1, .int 4), (2, .int p0)] := hl
  refine lv_aload_n hx hb dX6_scoreBy_0 rfl (lv_at hl 0 rfl) ?_
  refine lv_iload_n hx hb dX6_scoreBy_1 rfl (lv_at hl 1 rfl) ?_
  refine lv_iconst (v := 0) hx hb dX6_scoreBy_2 (by decide) ?_
  refine lv_iconst (v := 4) hx hb dX6_scoreBy_3 (by decide) ?_
  refine vp_callSi (W.runS (As := [.int 4, .int 0, .int 4]) (rest := [.ref h0]) ⟨hx, hb, hml, hown, hts⟩ (k_X6_isIn_54 l D κ ε) (va_cwS 3 hts gX6_scoreBy_X6_isIn rfl rfl rfl (by decide +kernel) ⟨(Nat.le_of_ble_eq_true rfl), (Nat.le_of_ble_eq_true rfl)⟩) (pre0_S (wc := []) hP hK [] rfl) rfl rfl hl.1 rfl (lv_room (Nat.le_of_ble_eq_true rfl)) dX6_scoreBy_4 ⟨(Nat.le_of_ble_eq_true rfl), (Nat.le_of_ble_eq_true rfl)⟩) (fun r hw => ?_)
  rw [hw]
  refine lv_if_eq (tgt := 21) hx hb dX6_scoreBy_7 (by decide) (fun h => absurd h (by decide)) (fun _ => ?_)
  refine lv_iload_n hx hb dX6_scoreBy_10 rfl (lv_at hl 2 rfl) ?_
  refine lv_iconst (v := 1) hx hb dX6_scoreBy_11 (by decide) ?_
  refine lv_sipush (v := 1000) hx hb dX6_scoreBy_12 (by decide) ?_
  refine vp_callSi (W.runS (As := [.int p0, .int 1, .int 1000]) (rest := [.ref h0]) ⟨hx, hb, hml, hown, hts⟩ (k_X6_isIn_28 l D κ ε (p0) hf0 hf1) (va_cwS 3 hts gX6_scoreBy_X6_isIn rfl rfl rfl (by decide +kernel) ⟨(Nat.le_of_ble_eq_true rfl), (Nat.le_of_ble_eq_true rfl)⟩) (pre0_S (wc := []) hP hK [] rfl) rfl rfl hl.1 rfl (lv_room (Nat.le_of_ble_eq_true rfl)) dX6_scoreBy_15 ⟨(Nat.le_of_ble_eq_true rfl), (Nat.le_of_ble_eq_true rfl)⟩) (fun r hw => ?_)
  rw [hw]
  refine lv_if_ne (tgt := 25) hx hb dX6_scoreBy_18 (by decide) (fun h => absurd (by decide) h) (fun _ => ?_)
  refine lv_iconst (v := 1) hx hb dX6_scoreBy_21 (by decide) ?_
  refine lv_goto (tgt := 26) hx hb dX6_scoreBy_22 (by decide) ?_
  refine lv_iconst (v := 1) hx hb dX6_scoreBy_26 (by decide) ?_
  have hF := va_free (wc := [(h0, .inr (8, [.int 0, .int 0, .int 2, .ref h1, .ref h2, .int 0, .int 500, .int 0, .int 0, .int 0, .ref h3]))]) hD hS hA [0] rfl
  refine va_calli (va_runV (As := [.int 1, .int 1]) (rest := []) ⟨hx, hb, hml, hown, hts⟩ (k_X6_start_1 l D κ ε h0 h1 h2 h3 s.heap.size (0) (2) (0) (500) (0) (0)) (cwV 2 hts gX6_scoreBy_X6_start rfl rfl rfl (by decide +kernel) ⟨(Nat.le_of_ble_eq_true rfl), (Nat.le_of_ble_eq_true rfl)⟩) (pre2_V (q0 := 0) (ci := 8) (wc := [(h0, .inr (8, [.int 0, .int 0, .int 2, .ref h1, .ref h2, .int 0, .int 500, .int 0, .int 0, .int 0, .ref h3]))]) hP hD hK hE9 hS hA [0] (by decide) rfl rfl rfl) rfl rfl hl.1 rfl (lv_room (Nat.le_of_ble_eq_true rfl)) dX6_scoreBy_27 ⟨(Nat.le_of_ble_eq_true rfl), (Nat.le_of_ble_eq_true rfl)⟩) hS (fun q _ h => hF q h) hF (fun r u1 t H locs ht hvm hw hB hz1 hk1 hS => ?_)
  try dsimp only at hw hB
  obtain ⟨hP1, hD1⟩ := hB
  rw [ht] at hP1
  obtain ⟨hP, hD⟩ := post_j (ws' := [(h0, .inr (8, [.int 1, .int 0, .int 2, .ref h1, .ref h2, .int 0, .int 500, .int 0, .int 0, .int 0, .ref h3]))]) (wr := []) (w1 := [(h0, .inr (8, [.int 1, .int 0, .int 2, .ref h1, .ref h2, .int 0, .int 500, .int 0, .int 0, .int 0, .ref h3]))]) hP hD hF [0] rfl [] rfl (by decide) (by decide) hk1 hP1 hD1 [0] (by decide) rfl
  have hP : va_P D vwCl [(h0, .inr (8, [.int 1, .int 0, .int 2, .ref h1, .ref h2, .int 0, .int 500, .int 0, .int 0, .int 0, .ref h3]))] H := hP
  have hD : va_D A [(h0, .inr (8, [.int 1, .int 0, .int 2, .ref h1, .ref h2, .int 0, .int 500, .int 0, .int 0, .int 0, .ref h3]))] := hD
  rw [hw]
  refine lv_if_eq (tgt := 37) hx hb dX6_scoreBy_30 (by decide) (fun h => absurd h (by decide)) (fun _ => ?_)
  refine lv_iconst (v := 0) hx hb dX6_scoreBy_33 (by decide) ?_
  refine lv_goto (tgt := 47) hx hb dX6_scoreBy_34 (by decide) ?_
  have hP9 := hP.sub (ws' := [(h0, .inr (8, [.int 1, .int 0, .int 2, .ref h1, .ref h2, .int 0, .int 500, .int 0, .int 0, .int 0, .ref h3]))]) [0] rfl
  have hD9 := hD.sub (ws' := [(h0, .inr (8, [.int 1, .int 0, .int 2, .ref h1, .ref h2, .int 0, .int 500, .int 0, .int 0, .int 0, .ref h3]))]) [0] (by decide) rfl
  exact W.iret (v := 0) hx hb hr (fun t ht hW => ⟨⟨0, [.int 1, .int 0, .int 2, .ref h1, .ref h2, .int 0, .int 500, .int 0, .int 0, .int 0, .ref h3], rfl, ⟨rfl, rfl⟩, by rw [ht]; exact hP9, hD9⟩, hS.F ht⟩) hS.2.2 dX6_scoreBy_47

set_option maxHeartbeats 4000000 in
set_option maxRecDepth 100000 in
theorem k_X6_ways_0 (l : Launch) (D : va_G) (κ ε : Nat → Nat) (h0 : Nat) : Met l yX6_ways wsX6_ways ({ frames := 0, cells := 0, slots := 0, locals := 0 }) (va_Pc [.ref h0, .int 0, .int 0, .int 1] (Pre0 D κ [(h0, .inl (κ 0, 196, .inl (fun _ => 0)))])) (vp_Si (fun r => (r = 0))) 0 0 (fun _ => False) := by
  refine Met.ofW (cc := cX6_ways) (maxL := 6) (ret := (some .int)) (by decide) rfl ?_
  intro p e s m args below meth c s₁ B hml hv
  obtain ⟨rfl, hP, hK⟩ := hv
  have hx := B.exec
  have hb := B.bytes
  have hr := B.returns
  have hts := atoms_spec (ws := wsX6_ways) B.pre
  have hown : s.vm.findClass RX6 = some m.cls := findClass_of_methodNamed B.named
  have hlocks := B.notSynchronized
  have hP : va_P D vwCl [(h0, .inl (κ 0, 196, .inl (fun _ => 0)))] s.heap := hP
  have hl := lv_entry [.ref h0, .int 0, .int 0, .int 1] (n := 6) (Nat.le_of_ble_eq_true rfl)
  rw [lg_entry_eq]
  generalize (lg_sl [.ref h0, .int 0, .int 0, .int 1] ++ List.replicate (6 - (lg_sl [.ref h0, .int 0, .int 0, .int 1]).length) Slot.unset).toArray = ls at hl ⊢
  have hl : lv_has ls 6 [(0, .ref h0), (1, .int 0), (2, .int 0), (3, .int 1)] := hl
  refine lv_iconst (v := 0) hx hb dX6_ways_0 (by decide) ?_
  refine lv_istore (lv' := [(4, .int 0), (0, .ref h0), (1, .int 0), (2, .int 0), (3, .int 1)]) hx hb dX6_ways_1 hl (by decide) rfl (fun ls hl => ?_)
  refine lv_iconst (v := 0) hx hb dX6_ways_3 (by decide) ?_
  refine lv_istore (lv' := [(5, .int 0), (4, .int 0), (0, .ref h0), (1, .int 0), (2, .int 0), (3, .int 1)]) hx hb dX6_ways_4 hl (by decide) rfl (fun ls hl => ?_)
  refine lv_iload hx hb dX6_ways_6 (lv_at hl 0 rfl) ?_
  refine lv_bipush (v := 14) hx hb dX6_ways_8 (by decide) ?_
  refine lv_icmp_ge (tgt := 47) hx hb dX6_ways_10 (by decide) (fun h => absurd h (by decide)) (fun _ => ?_)
  refine lv_iload hx hb dX6_ways_13 (lv_at hl 1 rfl) ?_
  refine lv_aload_n hx hb dX6_ways_15 rfl (lv_at hl 2 rfl) ?_
  refine lv_iload hx hb dX6_ways_16 (lv_at hl 0 rfl) ?_
  refine lv_iload_n hx hb dX6_ways_18 rfl (lv_at hl 5 rfl) ?_
  refine lv_imul hx hb dX6_ways_19 ?_
  refine tpi (v := 0) (by decide) ?_
  refine lv_iload_n hx hb dX6_ways_20 rfl (lv_at hl 3 rfl) ?_
  refine lv_iadd hx hb dX6_ways_21 ?_
  refine tpi (v := 0) (by decide) ?_
  refine lv_bipush (v := 14) hx hb dX6_ways_22 (by decide) ?_
  refine lv_imul hx hb dX6_ways_24 ?_
  refine tpi (v := 0) (by decide) ?_
  refine lv_iload_n hx hb dX6_ways_25 rfl (lv_at hl 4 rfl) ?_
  refine lv_iadd hx hb dX6_ways_26 ?_
  refine tpi (v := 0) (by decide) ?_
  refine lv_iconst (v := 1) hx hb dX6_ways_27 (by decide) ?_
  refine lv_iadd hx hb dX6_ways_28 ?_
  refine tpi (v := 1) (by decide) ?_
  refine va_iald (cA := κ 0) (n := 196) (f := (fun _ => 0)) hx hb hK hP 0 0 rfl rfl (vpl (by decide)) dX6_ways_29 ?_
  refine tpi (v := 0) (by decide) ?_
  refine lv_if_le (tgt := 37) hx hb dX6_ways_30 (by decide) (fun _ => ?_) (fun h => absurd (by decide) h)
  refine lv_iconst (v := 0) hx hb dX6_ways_37 (by decide) ?_
  refine lv_iadd hx hb dX6_ways_38 ?_
  refine tpi (v := 0) (by decide) ?_
  refine lv_istore (lv' := [(4, .int 0), (5, .int 0), (0, .ref h0), (1, .int 0), (2, .int 0), (3, .int 1)]) hx hb dX6_ways_39 hl (by decide) rfl (fun ls hl => ?_)
  refine lv_iinc (v := 1) (lv' := [(5, .int 1), (4, .int 0), (0, .ref h0), (1, .int 0), (2, .int 0), (3, .int 1)]) hx hb dX6_ways_41 hl (k := 1) rfl (by decide) (by decide) rfl (fun ls hl => ?_)
  refine lv_goto (tgt := 6) hx hb dX6_ways_44 (by decide) ?_
  refine lv_iload hx hb dX6_ways_6 (lv_at hl 0 rfl) ?_
  refine lv_bipush (v := 14) hx hb dX6_ways_8 (by decide) ?_
  refine lv_icmp_ge (tgt := 47) hx hb dX6_ways_10 (by decide) (fun h => absurd h (by decide)) (fun _ => ?_)
  refine lv_iload hx hb dX6_ways_13 (lv_at hl 1 rfl) ?_
  refine lv_aload_n hx hb dX6_ways_15 rfl (lv_at hl 2 rfl) ?_
  refine lv_iload hx hb dX6_ways_16 (lv_at hl 0 rfl) ?_
  refine lv_iload_n hx hb dX6_ways_18 rfl (lv_at hl 5 rfl) ?_
  refine lv_imul hx hb dX6_ways_19 ?_
  refine tpi (v := 1) (by decide) ?_
  refine lv_iload_n hx hb dX6_ways_20 rfl (lv_at hl 3 rfl) ?_
  refine lv_iadd hx hb dX6_ways_21 ?_
  refine tpi (v := 1) (by decide) ?_
  refine lv_bipush (v := 14) hx hb dX6_ways_22 (by decide) ?_
  refine lv_imul hx hb dX6_ways_24 ?_
  refine tpi (v := 14) (by decide) ?_
  refine lv_iload_n hx hb dX6_ways_25 rfl (lv_at hl 4 rfl) ?_
  refine lv_iadd hx hb dX6_ways_26 ?_
  refine tpi (v := 14) (by decide) ?_
  refine lv_iconst (v := 1) hx hb dX6_ways_27 (by decide) ?_
  refine lv_iadd hx hb dX6_ways_28 ?_
  refine tpi (v := 15) (by decide) ?_
  refine va_iald (cA := κ 0) (n := 196) (f := (fun _ => 0)) hx hb hK hP 0 0 rfl rfl (vpl (by decide)) dX6_ways_29 ?_
  refine tpi (v := 0) (by decide) ?_
  refine lv_if_le (tgt := 37) hx hb dX6_ways_30 (by decide) (fun _ => ?_) (fun h => absurd (by decide) h)
  refine lv_iconst (v := 0) hx hb dX6_ways_37 (by decide) ?_
  refine lv_iadd hx hb dX6_ways_38 ?_
  refine tpi (v := 0) (by decide) ?_
  refine lv_istore (lv' := [(4, .int 0), (5, .int 1), (0, .ref h0), (1, .int 0), (2, .int 0), (3, .int 1)]) hx hb dX6_ways_39 hl (by decide) rfl (fun ls hl => ?_)
  refine lv_iinc (v := 2) (lv' := [(5, .int 2), (4, .int 0), (0, .ref h0), (1, .int 0), (2, .int 0), (3, .int 1)]) hx hb dX6_ways_41 hl (k := 1) rfl (by decide) (by decide) rfl (fun ls hl => ?_)
  refine lv_goto (tgt := 6) hx hb dX6_ways_44 (by decide) ?_
  refine lv_iload hx hb dX6_ways_6 (lv_at hl 0 rfl) ?_
  refine lv_bipush (v := 14) hx hb dX6_ways_8 (by decide) ?_
  refine lv_icmp_ge (tgt := 47) hx hb dX6_ways_10 (by decide) (fun h => absurd h (by decide)) (fun _ => ?_)
  refine lv_iload hx hb dX6_ways_13 (lv_at hl 1 rfl) ?_
  refine lv_aload_n hx hb dX6_ways_15 rfl (lv_at hl 2 rfl) ?_
  refine lv_iload hx hb dX6_ways_16 (lv_at hl 0 rfl) ?_
  refine lv_iload_n hx hb dX6_ways_18 rfl (lv_at hl 5 rfl) ?_
  refine lv_imul hx hb dX6_ways_19 ?_
  refine tpi (v := 2) (by decide) ?_
  refine lv_iload_n hx hb dX6_ways_20 rfl (lv_at hl 3 rfl) ?_
  refine lv_iadd hx hb dX6_ways_21 ?_
  refine tpi (v := 2) (by decide) ?_
  refine lv_bipush (v := 14) hx hb dX6_ways_22 (by decide) ?_
  refine lv_imul hx hb dX6_ways_24 ?_
  refine tpi (v := 28) (by decide) ?_
  refine lv_iload_n hx hb dX6_ways_25 rfl (lv_at hl 4 rfl) ?_
  refine lv_iadd hx hb dX6_ways_26 ?_
  refine tpi (v := 28) (by decide) ?_
  refine lv_iconst (v := 1) hx hb dX6_ways_27 (by decide) ?_
  refine lv_iadd hx hb dX6_ways_28 ?_
  refine tpi (v := 29) (by decide) ?_
  refine va_iald (cA := κ 0) (n := 196) (f := (fun _ => 0)) hx hb hK hP 0 0 rfl rfl (vpl (by decide)) dX6_ways_29 ?_
  refine tpi (v := 0) (by decide) ?_
  refine lv_if_le (tgt := 37) hx hb dX6_ways_30 (by decide) (fun _ => ?_) (fun h => absurd (by decide) h)
  refine lv_iconst (v := 0) hx hb dX6_ways_37 (by decide) ?_
  refine lv_iadd hx hb dX6_ways_38 ?_
  refine tpi (v := 0) (by decide) ?_
  refine lv_istore (lv' := [(4, .int 0), (5, .int 2), (0, .ref h0), (1, .int 0), (2, .int 0), (3, .int 1)]) hx hb dX6_ways_39 hl (by decide) rfl (fun ls hl => ?_)
  refine lv_iinc (v := 3) (lv' := [(5, .int 3), (4, .int 0), (0, .ref h0), (1, .int 0), (2, .int 0), (3, .int 1)]) hx hb dX6_ways_41 hl (k := 1) rfl (by decide) (by decide) rfl (fun ls hl => ?_)
  refine lv_goto (tgt := 6) hx hb dX6_ways_44 (by decide) ?_
  refine lv_iload hx hb dX6_ways_6 (lv_at hl 0 rfl) ?_
  refine lv_bipush (v := 14) hx hb dX6_ways_8 (by decide) ?_
  refine lv_icmp_ge (tgt := 47) hx hb dX6_ways_10 (by decide) (fun h => absurd h (by decide)) (fun _ => ?_)
  refine lv_iload hx hb dX6_ways_13 (lv_at hl 1 rfl) ?_
  refine lv_aload_n hx hb dX6_ways_15 rfl (lv_at hl 2 rfl) ?_
  refine lv_iload hx hb dX6_ways_16 (lv_at hl 0 rfl) ?_
  refine lv_iload_n hx hb dX6_ways_18 rfl (lv_at hl 5 rfl) ?_
  refine lv_imul hx hb dX6_ways_19 ?_
  refine tpi (v := 3) (by decide) ?_
  refine lv_iload_n hx hb dX6_ways_20 rfl (lv_at hl 3 rfl) ?_
  refine lv_iadd hx hb dX6_ways_21 ?_
  refine tpi (v := 3) (by decide) ?_
  refine lv_bipush (v := 14) hx hb dX6_ways_22 (by decide) ?_
  refine lv_imul hx hb dX6_ways_24 ?_
  refine tpi (v := 42) (by decide) ?_
  refine lv_iload_n hx hb dX6_ways_25 rfl (lv_at hl 4 rfl) ?_
  refine lv_iadd hx hb dX6_ways_26 ?_
  refine tpi (v := 42) (by decide) ?_
  refine lv_iconst (v := 1) hx hb dX6_ways_27 (by decide) ?_
  refine lv_iadd hx hb dX6_ways_28 ?_
  refine tpi (v := 43) (by decide) ?_
  refine va_iald (cA := κ 0) (n := 196) (f := (fun _ => 0)) hx hb hK hP 0 0 rfl rfl (vpl (by decide)) dX6_ways_29 ?_
  refine tpi (v := 0) (by decide) ?_
  refine lv_if_le (tgt := 37) hx hb dX6_ways_30 (by decide) (fun _ => ?_) (fun h => absurd (by decide) h)
  refine lv_iconst (v := 0) hx hb dX6_ways_37 (by decide) ?_
  refine lv_iadd hx hb dX6_ways_38 ?_
  refine tpi (v := 0) (by decide) ?_
  refine lv_istore (lv' := [(4, .int 0), (5, .int 3), (0, .ref h0), (1, .int 0), (2, .int 0), (3, .int 1)]) hx hb dX6_ways_39 hl (by decide) rfl (fun ls hl => ?_)
  refine lv_iinc (v := 4) (lv' := [(5, .int 4), (4, .int 0), (0, .ref h0), (1, .int 0), (2, .int 0), (3, .int 1)]) hx hb dX6_ways_41 hl (k := 1) rfl (by decide) (by decide) rfl (fun ls hl => ?_)
  refine lv_goto (tgt := 6) hx hb dX6_ways_44 (by decide) ?_
  refine lv_iload hx hb dX6_ways_6 (lv_at hl 0 rfl) ?_
  refine lv_bipush (v := 14) hx hb dX6_ways_8 (by decide) ?_
  refine lv_icmp_ge (tgt := 47) hx hb dX6_ways_10 (by decide) (fun h => absurd h (by decide)) (fun _ => ?_)
  refine lv_iload hx hb dX6_ways_13 (lv_at hl 1 rfl) ?_
  refine lv_aload_n hx hb dX6_ways_15 rfl (lv_at hl 2 rfl) ?_
  refine lv_iload hx hb dX6_ways_16 (lv_at hl 0 rfl) ?_
  refine lv_iload_n hx hb dX6_ways_18 rfl (lv_at hl 5 rfl) ?_
  refine lv_imul hx hb dX6_ways_19 ?_
  refine tpi (v := 4) (by decide) ?_
  refine lv_iload_n hx hb dX6_ways_20 rfl (lv_at hl 3 rfl) ?_
  refine lv_iadd hx hb dX6_ways_21 ?_
  refine tpi (v := 4) (by decide) ?_
  refine lv_bipush (v := 14) hx hb dX6_ways_22 (by decide) ?_
  refine lv_imul hx hb dX6_ways_24 ?_
  refine tpi (v := 56) (by decide) ?_
  refine lv_iload_n hx hb dX6_ways_25 rfl (lv_at hl 4 rfl) ?_
  refine lv_iadd hx hb dX6_ways_26 ?_
  refine tpi (v := 56) (by decide) ?_
  refine lv_iconst (v := 1) hx hb dX6_ways_27 (by decide) ?_
  refine lv_iadd hx hb dX6_ways_28 ?_
  refine tpi (v := 57) (by decide) ?_
  refine va_iald (cA := κ 0) (n := 196) (f := (fun _ => 0)) hx hb hK hP 0 0 rfl rfl (vpl (by decide)) dX6_ways_29 ?_
  refine tpi (v := 0) (by decide) ?_
  refine lv_if_le (tgt := 37) hx hb dX6_ways_30 (by decide) (fun _ => ?_) (fun h => absurd (by decide) h)
  refine lv_iconst (v := 0) hx hb dX6_ways_37 (by decide) ?_
  refine lv_iadd hx hb dX6_ways_38 ?_
  refine tpi (v := 0) (by decide) ?_
  refine lv_istore (lv' := [(4, .int 0), (5, .int 4), (0, .ref h0), (1, .int 0), (2, .int 0), (3, .int 1)]) hx hb dX6_ways_39 hl (by decide) rfl (fun ls hl => ?_)
  refine lv_iinc (v := 5) (lv' := [(5, .int 5), (4, .int 0), (0, .ref h0), (1, .int 0), (2, .int 0), (3, .int 1)]) hx hb dX6_ways_41 hl (k := 1) rfl (by decide) (by decide) rfl (fun ls hl => ?_)
  refine lv_goto (tgt := 6) hx hb dX6_ways_44 (by decide) ?_
  refine lv_iload hx hb dX6_ways_6 (lv_at hl 0 rfl) ?_
  refine lv_bipush (v := 14) hx hb dX6_ways_8 (by decide) ?_
  refine lv_icmp_ge (tgt := 47) hx hb dX6_ways_10 (by decide) (fun h => absurd h (by decide)) (fun _ => ?_)
  refine lv_iload hx hb dX6_ways_13 (lv_at hl 1 rfl) ?_
  refine lv_aload_n hx hb dX6_ways_15 rfl (lv_at hl 2 rfl) ?_
  refine lv_iload hx hb dX6_ways_16 (lv_at hl 0 rfl) ?_
  refine lv_iload_n hx hb dX6_ways_18 rfl (lv_at hl 5 rfl) ?_
  refine lv_imul hx hb dX6_ways_19 ?_
  refine tpi (v := 5) (by decide) ?_
  refine lv_iload_n hx hb dX6_ways_20 rfl (lv_at hl 3 rfl) ?_
  refine lv_iadd hx hb dX6_ways_21 ?_
  refine tpi (v := 5) (by decide) ?_
  refine lv_bipush (v := 14) hx hb dX6_ways_22 (by decide) ?_
  refine lv_imul hx hb dX6_ways_24 ?_
  refine tpi (v := 70) (by decide) ?_
  refine lv_iload_n hx hb dX6_ways_25 rfl (lv_at hl 4 rfl) ?_
  refine lv_iadd hx hb dX6_ways_26 ?_
  refine tpi (v := 70) (by decide) ?_
  refine lv_iconst (v := 1) hx hb dX6_ways_27 (by decide) ?_
  refine lv_iadd hx hb dX6_ways_28 ?_
  refine tpi (v := 71) (by decide) ?_
  refine va_iald (cA := κ 0) (n := 196) (f := (fun _ => 0)) hx hb hK hP 0 0 rfl rfl (vpl (by decide)) dX6_ways_29 ?_
  refine tpi (v := 0) (by decide) ?_
  refine lv_if_le (tgt := 37) hx hb dX6_ways_30 (by decide) (fun _ => ?_) (fun h => absurd (by decide) h)
  refine lv_iconst (v := 0) hx hb dX6_ways_37 (by decide) ?_
  refine lv_iadd hx hb dX6_ways_38 ?_
  refine tpi (v := 0) (by decide) ?_
  refine lv_istore (lv' := [(4, .int 0), (5, .int 5), (0, .ref h0), (1, .int 0), (2, .int 0), (3, .int 1)]) hx hb dX6_ways_39 hl (by decide) rfl (fun ls hl => ?_)
  refine lv_iinc (v := 6) (lv' := [(5, .int 6), (4, .int 0), (0, .ref h0), (1, .int 0), (2, .int 0), (3, .int 1)]) hx hb dX6_ways_41 hl (k := 1) rfl (by decide) (by decide) rfl (fun ls hl => ?_)
  refine lv_goto (tgt := 6) hx hb dX6_ways_44 (by decide) ?_
  refine lv_iload hx hb dX6_ways_6 (lv_at hl 0 rfl) ?_
  refine lv_bipush (v := 14) hx hb dX6_ways_8 (by decide) ?_
  refine lv_icmp_ge (tgt := 47) hx hb dX6_ways_10 (by decide) (fun h => absurd h (by decide)) (fun _ => ?_)
  refine lv_iload hx hb dX6_ways_13 (lv_at hl 1 rfl) ?_
  refine lv_aload_n hx hb dX6_ways_15 rfl (lv_at hl 2 rfl) ?_
  refine lv_iload hx hb dX6_ways_16 (lv_at hl 0 rfl) ?_
  refine lv_iload_n hx hb dX6_ways_18 rfl (lv_at hl 5 rfl) ?_
  refine lv_imul hx hb dX6_ways_19 ?_
  refine tpi (v := 6) (by decide) ?_
  refine lv_iload_n hx hb dX6_ways_20 rfl (lv_at hl 3 rfl) ?_
  refine lv_iadd hx hb dX6_ways_21 ?_
  refine tpi (v := 6) (by decide) ?_
  refine lv_bipush (v := 14) hx hb dX6_ways_22 (by decide) ?_
  refine lv_imul hx hb dX6_ways_24 ?_
  refine tpi (v := 84) (by decide) ?_
  refine lv_iload_n hx hb dX6_ways_25 rfl (lv_at hl 4 rfl) ?_
  refine lv_iadd hx hb dX6_ways_26 ?_
  refine tpi (v := 84) (by decide) ?_
  refine lv_iconst (v := 1) hx hb dX6_ways_27 (by decide) ?_
  refine lv_iadd hx hb dX6_ways_28 ?_
  refine tpi (v := 85) (by decide) ?_
  refine va_iald (cA := κ 0) (n := 196) (f := (fun _ => 0)) hx hb hK hP 0 0 rfl rfl (vpl (by decide)) dX6_ways_29 ?_
  refine tpi (v := 0) (by decide) ?_
  refine lv_if_le (tgt := 37) hx hb dX6_ways_30 (by decide) (fun _ => ?_) (fun h => absurd (by decide) h)
  refine lv_iconst (v := 0) hx hb dX6_ways_37 (by decide) ?_
  refine lv_iadd hx hb dX6_ways_38 ?_
  refine tpi (v := 0) (by decide) ?_
  refine lv_istore (lv' := [(4, .int 0), (5, .int 6), (0, .ref h0), (1, .int 0), (2, .int 0), (3, .int 1)]) hx hb dX6_ways_39 hl (by decide) rfl (fun ls hl => ?_)
  refine lv_iinc (v := 7) (lv' := [(5, .int 7), (4, .int 0), (0, .ref h0), (1, .int 0), (2, .int 0), (3, .int 1)]) hx hb dX6_ways_41 hl (k := 1) rfl (by decide) (by decide) rfl (fun ls hl => ?_)
  refine lv_goto (tgt := 6) hx hb dX6_ways_44 (by decide) ?_
  refine lv_iload hx hb dX6_ways_6 (lv_at hl 0 rfl) ?_
  refine lv_bipush (v := 14) hx hb dX6_ways_8 (by decide) ?_
  refine lv_icmp_ge (tgt := 47) hx hb dX6_ways_10 (by decide) (fun h => absurd h (by decide)) (fun _ => ?_)
  refine lv_iload hx hb dX6_ways_13 (lv_at hl 1 rfl) ?_
  refine lv_aload_n hx hb dX6_ways_15 rfl (lv_at hl 2 rfl) ?_
  refine lv_iload hx hb dX6_ways_16 (lv_at hl 0 rfl) ?_
  refine lv_iload_n hx hb dX6_ways_18 rfl (lv_at hl 5 rfl) ?_
  refine lv_imul hx hb dX6_ways_19 ?_
  refine tpi (v := 7) (by decide) ?_
  refine lv_iload_n hx hb dX6_ways_20 rfl (lv_at hl 3 rfl) ?_
  refine lv_iadd hx hb dX6_ways_21 ?_
  refine tpi (v := 7) (by decide) ?_
  refine lv_bipush (v := 14) hx hb dX6_ways_22 (by decide) ?_
  refine lv_imul hx hb dX6_ways_24 ?_
  refine tpi (v := 98) (by decide) ?_
  refine lv_iload_n hx hb dX6_ways_25 rfl (lv_at hl 4 rfl) ?_
  refine lv_iadd hx hb dX6_ways_26 ?_
  refine tpi (v := 98) (by decide) ?_
  refine lv_iconst (v := 1) hx hb dX6_ways_27 (by decide) ?_
  refine lv_iadd hx hb dX6_ways_28 ?_
  refine tpi (v := 99) (by decide) ?_
  refine va_iald (cA := κ 0) (n := 196) (f := (fun _ => 0)) hx hb hK hP 0 0 rfl rfl (vpl (by decide)) dX6_ways_29 ?_
  refine tpi (v := 0) (by decide) ?_
  refine lv_if_le (tgt := 37) hx hb dX6_ways_30 (by decide) (fun _ => ?_) (fun h => absurd (by decide) h)
  refine lv_iconst (v := 0) hx hb dX6_ways_37 (by decide) ?_
  refine lv_iadd hx hb dX6_ways_38 ?_
  refine tpi (v := 0) (by decide) ?_
  refine lv_istore (lv' := [(4, .int 0), (5, .int 7), (0, .ref h0), (1, .int 0), (2, .int 0), (3, .int 1)]) hx hb dX6_ways_39 hl (by decide) rfl (fun ls hl => ?_)
  refine lv_iinc (v := 8) (lv' := [(5, .int 8), (4, .int 0), (0, .ref h0), (1, .int 0), (2, .int 0), (3, .int 1)]) hx hb dX6_ways_41 hl (k := 1) rfl (by decide) (by decide) rfl (fun ls hl => ?_)
  refine lv_goto (tgt := 6) hx hb dX6_ways_44 (by decide) ?_
  refine lv_iload hx hb dX6_ways_6 (lv_at hl 0 rfl) ?_
  refine lv_bipush (v := 14) hx hb dX6_ways_8 (by decide) ?_
  refine lv_icmp_ge (tgt := 47) hx hb dX6_ways_10 (by decide) (fun h => absurd h (by decide)) (fun _ => ?_)
  refine lv_iload hx hb dX6_ways_13 (lv_at hl 1 rfl) ?_
  refine lv_aload_n hx hb dX6_ways_15 rfl (lv_at hl 2 rfl) ?_
  refine lv_iload hx hb dX6_ways_16 (lv_at hl 0 rfl) ?_
  refine lv_iload_n hx hb dX6_ways_18 rfl (lv_at hl 5 rfl) ?_
  refine lv_imul hx hb dX6_ways_19 ?_
  refine tpi (v := 8) (by decide) ?_
  refine lv_iload_n hx hb dX6_ways_20 rfl (lv_at hl 3 rfl) ?_
  refine lv_iadd hx hb dX6_ways_21 ?_
  refine tpi (v := 8) (by decide) ?_
  refine lv_bipush (v := 14) hx hb dX6_ways_22 (by decide) ?_
  refine lv_imul hx hb dX6_ways_24 ?_
  refine tpi (v := 112) (by decide) ?_
  refine lv_iload_n hx hb dX6_ways_25 rfl (lv_at hl 4 rfl) ?_
  refine lv_iadd hx hb dX6_ways_26 ?_
  refine tpi (v := 112) (by decide) ?_
  refine lv_iconst (v := 1) hx hb dX6_ways_27 (by decide) ?_
  refine lv_iadd hx hb dX6_ways_28 ?_
  refine tpi (v := 113) (by decide) ?_
  refine va_iald (cA := κ 0) (n := 196) (f := (fun _ => 0)) hx hb hK hP 0 0 rfl rfl (vpl (by decide)) dX6_ways_29 ?_
  refine tpi (v := 0) (by decide) ?_
  refine lv_if_le (tgt := 37) hx hb dX6_ways_30 (by decide) (fun _ => ?_) (fun h => absurd (by decide) h)
  refine lv_iconst (v := 0) hx hb dX6_ways_37 (by decide) ?_
  refine lv_iadd hx hb dX6_ways_38 ?_
  refine tpi (v := 0) (by decide) ?_
  refine lv_istore (lv' := [(4, .int 0), (5, .int 8), (0, .ref h0), (1, .int 0), (2, .int 0), (3, .int 1)]) hx hb dX6_ways_39 hl (by decide) rfl (fun ls hl => ?_)
  refine lv_iinc (v := 9) (lv' := [(5, .int 9), (4, .int 0), (0, .ref h0), (1, .int 0), (2, .int 0), (3, .int 1)]) hx hb dX6_ways_41 hl (k := 1) rfl (by decide) (by decide) rfl (fun ls hl => ?_)
  refine lv_goto (tgt := 6) hx hb dX6_ways_44 (by decide) ?_
  refine lv_iload hx hb dX6_ways_6 (lv_at hl 0 rfl) ?_
  refine lv_bipush (v := 14) hx hb dX6_ways_8 (by decide) ?_
  refine lv_icmp_ge (tgt := 47) hx hb dX6_ways_10 (by decide) (fun h => absurd h (by decide)) (fun _ => ?_)
  refine lv_iload hx hb dX6_ways_13 (lv_at hl 1 rfl) ?_
  refine lv_aload_n hx hb dX6_ways_15 rfl (lv_at hl 2 rfl) ?_
  refine lv_iload hx hb dX6_ways_16 (lv_at hl 0 rfl) ?_
  refine lv_iload_n hx hb dX6_ways_18 rfl (lv_at hl 5 rfl) ?_
  refine lv_imul hx hb dX6_ways_19 ?_
  refine tpi (v := 9) (by decide) ?_
  refine lv_iload_n hx hb dX6_ways_20 rfl (lv_at hl 3 rfl) ?_
  refine lv_iadd hx hb dX6_ways_21 ?_
  refine tpi (v := 9) (by decide) ?_
  refine lv_bipush (v := 14) hx hb dX6_ways_22 (by decide) ?_
  refine lv_imul hx hb dX6_ways_24 ?_
  refine tpi (v := 126) (by decide) ?_
  refine lv_iload_n hx hb dX6_ways_25 rfl (lv_at hl 4 rfl) ?_
  refine lv_iadd hx hb dX6_ways_26 ?_
  refine tpi (v := 126) (by decide) ?_
  refine lv_iconst (v := 1) hx hb dX6_ways_27 (by decide) ?_
  refine lv_iadd hx hb dX6_ways_28 ?_
  refine tpi (v := 127) (by decide) ?_
  refine va_iald (cA := κ 0) (n := 196) (f := (fun _ => 0)) hx hb hK hP 0 0 rfl rfl (vpl (by decide)) dX6_ways_29 ?_
  refine tpi (v := 0) (by decide) ?_
  refine lv_if_le (tgt := 37) hx hb dX6_ways_30 (by decide) (fun _ => ?_) (fun h => absurd (by decide) h)
  refine lv_iconst (v := 0) hx hb dX6_ways_37 (by decide) ?_
  refine lv_iadd hx hb dX6_ways_38 ?_
  refine tpi (v := 0) (by decide) ?_
  refine lv_istore (lv' := [(4, .int 0), (5, .int 9), (0, .ref h0), (1, .int 0), (2, .int 0), (3, .int 1)]) hx hb dX6_ways_39 hl (by decide) rfl (fun ls hl => ?_)
  refine lv_iinc (v := 10) (lv' := [(5, .int 10), (4, .int 0), (0, .ref h0), (1, .int 0), (2, .int 0), (3, .int 1)]) hx hb dX6_ways_41 hl (k := 1) rfl (by decide) (by decide) rfl (fun ls hl => ?_)
  refine lv_goto (tgt := 6) hx hb dX6_ways_44 (by decide) ?_
  refine lv_iload hx hb dX6_ways_6 (lv_at hl 0 rfl) ?_
  refine lv_bipush (v := 14) hx hb dX6_ways_8 (by decide) ?_
  refine lv_icmp_ge (tgt := 47) hx hb dX6_ways_10 (by decide) (fun h => absurd h (by decide)) (fun _ => ?_)
  refine lv_iload hx hb dX6_ways_13 (lv_at hl 1 rfl) ?_
  refine lv_aload_n hx hb dX6_ways_15 rfl (lv_at hl 2 rfl) ?_
  refine lv_iload hx hb dX6_ways_16 (lv_at hl 0 rfl) ?_
  refine lv_iload_n hx hb dX6_ways_18 rfl (lv_at hl 5 rfl) ?_
  refine lv_imul hx hb dX6_ways_19 ?_
  refine tpi (v := 10) (by decide) ?_
  refine lv_iload_n hx hb dX6_ways_20 rfl (lv_at hl 3 rfl) ?_
  refine lv_iadd hx hb dX6_ways_21 ?_
  refine tpi (v := 10) (by decide) ?_
  refine lv_bipush (v := 14) hx hb dX6_ways_22 (by decide) ?_
  refine lv_imul hx hb dX6_ways_24 ?_
  refine tpi (v := 140) (by decide) ?_
  refine lv_iload_n hx hb dX6_ways_25 rfl (lv_at hl 4 rfl) ?_
  refine lv_iadd hx hb dX6_ways_26 ?_
  refine tpi (v := 140) (by decide) ?_
  refine lv_iconst (v := 1) hx hb dX6_ways_27 (by decide) ?_
  refine lv_iadd hx hb dX6_ways_28 ?_
  refine tpi (v := 141) (by decide) ?_
  refine va_iald (cA := κ 0) (n := 196) (f := (fun _ => 0)) hx hb hK hP 0 0 rfl rfl (vpl (by decide)) dX6_ways_29 ?_
  refine tpi (v := 0) (by decide) ?_
  refine lv_if_le (tgt := 37) hx hb dX6_ways_30 (by decide) (fun _ => ?_) (fun h => absurd (by decide) h)
  refine lv_iconst (v := 0) hx hb dX6_ways_37 (by decide) ?_
  refine lv_iadd hx hb dX6_ways_38 ?_
  refine tpi (v := 0) (by decide) ?_
  refine lv_istore (lv' := [(4, .int 0), (5, .int 10), (0, .ref h0), (1, .int 0), (2, .int 0), (3, .int 1)]) hx hb dX6_ways_39 hl (by decide) rfl (fun ls hl => ?_)
  refine lv_iinc (v := 11) (lv' := [(5, .int 11), (4, .int 0), (0, .ref h0), (1, .int 0), (2, .int 0), (3, .int 1)]) hx hb dX6_ways_41 hl (k := 1) rfl (by decide) (by decide) rfl (fun ls hl => ?_)
  refine lv_goto (tgt := 6) hx hb dX6_ways_44 (by decide) ?_
  refine lv_iload hx hb dX6_ways_6 (lv_at hl 0 rfl) ?_
  refine lv_bipush (v := 14) hx hb dX6_ways_8 (by decide) ?_
  refine lv_icmp_ge (tgt := 47) hx hb dX6_ways_10 (by decide) (fun h => absurd h (by decide)) (fun _ => ?_)
  refine lv_iload hx hb dX6_ways_13 (lv_at hl 1 rfl) ?_
  refine lv_aload_n hx hb dX6_ways_15 rfl (lv_at hl 2 rfl) ?_
  refine lv_iload hx hb dX6_ways_16 (lv_at hl 0 rfl) ?_
  refine lv_iload_n hx hb dX6_ways_18 rfl (lv_at hl 5 rfl) ?_
  refine lv_imul hx hb dX6_ways_19 ?_
  refine tpi (v := 11) (by decide) ?_
  refine lv_iload_n hx hb dX6_ways_20 rfl (lv_at hl 3 rfl) ?_
  refine lv_iadd hx hb dX6_ways_21 ?_
  refine tpi (v := 11) (by decide) ?_
  refine lv_bipush (v := 14) hx hb dX6_ways_22 (by decide) ?_
  refine lv_imul hx hb dX6_ways_24 ?_
  refine tpi (v := 154) (by decide) ?_
  refine lv_iload_n hx hb dX6_ways_25 rfl (lv_at hl 4 rfl) ?_
  refine lv_iadd hx hb dX6_ways_26 ?_
  refine tpi (v := 154) (by decide) ?_
  refine lv_iconst (v := 1) hx hb dX6_ways_27 (by decide) ?_
  refine lv_iadd hx hb dX6_ways_28 ?_
  refine tpi (v := 155) (by decide) ?_
  refine va_iald (cA := κ 0) (n := 196) (f := (fun _ => 0)) hx hb hK hP 0 0 rfl rfl (vpl (by decide)) dX6_ways_29 ?_
  refine tpi (v := 0) (by decide) ?_
  refine lv_if_le (tgt := 37) hx hb dX6_ways_30 (by decide) (fun _ => ?_) (fun h => absurd (by decide) h)
  refine lv_iconst (v := 0) hx hb dX6_ways_37 (by decide) ?_
  refine lv_iadd hx hb dX6_ways_38 ?_
  refine tpi (v := 0) (by decide) ?_
  refine lv_istore (lv' := [(4, .int 0), (5, .int 11), (0, .ref h0), (1, .int 0), (2, .int 0), (3, .int 1)]) hx hb dX6_ways_39 hl (by decide) rfl (fun ls hl => ?_)
  refine lv_iinc (v := 12) (lv' := [(5, .int 12), (4, .int 0), (0, .ref h0), (1, .int 0), (2, .int 0), (3, .int 1)]) hx hb dX6_ways_41 hl (k := 1) rfl (by decide) (by decide) rfl (fun ls hl => ?_)
  refine lv_goto (tgt := 6) hx hb dX6_ways_44 (by decide) ?_
  refine lv_iload hx hb dX6_ways_6 (lv_at hl 0 rfl) ?_
  refine lv_bipush (v := 14) hx hb dX6_ways_8 (by decide) ?_
  refine lv_icmp_ge (tgt := 47) hx hb dX6_ways_10 (by decide) (fun h => absurd h (by decide)) (fun _ => ?_)
  refine lv_iload hx hb dX6_ways_13 (lv_at hl 1 rfl) ?_
  refine lv_aload_n hx hb dX6_ways_15 rfl (lv_at hl 2 rfl) ?_
  refine lv_iload hx hb dX6_ways_16 (lv_at hl 0 rfl) ?_
  refine lv_iload_n hx hb dX6_ways_18 rfl (lv_at hl 5 rfl) ?_
  refine lv_imul hx hb dX6_ways_19 ?_
  refine tpi (v := 12) (by decide) ?_
  refine lv_iload_n hx hb dX6_ways_20 rfl (lv_at hl 3 rfl) ?_
  refine lv_iadd hx hb dX6_ways_21 ?_
  refine tpi (v := 12) (by decide) ?_
  refine lv_bipush (v := 14) hx hb dX6_ways_22 (by decide) ?_
  refine lv_imul hx hb dX6_ways_24 ?_
  refine tpi (v := 168) (by decide) ?_
  refine lv_iload_n hx hb dX6_ways_25 rfl (lv_at hl 4 rfl) ?_
  refine lv_iadd hx hb dX6_ways_26 ?_
  refine tpi (v := 168) (by decide) ?_
  refine lv_iconst (v := 1) hx hb dX6_ways_27 (by decide) ?_
  refine lv_iadd hx hb dX6_ways_28 ?_
  refine tpi (v := 169) (by decide) ?_
  refine va_iald (cA := κ 0) (n := 196) (f := (fun _ => 0)) hx hb hK hP 0 0 rfl rfl (vpl (by decide)) dX6_ways_29 ?_
  refine tpi (v := 0) (by decide) ?_
  refine lv_if_le (tgt := 37) hx hb dX6_ways_30 (by decide) (fun _ => ?_) (fun h => absurd (by decide) h)
  refine lv_iconst (v := 0) hx hb dX6_ways_37 (by decide) ?_
  refine lv_iadd hx hb dX6_ways_38 ?_
  refine tpi (v := 0) (by decide) ?_
  refine lv_istore (lv' := [(4, .int 0), (5, .int 12), (0, .ref h0), (1, .int 0), (2, .int 0), (3, .int 1)]) hx hb dX6_ways_39 hl (by decide) rfl (fun ls hl => ?_)
  refine lv_iinc (v := 13) (lv' := [(5, .int 13), (4, .int 0), (0, .ref h0), (1, .int 0), (2, .int 0), (3, .int 1)]) hx hb dX6_ways_41 hl (k := 1) rfl (by decide) (by decide) rfl (fun ls hl => ?_)
  refine lv_goto (tgt := 6) hx hb dX6_ways_44 (by decide) ?_
  refine lv_iload hx hb dX6_ways_6 (lv_at hl 0 rfl) ?_
  refine lv_bipush (v := 14) hx hb dX6_ways_8 (by decide) ?_
  refine lv_icmp_ge (tgt := 47) hx hb dX6_ways_10 (by decide) (fun h => absurd h (by decide)) (fun _ => ?_)
  refine lv_iload hx hb dX6_ways_13 (lv_at hl 1 rfl) ?_
  refine lv_aload_n hx hb dX6_ways_15 rfl (lv_at hl 2 rfl) ?_
  refine lv_iload hx hb dX6_ways_16 (lv_at hl 0 rfl) ?_
  refine lv_iload_n hx hb dX6_ways_18 rfl (lv_at hl 5 rfl) ?_
  refine lv_imul hx hb dX6_ways_19 ?_
  refine tpi (v := 13) (by decide) ?_
  refine lv_iload_n hx hb dX6_ways_20 rfl (lv_at hl 3 rfl) ?_
  refine lv_iadd hx hb dX6_ways_21 ?_
  refine tpi (v := 13) (by decide) ?_
  refine lv_bipush (v := 14) hx hb dX6_ways_22 (by decide) ?_
  refine lv_imul hx hb dX6_ways_24 ?_
  refine tpi (v := 182) (by decide) ?_
  refine lv_iload_n hx hb dX6_ways_25 rfl (lv_at hl 4 rfl) ?_
  refine lv_iadd hx hb dX6_ways_26 ?_
  refine tpi (v := 182) (by decide) ?_
  refine lv_iconst (v := 1) hx hb dX6_ways_27 (by decide) ?_
  refine lv_iadd hx hb dX6_ways_28 ?_
  refine tpi (v := 183) (by decide) ?_
  refine va_iald (cA := κ 0) (n := 196) (f := (fun _ => 0)) hx hb hK hP 0 0 rfl rfl (vpl (by decide)) dX6_ways_29 ?_
  refine tpi (v := 0) (by decide) ?_
  refine lv_if_le (tgt := 37) hx hb dX6_ways_30 (by decide) (fun _ => ?_) (fun h => absurd (by decide) h)
  refine lv_iconst (v := 0) hx hb dX6_ways_37 (by decide) ?_
  refine lv_iadd hx hb dX6_ways_38 ?_
  refine tpi (v := 0) (by decide) ?_
  refine lv_istore (lv' := [(4, .int 0), (5, .int 13), (0, .ref h0), (1, .int 0), (2, .int 0), (3, .int 1)]) hx hb dX6_ways_39 hl (by decide) rfl (fun ls hl => ?_)
  refine lv_iinc (v := 14) (lv' := [(5, .int 14), (4, .int 0), (0, .ref h0), (1, .int 0), (2, .int 0), (3, .int 1)]) hx hb dX6_ways_41 hl (k := 1) rfl (by decide) (by decide) rfl (fun ls hl => ?_)
  refine lv_goto (tgt := 6) hx hb dX6_ways_44 (by decide) ?_
  refine lv_iload hx hb dX6_ways_6 (lv_at hl 0 rfl) ?_
  refine lv_bipush (v := 14) hx hb dX6_ways_8 (by decide) ?_
  refine lv_icmp_ge (tgt := 47) hx hb dX6_ways_10 (by decide) (fun _ => ?_) (fun h => absurd (by decide) h)
  refine lv_iload hx hb dX6_ways_47 (lv_at hl 1 rfl) ?_
  exact W.iret (v := 0) hx hb hr (fun t ht hW => ⟨0, rfl, rfl, ht⟩) (fun q hq => absurd hq List.not_mem_nil) dX6_ways_49

theorem wd430_X6_chance : (.fieldLink RX6 7 "CanticleModel" "order" "I" : Cond) ∈ wsX6_chance := by decide +kernel

set_option maxHeartbeats 4000000 in
set_option maxRecDepth 100000 in
theorem k_X6_chance_8 (l : Launch) (D : va_G) (κ ε : Nat → Nat) (h0 h1 h2 h3 h4 h5 h6 h7 : Nat) (p0 : Int32) (p1 : Int32) (p2 : Int32) (p3 : Int32) (p4 : Int32) (p5 : Int32) : Met l yX6_chance wsX6_chance ({ frames := 1, cells := 0, slots := 0, locals := 25 }) (va_Pc [.ref h0, .ref h1, .int 4, .int p0, .int 0, .int 0, .int 0] (Pre0 D κ [(h0, .inr (8, [.int p1, .int 0, .int 2, .ref h2, .ref h1, .int p2, .int p3, .int p4, .int p5, .int 0, .ref h3])), (h1, .inl (κ 4, 4, .inr (.inr (.inr (.inr (sel [h4, h5, h6, h7])))))), (h5, .inl (κ 0, 196, .inl (fun _ => 0)))])) (vp_Sl (fun r => (r = 1000000))) 0 0 (fun _ => False) := by
  refine Met.ofW (cc := cX6_chance) (maxL := 15) (ret := (some .long)) (by decide) rfl ?_
  intro p e s m args below meth c s₁ B hml hv
  obtain ⟨rfl, hP, hK⟩ := hv
  have hx := B.exec
  have hb := B.bytes
  have hr := B.returns
  have hts := atoms_spec (ws := wsX6_chance) B.pre
  have hown : s.vm.findClass RX6 = some m.cls := findClass_of_methodNamed B.named
  have hlocks := B.notSynchronized
  have hP : va_P D vwCl [(h0, .inr (8, [.int p1, .int 0, .int 2, .ref h2, .ref h1, .int p2, .int p3, .int p4, .int p5, .int 0, .ref h3])), (h1, .inl (κ 4, 4, .inr (.inr (.inr (.inr (sel [h4, h5, h6, h7])))))), (h5, .inl (κ 0, 196, .inl (fun _ => 0)))] s.heap := hP
  have hl := lv_entry [.ref h0, .ref h1, .int 4, .int p0, .int 0, .int 0, .int 0] (n := 15) (Nat.le_of_ble_eq_true rfl)
  rw [lg_entry_eq]
  generalize (lg_sl [.ref h0, .ref h1, .int 4, .int p0, .int 0, .int 0, .int 0] ++ List.replicate (15 - (lg_sl [.ref h0, .ref h1, .int 4, .int p0, .int 0, .int 0, .int 0]).length) Slot.unset).toArray = ls at hl ⊢
  have hl : lv_has ls 15 [(0, .ref h0), (1, .ref h1), (2, .int 4), (3, .int p0), (4, .int 0), (5, .int 0), (6, .int 0)] := hl
  refine lv_lconst (v := 0) hx hb dX6_chance_0 (by decide) ?_
  refine lv_lstore (lv' := [(7, .long 0), (0, .ref h0), (1, .ref h1), (2, .int 4), (3, .int p0), (4, .int 0), (5, .int 0), (6, .int 0)]) hx hb dX6_chance_1 hl (by decide) rfl (fun ls hl => ?_)
  refine lv_lconst (v := 0) hx hb dX6_chance_3 (by decide) ?_
  refine lv_lstore (lv' := [(9, .long 0), (7, .long 0), (0, .ref h0), (1, .ref h1), (2, .int 4), (3, .int p0), (4, .int 0), (5, .int 0), (6, .int 0)]) hx hb dX6_chance_4 hl (by decide) rfl (fun ls hl => ?_)
  refine lv_lconst (v := 0) hx hb dX6_chance_6 (by decide) ?_
  refine lv_lstore (lv' := [(11, .long 0), (9, .long 0), (7, .long 0), (0, .ref h0), (1, .ref h1), (2, .int 4), (3, .int p0), (4, .int 0), (5, .int 0), (6, .int 0)]) hx hb dX6_chance_7 hl (by decide) rfl (fun ls hl => ?_)
  refine lv_iload_n hx hb dX6_chance_9 rfl (lv_at hl 5 rfl) ?_
  refine lv_iconst (v := 4) hx hb dX6_chance_10 (by decide) ?_
  refine lv_icmp_ne (tgt := 106) hx hb dX6_chance_11 (by decide) (fun h => absurd (by decide) h) (fun _ => ?_)
  refine lv_iload hx hb dX6_chance_14 (lv_at hl 9 rfl) ?_
  refine lv_aload_n hx hb dX6_chance_16 rfl (lv_at hl 3 rfl) ?_
  refine va_get (D := D) (ci := 8) (v := .int 2) (C := RX6) (T := TX6) (N := 11) hx hb hts wi_X6_chance_RX6 hown hK hP 0 rfl rfl 2 (by decide) (hts _ wd430_X6_chance) (fun _ h9 => h9) rfl dX6_chance_17 ?_
  refine lv_iconst (v := 1) hx hb dX6_chance_20 (by decide) ?_
  refine lv_isub hx hb dX6_chance_21 ?_
  refine tpi (v := 1) (by decide) ?_
  refine lv_icmp_ge (tgt := 106) hx hb dX6_chance_22 (by decide) (fun h => absurd h (by decide)) (fun _ => ?_)
  refine lv_iconst (v := 0) hx hb dX6_chance_25 (by decide) ?_
  refine lv_istore (lv' := [(13, .int 0), (11, .long 0), (9, .long 0), (7, .long 0), (0, .ref h0), (1, .ref h1), (2, .int 4), (3, .int p0), (4, .int 0), (5, .int 0), (6, .int 0)]) hx hb dX6_chance_26 hl (by decide) rfl (fun ls hl => ?_)
  refine lv_iload hx hb dX6_chance_28 (lv_at hl 0 rfl) ?_
  refine lv_aload_n hx hb dX6_chance_30 rfl (lv_at hl 4 rfl) ?_
  refine va_get (D := D) (ci := 8) (v := .int 0) (C := RX6) (T := TX6) (N := 11) hx hb hts wi_X6_chance_RX6 hown hK hP 0 rfl rfl 1 (by decide) (hts _ wd307_X6_chance) (fun _ h9 => h9) rfl dX6_chance_31 ?_
  refine lv_icmp_gt (tgt := 103) hx hb dX6_chance_34 (by decide) (fun h => absurd h (by decide)) (fun _ => ?_)
  refine lv_aload_n hx hb dX6_chance_37 rfl (lv_at hl 5 rfl) ?_
  refine lv_iload hx hb dX6_chance_38 (lv_at hl 10 rfl) ?_
  refine lv_iconst (v := 1) hx hb dX6_chance_40 (by decide) ?_
  refine lv_iadd hx hb dX6_chance_41 ?_
  refine tpi (v := 1) (by decide) ?_
  refine ya_ld2 hx hb hK hP 1 rfl (vpl (by decide)) (v := .ref h5) rfl dX6_chance_42 ?_
  refine lv_iload hx hb dX6_chance_43 (lv_at hl 9 rfl) ?_
  refine lv_iload hx hb dX6_chance_45 (lv_at hl 0 rfl) ?_
  refine lv_iload hx hb dX6_chance_47 (lv_at hl 10 rfl) ?_
  refine vp_callSi (W.runS (As := [.int 0]) (rest := [.int 0, .int 0, .ref h5]) ⟨hx, hb, hml, hown, hts⟩ (k_X6_power_0 l D κ ε) (va_cwS 1 hts gX6_chance_X6_power rfl rfl rfl (by decide +kernel) ⟨(Nat.le_of_ble_eq_true rfl), (Nat.le_of_ble_eq_true rfl)⟩) (pre0_S (wc := []) hP hK [] rfl) rfl rfl hl.1 rfl (lv_room (Nat.le_of_ble_eq_true rfl)) dX6_chance_49 ⟨(Nat.le_of_ble_eq_true rfl), (Nat.le_of_ble_eq_true rfl)⟩) (fun r hw => ?_)
  rw [hw]
  refine vp_callSi (W.runS (As := [.ref h5, .int 0, .int 0, .int 1]) (rest := []) ⟨hx, hb, hml, hown, hts⟩ (k_X6_ways_0 l D κ ε h5) (va_cwS 4 hts gX6_chance_X6_ways rfl rfl rfl (by decide +kernel) ⟨(Nat.le_of_ble_eq_true rfl), (Nat.le_of_ble_eq_true rfl)⟩) (pre0_S (wc := [(h5, .inl (κ 0, 196, .inl (fun _ => 0)))]) hP hK [2] rfl) rfl rfl hl.1 rfl (lv_room (Nat.le_of_ble_eq_true rfl)) dX6_chance_52 ⟨(Nat.le_of_ble_eq_true rfl), (Nat.le_of_ble_eq_true rfl)⟩) (fun r hw => ?_)
  rw [hw]
  refine lv_istore (lv' := [(14, .int 0), (13, .int 0), (11, .long 0), (9, .long 0), (7, .long 0), (0, .ref h0), (1, .ref h1), (2, .int 4), (3, .int p0), (4, .int 0), (5, .int 0), (6, .int 0)]) hx hb dX6_chance_55 hl (by decide) rfl (fun ls hl => ?_)
  refine lv_lload hx hb dX6_chance_57 (lv_at hl 3 rfl) ?_
  refine lv_iload hx hb dX6_chance_59 (lv_at hl 0 rfl) ?_
  refine lv_i2l (v := 0) hx hb dX6_chance_61 (by decide) ?_
  refine lv_ladd hx hb dX6_chance_62 ?_
  refine tpl (v := 0) (by decide) ?_
  refine lv_lstore (lv' := [(9, .long 0), (14, .int 0), (13, .int 0), (11, .long 0), (7, .long 0), (0, .ref h0), (1, .ref h1), (2, .int 4), (3, .int p0), (4, .int 0), (5, .int 0), (6, .int 0)]) hx hb dX6_chance_63 hl (by decide) rfl (fun ls hl => ?_)
  refine lv_lload hx hb dX6_chance_65 (lv_at hl 3 rfl) ?_
  refine lv_iload hx hb dX6_chance_67 (lv_at hl 1 rfl) ?_
  refine lv_if_le (tgt := 76) hx hb dX6_chance_69 (by decide) (fun _ => ?_) (fun h => absurd (by decide) h)
  refine lv_lconst (v := 0) hx hb dX6_chance_76 (by decide) ?_
  refine lv_ladd hx hb dX6_chance_77 ?_
  refine tpl (v := 0) (by decide) ?_
  refine lv_lstore (lv' := [(11, .long 0), (9, .long 0), (14, .int 0), (13, .int 0), (7, .long 0), (0, .ref h0), (1, .ref h1), (2, .int 4), (3, .int p0), (4, .int 0), (5, .int 0), (6, .int 0)]) hx hb dX6_chance_78 hl (by decide) rfl (fun ls hl => ?_)
  refine lv_iload hx hb dX6_chance_80 (lv_at hl 3 rfl) ?_
  refine lv_iload hx hb dX6_chance_82 (lv_at hl 9 rfl) ?_
  refine lv_icmp_ne (tgt := 93) hx hb dX6_chance_84 (by decide) (fun h => absurd (by decide) h) (fun _ => ?_)
  refine lv_iload hx hb dX6_chance_87 (lv_at hl 2 rfl) ?_
  refine lv_i2l (v := 0) hx hb dX6_chance_89 (by decide) ?_
  refine lv_goto (tgt := 95) hx hb dX6_chance_90 (by decide) ?_
  refine lv_lstore (lv' := [(7, .long 0), (11, .long 0), (9, .long 0), (14, .int 0), (13, .int 0), (0, .ref h0), (1, .ref h1), (2, .int 4), (3, .int p0), (4, .int 0), (5, .int 0), (6, .int 0)]) hx hb dX6_chance_95 hl (by decide) rfl (fun ls hl => ?_)
  refine lv_iinc (v := 1) (lv' := [(13, .int 1), (7, .long 0), (11, .long 0), (9, .long 0), (14, .int 0), (0, .ref h0), (1, .ref h1), (2, .int 4), (3, .int p0), (4, .int 0), (5, .int 0), (6, .int 0)]) hx hb dX6_chance_97 hl (k := 4) rfl (by decide) (by decide) rfl (fun ls hl => ?_)
  refine lv_goto (tgt := 28) hx hb dX6_chance_100 (by decide) ?_
  refine lv_iload hx hb dX6_chance_28 (lv_at hl 0 rfl) ?_
  refine lv_aload_n hx hb dX6_chance_30 rfl (lv_at hl 5 rfl) ?_
  refine va_get (D := D) (ci := 8) (v := .int 0) (C := RX6) (T := TX6) (N := 11) hx hb hts wi_X6_chance_RX6 hown hK hP 0 rfl rfl 1 (by decide) (hts _ wd307_X6_chance) (fun _ h9 => h9) rfl dX6_chance_31 ?_
  refine lv_icmp_gt (tgt := 103) hx hb dX6_chance_34 (by decide) (fun _ => ?_) (fun h => absurd (by decide) h)
  refine lv_goto (tgt := 148) hx hb dX6_chance_103 (by decide) ?_
  refine lv_iload_n hx hb dX6_chance_148 rfl (lv_at hl 7 rfl) ?_
  refine lv_if_ne (tgt := 184) hx hb dX6_chance_149 (by decide) (fun _ => ?_) (fun h => absurd h (by decide))
  refine lv_iload hx hb dX6_chance_184 (lv_at hl 11 rfl) ?_
  refine lv_if_ne (tgt := 202) hx hb dX6_chance_186 (by decide) (fun h => absurd (by decide) h) (fun _ => ?_)
  refine lv_ldc (v := 1000000) hx hb hown (hts _ wd428_X6_chance) dX6_chance_189 ?_
  refine lv_aload_n hx hb dX6_chance_191 rfl (lv_at hl 5 rfl) ?_
  refine va_get (D := D) (ci := 8) (v := .int 0) (C := RX6) (T := TX6) (N := 11) hx hb hts wi_X6_chance_RX6 hown hK hP 0 rfl rfl 1 (by decide) (hts _ wd307_X6_chance) (fun _ h9 => h9) rfl dX6_chance_192 ?_
  refine lv_iconst (v := 1) hx hb dX6_chance_195 (by decide) ?_
  refine lv_iadd hx hb dX6_chance_196 ?_
  refine tpi (v := 1) (by decide) ?_
  refine lv_idiv hx hb dX6_chance_197 (by decide) ?_
  refine tpi (v := 1000000) (by decide) ?_
  refine lv_i2l (v := 1000000) hx hb dX6_chance_198 (by decide) ?_
  refine lv_goto (tgt := 225) hx hb dX6_chance_199 (by decide) ?_
  refine lv_lstore (lv' := [(13, .long 1000000), (7, .long 0), (11, .long 0), (9, .long 0), (0, .ref h0), (1, .ref h1), (2, .int 4), (3, .int p0), (4, .int 0), (5, .int 0), (6, .int 0)]) hx hb dX6_chance_225 hl (by decide) rfl (fun ls hl => ?_)
  refine lv_lload hx hb dX6_chance_227 (lv_at hl 3 rfl) ?_
  refine lv_lconst (v := 0) hx hb dX6_chance_229 (by decide) ?_
  refine W.lcmp hx hb dX6_chance_230 ?_
  refine tpi (v := 0) (by decide) ?_
  refine lv_if_ne (tgt := 237) hx hb dX6_chance_231 (by decide) (fun h => absurd (by decide) h) (fun _ => ?_)
  refine lv_lload hx hb dX6_chance_234 (lv_at hl 0 rfl) ?_
  exact W.lret (v := 1000000) hx hb hr (fun t ht hW => ⟨1000000, rfl, rfl, ht⟩) (fun q hq => absurd hq List.not_mem_nil) dX6_chance_236

set_option maxHeartbeats 4000000 in
set_option maxRecDepth 100000 in
theorem k_X6_chance_9 (l : Launch) (D : va_G) (κ ε : Nat → Nat) (h0 h1 h2 h3 h4 h5 h6 h7 : Nat) (p0 : Int32) (p1 : Int32) (p2 : Int32) (p3 : Int32) (p4 : Int32) (p5 : Int32) : Met l yX6_chance wsX6_chance ({ frames := 2, cells := 0, slots := 0, locals := 59 }) (va_Pc [.ref h0, .ref h1, .int 4, .int p0, .int 0, .int 0, .int 1] (Pre0 D κ [(h0, .inr (8, [.int p1, .int 0, .int 2, .ref h2, .ref h1, .int p2, .int p3, .int p4, .int p5, .int 0, .ref h3])), (h1, .inl (κ 4, 4, .inr (.inr (.inr (.inr (sel [h4, h5, h6, h7])))))), (h5, .inl (κ 0, 196, .inl (fun _ => 0)))])) (vp_Sl (fun r => (r = 1000000))) 0 0 (fun _ => False) := by
  refine Met.ofW (cc := cX6_chance) (maxL := 15) (ret := (some .long)) (by decide) rfl ?_
  intro p e s m args below meth c s₁ B hml hv
  obtain ⟨rfl, hP, hK⟩ := hv
  have hx := B.exec
  have hb := B.bytes
  have hr := B.returns
  have hts := atoms_spec (ws := wsX6_chance) B.pre
  have hown : s.vm.findClass RX6 = some m.cls := findClass_of_methodNamed B.named
  have hlocks := B.notSynchronized
  have hP : va_P D vwCl [(h0, .inr (8, [.int p1, .int 0, .int 2, .ref h2, .ref h1, .int p2, .int p3, .int p4, .int p5, .int 0, .ref h3])), (h1, .inl (κ 4, 4, .inr (.inr (.inr (.inr (sel [h4, h5, h6, h7])))))), (h5, .inl (κ 0, 196, .inl (fun _ => 0)))] s.heap := hP
  have hl := lv_entry [.ref h0, .ref h1, .int 4, .int p0, .int 0, .int 0, .int 1] (n := 15) (Nat.le_of_ble_eq_true rfl)
  rw [lg_entry_eq]
  generalize (lg_sl [.ref h0, .ref h1, .int 4, .int p0, .int 0, .int 0, .int 1] ++ List.replicate (15 - (lg_sl [.ref h0, .ref h1, .int 4, .int p0, .int 0, .int 0, .int 1]).length) Slot.unset).toArray = ls at hl ⊢
  have hl : lv_has ls 15 [(0, .ref h0), (1, .ref h1), (2, .int 4), (3, .int p0), (4, .int 0), (5, .int 0), (6, .int 1)] := hl
  refine lv_lconst (v := 0) hx hb dX6_chance_0 (by decide) ?_
  refine lv_lstore (lv' := [(7, .long 0), (0, .ref h0), (1, .ref h1), (2, .int 4), (3, .int p0), (4, .int 0), (5, .int 0), (6, .int 1)]) hx hb dX6_chance_1 hl (by decide) rfl (fun ls hl => ?_)
  refine lv_lconst (v := 0) hx hb dX6_chance_3 (by decide) ?_
  refine lv_lstore (lv' := [(9, .long 0), (7, .long 0), (0, .ref h0), (1, .ref h1), (2, .int 4), (3, .int p0), (4, .int 0), (5, .int 0), (6, .int 1)]) hx hb dX6_chance_4 hl (by decide) rfl (fun ls hl => ?_)
  refine lv_lconst (v := 0) hx hb dX6_chance_6 (by decide) ?_
  refine lv_lstore (lv' := [(11, .long 0), (9, .long 0), (7, .long 0), (0, .ref h0), (1, .ref h1), (2, .int 4), (3, .int p0), (4, .int 0), (5, .int 0), (6, .int 1)]) hx hb dX6_chance_7 hl (by decide) rfl (fun ls hl => ?_)
  refine lv_iload_n hx hb dX6_chance_9 rfl (lv_at hl 5 rfl) ?_
  refine lv_iconst (v := 4) hx hb dX6_chance_10 (by decide) ?_
  refine lv_icmp_ne (tgt := 106) hx hb dX6_chance_11 (by decide) (fun h => absurd (by decide) h) (fun _ => ?_)
  refine lv_iload hx hb dX6_chance_14 (lv_at hl 9 rfl) ?_
  refine lv_aload_n hx hb dX6_chance_16 rfl (lv_at hl 3 rfl) ?_
  refine va_get (D := D) (ci := 8) (v := .int 2) (C := RX6) (T := TX6) (N := 11) hx hb hts wi_X6_chance_RX6 hown hK hP 0 rfl rfl 2 (by decide) (hts _ wd430_X6_chance) (fun _ h9 => h9) rfl dX6_chance_17 ?_
  refine lv_iconst (v := 1) hx hb dX6_chance_20 (by decide) ?_
  refine lv_isub hx hb dX6_chance_21 ?_
  refine tpi (v := 1) (by decide) ?_
  refine lv_icmp_ge (tgt := 106) hx hb dX6_chance_22 (by decide) (fun _ => ?_) (fun h => absurd (by decide) h)
  refine lv_aload_n hx hb dX6_chance_106 rfl (lv_at hl 4 rfl) ?_
  refine lv_iload hx hb dX6_chance_107 (lv_at hl 9 rfl) ?_
  refine ya_ld2 hx hb hK hP 1 rfl (vpl (by decide)) (v := .ref h5) rfl dX6_chance_109 ?_
  refine lv_iload hx hb dX6_chance_110 (lv_at hl 8 rfl) ?_
  refine lv_bipush (v := 14) hx hb dX6_chance_112 (by decide) ?_
  refine lv_imul hx hb dX6_chance_114 ?_
  refine tpi (v := 0) (by decide) ?_
  refine lv_iload hx hb dX6_chance_115 (lv_at hl 7 rfl) ?_
  refine lv_iadd hx hb dX6_chance_117 ?_
  refine tpi (v := 0) (by decide) ?_
  refine lv_iconst (v := 1) hx hb dX6_chance_118 (by decide) ?_
  refine lv_iadd hx hb dX6_chance_119 ?_
  refine tpi (v := 1) (by decide) ?_
  refine va_iald (cA := κ 0) (n := 196) (f := (fun _ => 0)) hx hb hK hP 2 0 rfl rfl (vpl (by decide)) dX6_chance_120 ?_
  refine tpi (v := 0) (by decide) ?_
  refine lv_i2l (v := 0) hx hb dX6_chance_121 (by decide) ?_
  refine lv_lstore (lv' := [(7, .long 0), (11, .long 0), (9, .long 0), (0, .ref h0), (1, .ref h1), (2, .int 4), (3, .int p0), (4, .int 0), (5, .int 0), (6, .int 1)]) hx hb dX6_chance_122 hl (by decide) rfl (fun ls hl => ?_)
  refine lv_aload_n hx hb dX6_chance_124 rfl (lv_at hl 4 rfl) ?_
  refine lv_iload hx hb dX6_chance_125 (lv_at hl 9 rfl) ?_
  refine ya_ld2 hx hb hK hP 1 rfl (vpl (by decide)) (v := .ref h5) rfl dX6_chance_127 ?_
  refine lv_iload hx hb dX6_chance_128 (lv_at hl 8 rfl) ?_
  refine vp_callSi (W.runS (As := [.ref h5, .int 0]) (rest := []) ⟨hx, hb, hml, hown, hts⟩ (k_X6_sum_1 l D κ ε h5) (va_cwS 2 hts gX6_chance_X6_sum rfl rfl rfl (by decide +kernel) ⟨(Nat.le_of_ble_eq_true rfl), (Nat.le_of_ble_eq_true rfl)⟩) (pre0_S (wc := [(h5, .inl (κ 0, 196, .inl (fun _ => 0)))]) hP hK [2] rfl) rfl rfl hl.1 rfl (lv_room (Nat.le_of_ble_eq_true rfl)) dX6_chance_130 ⟨(Nat.le_of_ble_eq_true rfl), (Nat.le_of_ble_eq_true rfl)⟩) (fun r hw => ?_)
  rw [hw]
  refine lv_i2l (v := 0) hx hb dX6_chance_133 (by decide) ?_
  refine lv_lstore (lv' := [(9, .long 0), (7, .long 0), (11, .long 0), (0, .ref h0), (1, .ref h1), (2, .int 4), (3, .int p0), (4, .int 0), (5, .int 0), (6, .int 1)]) hx hb dX6_chance_134 hl (by decide) rfl (fun ls hl => ?_)
  refine lv_aload_n hx hb dX6_chance_136 rfl (lv_at hl 4 rfl) ?_
  refine lv_iload hx hb dX6_chance_137 (lv_at hl 9 rfl) ?_
  refine ya_ld2 hx hb hK hP 1 rfl (vpl (by decide)) (v := .ref h5) rfl dX6_chance_139 ?_
  refine lv_iload hx hb dX6_chance_140 (lv_at hl 8 rfl) ?_
  refine vp_callSi (W.runS (As := [.ref h5, .int 0]) (rest := []) ⟨hx, hb, hml, hown, hts⟩ (k_X6_sorts_1 l D κ ε h5) (va_cwS 2 hts gX6_chance_X6_sorts rfl rfl rfl (by decide +kernel) ⟨(Nat.le_of_ble_eq_true rfl), (Nat.le_of_ble_eq_true rfl)⟩) (pre0_S (wc := [(h5, .inl (κ 0, 196, .inl (fun _ => 0)))]) hP hK [2] rfl) rfl rfl hl.1 rfl (lv_room (Nat.le_of_ble_eq_true rfl)) dX6_chance_142 ⟨(Nat.le_of_ble_eq_true rfl), (Nat.le_of_ble_eq_true rfl)⟩) (fun r hw => ?_)
  rw [hw]
  refine lv_i2l (v := 0) hx hb dX6_chance_145 (by decide) ?_
  refine lv_lstore (lv' := [(11, .long 0), (9, .long 0), (7, .long 0), (0, .ref h0), (1, .ref h1), (2, .int 4), (3, .int p0), (4, .int 0), (5, .int 0), (6, .int 1)]) hx hb dX6_chance_146 hl (by decide) rfl (fun ls hl => ?_)
  refine lv_iload_n hx hb dX6_chance_148 rfl (lv_at hl 5 rfl) ?_
  refine lv_if_ne (tgt := 184) hx hb dX6_chance_149 (by decide) (fun _ => ?_) (fun h => absurd h (by decide))
  refine lv_iload hx hb dX6_chance_184 (lv_at hl 9 rfl) ?_
  refine lv_if_ne (tgt := 202) hx hb dX6_chance_186 (by decide) (fun _ => ?_) (fun h => absurd h (by decide))
  refine lv_aload_n hx hb dX6_chance_202 rfl (lv_at hl 3 rfl) ?_
  refine lv_aload_n hx hb dX6_chance_203 rfl (lv_at hl 4 rfl) ?_
  refine lv_iload_n hx hb dX6_chance_204 rfl (lv_at hl 5 rfl) ?_
  refine lv_iload_n hx hb dX6_chance_205 rfl (lv_at hl 6 rfl) ?_
  refine lv_iload hx hb dX6_chance_206 (lv_at hl 7 rfl) ?_
  refine lv_iload hx hb dX6_chance_208 (lv_at hl 8 rfl) ?_
  refine lv_iload hx hb dX6_chance_210 (lv_at hl 9 rfl) ?_
  refine lv_iconst (v := 1) hx hb dX6_chance_212 (by decide) ?_
  refine lv_isub hx hb dX6_chance_213 ?_
  refine tpi (v := 0) (by decide) ?_
  refine vp_callSi (W.runS (As := [.int 0]) (rest := [.int 0, .int 0, .int p0, .int 4, .ref h1, .ref h0]) ⟨hx, hb, hml, hown, hts⟩ (k_X6_power_0 l D κ ε) (va_cwS 1 hts gX6_chance_X6_power rfl rfl rfl (by decide +kernel) ⟨(Nat.le_of_ble_eq_true rfl), (Nat.le_of_ble_eq_true rfl)⟩) (pre0_S (wc := []) hP hK [] rfl) rfl rfl hl.1 rfl (lv_room (Nat.le_of_ble_eq_true rfl)) dX6_chance_214 ⟨(Nat.le_of_ble_eq_true rfl), (Nat.le_of_ble_eq_true rfl)⟩) (fun r hw => ?_)
  rw [hw]
  refine lv_irem hx hb dX6_chance_217 (by decide) ?_
  refine tpi (v := 0) (by decide) ?_
  refine lv_iload hx hb dX6_chance_218 (lv_at hl 9 rfl) ?_
  refine lv_iconst (v := 1) hx hb dX6_chance_220 (by decide) ?_
  refine lv_isub hx hb dX6_chance_221 ?_
  refine tpi (v := 0) (by decide) ?_
  refine vp_callSl (W.runV (As := [.ref h1, .int 4, .int p0, .int 0, .int 0, .int 0]) (rest := []) ⟨hx, hb, hml, hown, hts⟩ (k_X6_chance_8 l D κ ε h0 h1 h2 h3 h4 h5 h6 h7 (p0) (p1) (p2) (p3) (p4) (p5)) (cwV 6 hts gX6_chance_X6_chance rfl rfl rfl (by decide +kernel) ⟨(Nat.le_of_ble_eq_true rfl), (Nat.le_of_ble_eq_true rfl)⟩) (pre0_V (q0 := 0) (ci := 8) (wc := [(h0, .inr (8, [.int p1, .int 0, .int 2, .ref h2, .ref h1, .int p2, .int p3, .int p4, .int p5, .int 0, .ref h3])), (h1, .inl (κ 4, 4, .inr (.inr (.inr (.inr (sel [h4, h5, h6, h7])))))), (h5, .inl (κ 0, 196, .inl (fun _ => 0)))]) hP hK [0, 1, 2] rfl rfl rfl) rfl rfl hl.1 rfl (lv_room (Nat.le_of_ble_eq_true rfl)) dX6_chance_222 ⟨(Nat.le_of_ble_eq_true rfl), (Nat.le_of_ble_eq_true rfl)⟩) (fun r hw => ?_)
  rw [hw]
  refine lv_lstore (lv' := [(13, .long 1000000), (11, .long 0), (9, .long 0), (7, .long 0), (0, .ref h0), (1, .ref h1), (2, .int 4), (3, .int p0), (4, .int 0), (5, .int 0), (6, .int 1)]) hx hb dX6_chance_225 hl (by decide) rfl (fun ls hl => ?_)
  refine lv_lload hx hb dX6_chance_227 (lv_at hl 2 rfl) ?_
  refine lv_lconst (v := 0) hx hb dX6_chance_229 (by decide) ?_
  refine W.lcmp hx hb dX6_chance_230 ?_
  refine tpi (v := 0) (by decide) ?_
  refine lv_if_ne (tgt := 237) hx hb dX6_chance_231 (by decide) (fun h => absurd (by decide) h) (fun _ => ?_)
  refine lv_lload hx hb dX6_chance_234 (lv_at hl 0 rfl) ?_
  exact W.lret (v := 1000000) hx hb hr (fun t ht hW => ⟨1000000, rfl, rfl, ht⟩) (fun q hq => absurd hq List.not_mem_nil) dX6_chance_236

set_option maxHeartbeats 4000000 in
set_option maxRecDepth 100000 in
theorem k_X6_score_5 (l : Launch) (D : va_G) (κ ε : Nat → Nat) (h0 h1 h2 h3 h4 h5 h6 h7 : Nat) (p0 : Int32) (p1 : Int32) (p2 : Int32) (p3 : Int32) (p4 : Int32) (p5 : Int32) (p6 : Int32) : Met l yX6_score wsX6_score ({ frames := 3, cells := 0, slots := 0, locals := 93 }) (va_Pc [.ref h0, .ref h1, .int 4, .int p0] (Pre0 D κ [(h0, .inr (8, [.int p1, .int 0, .int 2, .ref h2, .ref h1, .int p2, .int p3, .int p4, .int p5, .int 0, .ref h3])), (h1, .inl (κ 4, 4, .inr (.inr (.inr (.inr (sel [h4, h5, h6, h7])))))), (h2, .inr (1, [.int p6, .ref (ε 1), .int 0])), (h5, .inl (κ 0, 196, .inl (fun _ => 0)))])) (vp_Si (fun r => (r = 0))) 0 0 (fun _ => False) := by
  refine Met.ofW (cc := cX6_score) (maxL := 6) (ret := (some .int)) (by decide) rfl ?_
  intro p e s m args below meth c s₁ B hml hv
  obtain ⟨rfl, hP, hK⟩ := hv
  have hx := B.exec
  have hb := B.bytes
  have hr := B.returns
  have hts := atoms_spec (ws := wsX6_score) B.pre
  have hown : s.vm.findClass RX6 = some m.cls := findClass_of_methodNamed B.named
  have hlocks := B.notSynchronized
  have hP : va_P D vwCl [(h0, .inr (8, [.int p1, .int 0, .int 2, .ref h2, .ref h1, .int p2, .int p3, .int p4, .int p5, .int 0, .ref h3])), (h1, .inl (κ 4, 4, .inr (.inr (.inr (.inr (sel [h4, h5, h6, h7])))))), (h2, .inr (1, [.int p6, .ref (ε 1), .int 0])), (h5, .inl (κ 0, 196, .inl (fun _ => 0)))] s.heap := hP
  have hl := lv_entry [.ref h0, .ref h1, .int 4, .int p0] (n := 6) (Nat.le_of_ble_eq_true rfl)
  rw [lg_entry_eq]
  generalize (lg_sl [.ref h0, .ref h1, .int 4, .int p0] ++ List.replicate (6 - (lg_sl [.ref h0, .ref h1, .int 4, .int p0]).length) Slot.unset).toArray = ls at hl ⊢
  have hl : lv_has ls 6 [(0, .ref h0), (1, .ref h1), (2, .int 4), (3, .int p0)] := hl
  refine lv_iconst (v := 0) hx hb dX6_score_0 (by decide) ?_
  refine lv_istore (lv' := [(4, .int 0), (0, .ref h0), (1, .ref h1), (2, .int 4), (3, .int p0)]) hx hb dX6_score_1 hl (by decide) rfl (fun ls hl => ?_)
  refine lv_iconst (v := 0) hx hb dX6_score_3 (by decide) ?_
  refine lv_istore (lv' := [(5, .int 0), (4, .int 0), (0, .ref h0), (1, .ref h1), (2, .int 4), (3, .int p0)]) hx hb dX6_score_4 hl (by decide) rfl (fun ls hl => ?_)
  refine lv_iload hx hb dX6_score_6 (lv_at hl 0 rfl) ?_
  refine lv_aload_n hx hb dX6_score_8 rfl (lv_at hl 2 rfl) ?_
  refine va_get (D := D) (ci := 8) (v := .ref h2) (C := RX6) (T := TX6) (N := 11) hx hb hts wi_X6_score_RX6 hown hK hP 0 rfl rfl 3 (by decide) (hts _ wd340_X6_score) (fun _ h9 => h9) rfl dX6_score_9 ?_
  refine vp_callSi (W.runV (As := []) (rest := [.int 0]) ⟨hx, hb, hml, hown, hts⟩ (k_Jx4a65c_size_8abf5_0 l D κ ε h2 (p6)) (cwV 0 hts gX6_score_Jx4a65c_size_8abf5 rfl rfl rfl (by decide +kernel) ⟨(Nat.le_of_ble_eq_true rfl), (Nat.le_of_ble_eq_true rfl)⟩) (pre0_V (q0 := 2) (ci := 1) (wc := [(h2, .inr (1, [.int p6, .ref (ε 1), .int 0]))]) hP hK [2] rfl rfl rfl) rfl rfl hl.1 rfl (lv_room (Nat.le_of_ble_eq_true rfl)) dX6_score_12 ⟨(Nat.le_of_ble_eq_true rfl), (Nat.le_of_ble_eq_true rfl)⟩) (fun r hw => ?_)
  rw [hw]
  refine lv_icmp_gt (tgt := 70) hx hb dX6_score_15 (by decide) (fun h => absurd h (by decide)) (fun _ => ?_)
  refine lv_iload hx hb dX6_score_18 (lv_at hl 1 rfl) ?_
  refine lv_aload_n hx hb dX6_score_20 rfl (lv_at hl 2 rfl) ?_
  refine lv_aload_n hx hb dX6_score_21 rfl (lv_at hl 3 rfl) ?_
  refine lv_iload_n hx hb dX6_score_22 rfl (lv_at hl 4 rfl) ?_
  refine lv_iload_n hx hb dX6_score_23 rfl (lv_at hl 5 rfl) ?_
  refine lv_aload_n hx hb dX6_score_24 rfl (lv_at hl 2 rfl) ?_
  refine lv_aload_n hx hb dX6_score_25 rfl (lv_at hl 2 rfl) ?_
  refine va_get (D := D) (ci := 8) (v := .ref h2) (C := RX6) (T := TX6) (N := 11) hx hb hts wi_X6_score_RX6 hown hK hP 0 rfl rfl 3 (by decide) (hts _ wd340_X6_score) (fun _ h9 => h9) rfl dX6_score_26 ?_
  refine lv_iload hx hb dX6_score_29 (lv_at hl 0 rfl) ?_
  refine vp_callSi (W.runV (As := [.ref h2, .int 0]) (rest := [.int p0, .int 4, .ref h1, .ref h0, .int 0]) ⟨hx, hb, hml, hown, hts⟩ (k_X6_at_0 l D κ ε h0 h2 h1 h3 (p1) (2) (p2) (p3) (p4) (p5) (p6)) (cwV 2 hts gX6_score_X6_at rfl rfl rfl (by decide +kernel) ⟨(Nat.le_of_ble_eq_true rfl), (Nat.le_of_ble_eq_true rfl)⟩) (pre0_V (q0 := 0) (ci := 8) (wc := [(h0, .inr (8, [.int p1, .int 0, .int 2, .ref h2, .ref h1, .int p2, .int p3, .int p4, .int p5, .int 0, .ref h3])), (h2, .inr (1, [.int p6, .ref (ε 1), .int 0]))]) hP hK [0, 2] rfl rfl rfl) rfl rfl hl.1 rfl (lv_room (Nat.le_of_ble_eq_true rfl)) dX6_score_31 ⟨(Nat.le_of_ble_eq_true rfl), (Nat.le_of_ble_eq_true rfl)⟩) (fun r hw => ?_)
  rw [hw]
  refine lv_aload_n hx hb dX6_score_34 rfl (lv_at hl 2 rfl) ?_
  refine va_get (D := D) (ci := 8) (v := .ref h2) (C := RX6) (T := TX6) (N := 11) hx hb hts wi_X6_score_RX6 hown hK hP 0 rfl rfl 3 (by decide) (hts _ wd340_X6_score) (fun _ h9 => h9) rfl dX6_score_35 ?_
  refine lv_iload hx hb dX6_score_38 (lv_at hl 0 rfl) ?_
  refine lv_aload_n hx hb dX6_score_40 rfl (lv_at hl 2 rfl) ?_
  refine va_get (D := D) (ci := 8) (v := .int 2) (C := RX6) (T := TX6) (N := 11) hx hb hts wi_X6_score_RX6 hown hK hP 0 rfl rfl 2 (by decide) (hts _ wd341_X6_score) (fun _ h9 => h9) rfl dX6_score_41 ?_
  refine lv_iconst (v := 1) hx hb dX6_score_44 (by decide) ?_
  refine lv_isub hx hb dX6_score_45 ?_
  refine tpi (v := 1) (by decide) ?_
  refine vp_callSi (W.runS (As := [.ref h2, .int 0, .int 1]) (rest := [.int 0, .int p0, .int 4, .ref h1, .ref h0, .int 0]) ⟨hx, hb, hml, hown, hts⟩ (k_X6_ahead_1 l D κ ε h2) (va_cwS 3 hts gX6_score_X6_ahead rfl rfl rfl (by decide +kernel) ⟨(Nat.le_of_ble_eq_true rfl), (Nat.le_of_ble_eq_true rfl)⟩) (pre0_S (wc := []) hP hK [] rfl) rfl rfl hl.1 rfl (lv_room (Nat.le_of_ble_eq_true rfl)) dX6_score_46 ⟨(Nat.le_of_ble_eq_true rfl), (Nat.le_of_ble_eq_true rfl)⟩) (fun r hw => ?_)
  rw [hw]
  refine lv_aload_n hx hb dX6_score_49 rfl (lv_at hl 2 rfl) ?_
  refine va_get (D := D) (ci := 8) (v := .int 2) (C := RX6) (T := TX6) (N := 11) hx hb hts wi_X6_score_RX6 hown hK hP 0 rfl rfl 2 (by decide) (hts _ wd341_X6_score) (fun _ h9 => h9) rfl dX6_score_50 ?_
  refine lv_iconst (v := 1) hx hb dX6_score_53 (by decide) ?_
  refine lv_isub hx hb dX6_score_54 ?_
  refine tpi (v := 1) (by decide) ?_
  refine vp_callSl (W.runV (As := [.ref h1, .int 4, .int p0, .int 0, .int 0, .int 1]) (rest := [.int 0]) ⟨hx, hb, hml, hown, hts⟩ (k_X6_chance_9 l D κ ε h0 h1 h2 h3 h4 h5 h6 h7 (p0) (p1) (p2) (p3) (p4) (p5)) (cwV 6 hts gX6_score_X6_chance rfl rfl rfl (by decide +kernel) ⟨(Nat.le_of_ble_eq_true rfl), (Nat.le_of_ble_eq_true rfl)⟩) (pre0_V (q0 := 0) (ci := 8) (wc := [(h0, .inr (8, [.int p1, .int 0, .int 2, .ref h2, .ref h1, .int p2, .int p3, .int p4, .int p5, .int 0, .ref h3])), (h1, .inl (κ 4, 4, .inr (.inr (.inr (.inr (sel [h4, h5, h6, h7])))))), (h5, .inl (κ 0, 196, .inl (fun _ => 0)))]) hP hK [0, 1, 3] rfl rfl rfl) rfl rfl hl.1 rfl (lv_room (Nat.le_of_ble_eq_true rfl)) dX6_score_55 ⟨(Nat.le_of_ble_eq_true rfl), (Nat.le_of_ble_eq_true rfl)⟩) (fun r hw => ?_)
  rw [hw]
  refine vp_callSi (W.runS (As := [.long 1000000]) (rest := [.int 0]) ⟨hx, hb, hml, hown, hts⟩ (k_X6_cost_1 l D κ ε) (va_cwS 1 hts gX6_score_X6_cost rfl rfl rfl (by decide +kernel) ⟨(Nat.le_of_ble_eq_true rfl), (Nat.le_of_ble_eq_true rfl)⟩) (pre0_S (wc := []) hP hK [] rfl) rfl rfl hl.1 rfl (lv_room (Nat.le_of_ble_eq_true rfl)) dX6_score_58 ⟨(Nat.le_of_ble_eq_true rfl), (Nat.le_of_ble_eq_true rfl)⟩) (fun r hw => ?_)
  rw [hw]
  refine lv_iadd hx hb dX6_score_61 ?_
  refine tpi (v := 0) (by decide) ?_
  refine lv_istore (lv' := [(4, .int 0), (5, .int 0), (0, .ref h0), (1, .ref h1), (2, .int 4), (3, .int p0)]) hx hb dX6_score_62 hl (by decide) rfl (fun ls hl => ?_)
  refine lv_iinc (v := 1) (lv' := [(5, .int 1), (4, .int 0), (0, .ref h0), (1, .ref h1), (2, .int 4), (3, .int p0)]) hx hb dX6_score_64 hl (k := 1) rfl (by decide) (by decide) rfl (fun ls hl => ?_)
  refine lv_goto (tgt := 6) hx hb dX6_score_67 (by decide) ?_
  refine lv_iload hx hb dX6_score_6 (lv_at hl 0 rfl) ?_
  refine lv_aload_n hx hb dX6_score_8 rfl (lv_at hl 2 rfl) ?_
  refine va_get (D := D) (ci := 8) (v := .ref h2) (C := RX6) (T := TX6) (N := 11) hx hb hts wi_X6_score_RX6 hown hK hP 0 rfl rfl 3 (by decide) (hts _ wd340_X6_score) (fun _ h9 => h9) rfl dX6_score_9 ?_
  refine vp_callSi (W.runV (As := []) (rest := [.int 1]) ⟨hx, hb, hml, hown, hts⟩ (k_Jx4a65c_size_8abf5_0 l D κ ε h2 (p6)) (cwV 0 hts gX6_score_Jx4a65c_size_8abf5 rfl rfl rfl (by decide +kernel) ⟨(Nat.le_of_ble_eq_true rfl), (Nat.le_of_ble_eq_true rfl)⟩) (pre0_V (q0 := 2) (ci := 1) (wc := [(h2, .inr (1, [.int p6, .ref (ε 1), .int 0]))]) hP hK [2] rfl rfl rfl) rfl rfl hl.1 rfl (lv_room (Nat.le_of_ble_eq_true rfl)) dX6_score_12 ⟨(Nat.le_of_ble_eq_true rfl), (Nat.le_of_ble_eq_true rfl)⟩) (fun r hw => ?_)
  rw [hw]
  refine lv_icmp_gt (tgt := 70) hx hb dX6_score_15 (by decide) (fun _ => ?_) (fun h => absurd (by decide) h)
  refine lv_iload hx hb dX6_score_70 (lv_at hl 1 rfl) ?_
  exact W.iret (v := 0) hx hb hr (fun t ht hW => ⟨0, rfl, rfl, ht⟩) (fun q hq => absurd hq List.not_mem_nil) dX6_score_72

set_option maxHeartbeats 4000000 in
set_option maxRecDepth 100000 in
theorem k_X6_scoreBy_14 (l : Launch) (D : va_G) (κ ε : Nat → Nat) (h0 h1 h2 h3 h4 h5 h6 h7 : Nat) (sz : Nat) (p0 : Int32) (hf0 : ¬ p0 < 1) (hf1 : ¬ 1000 < p0) : Met l yX6_scoreBy wsX6_scoreBy ({ frames := 4, cells := 0, slots := 0, locals := 118 }) (va_Pc [.ref h0, .int 4, .int p0] (Pre2 D κ ε [(h0, .inr (8, [.int 0, .int 0, .int 2, .ref h1, .ref h2, .int 0, .int 500, .int 0, .int 0, .int 0, .ref h3])), (h1, .inr (1, [.int 0, .ref (ε 1), .int 0])), (h2, .inl (κ 4, 4, .inr (.inr (.inr (.inr (sel [h4, h5, h6, h7])))))), (h5, .inl (κ 0, 196, .inl (fun _ => 0)))] sz)) (va_Qi (fun r (u : List Value) => (u[0]? = some (.int 0)) ∧ (r = 0)) (fun u t => va_P D vwCl [(h0, .inr (8, u))] t.heap ∧ va_D (va_A [(h0, .inr (8, [.int 0, .int 0, .int 2, .ref h1, .ref h2, .int 0, .int 500, .int 0, .int 0, .int 0, .ref h3])), (h1, .inr (1, [.int 0, .ref (ε 1), .int 0])), (h2, .inl (κ 4, 4, .inr (.inr (.inr (.inr (sel [h4, h5, h6, h7])))))), (h5, .inl (κ 0, 196, .inl (fun _ => 0)))] sz) [(h0, .inr (8, u))]) (va_A [(h0, .inr (8, [.int 0, .int 0, .int 2, .ref h1, .ref h2, .int 0, .int 500, .int 0, .int 0, .int 0, .ref h3])), (h1, .inr (1, [.int 0, .ref (ε 1), .int 0])), (h2, .inl (κ 4, 4, .inr (.inr (.inr (.inr (sel [h4, h5, h6, h7])))))), (h5, .inl (κ 0, 196, .inl (fun _ => 0)))] sz)) 0 0 (va_A [(h0, .inr (8, [.int 0, .int 0, .int 2, .ref h1, .ref h2, .int 0, .int 500, .int 0, .int 0, .int 0, .ref h3])), (h1, .inr (1, [.int 0, .ref (ε 1), .int 0])), (h2, .inl (κ 4, 4, .inr (.inr (.inr (.inr (sel [h4, h5, h6, h7])))))), (h5, .inl (κ 0, 196, .inl (fun _ => 0)))] sz) := by
  refine Met.ofW (cc := cX6_scoreBy) (maxL := 3) (ret := (some .int)) (by decide) rfl ?_
  intro p e s m args below meth c s₁ B hml hv
  obtain ⟨rfl, hsz, hP, hK, hD0, hE9⟩ := hv
  have hx := B.exec
  have hb := B.bytes
  have hr := B.returns
  have hts := atoms_spec (ws := wsX6_scoreBy) B.pre
  have hown : s.vm.findClass RX6 = some m.cls := findClass_of_methodNamed B.named
  have hlocks := B.notSynchronized
  subst hsz
  have hD := hD0.self (sz := s.heap.size)
  generalize hAe : va_A [(h0, .inr (8, [.int 0, .int 0, .int 2, .ref h1, .ref h2, .int 0, .int 500, .int 0, .int 0, .int 0, .ref h3])), (h1, .inr (1, [.int 0, .ref (ε 1), .int 0])), (h2, .inl (κ 4, 4, .inr (.inr (.inr (.inr (sel [h4, h5, h6, h7])))))), (h5, .inl (κ 0, 196, .inl (fun _ => 0)))] s.heap.size = A at hD hE9 ⊢
  have hE := hE9.1
  have hDc := hE9.2
  have hA : ∀ q : Nat, s.heap.size ≤ q → A q := fun q h => by rw [← hAe]; exact Or.inr h
  have hS : va_S A s.heap s.heap [] := va_S.rf
  have hP : va_P D vwCl [(h0, .inr (8, [.int 0, .int 0, .int 2, .ref h1, .ref h2, .int 0, .int 500, .int 0, .int 0, .int 0, .ref h3])), (h1, .inr (1, [.int 0, .ref (ε 1), .int 0])), (h2, .inl (κ 4, 4, .inr (.inr (.inr (.inr (sel [h4, h5, h6, h7])))))), (h5, .inl (κ 0, 196, .inl (fun _ => 0)))] s.heap := hP
  have hl := lv_entry [.ref h0, .int 4, .int p0] (n := 3) (Nat.le_of_ble_eq_true rfl)
  rw [lg_entry_eq]
  generalize (lg_sl [.ref h0, .int 4, .int p0] ++ List.replicate (3 - (lg_sl [.ref h0, .int 4, .int p0]).length) Slot.unset).toArray = ls at hl ⊢
  have hl : lv_has ls 3 [(0, .ref h0), (1, .int 4), (2, .int p0)] := hl
  refine lv_aload_n hx hb dX6_scoreBy_0 rfl (lv_at hl 0 rfl) ?_
  refine lv_iload_n hx hb dX6_scoreBy_1 rfl (lv_at hl 1 rfl) ?_
  refine lv_iconst (v := 0) hx hb dX6_scoreBy_2 (by decide) ?_
  refine lv_iconst (v := 4) hx hb dX6_scoreBy_3 (by decide) ?_
  refine vp_callSi (W.runS (As := [.int 4, .int 0, .int 4]) (rest := [.ref h0]) ⟨hx, hb, hml, hown, hts⟩ (k_X6_isIn_54 l D κ ε) (va_cwS 3 hts gX6_scoreBy_X6_isIn rfl rfl rfl (by decide +kernel) ⟨(Nat.le_of_ble_eq_true rfl), (Nat.le_of_ble_eq_true rfl)⟩) (pre0_S (wc := []) hP hK [] rfl) rfl rfl hl.1 rfl (lv_room (Nat.le_of_ble_eq_true rfl)) dX6_scoreBy_4 ⟨(Nat.le_of_ble_eq_true rfl), (Nat.le_of_ble_eq_true rfl)⟩) (fun r hw => ?_)
  rw [hw]
  refine lv_if_eq (tgt := 21) hx hb dX6_scoreBy_7 (by decide) (fun h => absurd h (by decide)) (fun _ => ?_)
  refine lv_iload_n hx hb dX6_scoreBy_10 rfl (lv_at hl 2 rfl) ?_
  refine lv_iconst (v := 1) hx hb dX6_scoreBy_11 (by decide) ?_
  refine lv_sipush (v := 1000) hx hb dX6_scoreBy_12 (by decide) ?_
  refine vp_callSi (W.runS (As := [.int p0, .int 1, .int 1000]) (rest := [.ref h0]) ⟨hx, hb, hml, hown, hts⟩ (k_X6_isIn_29 l D κ ε (p0) hf0 hf1) (va_cwS 3 hts gX6_scoreBy_X6_isIn rfl rfl rfl (by decide +kernel) ⟨(Nat.le_of_ble_eq_true rfl), (Nat.le_of_ble_eq_true rfl)⟩) (pre0_S (wc := []) hP hK [] rfl) rfl rfl hl.1 rfl (lv_room (Nat.le_of_ble_eq_true rfl)) dX6_scoreBy_15 ⟨(Nat.le_of_ble_eq_true rfl), (Nat.le_of_ble_eq_true rfl)⟩) (fun r hw => ?_)
  rw [hw]
  refine lv_if_ne (tgt := 25) hx hb dX6_scoreBy_18 (by decide) (fun _ => ?_) (fun h => absurd h (by decide))
  refine lv_iconst (v := 0) hx hb dX6_scoreBy_25 (by decide) ?_
  refine lv_iconst (v := 1) hx hb dX6_scoreBy_26 (by decide) ?_
  have hF := va_free (wc := [(h0, .inr (8, [.int 0, .int 0, .int 2, .ref h1, .ref h2, .int 0, .int 500, .int 0, .int 0, .int 0, .ref h3]))]) hD hS hA [0] rfl
  refine va_calli (va_runV (As := [.int 0, .int 1]) (rest := []) ⟨hx, hb, hml, hown, hts⟩ (k_X6_start_0 l D κ ε h0 h1 h2 h3 s.heap.size (0) (2) (0) (500) (0) (0)) (cwV 2 hts gX6_scoreBy_X6_start rfl rfl rfl (by decide +kernel) ⟨(Nat.le_of_ble_eq_true rfl), (Nat.le_of_ble_eq_true rfl)⟩) (pre2_V (q0 := 0) (ci := 8) (wc := [(h0, .inr (8, [.int 0, .int 0, .int 2, .ref h1, .ref h2, .int 0, .int 500, .int 0, .int 0, .int 0, .ref h3]))]) hP hD hK hE9 hS hA [0] (by decide) rfl rfl rfl) rfl rfl hl.1 rfl (lv_room (Nat.le_of_ble_eq_true rfl)) dX6_scoreBy_27 ⟨(Nat.le_of_ble_eq_true rfl), (Nat.le_of_ble_eq_true rfl)⟩) hS (fun q _ h => hF q h) hF (fun r u1 t H locs ht hvm hw hB hz1 hk1 hS => ?_)
  try dsimp only at hw hB
  obtain ⟨hP1, hD1⟩ := hB
  rw [ht] at hP1
  obtain ⟨hP, hD⟩ := post_j (ws' := [(h0, .inr (8, [.int 0, .int 0, .int 2, .ref h1, .ref h2, .int 0, .int 500, .int 0, .int 0, .int 0, .ref h3])), (h1, .inr (1, [.int 0, .ref (ε 1), .int 0])), (h2, .inl (κ 4, 4, .inr (.inr (.inr (.inr (sel [h4, h5, h6, h7])))))), (h5, .inl (κ 0, 196, .inl (fun _ => 0)))]) (wr := [(h1, .inr (1, [.int 0, .ref (ε 1), .int 0])), (h2, .inl (κ 4, 4, .inr (.inr (.inr (.inr (sel [h4, h5, h6, h7])))))), (h5, .inl (κ 0, 196, .inl (fun _ => 0)))]) (w1 := [(h0, .inr (8, [.int 0, .int 0, .int 2, .ref h1, .ref h2, .int 0, .int 500, .int 0, .int 0, .int 0, .ref h3]))]) hP hD hF [0] rfl [1, 2, 3] rfl (by decide) (by decide) hk1 hP1 hD1 [3, 0, 1, 2] (by decide) rfl
  have hP : va_P D vwCl [(h0, .inr (8, [.int 0, .int 0, .int 2, .ref h1, .ref h2, .int 0, .int 500, .int 0, .int 0, .int 0, .ref h3])), (h1, .inr (1, [.int 0, .ref (ε 1), .int 0])), (h2, .inl (κ 4, 4, .inr (.inr (.inr (.inr (sel [h4, h5, h6, h7])))))), (h5, .inl (κ 0, 196, .inl (fun _ => 0)))] H := hP
  have hD : va_D A [(h0, .inr (8, [.int 0, .int 0, .int 2, .ref h1, .ref h2, .int 0, .int 500, .int 0, .int 0, .int 0, .ref h3])), (h1, .inr (1, [.int 0, .ref (ε 1), .int 0])), (h2, .inl (κ 4, 4, .inr (.inr (.inr (.inr (sel [h4, h5, h6, h7])))))), (h5, .inl (κ 0, 196, .inl (fun _ => 0)))] := hD
  rw [hw]
  refine lv_if_eq (tgt := 37) hx hb dX6_scoreBy_30 (by decide) (fun _ => ?_) (fun h => absurd (by decide) h)
  refine lv_aload_n hx hb dX6_scoreBy_37 rfl (lv_at hl 0 rfl) ?_
  refine lv_aload_n hx hb dX6_scoreBy_38 rfl (lv_at hl 0 rfl) ?_
  refine va_get (D := D) (ci := 8) (v := .ref h2) (C := RX6) (T := TX6) (N := 11) hx hb hts wi_X6_scoreBy_RX6 hown hK hP 0 rfl rfl 4 (by decide) (hts _ wd426_X6_scoreBy) (fun _ h9 => h9) rfl dX6_scoreBy_39 ?_
  refine lv_iload_n hx hb dX6_scoreBy_42 rfl (lv_at hl 1 rfl) ?_
  refine lv_iload_n hx hb dX6_scoreBy_43 rfl (lv_at hl 2 rfl) ?_
  refine vp_callSi (W.runV (As := [.ref h2, .int 4, .int p0]) (rest := []) ⟨hx, hb, hml, hown, hts⟩ (k_X6_score_5 l D κ ε h0 h2 h1 h3 h4 h5 h6 h7 (p0) (0) (0) (500) (0) (0) (0)) (cwV 3 hts gX6_scoreBy_X6_score rfl rfl rfl (by decide +kernel) ⟨(Nat.le_of_ble_eq_true rfl), (Nat.le_of_ble_eq_true rfl)⟩) (pre0_V (q0 := 0) (ci := 8) (wc := [(h0, .inr (8, [.int 0, .int 0, .int 2, .ref h1, .ref h2, .int 0, .int 500, .int 0, .int 0, .int 0, .ref h3])), (h2, .inl (κ 4, 4, .inr (.inr (.inr (.inr (sel [h4, h5, h6, h7])))))), (h1, .inr (1, [.int 0, .ref (ε 1), .int 0])), (h5, .inl (κ 0, 196, .inl (fun _ => 0)))]) hP hK [0, 2, 1, 3] rfl rfl rfl) rfl rfl hl.1 rfl (lv_room (Nat.le_of_ble_eq_true rfl)) dX6_scoreBy_44 ⟨(Nat.le_of_ble_eq_true rfl), (Nat.le_of_ble_eq_true rfl)⟩) (fun r hw => ?_)
  rw [hw]
  have hP9 := hP.sub (ws' := [(h0, .inr (8, [.int 0, .int 0, .int 2, .ref h1, .ref h2, .int 0, .int 500, .int 0, .int 0, .int 0, .ref h3]))]) [0] rfl
  have hD9 := hD.sub (ws' := [(h0, .inr (8, [.int 0, .int 0, .int 2, .ref h1, .ref h2, .int 0, .int 500, .int 0, .int 0, .int 0, .ref h3]))]) [0] (by decide) rfl
  exact W.iret (v := 0) hx hb hr (fun t ht hW => ⟨⟨0, [.int 0, .int 0, .int 2, .ref h1, .ref h2, .int 0, .int 500, .int 0, .int 0, .int 0, .ref h3], rfl, ⟨rfl, rfl⟩, by rw [ht]; exact hP9, hD9⟩, hS.F ht⟩) hS.2.2 dX6_scoreBy_47

theorem iv324 (x : Int32) (h0 : ¬ x = 0) (h1 : ¬ x = 1) (h2 : ¬ x = 2) (h3 : ¬ x = 3) (h4 : ¬ x = 4) (h5 : ¬ x < 0) : 4 < x := by
  have e0 : (0 : Int32).toInt = 0 := by decide
  have e1 : (1 : Int32).toInt = 1 := by decide
  have e2 : (2 : Int32).toInt = 2 := by decide
  have e3 : (3 : Int32).toInt = 3 := by decide
  have e4 : (4 : Int32).toInt = 4 := by decide
  simp only [Int32.lt_iff_toInt_lt, Int32.le_iff_toInt_le, ← Int32.toInt_inj, e0, e1, e2, e3, e4] at *
  omega

set_option maxHeartbeats 4000000 in
set_option maxRecDepth 100000 in
theorem k_X5_isWay_6 (l : Launch) (D : va_G) (κ ε : Nat → Nat) (p0 : Int32) (p1 : Int32) (hf0 : ¬ p0 = 0) (hf1 : ¬ p0 = 1) (hf2 : ¬ p0 = 2) (hf3 : ¬ p0 = 3) (hf4 : ¬ p0 = 4) : Met l yX5_isWay wsX5_isWay ({ frames := 0, cells := 0, slots := 0, locals := 0 }) (va_Pc [.int p0, .int p1] (Pre0 D κ [])) (vp_Si (fun r => ((p0 < 0) ∧ (r = 0)) ∨ ((¬ p0 < 0) ∧ (r = 0)))) 0 0 (fun _ => False) := by
  refine Met.ofW (cc := cX5_isWay) (maxL := 2) (ret := (some .boolean)) (by decide) rfl ?_
  intro p e s m args below meth c s₁ B hml hv
  obtain ⟨rfl, hP, hK⟩ := hv
  have hx := B.exec
  have hb := B.bytes
  have hr := B.returns
  have hts := atoms_spec (ws := wsX5_isWay) B.pre
  have hown : s.vm.findClass RX5 = some m.cls := findClass_of_methodNamed B.named
  have hlocks := B.notSynchronized
  have hP : va_P D vwCl [] s.heap := hP
  have hl := lv_entry [.int p0, .int p1] (n := 2) (Nat.le_of_ble_eq_true rfl)
  rw [lg_entry_eq]
  generalize (lg_sl [.int p0, .int p1] ++ List.replicate (2 - (lg_sl [.int p0, .int p1]).length) Slot.unset).toArray = ls at hl ⊢
  have hl : lv_has ls 2 [(0, .int p0), (1, .int p1)] := hl
  refine lv_iload_n hx hb dX5_isWay_0 rfl (lv_at hl 0 rfl) ?_
  refine lv_if_lt (tgt := 25) hx hb dX5_isWay_1 (by decide) (fun c1 => ?_) (fun c1 => ?_)
  · skip
    refine lv_iconst (v := 0) hx hb dX5_isWay_25 (by decide) ?_
    exact W.zret (v := 0) hx hb hr rfl (fun t ht hW => ⟨0, rfl, (Or.inl ⟨c1, rfl⟩), ht⟩) (fun q hq => absurd hq List.not_mem_nil) dX5_isWay_26
  · skip
    refine lv_iload_n hx hb dX5_isWay_4 rfl (lv_at hl 0 rfl) ?_
    refine lv_iconst (v := 4) hx hb dX5_isWay_5 (by decide) ?_
    refine lv_icmp_gt (tgt := 25) hx hb dX5_isWay_6 (by decide) (fun _ => ?_) (fun h => absurd (iv324 _ hf0 hf1 hf2 hf3 hf4 c1) h)
    refine lv_iconst (v := 0) hx hb dX5_isWay_25 (by decide) ?_
    exact W.zret (v := 0) hx hb hr rfl (fun t ht hW => ⟨0, rfl, (Or.inr ⟨c1, rfl⟩), ht⟩) (fun q hq => absurd hq List.not_mem_nil) dX5_isWay_26

set_option maxHeartbeats 4000000 in
set_option maxRecDepth 100000 in
theorem k_X5_scoreBy_5 (l : Launch) (hst : l.stackTraces = false) (D : va_G) (κ ε : Nat → Nat) (h0 : Nat) (sz : Nat) (p0 : Int32) (p1 : Int32) (hf0 : ¬ p0 = 0) (hf1 : ¬ p0 = 1) (hf2 : ¬ p0 = 2) (hf3 : ¬ p0 = 3) (hf4 : ¬ p0 = 4) : vx_Met l yX5_scoreBy wsX5_scoreBy ({ frames := 6, cells := 1, slots := 6, locals := 120 }) (va_Pc [.ref h0, .int p0, .int p1] (Pre2 D κ ε [] sz)) (va_Qi (fun r (u : Unit) => False) (fun _ _ => True) (va_A [] sz)) (vx_X (fun _ : Unit => True) (fun E _ _ => ((p0 < 0) ∧ E = "java/lang/IllegalArgumentException") ∨ ((¬ p0 < 0) ∧ E = "java/lang/IllegalArgumentException")) (va_A [] sz)) 1 6 (va_A [] sz) := by
  refine vx_ofW (cc := cX5_scoreBy) (maxL := 6) (ret := (some .int)) (by decide) rfl ?_
  intro p e s m args below meth c s₁ B hml hnx hv
  obtain ⟨rfl, hsz, hP, hK, hD0, hE9⟩ := hv
  have hx := B.exec
  have hb := B.bytes
  have hr := B.returns
  have hts := atoms_spec (ws := wsX5_scoreBy) B.pre
  have hown : s.vm.findClass RX5 = some m.cls := findClass_of_methodNamed B.named
  have hlocks := B.notSynchronized
  subst hsz
  have hD := hD0.self (sz := s.heap.size)
  generalize hAe : va_A [] s.heap.size = A at hD hE9 ⊢
  have hE := hE9.1
  have hDc := hE9.2
  have hA : ∀ q : Nat, s.heap.size ≤ q → A q := fun q h => by rw [← hAe]; exact Or.inr h
  have hS : va_S A s.heap s.heap [] := va_S.rf
  have hP : va_P D vwCl [] s.heap := hP
  have hl := lv_entry [.ref h0, .int p0, .int p1] (n := 6) (Nat.le_of_ble_eq_true rfl)
  rw [lg_entry_eq]
  generalize (lg_sl [.ref h0, .int p0, .int p1] ++ List.replicate (6 - (lg_sl [.ref h0, .int p0, .int p1]).length) Slot.unset).toArray = ls at hl ⊢
  have hl : lv_has ls 6 [(0, .ref h0), (1, .int p0), (2, .int p1)] := hl
  refine lv_iload_n hx hb dX5_scoreBy_0 rfl (lv_at hl 1 rfl) ?_
  refine lv_iload_n hx hb dX5_scoreBy_1 rfl (lv_at hl 2 rfl) ?_
  refine vp_callSi (W.runS (As := [.int p0, .int p1]) (rest := []) ⟨hx, hb, hml, hown, hts⟩ (k_X5_isWay_6 l D κ ε (p0) (p1) hf0 hf1 hf2 hf3 hf4) (va_cwS 2 hts gX5_scoreBy_X5_isWay rfl rfl rfl (by decide +kernel) ⟨(Nat.le_of_ble_eq_true rfl), (Nat.le_of_ble_eq_true rfl)⟩) (pre0_S (wc := []) hP hK [] rfl) rfl rfl hl.1 rfl (lv_room (Nat.le_of_ble_eq_true rfl)) dX5_scoreBy_2 ⟨(Nat.le_of_ble_eq_true rfl), (Nat.le_of_ble_eq_true rfl)⟩) (fun r hw => ?_)
  rcases hw with ⟨c1, rfl⟩ | ⟨c2, rfl⟩
  · skip
    refine lv_if_ne (tgt := 18) hx hb dX5_scoreBy_5 (by decide) (fun h => absurd (by decide) h) (fun _ => ?_)
    exact vx_throwS (names := ["java/lang/RuntimeException", "java/lang/Exception"]) (sa := ε 25) hx hb hst hown (by decide +kernel) (by decide +kernel) (hts _ wd420_X5_scoreBy) (hts _ wd421_X5_scoreBy) (hE.2.2.2.2.2.2.1 _ (List.mem_of_getElem? (i := 15) rfl)) (vx_hat (B := [.castable "java/lang/IllegalArgumentException" "java/lang/IllegalArgumentException", .declares (Bundle.initS "java/lang/RuntimeException"), .declares (Bundle.initS "java/lang/Exception"), .declares (Bundle.initS "java/lang/Throwable")]) (fun w hw => hts w (at1_X5_scoreBy_82 w hw)) at2_RX5_82 (vx_c (va_Nw.use rfl hE.2.2.2.2.2.2.2.2.2.2.2.2.2.2.1) (vx_c (va_Nw.use rfl hDc.1) (vx_c (va_Nw.use rfl hDc.2.1) (vx_c (va_Nw.use rfl hDc.2.2) vx_n))))) at2_RX5_82g hE.1 hE.2.1 hS (by rw [hml]; exact hl.1) dX5_scoreBy_8 dX5_scoreBy_11 dX5_scoreBy_12 dX5_scoreBy_14 dX5_scoreBy_17 (fun x hx => (hnx x hx).elim) (by decide) (by decide) (Nat.le_of_ble_eq_true rfl) (Nat.le_of_ble_eq_true rfl) hlocks (fun t _ h1 h2 => ⟨(), trivial, (Or.inl ⟨c1, rfl⟩), thF (H0 := s.heap) hS h1 h2⟩) hS.2.2 (Nat.le_of_ble_eq_true rfl) (Nat.le_of_ble_eq_true rfl)
  · skip
    refine lv_if_ne (tgt := 18) hx hb dX5_scoreBy_5 (by decide) (fun h => absurd (by decide) h) (fun _ => ?_)
    exact vx_throwS (names := ["java/lang/RuntimeException", "java/lang/Exception"]) (sa := ε 25) hx hb hst hown (by decide +kernel) (by decide +kernel) (hts _ wd420_X5_scoreBy) (hts _ wd421_X5_scoreBy) (hE.2.2.2.2.2.2.1 _ (List.mem_of_getElem? (i := 15) rfl)) (vx_hat (B := [.castable "java/lang/IllegalArgumentException" "java/lang/IllegalArgumentException", .declares (Bundle.initS "java/lang/RuntimeException"), .declares (Bundle.initS "java/lang/Exception"), .declares (Bundle.initS "java/lang/Throwable")]) (fun w hw => hts w (at1_X5_scoreBy_82 w hw)) at2_RX5_82 (vx_c (va_Nw.use rfl hE.2.2.2.2.2.2.2.2.2.2.2.2.2.2.1) (vx_c (va_Nw.use rfl hDc.1) (vx_c (va_Nw.use rfl hDc.2.1) (vx_c (va_Nw.use rfl hDc.2.2) vx_n))))) at2_RX5_82g hE.1 hE.2.1 hS (by rw [hml]; exact hl.1) dX5_scoreBy_8 dX5_scoreBy_11 dX5_scoreBy_12 dX5_scoreBy_14 dX5_scoreBy_17 (fun x hx => (hnx x hx).elim) (by decide) (by decide) (Nat.le_of_ble_eq_true rfl) (Nat.le_of_ble_eq_true rfl) hlocks (fun t _ h1 h2 => ⟨(), trivial, (Or.inr ⟨c2, rfl⟩), thF (H0 := s.heap) hS h1 h2⟩) hS.2.2 (Nat.le_of_ble_eq_true rfl) (Nat.le_of_ble_eq_true rfl)

set_option maxHeartbeats 4000000 in
set_option maxRecDepth 100000 in
theorem k_L_scoreBy_5 (l : Launch) (hst : l.stackTraces = false) (D : va_G) (κ ε : Nat → Nat) (h0 h1 h2 h3 h4 h5 h6 h7 : Nat) (sz : Nat) (p0 : Int32) (p1 : Int32) (hf0 : ¬ p0 = 0) (hf1 : ¬ p0 = 1) (hf2 : ¬ p0 = 2) (hf3 : ¬ p0 = 3) (hf4 : ¬ p0 = 4) : Met l yL_scoreBy wsL_scoreBy ({ frames := 7, cells := 1, slots := 6, locals := 145 }) (va_Pc [.ref h0, .int p0, .int p1, .ref h1] (Pre2 D κ ε [(h0, .inr (7, [.ref h2, .ref h3, .ref h4, .ref h5, .ref h6, .ref h7, .int 0, .int 0, .int 0, .int 0])), (h1, .inl (κ 2, 1, .inr (.inl (fun _ => 0))))] sz)) (va_Qi (fun r (u : Nat → Int64) => ((p0 < 0) ∧ (r = 1)) ∨ ((¬ p0 < 0) ∧ (r = 1))) (fun u t => va_P D vwCl [(h1, .inl (κ 2, 1, .inr (.inl u)))] t.heap ∧ va_D (va_A [(h0, .inr (7, [.ref h2, .ref h3, .ref h4, .ref h5, .ref h6, .ref h7, .int 0, .int 0, .int 0, .int 0])), (h1, .inl (κ 2, 1, .inr (.inl (fun _ => 0))))] sz) [(h1, .inl (κ 2, 1, .inr (.inl u)))]) (va_A [(h0, .inr (7, [.ref h2, .ref h3, .ref h4, .ref h5, .ref h6, .ref h7, .int 0, .int 0, .int 0, .int 0])), (h1, .inl (κ 2, 1, .inr (.inl (fun _ => 0))))] sz)) 1 6 (va_A [(h0, .inr (7, [.ref h2, .ref h3, .ref h4, .ref h5, .ref h6, .ref h7, .int 0, .int 0, .int 0, .int 0])), (h1, .inl (κ 2, 1, .inr (.inl (fun _ => 0))))] sz) := by
  refine va_MetW (cc := cL_scoreBy) (maxL := 5) (ret := (some .int)) (hh := [(0, 10, 13, 19)]) (by decide) rfl ?_
  intro p e s m args below meth c s₁ B hml hv
  obtain ⟨rfl, hsz, hP, hK, hD0, hE9⟩ := hv
  have hx := B.exec
  have hb := B.bytes
  have hr := B.returns
  have hts := atoms_spec (ws := wsL_scoreBy) B.pre
  have hown : s.vm.findClass RL = some m.cls := findClass_of_methodNamed B.named
  have hlocks := B.notSynchronized
  have htab : c.exceptionTable.toList = tableOf [(0, 10, 13, 19)] := vx_table (x := yL_scoreBy) B (hts (.codeWith yL_scoreBy cL_scoreBy 5 (some .int) [(0, 10, 13, 19)]) List.mem_cons_self)
  subst hsz
  have hD := hD0.self (sz := s.heap.size)
  generalize hAe : va_A [(h0, .inr (7, [.ref h2, .ref h3, .ref h4, .ref h5, .ref h6, .ref h7, .int 0, .int 0, .int 0, .int 0])), (h1, .inl (κ 2, 1, .inr (.inl (fun _ => 0))))] s.heap.size = A at hD hE9 ⊢
  have hE := hE9.1
  have hDc := hE9.2
  have hA : ∀ q : Nat, s.heap.size ≤ q → A q := fun q h => by rw [← hAe]; exact Or.inr h
  have hS : va_S A s.heap s.heap [] := va_S.rf
  have hP : va_P D vwCl [(h0, .inr (7, [.ref h2, .ref h3, .ref h4, .ref h5, .ref h6, .ref h7, .int 0, .int 0, .int 0, .int 0])), (h1, .inl (κ 2, 1, .inr (.inl (fun _ => 0))))] s.heap := hP
  have hl := lv_entry [.ref h0, .int p0, .int p1, .ref h1] (n := 5) (Nat.le_of_ble_eq_true rfl)
  rw [lg_entry_eq]
  generalize (lg_sl [.ref h0, .int p0, .int p1, .ref h1] ++ List.replicate (5 - (lg_sl [.ref h0, .int p0, .int p1, .ref h1]).length) Slot.unset).toArray = ls at hl ⊢
  have hl : lv_has ls 5 [(0, .ref h0), (1, .int p0), (2, .int p1), (3, .ref h1)] := hl
  refine lv_aload_n hx hb dL_scoreBy_0 rfl (lv_at hl 3 rfl) ?_
  refine lv_iconst (v := 0) hx hb dL_scoreBy_1 (by decide) ?_
  refine lv_aload_n hx hb dL_scoreBy_2 rfl (lv_at hl 0 rfl) ?_
  refine lv_iload_n hx hb dL_scoreBy_3 rfl (lv_at hl 1 rfl) ?_
  refine lv_iload_n hx hb dL_scoreBy_4 rfl (lv_at hl 2 rfl) ?_
  have hF := va_free (wc := []) hD hS hA [] rfl
  refine vx_calli (vx_runV (As := [.int p0, .int p1]) (rest := [.int 0, .ref h1]) ⟨hx, hb, hml, hown, hts⟩ (k_X5_scoreBy_5 l hst D κ ε h0 s.heap.size (p0) (p1) hf0 hf1 hf2 hf3 hf4) (cwV 2 hts gL_scoreBy_X5_scoreBy rfl rfl rfl (by decide +kernel) ⟨(Nat.le_of_ble_eq_true rfl), (Nat.le_of_ble_eq_true rfl)⟩) (pre2_V (q0 := 0) (ci := 7) (wc := []) hP hD hK hE9 hS hA [] (by decide) rfl rfl rfl) rfl rfl hl.1 rfl (lv_room (Nat.le_of_ble_eq_true rfl)) dL_scoreBy_5 ⟨(Nat.le_of_ble_eq_true rfl), (Nat.le_of_ble_eq_true rfl)⟩) hS (fun q _ h => hF q h) hF (fun q _ h => hF q h) (fun E9 ce q9 u t H locs ht hvm hw hB hz1 hk1 hS hce hcv hcl => ?_) (fun r u t H locs ht hvm hw hB hz1 hk1 hS => ?_)
  · try dsimp only at hB
    have hP1 : va_P D vwCl [] H := P_nil
    obtain ⟨hP, hD⟩ := post_j (ws' := [(h0, .inr (7, [.ref h2, .ref h3, .ref h4, .ref h5, .ref h6, .ref h7, .int 0, .int 0, .int 0, .int 0])), (h1, .inl (κ 2, 1, .inr (.inl (fun _ => 0))))]) (wr := [(h0, .inr (7, [.ref h2, .ref h3, .ref h4, .ref h5, .ref h6, .ref h7, .int 0, .int 0, .int 0, .int 0])), (h1, .inl (κ 2, 1, .inr (.inl (fun _ => 0))))]) (w1 := []) hP hD hF [] rfl [0, 1] rfl (by decide) (by decide) hk1 hP1 D_nil [0, 1] (by decide) rfl
    have hP : va_P D vwCl [(h0, .inr (7, [.ref h2, .ref h3, .ref h4, .ref h5, .ref h6, .ref h7, .int 0, .int 0, .int 0, .int 0])), (h1, .inl (κ 2, 1, .inr (.inl (fun _ => 0))))] H := hP
    have hD : va_D A [(h0, .inr (7, [.ref h2, .ref h3, .ref h4, .ref h5, .ref h6, .ref h7, .int 0, .int 0, .int 0, .int 0])), (h1, .inl (κ 2, 1, .inr (.inl (fun _ => 0))))] := hD
    rcases hB with ⟨c2, rfl⟩ | ⟨c3, rfl⟩
    · skip
      refine vx_catch (name := "java/lang/IllegalArgumentException") hown [] ⟨0, 10, 13, 19⟩ [] (htab.trans rfl) (fun z hz => nomatch hz) (by decide) (by decide) (hts _ wd425_L_scoreBy) (va_Nw.use rfl hE.2.2.2.2.2.2.2.2.2.2.2.2.2.2.1) hce hcv hcl ?_
      refine lv_astore (lv' := [(4, .ref q9), (0, .ref h0), (1, .int p0), (2, .int p1), (3, .ref h1)]) hx hb dL_scoreBy_13 hl (by decide) rfl (fun ls hl => ?_)
      refine lv_iconst (v := 1) hx hb dL_scoreBy_15 (by decide) ?_
      have hP9 := hP.sub (ws' := [(h1, .inl (κ 2, 1, .inr (.inl (fun _ => 0))))]) [1] rfl
      have hD9 := hD.sub (ws' := [(h1, .inl (κ 2, 1, .inr (.inl (fun _ => 0))))]) [1] (by decide) rfl
      refine W.widen (k := 1) (n := 6) (Nat.le_of_ble_eq_true rfl) (Nat.le_of_ble_eq_true rfl) ?_
      exact W.iret (v := 1) hx hb hr (fun t ht hW => ⟨⟨1, (fun _ => 0), rfl, (Or.inl ⟨c2, rfl⟩), by rw [ht]; exact hP9, hD9⟩, hS.F ht⟩) hS.2.2 dL_scoreBy_16
    · skip
      refine vx_catch (name := "java/lang/IllegalArgumentException") hown [] ⟨0, 10, 13, 19⟩ [] (htab.trans rfl) (fun z hz => nomatch hz) (by decide) (by decide) (hts _ wd425_L_scoreBy) (va_Nw.use rfl hE.2.2.2.2.2.2.2.2.2.2.2.2.2.2.1) hce hcv hcl ?_
      refine lv_astore (lv' := [(4, .ref q9), (0, .ref h0), (1, .int p0), (2, .int p1), (3, .ref h1)]) hx hb dL_scoreBy_13 hl (by decide) rfl (fun ls hl => ?_)
      refine lv_iconst (v := 1) hx hb dL_scoreBy_15 (by decide) ?_
      have hP9 := hP.sub (ws' := [(h1, .inl (κ 2, 1, .inr (.inl (fun _ => 0))))]) [1] rfl
      have hD9 := hD.sub (ws' := [(h1, .inl (κ 2, 1, .inr (.inl (fun _ => 0))))]) [1] (by decide) rfl
      refine W.widen (k := 1) (n := 6) (Nat.le_of_ble_eq_true rfl) (Nat.le_of_ble_eq_true rfl) ?_
      exact W.iret (v := 1) hx hb hr (fun t ht hW => ⟨⟨1, (fun _ => 0), rfl, (Or.inr ⟨c3, rfl⟩), by rw [ht]; exact hP9, hD9⟩, hS.F ht⟩) hS.2.2 dL_scoreBy_16
  · exact False.elim hw

set_option maxHeartbeats 4000000 in
set_option maxRecDepth 100000 in
theorem k_X6_scoreBy_15 (l : Launch) (D : va_G) (κ ε : Nat → Nat) (h0 h1 h2 h3 : Nat) (sz : Nat) (p0 : Int32) (p1 : Int32) (hf0 : p0 < 0) : Met l yX6_scoreBy wsX6_scoreBy ({ frames := 2, cells := 0, slots := 0, locals := 44 }) (va_Pc [.ref h0, .int p0, .int p1] (Pre2 D κ ε [(h0, .inr (8, [.int 0, .int 0, .int 2, .ref h1, .ref h2, .int 0, .int 500, .int 0, .int 0, .int 0, .ref h3]))] sz)) (va_Qi (fun r (u : List Value) => (u[0]? = some (.int 1)) ∧ (r = 0)) (fun u t => va_P D vwCl [(h0, .inr (8, u))] t.heap ∧ va_D (va_A [(h0, .inr (8, [.int 0, .int 0, .int 2, .ref h1, .ref h2, .int 0, .int 500, .int 0, .int 0, .int 0, .ref h3]))] sz) [(h0, .inr (8, u))]) (va_A [(h0, .inr (8, [.int 0, .int 0, .int 2, .ref h1, .ref h2, .int 0, .int 500, .int 0, .int 0, .int 0, .ref h3]))] sz)) 0 0 (va_A [(h0, .inr (8, [.int 0, .int 0, .int 2, .ref h1, .ref h2, .int 0, .int 500, .int 0, .int 0, .int 0, .ref h3]))] sz) := by
  refine Met.ofW (cc := cX6_scoreBy) (maxL := 3) (ret := (some .int)) (by decide) rfl ?_
  intro p e s m args below meth c s₁ B hml hv
  obtain ⟨rfl, hsz, hP, hK, hD0, hE9⟩ := hv
  have hx := B.exec
  have hb := B.bytes
  have hr := B.returns
  have hts := atoms_spec (ws := wsX6_scoreBy) B.pre
  have hown : s.vm.findClass RX6 = some m.cls := findClass_of_methodNamed B.named
  have hlocks := B.notSynchronized
  subst hsz
  have hD := hD0.self (sz := s.heap.size)
  generalize hAe : va_A [(h0, .inr (8, [.int 0, .int 0, .int 2, .ref h1, .ref h2, .int 0, .int 500, .int 0, .int 0, .int 0, .ref h3]))] s.heap.size = A at hD hE9 ⊢
  have hE := hE9.1
  have hDc := hE9.2
  have hA : ∀ q : Nat, s.heap.size ≤ q → A q := fun q h => by rw [← hAe]; exact Or.inr h
  have hS : va_S A s.heap s.heap [] := va_S.rf
  have hP : va_P D vwCl [(h0, .inr (8, [.int 0, .int 0, .int 2, .ref h1, .ref h2, .int 0, .int 500, .int 0, .int 0, .int 0, .ref h3]))] s.heap := hP
  have hl := lv_entry [.ref h0, .int p0, .int p1] (n := 3) (Nat.le_of_ble_eq_true rfl)
  rw [lg_entry_eq]
  generalize (lg_sl [.ref h0, .int p0, .int p1] ++ List.replicate (3 - (lg_sl [.ref h0, .int p0, .int p1]).length) Slot.unset).toArray = ls at hl ⊢
  have hl : lv_has ls 3 [(0, .ref h0), (1, .int p0), (2, .int p1)] := hl
  refine lv_aload_n hx hb dX6_scoreBy_0 rfl (lv_at hl 0 rfl) ?_
  refine lv_iload_n hx hb dX6_scoreBy_1 rfl (lv_at hl 1 rfl) ?_
  refine lv_iconst (v := 0) hx hb dX6_scoreBy_2 (by decide) ?_
  refine lv_iconst (v := 4) hx hb dX6_scoreBy_3 (by decide) ?_
  refine vp_callSi (W.runS (As := [.int p0, .int 0, .int 4]) (rest := [.ref h0]) ⟨hx, hb, hml, hown, hts⟩ (k_X6_isIn_25 l D κ ε (p0) hf0) (va_cwS 3 hts gX6_scoreBy_X6_isIn rfl rfl rfl (by decide +kernel) ⟨(Nat.le_of_ble_eq_true rfl), (Nat.le_of_ble_eq_true rfl)⟩) (pre0_S (wc := []) hP hK [] rfl) rfl rfl hl.1 rfl (lv_room (Nat.le_of_ble_eq_true rfl)) dX6_scoreBy_4 ⟨(Nat.le_of_ble_eq_true rfl), (Nat.le_of_ble_eq_true rfl)⟩) (fun r hw => ?_)
  rw [hw]
  refine lv_if_eq (tgt := 21) hx hb dX6_scoreBy_7 (by decide) (fun _ => ?_) (fun h => absurd (by decide) h)
  refine lv_iconst (v := 1) hx hb dX6_scoreBy_21 (by decide) ?_
  refine lv_goto (tgt := 26) hx hb dX6_scoreBy_22 (by decide) ?_
  refine lv_iconst (v := 1) hx hb dX6_scoreBy_26 (by decide) ?_
  have hF := va_free (wc := [(h0, .inr (8, [.int 0, .int 0, .int 2, .ref h1, .ref h2, .int 0, .int 500, .int 0, .int 0, .int 0, .ref h3]))]) hD hS hA [0] rfl
  refine va_calli (va_runV (As := [.int 1, .int 1]) (rest := []) ⟨hx, hb, hml, hown, hts⟩ (k_X6_start_1 l D κ ε h0 h1 h2 h3 s.heap.size (0) (2) (0) (500) (0) (0)) (cwV 2 hts gX6_scoreBy_X6_start rfl rfl rfl (by decide +kernel) ⟨(Nat.le_of_ble_eq_true rfl), (Nat.le_of_ble_eq_true rfl)⟩) (pre2_V (q0 := 0) (ci := 8) (wc := [(h0, .inr (8, [.int 0, .int 0, .int 2, .ref h1, .ref h2, .int 0, .int 500, .int 0, .int 0, .int 0, .ref h3]))]) hP hD hK hE9 hS hA [0] (by decide) rfl rfl rfl) rfl rfl hl.1 rfl (lv_room (Nat.le_of_ble_eq_true rfl)) dX6_scoreBy_27 ⟨(Nat.le_of_ble_eq_true rfl), (Nat.le_of_ble_eq_true rfl)⟩) hS (fun q _ h => hF q h) hF (fun r u1 t H locs ht hvm hw hB hz1 hk1 hS => ?_)
  try dsimp only at hw hB
  obtain ⟨hP1, hD1⟩ := hB
  rw [ht] at hP1
  obtain ⟨hP, hD⟩ := post_j (ws' := [(h0, .inr (8, [.int 1, .int 0, .int 2, .ref h1, .ref h2, .int 0, .int 500, .int 0, .int 0, .int 0, .ref h3]))]) (wr := []) (w1 := [(h0, .inr (8, [.int 1, .int 0, .int 2, .ref h1, .ref h2, .int 0, .int 500, .int 0, .int 0, .int 0, .ref h3]))]) hP hD hF [0] rfl [] rfl (by decide) (by decide) hk1 hP1 hD1 [0] (by decide) rfl
  have hP : va_P D vwCl [(h0, .inr (8, [.int 1, .int 0, .int 2, .ref h1, .ref h2, .int 0, .int 500, .int 0, .int 0, .int 0, .ref h3]))] H := hP
  have hD : va_D A [(h0, .inr (8, [.int 1, .int 0, .int 2, .ref h1, .ref h2, .int 0, .int 500, .int 0, .int 0, .int 0, .ref h3]))] := hD
  rw [hw]
  refine lv_if_eq (tgt := 37) hx hb dX6_scoreBy_30 (by decide) (fun h => absurd h (by decide)) (fun _ => ?_)
  refine lv_iconst (v := 0) hx hb dX6_scoreBy_33 (by decide) ?_
  refine lv_goto (tgt := 47) hx hb dX6_scoreBy_34 (by decide) ?_
  have hP9 := hP.sub (ws' := [(h0, .inr (8, [.int 1, .int 0, .int 2, .ref h1, .ref h2, .int 0, .int 500, .int 0, .int 0, .int 0, .ref h3]))]) [0] rfl
  have hD9 := hD.sub (ws' := [(h0, .inr (8, [.int 1, .int 0, .int 2, .ref h1, .ref h2, .int 0, .int 500, .int 0, .int 0, .int 0, .ref h3]))]) [0] (by decide) rfl
  exact W.iret (v := 0) hx hb hr (fun t ht hW => ⟨⟨0, [.int 1, .int 0, .int 2, .ref h1, .ref h2, .int 0, .int 500, .int 0, .int 0, .int 0, .ref h3], rfl, ⟨rfl, rfl⟩, by rw [ht]; exact hP9, hD9⟩, hS.F ht⟩) hS.2.2 dX6_scoreBy_47

set_option maxHeartbeats 4000000 in
set_option maxRecDepth 100000 in
theorem k_X6_isIn_55 (l : Launch) (D : va_G) (κ ε : Nat → Nat) (p0 : Int32) (hf0 : ¬ p0 = 0) (hf1 : ¬ p0 = 1) (hf2 : ¬ p0 = 2) (hf3 : ¬ p0 = 3) (hf4 : ¬ p0 = 4) (hf5 : ¬ p0 < 0) : Met l yX6_isIn wsX6_isIn ({ frames := 0, cells := 0, slots := 0, locals := 0 }) (va_Pc [.int p0, .int 0, .int 4] (Pre0 D κ [])) (vp_Si (fun r => (r = 0))) 0 0 (fun _ => False) := by
  refine Met.ofW (cc := cX6_isIn) (maxL := 3) (ret := (some .boolean)) (by decide) rfl ?_
  intro p e s m args below meth c s₁ B hml hv
  obtain ⟨rfl, hP, hK⟩ := hv
  have hx := B.exec
  have hb := B.bytes
  have hr := B.returns
  have hts := atoms_spec (ws := wsX6_isIn) B.pre
  have hown : s.vm.findClass RX6 = some m.cls := findClass_of_methodNamed B.named
  have hlocks := B.notSynchronized
  have hP : va_P D vwCl [] s.heap := hP
  have hl := lv_entry [.int p0, .int 0, .int 4] (n := 3) (Nat.le_of_ble_eq_true rfl)
  rw [lg_entry_eq]
  generalize (lg_sl [.int p0, .int 0, .int 4] ++ List.replicate (3 - (lg_sl [.int p0, .int 0, .int 4]).length) Slot.unset).toArray = ls at hl ⊢
  have hl : lv_has ls 3 [(0, .int p0), (1, .int 0), (2, .int 4)] := hl
  refine lv_iload_n hx hb dX6_isIn_0 rfl (lv_at hl 0 rfl) ?_
  refine lv_iload_n hx hb dX6_isIn_1 rfl (lv_at hl 1 rfl) ?_
  refine lv_icmp_lt (tgt := 14) hx hb dX6_isIn_2 (by decide) (fun h => absurd h hf5) (fun _ => ?_)
  refine lv_iload_n hx hb dX6_isIn_5 rfl (lv_at hl 0 rfl) ?_
  refine lv_iload_n hx hb dX6_isIn_6 rfl (lv_at hl 2 rfl) ?_
  refine lv_icmp_gt (tgt := 14) hx hb dX6_isIn_7 (by decide) (fun _ => ?_) (fun h => absurd (iv324 _ hf0 hf1 hf2 hf3 hf4 hf5) h)
  refine lv_iconst (v := 0) hx hb dX6_isIn_14 (by decide) ?_
  exact W.zret (v := 0) hx hb hr rfl (fun t ht hW => ⟨0, rfl, rfl, ht⟩) (fun q hq => absurd hq List.not_mem_nil) dX6_isIn_15

set_option maxHeartbeats 4000000 in
set_option maxRecDepth 100000 in
theorem k_X6_scoreBy_16 (l : Launch) (D : va_G) (κ ε : Nat → Nat) (h0 h1 h2 h3 : Nat) (sz : Nat) (p0 : Int32) (p1 : Int32) (hf0 : ¬ p0 = 0) (hf1 : ¬ p0 = 1) (hf2 : ¬ p0 = 2) (hf3 : ¬ p0 = 3) (hf4 : ¬ p0 = 4) (hf5 : ¬ p0 < 0) : Met l yX6_scoreBy wsX6_scoreBy ({ frames := 2, cells := 0, slots := 0, locals := 44 }) (va_Pc [.ref h0, .int p0, .int p1] (Pre2 D κ ε [(h0, .inr (8, [.int 0, .int 0, .int 2, .ref h1, .ref h2, .int 0, .int 500, .int 0, .int 0, .int 0, .ref h3]))] sz)) (va_Qi (fun r (u : List Value) => (u[0]? = some (.int 1)) ∧ (r = 0)) (fun u t => va_P D vwCl [(h0, .inr (8, u))] t.heap ∧ va_D (va_A [(h0, .inr (8, [.int 0, .int 0, .int 2, .ref h1, .ref h2, .int 0, .int 500, .int 0, .int 0, .int 0, .ref h3]))] sz) [(h0, .inr (8, u))]) (va_A [(h0, .inr (8, [.int 0, .int 0, .int 2, .ref h1, .ref h2, .int 0, .int 500, .int 0, .int 0, .int 0, .ref h3]))] sz)) 0 0 (va_A [(h0, .inr (8, [.int 0, .int 0, .int 2, .ref h1, .ref h2, .int 0, .int 500, .int 0, .int 0, .int 0, .ref h3]))] sz) := by
  refine Met.ofW (cc := cX6_scoreBy) (maxL := 3) (ret := (some .int)) (by decide) rfl ?_
  intro p e s m args below meth c s₁ B hml hv
  obtain ⟨rfl, hsz, hP, hK, hD0, hE9⟩ := hv
  have hx := B.exec
  have hb := B.bytes
  have hr := B.returns
  have hts := atoms_spec (ws := wsX6_scoreBy) B.pre
  have hown : s.vm.findClass RX6 = some m.cls := findClass_of_methodNamed B.named
  have hlocks := B.notSynchronized
  subst hsz
  have hD := hD0.self (sz := s.heap.size)
  generalize hAe : va_A [(h0, .inr (8, [.int 0, .int 0, .int 2, .ref h1, .ref h2, .int 0, .int 500, .int 0, .int 0, .int 0, .ref h3]))] s.heap.size = A at hD hE9 ⊢
  have hE := hE9.1
  have hDc := hE9.2
  have hA : ∀ q : Nat, s.heap.size ≤ q → A q := fun q h => by rw [← hAe]; exact Or.inr h
  have hS : va_S A s.heap s.heap [] := va_S.rf
  have hP : va_P D vwCl [(h0, .inr (8, [.int 0, .int 0, .int 2, .ref h1, .ref h2, .int 0, .int 500, .int 0, .int 0, .int 0, .ref h3]))] s.heap := hP
  have hl := lv_entry [.ref h0, .int p0, .int p1] (n := 3) (Nat.le_of_ble_eq_true rfl)
  rw [lg_entry_eq]
  generalize (lg_sl [.ref h0, .int p0, .int p1] ++ List.replicate (3 - (lg_sl [.ref h0, .int p0, .int p1]).length) Slot.unset).toArray = ls at hl ⊢
  have hl : lv_has ls 3 [(0, .ref h0), (1, .int p0), (2, .int p1)] := hl
  refine lv_aload_n hx hb dX6_scoreBy_0 rfl (lv_at hl 0 rfl) ?_
  refine lv_iload_n hx hb dX6_scoreBy_1 rfl (lv_at hl 1 rfl) ?_
  refine lv_iconst (v := 0) hx hb dX6_scoreBy_2 (by decide) ?_
  refine lv_iconst (v := 4) hx hb dX6_scoreBy_3 (by decide) ?_
  refine vp_callSi (W.runS (As := [.int p0, .int 0, .int 4]) (rest := [.ref h0]) ⟨hx, hb, hml, hown, hts⟩ (k_X6_isIn_55 l D κ ε (p0) hf0 hf1 hf2 hf3 hf4 hf5) (va_cwS 3 hts gX6_scoreBy_X6_isIn rfl rfl rfl (by decide +kernel) ⟨(Nat.le_of_ble_eq_true rfl), (Nat.le_of_ble_eq_true rfl)⟩) (pre0_S (wc := []) hP hK [] rfl) rfl rfl hl.1 rfl (lv_room (Nat.le_of_ble_eq_true rfl)) dX6_scoreBy_4 ⟨(Nat.le_of_ble_eq_true rfl), (Nat.le_of_ble_eq_true rfl)⟩) (fun r hw => ?_)
  rw [hw]
  refine lv_if_eq (tgt := 21) hx hb dX6_scoreBy_7 (by decide) (fun _ => ?_) (fun h => absurd (by decide) h)
  refine lv_iconst (v := 1) hx hb dX6_scoreBy_21 (by decide) ?_
  refine lv_goto (tgt := 26) hx hb dX6_scoreBy_22 (by decide) ?_
  refine lv_iconst (v := 1) hx hb dX6_scoreBy_26 (by decide) ?_
  have hF := va_free (wc := [(h0, .inr (8, [.int 0, .int 0, .int 2, .ref h1, .ref h2, .int 0, .int 500, .int 0, .int 0, .int 0, .ref h3]))]) hD hS hA [0] rfl
  refine va_calli (va_runV (As := [.int 1, .int 1]) (rest := []) ⟨hx, hb, hml, hown, hts⟩ (k_X6_start_1 l D κ ε h0 h1 h2 h3 s.heap.size (0) (2) (0) (500) (0) (0)) (cwV 2 hts gX6_scoreBy_X6_start rfl rfl rfl (by decide +kernel) ⟨(Nat.le_of_ble_eq_true rfl), (Nat.le_of_ble_eq_true rfl)⟩) (pre2_V (q0 := 0) (ci := 8) (wc := [(h0, .inr (8, [.int 0, .int 0, .int 2, .ref h1, .ref h2, .int 0, .int 500, .int 0, .int 0, .int 0, .ref h3]))]) hP hD hK hE9 hS hA [0] (by decide) rfl rfl rfl) rfl rfl hl.1 rfl (lv_room (Nat.le_of_ble_eq_true rfl)) dX6_scoreBy_27 ⟨(Nat.le_of_ble_eq_true rfl), (Nat.le_of_ble_eq_true rfl)⟩) hS (fun q _ h => hF q h) hF (fun r u1 t H locs ht hvm hw hB hz1 hk1 hS => ?_)
  try dsimp only at hw hB
  obtain ⟨hP1, hD1⟩ := hB
  rw [ht] at hP1
  obtain ⟨hP, hD⟩ := post_j (ws' := [(h0, .inr (8, [.int 1, .int 0, .int 2, .ref h1, .ref h2, .int 0, .int 500, .int 0, .int 0, .int 0, .ref h3]))]) (wr := []) (w1 := [(h0, .inr (8, [.int 1, .int 0, .int 2, .ref h1, .ref h2, .int 0, .int 500, .int 0, .int 0, .int 0, .ref h3]))]) hP hD hF [0] rfl [] rfl (by decide) (by decide) hk1 hP1 hD1 [0] (by decide) rfl
  have hP : va_P D vwCl [(h0, .inr (8, [.int 1, .int 0, .int 2, .ref h1, .ref h2, .int 0, .int 500, .int 0, .int 0, .int 0, .ref h3]))] H := hP
  have hD : va_D A [(h0, .inr (8, [.int 1, .int 0, .int 2, .ref h1, .ref h2, .int 0, .int 500, .int 0, .int 0, .int 0, .ref h3]))] := hD
  rw [hw]
  refine lv_if_eq (tgt := 37) hx hb dX6_scoreBy_30 (by decide) (fun h => absurd h (by decide)) (fun _ => ?_)
  refine lv_iconst (v := 0) hx hb dX6_scoreBy_33 (by decide) ?_
  refine lv_goto (tgt := 47) hx hb dX6_scoreBy_34 (by decide) ?_
  have hP9 := hP.sub (ws' := [(h0, .inr (8, [.int 1, .int 0, .int 2, .ref h1, .ref h2, .int 0, .int 500, .int 0, .int 0, .int 0, .ref h3]))]) [0] rfl
  have hD9 := hD.sub (ws' := [(h0, .inr (8, [.int 1, .int 0, .int 2, .ref h1, .ref h2, .int 0, .int 500, .int 0, .int 0, .int 0, .ref h3]))]) [0] (by decide) rfl
  exact W.iret (v := 0) hx hb hr (fun t ht hW => ⟨⟨0, [.int 1, .int 0, .int 2, .ref h1, .ref h2, .int 0, .int 500, .int 0, .int 0, .int 0, .ref h3], rfl, ⟨rfl, rfl⟩, by rw [ht]; exact hP9, hD9⟩, hS.F ht⟩) hS.2.2 dX6_scoreBy_47

set_option maxHeartbeats 4000000 in
set_option maxRecDepth 100000 in
theorem case_31 {p : Program} {e : Env} {s : State} {m : MethodId} {below : List Frame} {meth : Method} {c : Code} (l : Launch) (hst : l.stackTraces = false) {b : Nat} {xs : Nat → Int32} (C0 : lw_At p s m meth c b 4 xs) (D : va_G) (κ ε : Nat → Nat) (hK : va_K D vwCl (tys κ) s) (hE9 : En2 ε (fun q : Nat => s.heap.size ≤ q) s s.heap) (qx qm qo : Nat) (ux um : Nat → Nat) {H : Heap} {locs : List Loc} (hP : va_P D vwCl [(qx, .inr (7, [.ref (ux 0), .ref (ux 27), .ref (ux 30), .ref (ux 31), .ref (ux 35), .ref (ux 36), .int 0, .int 0, .int 0, .int 0])), ((ux 0), .inr (2, [.int 0, .int 2, .ref (ux 1), .ref (ux 2)])), ((ux 1), .inl (κ 3, 4, .inr (.inr (.inr (.inr (sel [(ux 3), (ux 9), (ux 15), (ux 21)])))))), ((ux 2), .inl (κ 3, 4, .inr (.inr (.inr (.inr (sel [(ux 6), (ux 12), (ux 18), (ux 24)])))))), ((ux 3), .inr (6, [.ref (ux 4), .ref (ux 5), .int 0])), ((ux 6), .inr (6, [.ref (ux 7), .ref (ux 8), .int 0])), ((ux 9), .inr (6, [.ref (ux 10), .ref (ux 11), .int 0])), ((ux 27), .inr (3, [.ref (ux 0), .int 0, .int 500, .ref (ux 28), .ref (ux 29), .long 0, .int 0])), ((ux 28), .inl (κ 0, 13, .inl (fun _ => 0))), ((ux 29), .inl (κ 0, 13, .inl (fun _ => 0))), (qm, .inr (8, [.int 0, .int 0, .int 2, .ref (um 0), .ref (um 1), .int 0, .int 500, .int 0, .int 0, .int 0, .ref (um 6)])), ((um 0), .inr (1, [.int 0, .ref (ε 1), .int 0])), ((um 1), .inl (κ 4, 4, .inr (.inr (.inr (.inr (sel [(um 2), (um 3), (um 4), (um 5)])))))), ((um 2), .inl (κ 0, 14, .inl (fun _ => 0))), ((um 3), .inl (κ 0, 196, .inl (fun _ => 0))), (qo, .inl (κ 2, 1, .inr (.inl (fun _ => 0))))] H) (hD : va_D (fun q : Nat => s.heap.size ≤ q) [(qx, .inr (7, [.ref (ux 0), .ref (ux 27), .ref (ux 30), .ref (ux 31), .ref (ux 35), .ref (ux 36), .int 0, .int 0, .int 0, .int 0])), ((ux 0), .inr (2, [.int 0, .int 2, .ref (ux 1), .ref (ux 2)])), ((ux 1), .inl (κ 3, 4, .inr (.inr (.inr (.inr (sel [(ux 3), (ux 9), (ux 15), (ux 21)])))))), ((ux 2), .inl (κ 3, 4, .inr (.inr (.inr (.inr (sel [(ux 6), (ux 12), (ux 18), (ux 24)])))))), ((ux 3), .inr (6, [.ref (ux 4), .ref (ux 5), .int 0])), ((ux 6), .inr (6, [.ref (ux 7), .ref (ux 8), .int 0])), ((ux 9), .inr (6, [.ref (ux 10), .ref (ux 11), .int 0])), ((ux 27), .inr (3, [.ref (ux 0), .int 0, .int 500, .ref (ux 28), .ref (ux 29), .long 0, .int 0])), ((ux 28), .inl (κ 0, 13, .inl (fun _ => 0))), ((ux 29), .inl (κ 0, 13, .inl (fun _ => 0))), (qm, .inr (8, [.int 0, .int 0, .int 2, .ref (um 0), .ref (um 1), .int 0, .int 500, .int 0, .int 0, .int 0, .ref (um 6)])), ((um 0), .inr (1, [.int 0, .ref (ε 1), .int 0])), ((um 1), .inl (κ 4, 4, .inr (.inr (.inr (.inr (sel [(um 2), (um 3), (um 4), (um 5)])))))), ((um 2), .inl (κ 0, 14, .inl (fun _ => 0))), ((um 3), .inl (κ 0, 196, .inl (fun _ => 0))), (qo, .inl (κ 2, 1, .inr (.inl (fun _ => 0))))]) (hS : va_S (fun q : Nat => s.heap.size ≤ q) s.heap H locs) {ls : Array Slot} (hl : lv_has ls 9 [(0, .ref b), (1, .ref qx), (2, .ref qm), (3, .ref qo), (4, .int 0)]) : W p l e room_1 s m #[Value.ref b] below meth c H locs 100 120000 (lw_Z below #[Value.ref b] s) (F0 m 1551 ls []) := by
  obtain ⟨hx, hb, hr, hml, hown0, hts0, hX, hbl, hlocks, hgv⟩ := id C0
  have hts : ∀ w ∈ wsL_law, w.before #[Value.ref b] s = true := fun w h => hts0 w (wsL_law_in w h)
  have hown : s.vm.findClass RL = some m.cls := hown0
  have hE := hE9.1
  have hDc := hE9.2
  have hA : ∀ q : Nat, s.heap.size ≤ q → (fun q : Nat => s.heap.size ≤ q) q := fun _ h => h
  have hbA : ¬ (fun q : Nat => s.heap.size ≤ q) b := Nat.not_le.mpr hbl
  by_cases e1 : (xs 1) = 0
  · skip
    refine lv_aload_n hx hb dL_law_1551 rfl (lv_at hl 1 rfl) ?_
    refine lv_aload_n hx hb dL_law_1552 rfl (lv_at hl 0 rfl) ?_
    refine lv_iload hx hb dL_law_1553 (lv_at hl 4 rfl) ?_
    refine lv_iconst (v := 1) hx hb dL_law_1555 (by decide) ?_
    refine lv_iadd hx hb dL_law_1556 ?_
    refine tpi (v := 1) (by decide) ?_
    refine va_sld hx hb hX hbl hbA hS (vpl (by decide)) dL_law_1557 ?_
    refine tpi (v := (xs 1)) rfl ?_
    refine tpi (v := 0) e1 ?_
    refine lv_aload_n hx hb dL_law_1558 rfl (lv_at hl 0 rfl) ?_
    refine lv_iload hx hb dL_law_1559 (lv_at hl 4 rfl) ?_
    refine lv_iconst (v := 2) hx hb dL_law_1561 (by decide) ?_
    refine lv_iadd hx hb dL_law_1562 ?_
    refine tpi (v := 2) (by decide) ?_
    refine va_sld hx hb hX hbl hbA hS (vpl (by decide)) dL_law_1563 ?_
    refine tpi (v := (xs 2)) rfl ?_
    refine lv_aload_n hx hb dL_law_1564 rfl (lv_at hl 3 rfl) ?_
    have hF := va_free (wc := [(qx, .inr (7, [.ref (ux 0), .ref (ux 27), .ref (ux 30), .ref (ux 31), .ref (ux 35), .ref (ux 36), .int 0, .int 0, .int 0, .int 0])), (qo, .inl (κ 2, 1, .inr (.inl (fun _ => 0)))), ((ux 0), .inr (2, [.int 0, .int 2, .ref (ux 1), .ref (ux 2)])), ((ux 27), .inr (3, [.ref (ux 0), .int 0, .int 500, .ref (ux 28), .ref (ux 29), .long 0, .int 0])), ((ux 1), .inl (κ 3, 4, .inr (.inr (.inr (.inr (sel [(ux 3), (ux 9), (ux 15), (ux 21)])))))), ((ux 28), .inl (κ 0, 13, .inl (fun _ => 0))), ((ux 29), .inl (κ 0, 13, .inl (fun _ => 0))), ((ux 9), .inr (6, [.ref (ux 10), .ref (ux 11), .int 0]))]) hD hS hA [0, 15, 1, 7, 2, 8, 9, 6] rfl
    refine va_calli (vx_runSW (As := [.ref qx, .int 0, .int (xs 2), .ref qo]) (rest := []) ⟨hx, hb, hml, hown, hts⟩ (k_L_scoreBy_0 l hst D κ ε qx qo (ux 0) (ux 27) (ux 30) (ux 31) (ux 35) (ux 36) (ux 1) (ux 2) (ux 28) (ux 29) (ux 3) (ux 9) (ux 15) (ux 21) (ux 10) (ux 11) H.size ((xs 2))) (vx_cwSW 4 hts gL_law_L_scoreBy rfl rfl rfl (by decide +kernel) ⟨(Nat.le_of_ble_eq_true rfl), (Nat.le_of_ble_eq_true rfl)⟩) (pre2_S (wc := [(qx, .inr (7, [.ref (ux 0), .ref (ux 27), .ref (ux 30), .ref (ux 31), .ref (ux 35), .ref (ux 36), .int 0, .int 0, .int 0, .int 0])), (qo, .inl (κ 2, 1, .inr (.inl (fun _ => 0)))), ((ux 0), .inr (2, [.int 0, .int 2, .ref (ux 1), .ref (ux 2)])), ((ux 27), .inr (3, [.ref (ux 0), .int 0, .int 500, .ref (ux 28), .ref (ux 29), .long 0, .int 0])), ((ux 1), .inl (κ 3, 4, .inr (.inr (.inr (.inr (sel [(ux 3), (ux 9), (ux 15), (ux 21)])))))), ((ux 28), .inl (κ 0, 13, .inl (fun _ => 0))), ((ux 29), .inl (κ 0, 13, .inl (fun _ => 0))), ((ux 9), .inr (6, [.ref (ux 10), .ref (ux 11), .int 0]))]) hP hD hK hE9 hS hA [0, 15, 1, 7, 2, 8, 9, 6] (by decide) rfl) rfl rfl hl.1 rfl (lv_room (Nat.le_of_ble_eq_true rfl)) dL_law_1565 ⟨(Nat.le_of_ble_eq_true rfl), (Nat.le_of_ble_eq_true rfl)⟩) hS (fun q _ h => hF q h) hF (fun r u2 t H locs ht hvm hw hB hz1 hk1 hS => ?_)
    try dsimp only at hw hB
    obtain ⟨hP1, hD1⟩ := hB
    rw [ht] at hP1
    obtain ⟨hP, hD⟩ := post_j (ws' := [((ux 2), .inl (κ 3, 4, .inr (.inr (.inr (.inr (sel [(ux 6), (ux 12), (ux 18), (ux 24)])))))), ((ux 3), .inr (6, [.ref (ux 4), .ref (ux 5), .int 0])), ((ux 6), .inr (6, [.ref (ux 7), .ref (ux 8), .int 0])), (qm, .inr (8, [.int 0, .int 0, .int 2, .ref (um 0), .ref (um 1), .int 0, .int 500, .int 0, .int 0, .int 0, .ref (um 6)])), ((um 0), .inr (1, [.int 0, .ref (ε 1), .int 0])), ((um 1), .inl (κ 4, 4, .inr (.inr (.inr (.inr (sel [(um 2), (um 3), (um 4), (um 5)])))))), ((um 2), .inl (κ 0, 14, .inl (fun _ => 0))), ((um 3), .inl (κ 0, 196, .inl (fun _ => 0))), (qo, .inl (κ 2, 1, .inr (.inl u2)))]) (wr := [((ux 2), .inl (κ 3, 4, .inr (.inr (.inr (.inr (sel [(ux 6), (ux 12), (ux 18), (ux 24)])))))), ((ux 3), .inr (6, [.ref (ux 4), .ref (ux 5), .int 0])), ((ux 6), .inr (6, [.ref (ux 7), .ref (ux 8), .int 0])), (qm, .inr (8, [.int 0, .int 0, .int 2, .ref (um 0), .ref (um 1), .int 0, .int 500, .int 0, .int 0, .int 0, .ref (um 6)])), ((um 0), .inr (1, [.int 0, .ref (ε 1), .int 0])), ((um 1), .inl (κ 4, 4, .inr (.inr (.inr (.inr (sel [(um 2), (um 3), (um 4), (um 5)])))))), ((um 2), .inl (κ 0, 14, .inl (fun _ => 0))), ((um 3), .inl (κ 0, 196, .inl (fun _ => 0)))]) (w1 := [(qo, .inl (κ 2, 1, .inr (.inl u2)))]) hP hD hF [0, 15, 1, 7, 2, 8, 9, 6] rfl [3, 4, 5, 10, 11, 12, 13, 14] rfl (by decide) (by decide) hk1 hP1 hD1 [0, 1, 2, 3, 4, 5, 6, 7, 8] (by decide) rfl
    have hP : va_P D vwCl [((ux 2), .inl (κ 3, 4, .inr (.inr (.inr (.inr (sel [(ux 6), (ux 12), (ux 18), (ux 24)])))))), ((ux 3), .inr (6, [.ref (ux 4), .ref (ux 5), .int 0])), ((ux 6), .inr (6, [.ref (ux 7), .ref (ux 8), .int 0])), (qm, .inr (8, [.int 0, .int 0, .int 2, .ref (um 0), .ref (um 1), .int 0, .int 500, .int 0, .int 0, .int 0, .ref (um 6)])), ((um 0), .inr (1, [.int 0, .ref (ε 1), .int 0])), ((um 1), .inl (κ 4, 4, .inr (.inr (.inr (.inr (sel [(um 2), (um 3), (um 4), (um 5)])))))), ((um 2), .inl (κ 0, 14, .inl (fun _ => 0))), ((um 3), .inl (κ 0, 196, .inl (fun _ => 0))), (qo, .inl (κ 2, 1, .inr (.inl u2)))] H := hP
    have hD : va_D (fun q : Nat => s.heap.size ≤ q) [((ux 2), .inl (κ 3, 4, .inr (.inr (.inr (.inr (sel [(ux 6), (ux 12), (ux 18), (ux 24)])))))), ((ux 3), .inr (6, [.ref (ux 4), .ref (ux 5), .int 0])), ((ux 6), .inr (6, [.ref (ux 7), .ref (ux 8), .int 0])), (qm, .inr (8, [.int 0, .int 0, .int 2, .ref (um 0), .ref (um 1), .int 0, .int 500, .int 0, .int 0, .int 0, .ref (um 6)])), ((um 0), .inr (1, [.int 0, .ref (ε 1), .int 0])), ((um 1), .inl (κ 4, 4, .inr (.inr (.inr (.inr (sel [(um 2), (um 3), (um 4), (um 5)])))))), ((um 2), .inl (κ 0, 14, .inl (fun _ => 0))), ((um 3), .inl (κ 0, 196, .inl (fun _ => 0))), (qo, .inl (κ 2, 1, .inr (.inl u2)))] := hD
    rcases hw with ⟨c3, rfl⟩ | ⟨c4, c5, rfl⟩ | ⟨c6, c7, hu8, rfl⟩
    · skip
      refine lv_istore (lv' := [(5, .int 1), (0, .ref b), (1, .ref qx), (2, .ref qm), (3, .ref qo), (4, .int 0)]) hx hb dL_law_1568 hl (by decide) rfl (fun ls hl => ?_)
      refine lv_aload_n hx hb dL_law_1570 rfl (lv_at hl 3 rfl) ?_
      refine lv_aload_n hx hb dL_law_1571 rfl (lv_at hl 1 rfl) ?_
      refine lv_iload hx hb dL_law_1572 (lv_at hl 5 rfl) ?_
      refine lv_iconst (v := 1) hx hb dL_law_1574 (by decide) ?_
      refine lv_iadd hx hb dL_law_1575 ?_
      refine tpi (v := 1) (by decide) ?_
      refine va_sld hx hb hX hbl hbA hS (vpl (by decide)) dL_law_1576 ?_
      refine tpi (v := (xs 1)) rfl ?_
      refine tpi (v := 0) e1 ?_
      refine lv_aload_n hx hb dL_law_1577 rfl (lv_at hl 1 rfl) ?_
      refine lv_iload hx hb dL_law_1578 (lv_at hl 5 rfl) ?_
      refine lv_iconst (v := 2) hx hb dL_law_1580 (by decide) ?_
      refine lv_iadd hx hb dL_law_1581 ?_
      refine tpi (v := 2) (by decide) ?_
      refine va_sld hx hb hX hbl hbA hS (vpl (by decide)) dL_law_1582 ?_
      refine tpi (v := (xs 2)) rfl ?_
      have hF := va_free (wc := [(qm, .inr (8, [.int 0, .int 0, .int 2, .ref (um 0), .ref (um 1), .int 0, .int 500, .int 0, .int 0, .int 0, .ref (um 6)]))]) hD hS hA [3] rfl
      refine va_calli (va_runV (As := [.int 0, .int (xs 2)]) (rest := []) ⟨hx, hb, hml, hown, hts⟩ (k_X6_scoreBy_0 l D κ ε qm (um 0) (um 1) (um 6) H.size ((xs 2)) c3) (cwV 2 hts gL_law_X6_scoreBy rfl rfl rfl (by decide +kernel) ⟨(Nat.le_of_ble_eq_true rfl), (Nat.le_of_ble_eq_true rfl)⟩) (pre2_V (q0 := 3) (ci := 8) (wc := [(qm, .inr (8, [.int 0, .int 0, .int 2, .ref (um 0), .ref (um 1), .int 0, .int 500, .int 0, .int 0, .int 0, .ref (um 6)]))]) hP hD hK hE9 hS hA [3] (by decide) rfl rfl rfl) rfl rfl hl.1 rfl (lv_room (Nat.le_of_ble_eq_true rfl)) dL_law_1583 ⟨(Nat.le_of_ble_eq_true rfl), (Nat.le_of_ble_eq_true rfl)⟩) hS (fun q _ h => hF q h) hF (fun r u9 t H locs ht hvm hw hB hz1 hk1 hS => ?_)
      try dsimp only at hw hB
      obtain ⟨hP1, hD1⟩ := hB
      rw [ht] at hP1
      obtain ⟨hP, hD⟩ := post_j (ws' := [((ux 2), .inl (κ 3, 4, .inr (.inr (.inr (.inr (sel [(ux 6), (ux 12), (ux 18), (ux 24)])))))), ((ux 3), .inr (6, [.ref (ux 4), .ref (ux 5), .int 0])), ((ux 6), .inr (6, [.ref (ux 7), .ref (ux 8), .int 0])), (qm, .inr (8, u9)), ((um 0), .inr (1, [.int 0, .ref (ε 1), .int 0])), ((um 1), .inl (κ 4, 4, .inr (.inr (.inr (.inr (sel [(um 2), (um 3), (um 4), (um 5)])))))), ((um 2), .inl (κ 0, 14, .inl (fun _ => 0))), ((um 3), .inl (κ 0, 196, .inl (fun _ => 0))), (qo, .inl (κ 2, 1, .inr (.inl u2)))]) (wr := [((ux 2), .inl (κ 3, 4, .inr (.inr (.inr (.inr (sel [(ux 6), (ux 12), (ux 18), (ux 24)])))))), ((ux 3), .inr (6, [.ref (ux 4), .ref (ux 5), .int 0])), ((ux 6), .inr (6, [.ref (ux 7), .ref (ux 8), .int 0])), ((um 0), .inr (1, [.int 0, .ref (ε 1), .int 0])), ((um 1), .inl (κ 4, 4, .inr (.inr (.inr (.inr (sel [(um 2), (um 3), (um 4), (um 5)])))))), ((um 2), .inl (κ 0, 14, .inl (fun _ => 0))), ((um 3), .inl (κ 0, 196, .inl (fun _ => 0))), (qo, .inl (κ 2, 1, .inr (.inl u2)))]) (w1 := [(qm, .inr (8, u9))]) hP hD hF [3] rfl [0, 1, 2, 4, 5, 6, 7, 8] rfl (by decide) (by decide) hk1 hP1 hD1 [0, 1, 2, 8, 3, 4, 5, 6, 7] (by decide) rfl
      have hP : va_P D vwCl [((ux 2), .inl (κ 3, 4, .inr (.inr (.inr (.inr (sel [(ux 6), (ux 12), (ux 18), (ux 24)])))))), ((ux 3), .inr (6, [.ref (ux 4), .ref (ux 5), .int 0])), ((ux 6), .inr (6, [.ref (ux 7), .ref (ux 8), .int 0])), (qm, .inr (8, u9)), ((um 0), .inr (1, [.int 0, .ref (ε 1), .int 0])), ((um 1), .inl (κ 4, 4, .inr (.inr (.inr (.inr (sel [(um 2), (um 3), (um 4), (um 5)])))))), ((um 2), .inl (κ 0, 14, .inl (fun _ => 0))), ((um 3), .inl (κ 0, 196, .inl (fun _ => 0))), (qo, .inl (κ 2, 1, .inr (.inl u2)))] H := hP
      have hD : va_D (fun q : Nat => s.heap.size ≤ q) [((ux 2), .inl (κ 3, 4, .inr (.inr (.inr (.inr (sel [(ux 6), (ux 12), (ux 18), (ux 24)])))))), ((ux 3), .inr (6, [.ref (ux 4), .ref (ux 5), .int 0])), ((ux 6), .inr (6, [.ref (ux 7), .ref (ux 8), .int 0])), (qm, .inr (8, u9)), ((um 0), .inr (1, [.int 0, .ref (ε 1), .int 0])), ((um 1), .inl (κ 4, 4, .inr (.inr (.inr (.inr (sel [(um 2), (um 3), (um 4), (um 5)])))))), ((um 2), .inl (κ 0, 14, .inl (fun _ => 0))), ((um 3), .inl (κ 0, 196, .inl (fun _ => 0))), (qo, .inl (κ 2, 1, .inr (.inl u2)))] := hD
      obtain ⟨hu10, rfl⟩ := hw
      refine lv_istore (lv' := [(6, .int 0), (5, .int 1), (0, .ref b), (1, .ref qx), (2, .ref qm), (3, .ref qo), (4, .int 0)]) hx hb dL_law_1586 hl (by decide) rfl (fun ls hl => ?_)
      refine lv_aload_n hx hb dL_law_1588 rfl (lv_at hl 4 rfl) ?_
      refine vp_callSi (W.runV (As := []) (rest := []) ⟨hx, hb, hml, hown, hts⟩ (k_thrown l D κ qm u9 (1) hu10) (cwV 0 hts gL_law_X6_thrown rfl rfl rfl (by decide +kernel) ⟨(Nat.le_of_ble_eq_true rfl), (Nat.le_of_ble_eq_true rfl)⟩) (pre0_V (q0 := 3) (ci := 8) (wc := [(qm, .inr (8, u9))]) hP hK [3] rfl rfl rfl) rfl rfl hl.1 rfl (lv_room (Nat.le_of_ble_eq_true rfl)) dL_law_1589 ⟨(Nat.le_of_ble_eq_true rfl), (Nat.le_of_ble_eq_true rfl)⟩) (fun r hw => ?_)
      subst hw
      refine lv_iload hx hb dL_law_1592 (lv_at hl 1 rfl) ?_
      refine lv_icmp_eq (tgt := 1599) hx hb dL_law_1594 (by decide) (fun _ => ?_) (fun h => absurd (by decide) h)
      refine lv_iload hx hb dL_law_1599 (lv_at hl 1 rfl) ?_
      refine lv_if_ne (tgt := 1616) hx hb dL_law_1601 (by decide) (fun _ => ?_) (fun h => absurd h (by decide))
      refine lv_goto (tgt := 1677) hx hb dL_law_1616 (by decide) ?_
      exact law_end C0 (Nat.le_of_ble_eq_true rfl) (Nat.le_of_ble_eq_true rfl) hS (lv_sub hl [2, 6] rfl)
    · skip
      refine lv_istore (lv' := [(5, .int 1), (0, .ref b), (1, .ref qx), (2, .ref qm), (3, .ref qo), (4, .int 0)]) hx hb dL_law_1568 hl (by decide) rfl (fun ls hl => ?_)
      refine lv_aload_n hx hb dL_law_1570 rfl (lv_at hl 3 rfl) ?_
      refine lv_aload_n hx hb dL_law_1571 rfl (lv_at hl 1 rfl) ?_
      refine lv_iload hx hb dL_law_1572 (lv_at hl 5 rfl) ?_
      refine lv_iconst (v := 1) hx hb dL_law_1574 (by decide) ?_
      refine lv_iadd hx hb dL_law_1575 ?_
      refine tpi (v := 1) (by decide) ?_
      refine va_sld hx hb hX hbl hbA hS (vpl (by decide)) dL_law_1576 ?_
      refine tpi (v := (xs 1)) rfl ?_
      refine tpi (v := 0) e1 ?_
      refine lv_aload_n hx hb dL_law_1577 rfl (lv_at hl 1 rfl) ?_
      refine lv_iload hx hb dL_law_1578 (lv_at hl 5 rfl) ?_
      refine lv_iconst (v := 2) hx hb dL_law_1580 (by decide) ?_
      refine lv_iadd hx hb dL_law_1581 ?_
      refine tpi (v := 2) (by decide) ?_
      refine va_sld hx hb hX hbl hbA hS (vpl (by decide)) dL_law_1582 ?_
      refine tpi (v := (xs 2)) rfl ?_
      have hF := va_free (wc := [(qm, .inr (8, [.int 0, .int 0, .int 2, .ref (um 0), .ref (um 1), .int 0, .int 500, .int 0, .int 0, .int 0, .ref (um 6)]))]) hD hS hA [3] rfl
      refine va_calli (va_runV (As := [.int 0, .int (xs 2)]) (rest := []) ⟨hx, hb, hml, hown, hts⟩ (k_X6_scoreBy_1 l D κ ε qm (um 0) (um 1) (um 6) H.size ((xs 2)) c4 c5) (cwV 2 hts gL_law_X6_scoreBy rfl rfl rfl (by decide +kernel) ⟨(Nat.le_of_ble_eq_true rfl), (Nat.le_of_ble_eq_true rfl)⟩) (pre2_V (q0 := 3) (ci := 8) (wc := [(qm, .inr (8, [.int 0, .int 0, .int 2, .ref (um 0), .ref (um 1), .int 0, .int 500, .int 0, .int 0, .int 0, .ref (um 6)]))]) hP hD hK hE9 hS hA [3] (by decide) rfl rfl rfl) rfl rfl hl.1 rfl (lv_room (Nat.le_of_ble_eq_true rfl)) dL_law_1583 ⟨(Nat.le_of_ble_eq_true rfl), (Nat.le_of_ble_eq_true rfl)⟩) hS (fun q _ h => hF q h) hF (fun r u11 t H locs ht hvm hw hB hz1 hk1 hS => ?_)
      try dsimp only at hw hB
      obtain ⟨hP1, hD1⟩ := hB
      rw [ht] at hP1
      obtain ⟨hP, hD⟩ := post_j (ws' := [((ux 2), .inl (κ 3, 4, .inr (.inr (.inr (.inr (sel [(ux 6), (ux 12), (ux 18), (ux 24)])))))), ((ux 3), .inr (6, [.ref (ux 4), .ref (ux 5), .int 0])), ((ux 6), .inr (6, [.ref (ux 7), .ref (ux 8), .int 0])), (qm, .inr (8, u11)), ((um 0), .inr (1, [.int 0, .ref (ε 1), .int 0])), ((um 1), .inl (κ 4, 4, .inr (.inr (.inr (.inr (sel [(um 2), (um 3), (um 4), (um 5)])))))), ((um 2), .inl (κ 0, 14, .inl (fun _ => 0))), ((um 3), .inl (κ 0, 196, .inl (fun _ => 0))), (qo, .inl (κ 2, 1, .inr (.inl u2)))]) (wr := [((ux 2), .inl (κ 3, 4, .inr (.inr (.inr (.inr (sel [(ux 6), (ux 12), (ux 18), (ux 24)])))))), ((ux 3), .inr (6, [.ref (ux 4), .ref (ux 5), .int 0])), ((ux 6), .inr (6, [.ref (ux 7), .ref (ux 8), .int 0])), ((um 0), .inr (1, [.int 0, .ref (ε 1), .int 0])), ((um 1), .inl (κ 4, 4, .inr (.inr (.inr (.inr (sel [(um 2), (um 3), (um 4), (um 5)])))))), ((um 2), .inl (κ 0, 14, .inl (fun _ => 0))), ((um 3), .inl (κ 0, 196, .inl (fun _ => 0))), (qo, .inl (κ 2, 1, .inr (.inl u2)))]) (w1 := [(qm, .inr (8, u11))]) hP hD hF [3] rfl [0, 1, 2, 4, 5, 6, 7, 8] rfl (by decide) (by decide) hk1 hP1 hD1 [0, 1, 2, 8, 3, 4, 5, 6, 7] (by decide) rfl
      have hP : va_P D vwCl [((ux 2), .inl (κ 3, 4, .inr (.inr (.inr (.inr (sel [(ux 6), (ux 12), (ux 18), (ux 24)])))))), ((ux 3), .inr (6, [.ref (ux 4), .ref (ux 5), .int 0])), ((ux 6), .inr (6, [.ref (ux 7), .ref (ux 8), .int 0])), (qm, .inr (8, u11)), ((um 0), .inr (1, [.int 0, .ref (ε 1), .int 0])), ((um 1), .inl (κ 4, 4, .inr (.inr (.inr (.inr (sel [(um 2), (um 3), (um 4), (um 5)])))))), ((um 2), .inl (κ 0, 14, .inl (fun _ => 0))), ((um 3), .inl (κ 0, 196, .inl (fun _ => 0))), (qo, .inl (κ 2, 1, .inr (.inl u2)))] H := hP
      have hD : va_D (fun q : Nat => s.heap.size ≤ q) [((ux 2), .inl (κ 3, 4, .inr (.inr (.inr (.inr (sel [(ux 6), (ux 12), (ux 18), (ux 24)])))))), ((ux 3), .inr (6, [.ref (ux 4), .ref (ux 5), .int 0])), ((ux 6), .inr (6, [.ref (ux 7), .ref (ux 8), .int 0])), (qm, .inr (8, u11)), ((um 0), .inr (1, [.int 0, .ref (ε 1), .int 0])), ((um 1), .inl (κ 4, 4, .inr (.inr (.inr (.inr (sel [(um 2), (um 3), (um 4), (um 5)])))))), ((um 2), .inl (κ 0, 14, .inl (fun _ => 0))), ((um 3), .inl (κ 0, 196, .inl (fun _ => 0))), (qo, .inl (κ 2, 1, .inr (.inl u2)))] := hD
      obtain ⟨hu12, rfl⟩ := hw
      refine lv_istore (lv' := [(6, .int 0), (5, .int 1), (0, .ref b), (1, .ref qx), (2, .ref qm), (3, .ref qo), (4, .int 0)]) hx hb dL_law_1586 hl (by decide) rfl (fun ls hl => ?_)
      refine lv_aload_n hx hb dL_law_1588 rfl (lv_at hl 4 rfl) ?_
      refine vp_callSi (W.runV (As := []) (rest := []) ⟨hx, hb, hml, hown, hts⟩ (k_thrown l D κ qm u11 (1) hu12) (cwV 0 hts gL_law_X6_thrown rfl rfl rfl (by decide +kernel) ⟨(Nat.le_of_ble_eq_true rfl), (Nat.le_of_ble_eq_true rfl)⟩) (pre0_V (q0 := 3) (ci := 8) (wc := [(qm, .inr (8, u11))]) hP hK [3] rfl rfl rfl) rfl rfl hl.1 rfl (lv_room (Nat.le_of_ble_eq_true rfl)) dL_law_1589 ⟨(Nat.le_of_ble_eq_true rfl), (Nat.le_of_ble_eq_true rfl)⟩) (fun r hw => ?_)
      subst hw
      refine lv_iload hx hb dL_law_1592 (lv_at hl 1 rfl) ?_
      refine lv_icmp_eq (tgt := 1599) hx hb dL_law_1594 (by decide) (fun _ => ?_) (fun h => absurd (by decide) h)
      refine lv_iload hx hb dL_law_1599 (lv_at hl 1 rfl) ?_
      refine lv_if_ne (tgt := 1616) hx hb dL_law_1601 (by decide) (fun _ => ?_) (fun h => absurd h (by decide))
      refine lv_goto (tgt := 1677) hx hb dL_law_1616 (by decide) ?_
      exact law_end C0 (Nat.le_of_ble_eq_true rfl) (Nat.le_of_ble_eq_true rfl) hS (lv_sub hl [2, 6] rfl)
    · skip
      refine lv_istore (lv' := [(5, .int 0), (0, .ref b), (1, .ref qx), (2, .ref qm), (3, .ref qo), (4, .int 0)]) hx hb dL_law_1568 hl (by decide) rfl (fun ls hl => ?_)
      refine lv_aload_n hx hb dL_law_1570 rfl (lv_at hl 3 rfl) ?_
      refine lv_aload_n hx hb dL_law_1571 rfl (lv_at hl 1 rfl) ?_
      refine lv_iload hx hb dL_law_1572 (lv_at hl 5 rfl) ?_
      refine lv_iconst (v := 1) hx hb dL_law_1574 (by decide) ?_
      refine lv_iadd hx hb dL_law_1575 ?_
      refine tpi (v := 1) (by decide) ?_
      refine va_sld hx hb hX hbl hbA hS (vpl (by decide)) dL_law_1576 ?_
      refine tpi (v := (xs 1)) rfl ?_
      refine tpi (v := 0) e1 ?_
      refine lv_aload_n hx hb dL_law_1577 rfl (lv_at hl 1 rfl) ?_
      refine lv_iload hx hb dL_law_1578 (lv_at hl 5 rfl) ?_
      refine lv_iconst (v := 2) hx hb dL_law_1580 (by decide) ?_
      refine lv_iadd hx hb dL_law_1581 ?_
      refine tpi (v := 2) (by decide) ?_
      refine va_sld hx hb hX hbl hbA hS (vpl (by decide)) dL_law_1582 ?_
      refine tpi (v := (xs 2)) rfl ?_
      have hF := va_free (wc := [(qm, .inr (8, [.int 0, .int 0, .int 2, .ref (um 0), .ref (um 1), .int 0, .int 500, .int 0, .int 0, .int 0, .ref (um 6)])), ((um 0), .inr (1, [.int 0, .ref (ε 1), .int 0])), ((um 1), .inl (κ 4, 4, .inr (.inr (.inr (.inr (sel [(um 2), (um 3), (um 4), (um 5)])))))), ((um 3), .inl (κ 0, 196, .inl (fun _ => 0)))]) hD hS hA [3, 4, 5, 7] rfl
      refine va_calli (va_runV (As := [.int 0, .int (xs 2)]) (rest := []) ⟨hx, hb, hml, hown, hts⟩ (k_X6_scoreBy_2 l D κ ε qm (um 0) (um 1) (um 6) (um 2) (um 3) (um 4) (um 5) H.size ((xs 2)) c6 c7) (cwV 2 hts gL_law_X6_scoreBy rfl rfl rfl (by decide +kernel) ⟨(Nat.le_of_ble_eq_true rfl), (Nat.le_of_ble_eq_true rfl)⟩) (pre2_V (q0 := 3) (ci := 8) (wc := [(qm, .inr (8, [.int 0, .int 0, .int 2, .ref (um 0), .ref (um 1), .int 0, .int 500, .int 0, .int 0, .int 0, .ref (um 6)])), ((um 0), .inr (1, [.int 0, .ref (ε 1), .int 0])), ((um 1), .inl (κ 4, 4, .inr (.inr (.inr (.inr (sel [(um 2), (um 3), (um 4), (um 5)])))))), ((um 3), .inl (κ 0, 196, .inl (fun _ => 0)))]) hP hD hK hE9 hS hA [3, 4, 5, 7] (by decide) rfl rfl rfl) rfl rfl hl.1 rfl (lv_room (Nat.le_of_ble_eq_true rfl)) dL_law_1583 ⟨(Nat.le_of_ble_eq_true rfl), (Nat.le_of_ble_eq_true rfl)⟩) hS (fun q _ h => hF q h) hF (fun r u13 t H locs ht hvm hw hB hz1 hk1 hS => ?_)
      try dsimp only at hw hB
      obtain ⟨hP1, hD1⟩ := hB
      rw [ht] at hP1
      obtain ⟨hP, hD⟩ := post_j (ws' := [((ux 2), .inl (κ 3, 4, .inr (.inr (.inr (.inr (sel [(ux 6), (ux 12), (ux 18), (ux 24)])))))), ((ux 3), .inr (6, [.ref (ux 4), .ref (ux 5), .int 0])), ((ux 6), .inr (6, [.ref (ux 7), .ref (ux 8), .int 0])), (qm, .inr (8, u13)), ((um 2), .inl (κ 0, 14, .inl (fun _ => 0))), (qo, .inl (κ 2, 1, .inr (.inl u2)))]) (wr := [((ux 2), .inl (κ 3, 4, .inr (.inr (.inr (.inr (sel [(ux 6), (ux 12), (ux 18), (ux 24)])))))), ((ux 3), .inr (6, [.ref (ux 4), .ref (ux 5), .int 0])), ((ux 6), .inr (6, [.ref (ux 7), .ref (ux 8), .int 0])), ((um 2), .inl (κ 0, 14, .inl (fun _ => 0))), (qo, .inl (κ 2, 1, .inr (.inl u2)))]) (w1 := [(qm, .inr (8, u13))]) hP hD hF [3, 4, 5, 7] rfl [0, 1, 2, 6, 8] rfl (by decide) (by decide) hk1 hP1 hD1 [0, 1, 2, 5, 3, 4] (by decide) rfl
      have hP : va_P D vwCl [((ux 2), .inl (κ 3, 4, .inr (.inr (.inr (.inr (sel [(ux 6), (ux 12), (ux 18), (ux 24)])))))), ((ux 3), .inr (6, [.ref (ux 4), .ref (ux 5), .int 0])), ((ux 6), .inr (6, [.ref (ux 7), .ref (ux 8), .int 0])), (qm, .inr (8, u13)), ((um 2), .inl (κ 0, 14, .inl (fun _ => 0))), (qo, .inl (κ 2, 1, .inr (.inl u2)))] H := hP
      have hD : va_D (fun q : Nat => s.heap.size ≤ q) [((ux 2), .inl (κ 3, 4, .inr (.inr (.inr (.inr (sel [(ux 6), (ux 12), (ux 18), (ux 24)])))))), ((ux 3), .inr (6, [.ref (ux 4), .ref (ux 5), .int 0])), ((ux 6), .inr (6, [.ref (ux 7), .ref (ux 8), .int 0])), (qm, .inr (8, u13)), ((um 2), .inl (κ 0, 14, .inl (fun _ => 0))), (qo, .inl (κ 2, 1, .inr (.inl u2)))] := hD
      obtain ⟨hu14, rfl⟩ := hw
      refine lv_istore (lv' := [(6, .int 0), (5, .int 0), (0, .ref b), (1, .ref qx), (2, .ref qm), (3, .ref qo), (4, .int 0)]) hx hb dL_law_1586 hl (by decide) rfl (fun ls hl => ?_)
      refine lv_aload_n hx hb dL_law_1588 rfl (lv_at hl 4 rfl) ?_
      refine vp_callSi (W.runV (As := []) (rest := []) ⟨hx, hb, hml, hown, hts⟩ (k_thrown l D κ qm u13 (0) hu14) (cwV 0 hts gL_law_X6_thrown rfl rfl rfl (by decide +kernel) ⟨(Nat.le_of_ble_eq_true rfl), (Nat.le_of_ble_eq_true rfl)⟩) (pre0_V (q0 := 3) (ci := 8) (wc := [(qm, .inr (8, u13))]) hP hK [3] rfl rfl rfl) rfl rfl hl.1 rfl (lv_room (Nat.le_of_ble_eq_true rfl)) dL_law_1589 ⟨(Nat.le_of_ble_eq_true rfl), (Nat.le_of_ble_eq_true rfl)⟩) (fun r hw => ?_)
      subst hw
      refine lv_iload hx hb dL_law_1592 (lv_at hl 1 rfl) ?_
      refine lv_icmp_eq (tgt := 1599) hx hb dL_law_1594 (by decide) (fun _ => ?_) (fun h => absurd (by decide) h)
      refine lv_iload hx hb dL_law_1599 (lv_at hl 1 rfl) ?_
      refine lv_if_ne (tgt := 1616) hx hb dL_law_1601 (by decide) (fun h => absurd (by decide) h) (fun _ => ?_)
      refine lv_aload_n hx hb dL_law_1604 rfl (lv_at hl 5 rfl) ?_
      refine lv_iconst (v := 0) hx hb dL_law_1605 (by decide) ?_
      refine va_lald (cA := κ 2) (n := 1) (f := u2) hx hb hK hP 5 2 rfl rfl (vpl (by decide)) dL_law_1606 ?_
      refine tpl (v := 0) hu8 ?_
      refine lv_iload hx hb dL_law_1607 (lv_at hl 0 rfl) ?_
      refine lv_i2l (v := 0) hx hb dL_law_1609 (by decide) ?_
      refine W.lcmp hx hb dL_law_1610 ?_
      refine tpi (v := 0) (by decide) ?_
      refine lv_if_eq (tgt := 1616) hx hb dL_law_1611 (by decide) (fun _ => ?_) (fun h => absurd (by decide) h)
      refine lv_goto (tgt := 1677) hx hb dL_law_1616 (by decide) ?_
      exact law_end C0 (Nat.le_of_ble_eq_true rfl) (Nat.le_of_ble_eq_true rfl) hS (lv_sub hl [2, 6] rfl)
  · skip
    by_cases e15 : (xs 1) = 1
    · skip
      refine lv_aload_n hx hb dL_law_1551 rfl (lv_at hl 1 rfl) ?_
      refine lv_aload_n hx hb dL_law_1552 rfl (lv_at hl 0 rfl) ?_
      refine lv_iload hx hb dL_law_1553 (lv_at hl 4 rfl) ?_
      refine lv_iconst (v := 1) hx hb dL_law_1555 (by decide) ?_
      refine lv_iadd hx hb dL_law_1556 ?_
      refine tpi (v := 1) (by decide) ?_
      refine va_sld hx hb hX hbl hbA hS (vpl (by decide)) dL_law_1557 ?_
      refine tpi (v := (xs 1)) rfl ?_
      refine tpi (v := 1) e15 ?_
      refine lv_aload_n hx hb dL_law_1558 rfl (lv_at hl 0 rfl) ?_
      refine lv_iload hx hb dL_law_1559 (lv_at hl 4 rfl) ?_
      refine lv_iconst (v := 2) hx hb dL_law_1561 (by decide) ?_
      refine lv_iadd hx hb dL_law_1562 ?_
      refine tpi (v := 2) (by decide) ?_
      refine va_sld hx hb hX hbl hbA hS (vpl (by decide)) dL_law_1563 ?_
      refine tpi (v := (xs 2)) rfl ?_
      refine lv_aload_n hx hb dL_law_1564 rfl (lv_at hl 3 rfl) ?_
      have hF := va_free (wc := [(qx, .inr (7, [.ref (ux 0), .ref (ux 27), .ref (ux 30), .ref (ux 31), .ref (ux 35), .ref (ux 36), .int 0, .int 0, .int 0, .int 0])), (qo, .inl (κ 2, 1, .inr (.inl (fun _ => 0)))), ((ux 0), .inr (2, [.int 0, .int 2, .ref (ux 1), .ref (ux 2)])), ((ux 27), .inr (3, [.ref (ux 0), .int 0, .int 500, .ref (ux 28), .ref (ux 29), .long 0, .int 0])), ((ux 1), .inl (κ 3, 4, .inr (.inr (.inr (.inr (sel [(ux 3), (ux 9), (ux 15), (ux 21)])))))), ((ux 28), .inl (κ 0, 13, .inl (fun _ => 0))), ((ux 29), .inl (κ 0, 13, .inl (fun _ => 0))), ((ux 3), .inr (6, [.ref (ux 4), .ref (ux 5), .int 0])), ((ux 9), .inr (6, [.ref (ux 10), .ref (ux 11), .int 0]))]) hD hS hA [0, 15, 1, 7, 2, 8, 9, 4, 6] rfl
      refine va_calli (vx_runSW (As := [.ref qx, .int 1, .int (xs 2), .ref qo]) (rest := []) ⟨hx, hb, hml, hown, hts⟩ (k_L_scoreBy_1 l hst D κ ε qx qo (ux 0) (ux 27) (ux 30) (ux 31) (ux 35) (ux 36) (ux 1) (ux 2) (ux 28) (ux 29) (ux 3) (ux 9) (ux 15) (ux 21) (ux 4) (ux 5) (ux 10) (ux 11) H.size ((xs 2))) (vx_cwSW 4 hts gL_law_L_scoreBy rfl rfl rfl (by decide +kernel) ⟨(Nat.le_of_ble_eq_true rfl), (Nat.le_of_ble_eq_true rfl)⟩) (pre2_S (wc := [(qx, .inr (7, [.ref (ux 0), .ref (ux 27), .ref (ux 30), .ref (ux 31), .ref (ux 35), .ref (ux 36), .int 0, .int 0, .int 0, .int 0])), (qo, .inl (κ 2, 1, .inr (.inl (fun _ => 0)))), ((ux 0), .inr (2, [.int 0, .int 2, .ref (ux 1), .ref (ux 2)])), ((ux 27), .inr (3, [.ref (ux 0), .int 0, .int 500, .ref (ux 28), .ref (ux 29), .long 0, .int 0])), ((ux 1), .inl (κ 3, 4, .inr (.inr (.inr (.inr (sel [(ux 3), (ux 9), (ux 15), (ux 21)])))))), ((ux 28), .inl (κ 0, 13, .inl (fun _ => 0))), ((ux 29), .inl (κ 0, 13, .inl (fun _ => 0))), ((ux 3), .inr (6, [.ref (ux 4), .ref (ux 5), .int 0])), ((ux 9), .inr (6, [.ref (ux 10), .ref (ux 11), .int 0]))]) hP hD hK hE9 hS hA [0, 15, 1, 7, 2, 8, 9, 4, 6] (by decide) rfl) rfl rfl hl.1 rfl (lv_room (Nat.le_of_ble_eq_true rfl)) dL_law_1565 ⟨(Nat.le_of_ble_eq_true rfl), (Nat.le_of_ble_eq_true rfl)⟩) hS (fun q _ h => hF q h) hF (fun r u16 t H locs ht hvm hw hB hz1 hk1 hS => ?_)
      try dsimp only at hw hB
      obtain ⟨hP1, hD1⟩ := hB
      rw [ht] at hP1
      obtain ⟨hP, hD⟩ := post_j (ws' := [((ux 2), .inl (κ 3, 4, .inr (.inr (.inr (.inr (sel [(ux 6), (ux 12), (ux 18), (ux 24)])))))), ((ux 6), .inr (6, [.ref (ux 7), .ref (ux 8), .int 0])), (qm, .inr (8, [.int 0, .int 0, .int 2, .ref (um 0), .ref (um 1), .int 0, .int 500, .int 0, .int 0, .int 0, .ref (um 6)])), ((um 0), .inr (1, [.int 0, .ref (ε 1), .int 0])), ((um 1), .inl (κ 4, 4, .inr (.inr (.inr (.inr (sel [(um 2), (um 3), (um 4), (um 5)])))))), ((um 2), .inl (κ 0, 14, .inl (fun _ => 0))), ((um 3), .inl (κ 0, 196, .inl (fun _ => 0))), (qo, .inl (κ 2, 1, .inr (.inl u16)))]) (wr := [((ux 2), .inl (κ 3, 4, .inr (.inr (.inr (.inr (sel [(ux 6), (ux 12), (ux 18), (ux 24)])))))), ((ux 6), .inr (6, [.ref (ux 7), .ref (ux 8), .int 0])), (qm, .inr (8, [.int 0, .int 0, .int 2, .ref (um 0), .ref (um 1), .int 0, .int 500, .int 0, .int 0, .int 0, .ref (um 6)])), ((um 0), .inr (1, [.int 0, .ref (ε 1), .int 0])), ((um 1), .inl (κ 4, 4, .inr (.inr (.inr (.inr (sel [(um 2), (um 3), (um 4), (um 5)])))))), ((um 2), .inl (κ 0, 14, .inl (fun _ => 0))), ((um 3), .inl (κ 0, 196, .inl (fun _ => 0)))]) (w1 := [(qo, .inl (κ 2, 1, .inr (.inl u16)))]) hP hD hF [0, 15, 1, 7, 2, 8, 9, 4, 6] rfl [3, 5, 10, 11, 12, 13, 14] rfl (by decide) (by decide) hk1 hP1 hD1 [0, 1, 2, 3, 4, 5, 6, 7] (by decide) rfl
      have hP : va_P D vwCl [((ux 2), .inl (κ 3, 4, .inr (.inr (.inr (.inr (sel [(ux 6), (ux 12), (ux 18), (ux 24)])))))), ((ux 6), .inr (6, [.ref (ux 7), .ref (ux 8), .int 0])), (qm, .inr (8, [.int 0, .int 0, .int 2, .ref (um 0), .ref (um 1), .int 0, .int 500, .int 0, .int 0, .int 0, .ref (um 6)])), ((um 0), .inr (1, [.int 0, .ref (ε 1), .int 0])), ((um 1), .inl (κ 4, 4, .inr (.inr (.inr (.inr (sel [(um 2), (um 3), (um 4), (um 5)])))))), ((um 2), .inl (κ 0, 14, .inl (fun _ => 0))), ((um 3), .inl (κ 0, 196, .inl (fun _ => 0))), (qo, .inl (κ 2, 1, .inr (.inl u16)))] H := hP
      have hD : va_D (fun q : Nat => s.heap.size ≤ q) [((ux 2), .inl (κ 3, 4, .inr (.inr (.inr (.inr (sel [(ux 6), (ux 12), (ux 18), (ux 24)])))))), ((ux 6), .inr (6, [.ref (ux 7), .ref (ux 8), .int 0])), (qm, .inr (8, [.int 0, .int 0, .int 2, .ref (um 0), .ref (um 1), .int 0, .int 500, .int 0, .int 0, .int 0, .ref (um 6)])), ((um 0), .inr (1, [.int 0, .ref (ε 1), .int 0])), ((um 1), .inl (κ 4, 4, .inr (.inr (.inr (.inr (sel [(um 2), (um 3), (um 4), (um 5)])))))), ((um 2), .inl (κ 0, 14, .inl (fun _ => 0))), ((um 3), .inl (κ 0, 196, .inl (fun _ => 0))), (qo, .inl (κ 2, 1, .inr (.inl u16)))] := hD
      rcases hw with ⟨c17, rfl⟩ | ⟨c18, c19, rfl⟩ | ⟨c20, c21, hu22, rfl⟩
      · skip
        refine lv_istore (lv' := [(5, .int 1), (0, .ref b), (1, .ref qx), (2, .ref qm), (3, .ref qo), (4, .int 0)]) hx hb dL_law_1568 hl (by decide) rfl (fun ls hl => ?_)
        refine lv_aload_n hx hb dL_law_1570 rfl (lv_at hl 3 rfl) ?_
        refine lv_aload_n hx hb dL_law_1571 rfl (lv_at hl 1 rfl) ?_
        refine lv_iload hx hb dL_law_1572 (lv_at hl 5 rfl) ?_
        refine lv_iconst (v := 1) hx hb dL_law_1574 (by decide) ?_
        refine lv_iadd hx hb dL_law_1575 ?_
        refine tpi (v := 1) (by decide) ?_
        refine va_sld hx hb hX hbl hbA hS (vpl (by decide)) dL_law_1576 ?_
        refine tpi (v := (xs 1)) rfl ?_
        refine tpi (v := 1) e15 ?_
        refine lv_aload_n hx hb dL_law_1577 rfl (lv_at hl 1 rfl) ?_
        refine lv_iload hx hb dL_law_1578 (lv_at hl 5 rfl) ?_
        refine lv_iconst (v := 2) hx hb dL_law_1580 (by decide) ?_
        refine lv_iadd hx hb dL_law_1581 ?_
        refine tpi (v := 2) (by decide) ?_
        refine va_sld hx hb hX hbl hbA hS (vpl (by decide)) dL_law_1582 ?_
        refine tpi (v := (xs 2)) rfl ?_
        have hF := va_free (wc := [(qm, .inr (8, [.int 0, .int 0, .int 2, .ref (um 0), .ref (um 1), .int 0, .int 500, .int 0, .int 0, .int 0, .ref (um 6)]))]) hD hS hA [2] rfl
        refine va_calli (va_runV (As := [.int 1, .int (xs 2)]) (rest := []) ⟨hx, hb, hml, hown, hts⟩ (k_X6_scoreBy_3 l D κ ε qm (um 0) (um 1) (um 6) H.size ((xs 2)) c17) (cwV 2 hts gL_law_X6_scoreBy rfl rfl rfl (by decide +kernel) ⟨(Nat.le_of_ble_eq_true rfl), (Nat.le_of_ble_eq_true rfl)⟩) (pre2_V (q0 := 2) (ci := 8) (wc := [(qm, .inr (8, [.int 0, .int 0, .int 2, .ref (um 0), .ref (um 1), .int 0, .int 500, .int 0, .int 0, .int 0, .ref (um 6)]))]) hP hD hK hE9 hS hA [2] (by decide) rfl rfl rfl) rfl rfl hl.1 rfl (lv_room (Nat.le_of_ble_eq_true rfl)) dL_law_1583 ⟨(Nat.le_of_ble_eq_true rfl), (Nat.le_of_ble_eq_true rfl)⟩) hS (fun q _ h => hF q h) hF (fun r u23 t H locs ht hvm hw hB hz1 hk1 hS => ?_)
        try dsimp only at hw hB
        obtain ⟨hP1, hD1⟩ := hB
        rw [ht] at hP1
        obtain ⟨hP, hD⟩ := post_j (ws' := [((ux 2), .inl (κ 3, 4, .inr (.inr (.inr (.inr (sel [(ux 6), (ux 12), (ux 18), (ux 24)])))))), ((ux 6), .inr (6, [.ref (ux 7), .ref (ux 8), .int 0])), (qm, .inr (8, u23)), ((um 0), .inr (1, [.int 0, .ref (ε 1), .int 0])), ((um 1), .inl (κ 4, 4, .inr (.inr (.inr (.inr (sel [(um 2), (um 3), (um 4), (um 5)])))))), ((um 2), .inl (κ 0, 14, .inl (fun _ => 0))), ((um 3), .inl (κ 0, 196, .inl (fun _ => 0))), (qo, .inl (κ 2, 1, .inr (.inl u16)))]) (wr := [((ux 2), .inl (κ 3, 4, .inr (.inr (.inr (.inr (sel [(ux 6), (ux 12), (ux 18), (ux 24)])))))), ((ux 6), .inr (6, [.ref (ux 7), .ref (ux 8), .int 0])), ((um 0), .inr (1, [.int 0, .ref (ε 1), .int 0])), ((um 1), .inl (κ 4, 4, .inr (.inr (.inr (.inr (sel [(um 2), (um 3), (um 4), (um 5)])))))), ((um 2), .inl (κ 0, 14, .inl (fun _ => 0))), ((um 3), .inl (κ 0, 196, .inl (fun _ => 0))), (qo, .inl (κ 2, 1, .inr (.inl u16)))]) (w1 := [(qm, .inr (8, u23))]) hP hD hF [2] rfl [0, 1, 3, 4, 5, 6, 7] rfl (by decide) (by decide) hk1 hP1 hD1 [0, 1, 7, 2, 3, 4, 5, 6] (by decide) rfl
        have hP : va_P D vwCl [((ux 2), .inl (κ 3, 4, .inr (.inr (.inr (.inr (sel [(ux 6), (ux 12), (ux 18), (ux 24)])))))), ((ux 6), .inr (6, [.ref (ux 7), .ref (ux 8), .int 0])), (qm, .inr (8, u23)), ((um 0), .inr (1, [.int 0, .ref (ε 1), .int 0])), ((um 1), .inl (κ 4, 4, .inr (.inr (.inr (.inr (sel [(um 2), (um 3), (um 4), (um 5)])))))), ((um 2), .inl (κ 0, 14, .inl (fun _ => 0))), ((um 3), .inl (κ 0, 196, .inl (fun _ => 0))), (qo, .inl (κ 2, 1, .inr (.inl u16)))] H := hP
        have hD : va_D (fun q : Nat => s.heap.size ≤ q) [((ux 2), .inl (κ 3, 4, .inr (.inr (.inr (.inr (sel [(ux 6), (ux 12), (ux 18), (ux 24)])))))), ((ux 6), .inr (6, [.ref (ux 7), .ref (ux 8), .int 0])), (qm, .inr (8, u23)), ((um 0), .inr (1, [.int 0, .ref (ε 1), .int 0])), ((um 1), .inl (κ 4, 4, .inr (.inr (.inr (.inr (sel [(um 2), (um 3), (um 4), (um 5)])))))), ((um 2), .inl (κ 0, 14, .inl (fun _ => 0))), ((um 3), .inl (κ 0, 196, .inl (fun _ => 0))), (qo, .inl (κ 2, 1, .inr (.inl u16)))] := hD
        obtain ⟨hu24, rfl⟩ := hw
        refine lv_istore (lv' := [(6, .int 0), (5, .int 1), (0, .ref b), (1, .ref qx), (2, .ref qm), (3, .ref qo), (4, .int 0)]) hx hb dL_law_1586 hl (by decide) rfl (fun ls hl => ?_)
        refine lv_aload_n hx hb dL_law_1588 rfl (lv_at hl 4 rfl) ?_
        refine vp_callSi (W.runV (As := []) (rest := []) ⟨hx, hb, hml, hown, hts⟩ (k_thrown l D κ qm u23 (1) hu24) (cwV 0 hts gL_law_X6_thrown rfl rfl rfl (by decide +kernel) ⟨(Nat.le_of_ble_eq_true rfl), (Nat.le_of_ble_eq_true rfl)⟩) (pre0_V (q0 := 2) (ci := 8) (wc := [(qm, .inr (8, u23))]) hP hK [2] rfl rfl rfl) rfl rfl hl.1 rfl (lv_room (Nat.le_of_ble_eq_true rfl)) dL_law_1589 ⟨(Nat.le_of_ble_eq_true rfl), (Nat.le_of_ble_eq_true rfl)⟩) (fun r hw => ?_)
        subst hw
        refine lv_iload hx hb dL_law_1592 (lv_at hl 1 rfl) ?_
        refine lv_icmp_eq (tgt := 1599) hx hb dL_law_1594 (by decide) (fun _ => ?_) (fun h => absurd (by decide) h)
        refine lv_iload hx hb dL_law_1599 (lv_at hl 1 rfl) ?_
        refine lv_if_ne (tgt := 1616) hx hb dL_law_1601 (by decide) (fun _ => ?_) (fun h => absurd h (by decide))
        refine lv_goto (tgt := 1677) hx hb dL_law_1616 (by decide) ?_
        exact law_end C0 (Nat.le_of_ble_eq_true rfl) (Nat.le_of_ble_eq_true rfl) hS (lv_sub hl [2, 6] rfl)
      · skip
        refine lv_istore (lv' := [(5, .int 1), (0, .ref b), (1, .ref qx), (2, .ref qm), (3, .ref qo), (4, .int 0)]) hx hb dL_law_1568 hl (by decide) rfl (fun ls hl => ?_)
        refine lv_aload_n hx hb dL_law_1570 rfl (lv_at hl 3 rfl) ?_
        refine lv_aload_n hx hb dL_law_1571 rfl (lv_at hl 1 rfl) ?_
        refine lv_iload hx hb dL_law_1572 (lv_at hl 5 rfl) ?_
        refine lv_iconst (v := 1) hx hb dL_law_1574 (by decide) ?_
        refine lv_iadd hx hb dL_law_1575 ?_
        refine tpi (v := 1) (by decide) ?_
        refine va_sld hx hb hX hbl hbA hS (vpl (by decide)) dL_law_1576 ?_
        refine tpi (v := (xs 1)) rfl ?_
        refine tpi (v := 1) e15 ?_
        refine lv_aload_n hx hb dL_law_1577 rfl (lv_at hl 1 rfl) ?_
        refine lv_iload hx hb dL_law_1578 (lv_at hl 5 rfl) ?_
        refine lv_iconst (v := 2) hx hb dL_law_1580 (by decide) ?_
        refine lv_iadd hx hb dL_law_1581 ?_
        refine tpi (v := 2) (by decide) ?_
        refine va_sld hx hb hX hbl hbA hS (vpl (by decide)) dL_law_1582 ?_
        refine tpi (v := (xs 2)) rfl ?_
        have hF := va_free (wc := [(qm, .inr (8, [.int 0, .int 0, .int 2, .ref (um 0), .ref (um 1), .int 0, .int 500, .int 0, .int 0, .int 0, .ref (um 6)]))]) hD hS hA [2] rfl
        refine va_calli (va_runV (As := [.int 1, .int (xs 2)]) (rest := []) ⟨hx, hb, hml, hown, hts⟩ (k_X6_scoreBy_4 l D κ ε qm (um 0) (um 1) (um 6) H.size ((xs 2)) c18 c19) (cwV 2 hts gL_law_X6_scoreBy rfl rfl rfl (by decide +kernel) ⟨(Nat.le_of_ble_eq_true rfl), (Nat.le_of_ble_eq_true rfl)⟩) (pre2_V (q0 := 2) (ci := 8) (wc := [(qm, .inr (8, [.int 0, .int 0, .int 2, .ref (um 0), .ref (um 1), .int 0, .int 500, .int 0, .int 0, .int 0, .ref (um 6)]))]) hP hD hK hE9 hS hA [2] (by decide) rfl rfl rfl) rfl rfl hl.1 rfl (lv_room (Nat.le_of_ble_eq_true rfl)) dL_law_1583 ⟨(Nat.le_of_ble_eq_true rfl), (Nat.le_of_ble_eq_true rfl)⟩) hS (fun q _ h => hF q h) hF (fun r u25 t H locs ht hvm hw hB hz1 hk1 hS => ?_)
        try dsimp only at hw hB
        obtain ⟨hP1, hD1⟩ := hB
        rw [ht] at hP1
        obtain ⟨hP, hD⟩ := post_j (ws' := [((ux 2), .inl (κ 3, 4, .inr (.inr (.inr (.inr (sel [(ux 6), (ux 12), (ux 18), (ux 24)])))))), ((ux 6), .inr (6, [.ref (ux 7), .ref (ux 8), .int 0])), (qm, .inr (8, u25)), ((um 0), .inr (1, [.int 0, .ref (ε 1), .int 0])), ((um 1), .inl (κ 4, 4, .inr (.inr (.inr (.inr (sel [(um 2), (um 3), (um 4), (um 5)])))))), ((um 2), .inl (κ 0, 14, .inl (fun _ => 0))), ((um 3), .inl (κ 0, 196, .inl (fun _ => 0))), (qo, .inl (κ 2, 1, .inr (.inl u16)))]) (wr := [((ux 2), .inl (κ 3, 4, .inr (.inr (.inr (.inr (sel [(ux 6), (ux 12), (ux 18), (ux 24)])))))), ((ux 6), .inr (6, [.ref (ux 7), .ref (ux 8), .int 0])), ((um 0), .inr (1, [.int 0, .ref (ε 1), .int 0])), ((um 1), .inl (κ 4, 4, .inr (.inr (.inr (.inr (sel [(um 2), (um 3), (um 4), (um 5)])))))), ((um 2), .inl (κ 0, 14, .inl (fun _ => 0))), ((um 3), .inl (κ 0, 196, .inl (fun _ => 0))), (qo, .inl (κ 2, 1, .inr (.inl u16)))]) (w1 := [(qm, .inr (8, u25))]) hP hD hF [2] rfl [0, 1, 3, 4, 5, 6, 7] rfl (by decide) (by decide) hk1 hP1 hD1 [0, 1, 7, 2, 3, 4, 5, 6] (by decide) rfl
        have hP : va_P D vwCl [((ux 2), .inl (κ 3, 4, .inr (.inr (.inr (.inr (sel [(ux 6), (ux 12), (ux 18), (ux 24)])))))), ((ux 6), .inr (6, [.ref (ux 7), .ref (ux 8), .int 0])), (qm, .inr (8, u25)), ((um 0), .inr (1, [.int 0, .ref (ε 1), .int 0])), ((um 1), .inl (κ 4, 4, .inr (.inr (.inr (.inr (sel [(um 2), (um 3), (um 4), (um 5)])))))), ((um 2), .inl (κ 0, 14, .inl (fun _ => 0))), ((um 3), .inl (κ 0, 196, .inl (fun _ => 0))), (qo, .inl (κ 2, 1, .inr (.inl u16)))] H := hP
        have hD : va_D (fun q : Nat => s.heap.size ≤ q) [((ux 2), .inl (κ 3, 4, .inr (.inr (.inr (.inr (sel [(ux 6), (ux 12), (ux 18), (ux 24)])))))), ((ux 6), .inr (6, [.ref (ux 7), .ref (ux 8), .int 0])), (qm, .inr (8, u25)), ((um 0), .inr (1, [.int 0, .ref (ε 1), .int 0])), ((um 1), .inl (κ 4, 4, .inr (.inr (.inr (.inr (sel [(um 2), (um 3), (um 4), (um 5)])))))), ((um 2), .inl (κ 0, 14, .inl (fun _ => 0))), ((um 3), .inl (κ 0, 196, .inl (fun _ => 0))), (qo, .inl (κ 2, 1, .inr (.inl u16)))] := hD
        obtain ⟨hu26, rfl⟩ := hw
        refine lv_istore (lv' := [(6, .int 0), (5, .int 1), (0, .ref b), (1, .ref qx), (2, .ref qm), (3, .ref qo), (4, .int 0)]) hx hb dL_law_1586 hl (by decide) rfl (fun ls hl => ?_)
        refine lv_aload_n hx hb dL_law_1588 rfl (lv_at hl 4 rfl) ?_
        refine vp_callSi (W.runV (As := []) (rest := []) ⟨hx, hb, hml, hown, hts⟩ (k_thrown l D κ qm u25 (1) hu26) (cwV 0 hts gL_law_X6_thrown rfl rfl rfl (by decide +kernel) ⟨(Nat.le_of_ble_eq_true rfl), (Nat.le_of_ble_eq_true rfl)⟩) (pre0_V (q0 := 2) (ci := 8) (wc := [(qm, .inr (8, u25))]) hP hK [2] rfl rfl rfl) rfl rfl hl.1 rfl (lv_room (Nat.le_of_ble_eq_true rfl)) dL_law_1589 ⟨(Nat.le_of_ble_eq_true rfl), (Nat.le_of_ble_eq_true rfl)⟩) (fun r hw => ?_)
        subst hw
        refine lv_iload hx hb dL_law_1592 (lv_at hl 1 rfl) ?_
        refine lv_icmp_eq (tgt := 1599) hx hb dL_law_1594 (by decide) (fun _ => ?_) (fun h => absurd (by decide) h)
        refine lv_iload hx hb dL_law_1599 (lv_at hl 1 rfl) ?_
        refine lv_if_ne (tgt := 1616) hx hb dL_law_1601 (by decide) (fun _ => ?_) (fun h => absurd h (by decide))
        refine lv_goto (tgt := 1677) hx hb dL_law_1616 (by decide) ?_
        exact law_end C0 (Nat.le_of_ble_eq_true rfl) (Nat.le_of_ble_eq_true rfl) hS (lv_sub hl [2, 6] rfl)
      · skip
        refine lv_istore (lv' := [(5, .int 0), (0, .ref b), (1, .ref qx), (2, .ref qm), (3, .ref qo), (4, .int 0)]) hx hb dL_law_1568 hl (by decide) rfl (fun ls hl => ?_)
        refine lv_aload_n hx hb dL_law_1570 rfl (lv_at hl 3 rfl) ?_
        refine lv_aload_n hx hb dL_law_1571 rfl (lv_at hl 1 rfl) ?_
        refine lv_iload hx hb dL_law_1572 (lv_at hl 5 rfl) ?_
        refine lv_iconst (v := 1) hx hb dL_law_1574 (by decide) ?_
        refine lv_iadd hx hb dL_law_1575 ?_
        refine tpi (v := 1) (by decide) ?_
        refine va_sld hx hb hX hbl hbA hS (vpl (by decide)) dL_law_1576 ?_
        refine tpi (v := (xs 1)) rfl ?_
        refine tpi (v := 1) e15 ?_
        refine lv_aload_n hx hb dL_law_1577 rfl (lv_at hl 1 rfl) ?_
        refine lv_iload hx hb dL_law_1578 (lv_at hl 5 rfl) ?_
        refine lv_iconst (v := 2) hx hb dL_law_1580 (by decide) ?_
        refine lv_iadd hx hb dL_law_1581 ?_
        refine tpi (v := 2) (by decide) ?_
        refine va_sld hx hb hX hbl hbA hS (vpl (by decide)) dL_law_1582 ?_
        refine tpi (v := (xs 2)) rfl ?_
        have hF := va_free (wc := [(qm, .inr (8, [.int 0, .int 0, .int 2, .ref (um 0), .ref (um 1), .int 0, .int 500, .int 0, .int 0, .int 0, .ref (um 6)])), ((um 0), .inr (1, [.int 0, .ref (ε 1), .int 0])), ((um 1), .inl (κ 4, 4, .inr (.inr (.inr (.inr (sel [(um 2), (um 3), (um 4), (um 5)])))))), ((um 2), .inl (κ 0, 14, .inl (fun _ => 0))), ((um 3), .inl (κ 0, 196, .inl (fun _ => 0)))]) hD hS hA [2, 3, 4, 5, 6] rfl
        refine va_calli (va_runV (As := [.int 1, .int (xs 2)]) (rest := []) ⟨hx, hb, hml, hown, hts⟩ (k_X6_scoreBy_5 l D κ ε qm (um 0) (um 1) (um 6) (um 2) (um 3) (um 4) (um 5) H.size ((xs 2)) c20 c21) (cwV 2 hts gL_law_X6_scoreBy rfl rfl rfl (by decide +kernel) ⟨(Nat.le_of_ble_eq_true rfl), (Nat.le_of_ble_eq_true rfl)⟩) (pre2_V (q0 := 2) (ci := 8) (wc := [(qm, .inr (8, [.int 0, .int 0, .int 2, .ref (um 0), .ref (um 1), .int 0, .int 500, .int 0, .int 0, .int 0, .ref (um 6)])), ((um 0), .inr (1, [.int 0, .ref (ε 1), .int 0])), ((um 1), .inl (κ 4, 4, .inr (.inr (.inr (.inr (sel [(um 2), (um 3), (um 4), (um 5)])))))), ((um 2), .inl (κ 0, 14, .inl (fun _ => 0))), ((um 3), .inl (κ 0, 196, .inl (fun _ => 0)))]) hP hD hK hE9 hS hA [2, 3, 4, 5, 6] (by decide) rfl rfl rfl) rfl rfl hl.1 rfl (lv_room (Nat.le_of_ble_eq_true rfl)) dL_law_1583 ⟨(Nat.le_of_ble_eq_true rfl), (Nat.le_of_ble_eq_true rfl)⟩) hS (fun q _ h => hF q h) hF (fun r u27 t H locs ht hvm hw hB hz1 hk1 hS => ?_)
        try dsimp only at hw hB
        obtain ⟨hP1, hD1⟩ := hB
        rw [ht] at hP1
        obtain ⟨hP, hD⟩ := post_j (ws' := [((ux 2), .inl (κ 3, 4, .inr (.inr (.inr (.inr (sel [(ux 6), (ux 12), (ux 18), (ux 24)])))))), ((ux 6), .inr (6, [.ref (ux 7), .ref (ux 8), .int 0])), (qm, .inr (8, u27)), (qo, .inl (κ 2, 1, .inr (.inl u16)))]) (wr := [((ux 2), .inl (κ 3, 4, .inr (.inr (.inr (.inr (sel [(ux 6), (ux 12), (ux 18), (ux 24)])))))), ((ux 6), .inr (6, [.ref (ux 7), .ref (ux 8), .int 0])), (qo, .inl (κ 2, 1, .inr (.inl u16)))]) (w1 := [(qm, .inr (8, u27))]) hP hD hF [2, 3, 4, 5, 6] rfl [0, 1, 7] rfl (by decide) (by decide) hk1 hP1 hD1 [0, 1, 3, 2] (by decide) rfl
        have hP : va_P D vwCl [((ux 2), .inl (κ 3, 4, .inr (.inr (.inr (.inr (sel [(ux 6), (ux 12), (ux 18), (ux 24)])))))), ((ux 6), .inr (6, [.ref (ux 7), .ref (ux 8), .int 0])), (qm, .inr (8, u27)), (qo, .inl (κ 2, 1, .inr (.inl u16)))] H := hP
        have hD : va_D (fun q : Nat => s.heap.size ≤ q) [((ux 2), .inl (κ 3, 4, .inr (.inr (.inr (.inr (sel [(ux 6), (ux 12), (ux 18), (ux 24)])))))), ((ux 6), .inr (6, [.ref (ux 7), .ref (ux 8), .int 0])), (qm, .inr (8, u27)), (qo, .inl (κ 2, 1, .inr (.inl u16)))] := hD
        obtain ⟨hu28, rfl⟩ := hw
        refine lv_istore (lv' := [(6, .int 0), (5, .int 0), (0, .ref b), (1, .ref qx), (2, .ref qm), (3, .ref qo), (4, .int 0)]) hx hb dL_law_1586 hl (by decide) rfl (fun ls hl => ?_)
        refine lv_aload_n hx hb dL_law_1588 rfl (lv_at hl 4 rfl) ?_
        refine vp_callSi (W.runV (As := []) (rest := []) ⟨hx, hb, hml, hown, hts⟩ (k_thrown l D κ qm u27 (0) hu28) (cwV 0 hts gL_law_X6_thrown rfl rfl rfl (by decide +kernel) ⟨(Nat.le_of_ble_eq_true rfl), (Nat.le_of_ble_eq_true rfl)⟩) (pre0_V (q0 := 2) (ci := 8) (wc := [(qm, .inr (8, u27))]) hP hK [2] rfl rfl rfl) rfl rfl hl.1 rfl (lv_room (Nat.le_of_ble_eq_true rfl)) dL_law_1589 ⟨(Nat.le_of_ble_eq_true rfl), (Nat.le_of_ble_eq_true rfl)⟩) (fun r hw => ?_)
        subst hw
        refine lv_iload hx hb dL_law_1592 (lv_at hl 1 rfl) ?_
        refine lv_icmp_eq (tgt := 1599) hx hb dL_law_1594 (by decide) (fun _ => ?_) (fun h => absurd (by decide) h)
        refine lv_iload hx hb dL_law_1599 (lv_at hl 1 rfl) ?_
        refine lv_if_ne (tgt := 1616) hx hb dL_law_1601 (by decide) (fun h => absurd (by decide) h) (fun _ => ?_)
        refine lv_aload_n hx hb dL_law_1604 rfl (lv_at hl 5 rfl) ?_
        refine lv_iconst (v := 0) hx hb dL_law_1605 (by decide) ?_
        refine va_lald (cA := κ 2) (n := 1) (f := u16) hx hb hK hP 3 2 rfl rfl (vpl (by decide)) dL_law_1606 ?_
        refine tpl (v := 0) hu22 ?_
        refine lv_iload hx hb dL_law_1607 (lv_at hl 0 rfl) ?_
        refine lv_i2l (v := 0) hx hb dL_law_1609 (by decide) ?_
        refine W.lcmp hx hb dL_law_1610 ?_
        refine tpi (v := 0) (by decide) ?_
        refine lv_if_eq (tgt := 1616) hx hb dL_law_1611 (by decide) (fun _ => ?_) (fun h => absurd (by decide) h)
        refine lv_goto (tgt := 1677) hx hb dL_law_1616 (by decide) ?_
        exact law_end C0 (Nat.le_of_ble_eq_true rfl) (Nat.le_of_ble_eq_true rfl) hS (lv_sub hl [2, 6] rfl)
    · skip
      by_cases e29 : (xs 1) = 2
      · skip
        refine lv_aload_n hx hb dL_law_1551 rfl (lv_at hl 1 rfl) ?_
        refine lv_aload_n hx hb dL_law_1552 rfl (lv_at hl 0 rfl) ?_
        refine lv_iload hx hb dL_law_1553 (lv_at hl 4 rfl) ?_
        refine lv_iconst (v := 1) hx hb dL_law_1555 (by decide) ?_
        refine lv_iadd hx hb dL_law_1556 ?_
        refine tpi (v := 1) (by decide) ?_
        refine va_sld hx hb hX hbl hbA hS (vpl (by decide)) dL_law_1557 ?_
        refine tpi (v := (xs 1)) rfl ?_
        refine tpi (v := 2) e29 ?_
        refine lv_aload_n hx hb dL_law_1558 rfl (lv_at hl 0 rfl) ?_
        refine lv_iload hx hb dL_law_1559 (lv_at hl 4 rfl) ?_
        refine lv_iconst (v := 2) hx hb dL_law_1561 (by decide) ?_
        refine lv_iadd hx hb dL_law_1562 ?_
        refine tpi (v := 2) (by decide) ?_
        refine va_sld hx hb hX hbl hbA hS (vpl (by decide)) dL_law_1563 ?_
        refine tpi (v := (xs 2)) rfl ?_
        refine lv_aload_n hx hb dL_law_1564 rfl (lv_at hl 3 rfl) ?_
        have hF := va_free (wc := [(qx, .inr (7, [.ref (ux 0), .ref (ux 27), .ref (ux 30), .ref (ux 31), .ref (ux 35), .ref (ux 36), .int 0, .int 0, .int 0, .int 0])), (qo, .inl (κ 2, 1, .inr (.inl (fun _ => 0)))), ((ux 0), .inr (2, [.int 0, .int 2, .ref (ux 1), .ref (ux 2)])), ((ux 27), .inr (3, [.ref (ux 0), .int 0, .int 500, .ref (ux 28), .ref (ux 29), .long 0, .int 0])), ((ux 1), .inl (κ 3, 4, .inr (.inr (.inr (.inr (sel [(ux 3), (ux 9), (ux 15), (ux 21)])))))), ((ux 28), .inl (κ 0, 13, .inl (fun _ => 0))), ((ux 29), .inl (κ 0, 13, .inl (fun _ => 0))), ((ux 3), .inr (6, [.ref (ux 4), .ref (ux 5), .int 0])), ((ux 9), .inr (6, [.ref (ux 10), .ref (ux 11), .int 0]))]) hD hS hA [0, 15, 1, 7, 2, 8, 9, 4, 6] rfl
        refine va_calli (vx_runSW (As := [.ref qx, .int 2, .int (xs 2), .ref qo]) (rest := []) ⟨hx, hb, hml, hown, hts⟩ (k_L_scoreBy_2 l hst D κ ε qx qo (ux 0) (ux 27) (ux 30) (ux 31) (ux 35) (ux 36) (ux 1) (ux 2) (ux 28) (ux 29) (ux 3) (ux 9) (ux 15) (ux 21) (ux 4) (ux 5) (ux 10) (ux 11) H.size ((xs 2))) (vx_cwSW 4 hts gL_law_L_scoreBy rfl rfl rfl (by decide +kernel) ⟨(Nat.le_of_ble_eq_true rfl), (Nat.le_of_ble_eq_true rfl)⟩) (pre2_S (wc := [(qx, .inr (7, [.ref (ux 0), .ref (ux 27), .ref (ux 30), .ref (ux 31), .ref (ux 35), .ref (ux 36), .int 0, .int 0, .int 0, .int 0])), (qo, .inl (κ 2, 1, .inr (.inl (fun _ => 0)))), ((ux 0), .inr (2, [.int 0, .int 2, .ref (ux 1), .ref (ux 2)])), ((ux 27), .inr (3, [.ref (ux 0), .int 0, .int 500, .ref (ux 28), .ref (ux 29), .long 0, .int 0])), ((ux 1), .inl (κ 3, 4, .inr (.inr (.inr (.inr (sel [(ux 3), (ux 9), (ux 15), (ux 21)])))))), ((ux 28), .inl (κ 0, 13, .inl (fun _ => 0))), ((ux 29), .inl (κ 0, 13, .inl (fun _ => 0))), ((ux 3), .inr (6, [.ref (ux 4), .ref (ux 5), .int 0])), ((ux 9), .inr (6, [.ref (ux 10), .ref (ux 11), .int 0]))]) hP hD hK hE9 hS hA [0, 15, 1, 7, 2, 8, 9, 4, 6] (by decide) rfl) rfl rfl hl.1 rfl (lv_room (Nat.le_of_ble_eq_true rfl)) dL_law_1565 ⟨(Nat.le_of_ble_eq_true rfl), (Nat.le_of_ble_eq_true rfl)⟩) hS (fun q _ h => hF q h) hF (fun r u30 t H locs ht hvm hw hB hz1 hk1 hS => ?_)
        try dsimp only at hw hB
        obtain ⟨hP1, hD1⟩ := hB
        rw [ht] at hP1
        obtain ⟨hP, hD⟩ := post_j (ws' := [((ux 2), .inl (κ 3, 4, .inr (.inr (.inr (.inr (sel [(ux 6), (ux 12), (ux 18), (ux 24)])))))), ((ux 6), .inr (6, [.ref (ux 7), .ref (ux 8), .int 0])), (qm, .inr (8, [.int 0, .int 0, .int 2, .ref (um 0), .ref (um 1), .int 0, .int 500, .int 0, .int 0, .int 0, .ref (um 6)])), ((um 0), .inr (1, [.int 0, .ref (ε 1), .int 0])), ((um 1), .inl (κ 4, 4, .inr (.inr (.inr (.inr (sel [(um 2), (um 3), (um 4), (um 5)])))))), ((um 2), .inl (κ 0, 14, .inl (fun _ => 0))), ((um 3), .inl (κ 0, 196, .inl (fun _ => 0))), (qo, .inl (κ 2, 1, .inr (.inl u30)))]) (wr := [((ux 2), .inl (κ 3, 4, .inr (.inr (.inr (.inr (sel [(ux 6), (ux 12), (ux 18), (ux 24)])))))), ((ux 6), .inr (6, [.ref (ux 7), .ref (ux 8), .int 0])), (qm, .inr (8, [.int 0, .int 0, .int 2, .ref (um 0), .ref (um 1), .int 0, .int 500, .int 0, .int 0, .int 0, .ref (um 6)])), ((um 0), .inr (1, [.int 0, .ref (ε 1), .int 0])), ((um 1), .inl (κ 4, 4, .inr (.inr (.inr (.inr (sel [(um 2), (um 3), (um 4), (um 5)])))))), ((um 2), .inl (κ 0, 14, .inl (fun _ => 0))), ((um 3), .inl (κ 0, 196, .inl (fun _ => 0)))]) (w1 := [(qo, .inl (κ 2, 1, .inr (.inl u30)))]) hP hD hF [0, 15, 1, 7, 2, 8, 9, 4, 6] rfl [3, 5, 10, 11, 12, 13, 14] rfl (by decide) (by decide) hk1 hP1 hD1 [0, 1, 2, 3, 4, 5, 6, 7] (by decide) rfl
        have hP : va_P D vwCl [((ux 2), .inl (κ 3, 4, .inr (.inr (.inr (.inr (sel [(ux 6), (ux 12), (ux 18), (ux 24)])))))), ((ux 6), .inr (6, [.ref (ux 7), .ref (ux 8), .int 0])), (qm, .inr (8, [.int 0, .int 0, .int 2, .ref (um 0), .ref (um 1), .int 0, .int 500, .int 0, .int 0, .int 0, .ref (um 6)])), ((um 0), .inr (1, [.int 0, .ref (ε 1), .int 0])), ((um 1), .inl (κ 4, 4, .inr (.inr (.inr (.inr (sel [(um 2), (um 3), (um 4), (um 5)])))))), ((um 2), .inl (κ 0, 14, .inl (fun _ => 0))), ((um 3), .inl (κ 0, 196, .inl (fun _ => 0))), (qo, .inl (κ 2, 1, .inr (.inl u30)))] H := hP
        have hD : va_D (fun q : Nat => s.heap.size ≤ q) [((ux 2), .inl (κ 3, 4, .inr (.inr (.inr (.inr (sel [(ux 6), (ux 12), (ux 18), (ux 24)])))))), ((ux 6), .inr (6, [.ref (ux 7), .ref (ux 8), .int 0])), (qm, .inr (8, [.int 0, .int 0, .int 2, .ref (um 0), .ref (um 1), .int 0, .int 500, .int 0, .int 0, .int 0, .ref (um 6)])), ((um 0), .inr (1, [.int 0, .ref (ε 1), .int 0])), ((um 1), .inl (κ 4, 4, .inr (.inr (.inr (.inr (sel [(um 2), (um 3), (um 4), (um 5)])))))), ((um 2), .inl (κ 0, 14, .inl (fun _ => 0))), ((um 3), .inl (κ 0, 196, .inl (fun _ => 0))), (qo, .inl (κ 2, 1, .inr (.inl u30)))] := hD
        rcases hw with ⟨c31, rfl⟩ | ⟨c32, c33, rfl⟩ | ⟨c34, c35, hu36, rfl⟩
        · skip
          refine lv_istore (lv' := [(5, .int 1), (0, .ref b), (1, .ref qx), (2, .ref qm), (3, .ref qo), (4, .int 0)]) hx hb dL_law_1568 hl (by decide) rfl (fun ls hl => ?_)
          refine lv_aload_n hx hb dL_law_1570 rfl (lv_at hl 3 rfl) ?_
          refine lv_aload_n hx hb dL_law_1571 rfl (lv_at hl 1 rfl) ?_
          refine lv_iload hx hb dL_law_1572 (lv_at hl 5 rfl) ?_
          refine lv_iconst (v := 1) hx hb dL_law_1574 (by decide) ?_
          refine lv_iadd hx hb dL_law_1575 ?_
          refine tpi (v := 1) (by decide) ?_
          refine va_sld hx hb hX hbl hbA hS (vpl (by decide)) dL_law_1576 ?_
          refine tpi (v := (xs 1)) rfl ?_
          refine tpi (v := 2) e29 ?_
          refine lv_aload_n hx hb dL_law_1577 rfl (lv_at hl 1 rfl) ?_
          refine lv_iload hx hb dL_law_1578 (lv_at hl 5 rfl) ?_
          refine lv_iconst (v := 2) hx hb dL_law_1580 (by decide) ?_
          refine lv_iadd hx hb dL_law_1581 ?_
          refine tpi (v := 2) (by decide) ?_
          refine va_sld hx hb hX hbl hbA hS (vpl (by decide)) dL_law_1582 ?_
          refine tpi (v := (xs 2)) rfl ?_
          have hF := va_free (wc := [(qm, .inr (8, [.int 0, .int 0, .int 2, .ref (um 0), .ref (um 1), .int 0, .int 500, .int 0, .int 0, .int 0, .ref (um 6)]))]) hD hS hA [2] rfl
          refine va_calli (va_runV (As := [.int 2, .int (xs 2)]) (rest := []) ⟨hx, hb, hml, hown, hts⟩ (k_X6_scoreBy_6 l D κ ε qm (um 0) (um 1) (um 6) H.size ((xs 2)) c31) (cwV 2 hts gL_law_X6_scoreBy rfl rfl rfl (by decide +kernel) ⟨(Nat.le_of_ble_eq_true rfl), (Nat.le_of_ble_eq_true rfl)⟩) (pre2_V (q0 := 2) (ci := 8) (wc := [(qm, .inr (8, [.int 0, .int 0, .int 2, .ref (um 0), .ref (um 1), .int 0, .int 500, .int 0, .int 0, .int 0, .ref (um 6)]))]) hP hD hK hE9 hS hA [2] (by decide) rfl rfl rfl) rfl rfl hl.1 rfl (lv_room (Nat.le_of_ble_eq_true rfl)) dL_law_1583 ⟨(Nat.le_of_ble_eq_true rfl), (Nat.le_of_ble_eq_true rfl)⟩) hS (fun q _ h => hF q h) hF (fun r u37 t H locs ht hvm hw hB hz1 hk1 hS => ?_)
          try dsimp only at hw hB
          obtain ⟨hP1, hD1⟩ := hB
          rw [ht] at hP1
          obtain ⟨hP, hD⟩ := post_j (ws' := [((ux 2), .inl (κ 3, 4, .inr (.inr (.inr (.inr (sel [(ux 6), (ux 12), (ux 18), (ux 24)])))))), ((ux 6), .inr (6, [.ref (ux 7), .ref (ux 8), .int 0])), (qm, .inr (8, u37)), ((um 0), .inr (1, [.int 0, .ref (ε 1), .int 0])), ((um 1), .inl (κ 4, 4, .inr (.inr (.inr (.inr (sel [(um 2), (um 3), (um 4), (um 5)])))))), ((um 2), .inl (κ 0, 14, .inl (fun _ => 0))), ((um 3), .inl (κ 0, 196, .inl (fun _ => 0))), (qo, .inl (κ 2, 1, .inr (.inl u30)))]) (wr := [((ux 2), .inl (κ 3, 4, .inr (.inr (.inr (.inr (sel [(ux 6), (ux 12), (ux 18), (ux 24)])))))), ((ux 6), .inr (6, [.ref (ux 7), .ref (ux 8), .int 0])), ((um 0), .inr (1, [.int 0, .ref (ε 1), .int 0])), ((um 1), .inl (κ 4, 4, .inr (.inr (.inr (.inr (sel [(um 2), (um 3), (um 4), (um 5)])))))), ((um 2), .inl (κ 0, 14, .inl (fun _ => 0))), ((um 3), .inl (κ 0, 196, .inl (fun _ => 0))), (qo, .inl (κ 2, 1, .inr (.inl u30)))]) (w1 := [(qm, .inr (8, u37))]) hP hD hF [2] rfl [0, 1, 3, 4, 5, 6, 7] rfl (by decide) (by decide) hk1 hP1 hD1 [0, 1, 7, 2, 3, 4, 5, 6] (by decide) rfl
          have hP : va_P D vwCl [((ux 2), .inl (κ 3, 4, .inr (.inr (.inr (.inr (sel [(ux 6), (ux 12), (ux 18), (ux 24)])))))), ((ux 6), .inr (6, [.ref (ux 7), .ref (ux 8), .int 0])), (qm, .inr (8, u37)), ((um 0), .inr (1, [.int 0, .ref (ε 1), .int 0])), ((um 1), .inl (κ 4, 4, .inr (.inr (.inr (.inr (sel [(um 2), (um 3), (um 4), (um 5)])))))), ((um 2), .inl (κ 0, 14, .inl (fun _ => 0))), ((um 3), .inl (κ 0, 196, .inl (fun _ => 0))), (qo, .inl (κ 2, 1, .inr (.inl u30)))] H := hP
          have hD : va_D (fun q : Nat => s.heap.size ≤ q) [((ux 2), .inl (κ 3, 4, .inr (.inr (.inr (.inr (sel [(ux 6), (ux 12), (ux 18), (ux 24)])))))), ((ux 6), .inr (6, [.ref (ux 7), .ref (ux 8), .int 0])), (qm, .inr (8, u37)), ((um 0), .inr (1, [.int 0, .ref (ε 1), .int 0])), ((um 1), .inl (κ 4, 4, .inr (.inr (.inr (.inr (sel [(um 2), (um 3), (um 4), (um 5)])))))), ((um 2), .inl (κ 0, 14, .inl (fun _ => 0))), ((um 3), .inl (κ 0, 196, .inl (fun _ => 0))), (qo, .inl (κ 2, 1, .inr (.inl u30)))] := hD
          obtain ⟨hu38, rfl⟩ := hw
          refine lv_istore (lv' := [(6, .int 0), (5, .int 1), (0, .ref b), (1, .ref qx), (2, .ref qm), (3, .ref qo), (4, .int 0)]) hx hb dL_law_1586 hl (by decide) rfl (fun ls hl => ?_)
          refine lv_aload_n hx hb dL_law_1588 rfl (lv_at hl 4 rfl) ?_
          refine vp_callSi (W.runV (As := []) (rest := []) ⟨hx, hb, hml, hown, hts⟩ (k_thrown l D κ qm u37 (1) hu38) (cwV 0 hts gL_law_X6_thrown rfl rfl rfl (by decide +kernel) ⟨(Nat.le_of_ble_eq_true rfl), (Nat.le_of_ble_eq_true rfl)⟩) (pre0_V (q0 := 2) (ci := 8) (wc := [(qm, .inr (8, u37))]) hP hK [2] rfl rfl rfl) rfl rfl hl.1 rfl (lv_room (Nat.le_of_ble_eq_true rfl)) dL_law_1589 ⟨(Nat.le_of_ble_eq_true rfl), (Nat.le_of_ble_eq_true rfl)⟩) (fun r hw => ?_)
          subst hw
          refine lv_iload hx hb dL_law_1592 (lv_at hl 1 rfl) ?_
          refine lv_icmp_eq (tgt := 1599) hx hb dL_law_1594 (by decide) (fun _ => ?_) (fun h => absurd (by decide) h)
          refine lv_iload hx hb dL_law_1599 (lv_at hl 1 rfl) ?_
          refine lv_if_ne (tgt := 1616) hx hb dL_law_1601 (by decide) (fun _ => ?_) (fun h => absurd h (by decide))
          refine lv_goto (tgt := 1677) hx hb dL_law_1616 (by decide) ?_
          exact law_end C0 (Nat.le_of_ble_eq_true rfl) (Nat.le_of_ble_eq_true rfl) hS (lv_sub hl [2, 6] rfl)
        · skip
          refine lv_istore (lv' := [(5, .int 1), (0, .ref b), (1, .ref qx), (2, .ref qm), (3, .ref qo), (4, .int 0)]) hx hb dL_law_1568 hl (by decide) rfl (fun ls hl => ?_)
          refine lv_aload_n hx hb dL_law_1570 rfl (lv_at hl 3 rfl) ?_
          refine lv_aload_n hx hb dL_law_1571 rfl (lv_at hl 1 rfl) ?_
          refine lv_iload hx hb dL_law_1572 (lv_at hl 5 rfl) ?_
          refine lv_iconst (v := 1) hx hb dL_law_1574 (by decide) ?_
          refine lv_iadd hx hb dL_law_1575 ?_
          refine tpi (v := 1) (by decide) ?_
          refine va_sld hx hb hX hbl hbA hS (vpl (by decide)) dL_law_1576 ?_
          refine tpi (v := (xs 1)) rfl ?_
          refine tpi (v := 2) e29 ?_
          refine lv_aload_n hx hb dL_law_1577 rfl (lv_at hl 1 rfl) ?_
          refine lv_iload hx hb dL_law_1578 (lv_at hl 5 rfl) ?_
          refine lv_iconst (v := 2) hx hb dL_law_1580 (by decide) ?_
          refine lv_iadd hx hb dL_law_1581 ?_
          refine tpi (v := 2) (by decide) ?_
          refine va_sld hx hb hX hbl hbA hS (vpl (by decide)) dL_law_1582 ?_
          refine tpi (v := (xs 2)) rfl ?_
          have hF := va_free (wc := [(qm, .inr (8, [.int 0, .int 0, .int 2, .ref (um 0), .ref (um 1), .int 0, .int 500, .int 0, .int 0, .int 0, .ref (um 6)]))]) hD hS hA [2] rfl
          refine va_calli (va_runV (As := [.int 2, .int (xs 2)]) (rest := []) ⟨hx, hb, hml, hown, hts⟩ (k_X6_scoreBy_7 l D κ ε qm (um 0) (um 1) (um 6) H.size ((xs 2)) c32 c33) (cwV 2 hts gL_law_X6_scoreBy rfl rfl rfl (by decide +kernel) ⟨(Nat.le_of_ble_eq_true rfl), (Nat.le_of_ble_eq_true rfl)⟩) (pre2_V (q0 := 2) (ci := 8) (wc := [(qm, .inr (8, [.int 0, .int 0, .int 2, .ref (um 0), .ref (um 1), .int 0, .int 500, .int 0, .int 0, .int 0, .ref (um 6)]))]) hP hD hK hE9 hS hA [2] (by decide) rfl rfl rfl) rfl rfl hl.1 rfl (lv_room (Nat.le_of_ble_eq_true rfl)) dL_law_1583 ⟨(Nat.le_of_ble_eq_true rfl), (Nat.le_of_ble_eq_true rfl)⟩) hS (fun q _ h => hF q h) hF (fun r u39 t H locs ht hvm hw hB hz1 hk1 hS => ?_)
          try dsimp only at hw hB
          obtain ⟨hP1, hD1⟩ := hB
          rw [ht] at hP1
          obtain ⟨hP, hD⟩ := post_j (ws' := [((ux 2), .inl (κ 3, 4, .inr (.inr (.inr (.inr (sel [(ux 6), (ux 12), (ux 18), (ux 24)])))))), ((ux 6), .inr (6, [.ref (ux 7), .ref (ux 8), .int 0])), (qm, .inr (8, u39)), ((um 0), .inr (1, [.int 0, .ref (ε 1), .int 0])), ((um 1), .inl (κ 4, 4, .inr (.inr (.inr (.inr (sel [(um 2), (um 3), (um 4), (um 5)])))))), ((um 2), .inl (κ 0, 14, .inl (fun _ => 0))), ((um 3), .inl (κ 0, 196, .inl (fun _ => 0))), (qo, .inl (κ 2, 1, .inr (.inl u30)))]) (wr := [((ux 2), .inl (κ 3, 4, .inr (.inr (.inr (.inr (sel [(ux 6), (ux 12), (ux 18), (ux 24)])))))), ((ux 6), .inr (6, [.ref (ux 7), .ref (ux 8), .int 0])), ((um 0), .inr (1, [.int 0, .ref (ε 1), .int 0])), ((um 1), .inl (κ 4, 4, .inr (.inr (.inr (.inr (sel [(um 2), (um 3), (um 4), (um 5)])))))), ((um 2), .inl (κ 0, 14, .inl (fun _ => 0))), ((um 3), .inl (κ 0, 196, .inl (fun _ => 0))), (qo, .inl (κ 2, 1, .inr (.inl u30)))]) (w1 := [(qm, .inr (8, u39))]) hP hD hF [2] rfl [0, 1, 3, 4, 5, 6, 7] rfl (by decide) (by decide) hk1 hP1 hD1 [0, 1, 7, 2, 3, 4, 5, 6] (by decide) rfl
          have hP : va_P D vwCl [((ux 2), .inl (κ 3, 4, .inr (.inr (.inr (.inr (sel [(ux 6), (ux 12), (ux 18), (ux 24)])))))), ((ux 6), .inr (6, [.ref (ux 7), .ref (ux 8), .int 0])), (qm, .inr (8, u39)), ((um 0), .inr (1, [.int 0, .ref (ε 1), .int 0])), ((um 1), .inl (κ 4, 4, .inr (.inr (.inr (.inr (sel [(um 2), (um 3), (um 4), (um 5)])))))), ((um 2), .inl (κ 0, 14, .inl (fun _ => 0))), ((um 3), .inl (κ 0, 196, .inl (fun _ => 0))), (qo, .inl (κ 2, 1, .inr (.inl u30)))] H := hP
          have hD : va_D (fun q : Nat => s.heap.size ≤ q) [((ux 2), .inl (κ 3, 4, .inr (.inr (.inr (.inr (sel [(ux 6), (ux 12), (ux 18), (ux 24)])))))), ((ux 6), .inr (6, [.ref (ux 7), .ref (ux 8), .int 0])), (qm, .inr (8, u39)), ((um 0), .inr (1, [.int 0, .ref (ε 1), .int 0])), ((um 1), .inl (κ 4, 4, .inr (.inr (.inr (.inr (sel [(um 2), (um 3), (um 4), (um 5)])))))), ((um 2), .inl (κ 0, 14, .inl (fun _ => 0))), ((um 3), .inl (κ 0, 196, .inl (fun _ => 0))), (qo, .inl (κ 2, 1, .inr (.inl u30)))] := hD
          obtain ⟨hu40, rfl⟩ := hw
          refine lv_istore (lv' := [(6, .int 0), (5, .int 1), (0, .ref b), (1, .ref qx), (2, .ref qm), (3, .ref qo), (4, .int 0)]) hx hb dL_law_1586 hl (by decide) rfl (fun ls hl => ?_)
          refine lv_aload_n hx hb dL_law_1588 rfl (lv_at hl 4 rfl) ?_
          refine vp_callSi (W.runV (As := []) (rest := []) ⟨hx, hb, hml, hown, hts⟩ (k_thrown l D κ qm u39 (1) hu40) (cwV 0 hts gL_law_X6_thrown rfl rfl rfl (by decide +kernel) ⟨(Nat.le_of_ble_eq_true rfl), (Nat.le_of_ble_eq_true rfl)⟩) (pre0_V (q0 := 2) (ci := 8) (wc := [(qm, .inr (8, u39))]) hP hK [2] rfl rfl rfl) rfl rfl hl.1 rfl (lv_room (Nat.le_of_ble_eq_true rfl)) dL_law_1589 ⟨(Nat.le_of_ble_eq_true rfl), (Nat.le_of_ble_eq_true rfl)⟩) (fun r hw => ?_)
          subst hw
          refine lv_iload hx hb dL_law_1592 (lv_at hl 1 rfl) ?_
          refine lv_icmp_eq (tgt := 1599) hx hb dL_law_1594 (by decide) (fun _ => ?_) (fun h => absurd (by decide) h)
          refine lv_iload hx hb dL_law_1599 (lv_at hl 1 rfl) ?_
          refine lv_if_ne (tgt := 1616) hx hb dL_law_1601 (by decide) (fun _ => ?_) (fun h => absurd h (by decide))
          refine lv_goto (tgt := 1677) hx hb dL_law_1616 (by decide) ?_
          exact law_end C0 (Nat.le_of_ble_eq_true rfl) (Nat.le_of_ble_eq_true rfl) hS (lv_sub hl [2, 6] rfl)
        · skip
          refine lv_istore (lv' := [(5, .int 0), (0, .ref b), (1, .ref qx), (2, .ref qm), (3, .ref qo), (4, .int 0)]) hx hb dL_law_1568 hl (by decide) rfl (fun ls hl => ?_)
          refine lv_aload_n hx hb dL_law_1570 rfl (lv_at hl 3 rfl) ?_
          refine lv_aload_n hx hb dL_law_1571 rfl (lv_at hl 1 rfl) ?_
          refine lv_iload hx hb dL_law_1572 (lv_at hl 5 rfl) ?_
          refine lv_iconst (v := 1) hx hb dL_law_1574 (by decide) ?_
          refine lv_iadd hx hb dL_law_1575 ?_
          refine tpi (v := 1) (by decide) ?_
          refine va_sld hx hb hX hbl hbA hS (vpl (by decide)) dL_law_1576 ?_
          refine tpi (v := (xs 1)) rfl ?_
          refine tpi (v := 2) e29 ?_
          refine lv_aload_n hx hb dL_law_1577 rfl (lv_at hl 1 rfl) ?_
          refine lv_iload hx hb dL_law_1578 (lv_at hl 5 rfl) ?_
          refine lv_iconst (v := 2) hx hb dL_law_1580 (by decide) ?_
          refine lv_iadd hx hb dL_law_1581 ?_
          refine tpi (v := 2) (by decide) ?_
          refine va_sld hx hb hX hbl hbA hS (vpl (by decide)) dL_law_1582 ?_
          refine tpi (v := (xs 2)) rfl ?_
          have hF := va_free (wc := [(qm, .inr (8, [.int 0, .int 0, .int 2, .ref (um 0), .ref (um 1), .int 0, .int 500, .int 0, .int 0, .int 0, .ref (um 6)])), ((um 0), .inr (1, [.int 0, .ref (ε 1), .int 0])), ((um 1), .inl (κ 4, 4, .inr (.inr (.inr (.inr (sel [(um 2), (um 3), (um 4), (um 5)])))))), ((um 2), .inl (κ 0, 14, .inl (fun _ => 0))), ((um 3), .inl (κ 0, 196, .inl (fun _ => 0)))]) hD hS hA [2, 3, 4, 5, 6] rfl
          refine va_calli (va_runV (As := [.int 2, .int (xs 2)]) (rest := []) ⟨hx, hb, hml, hown, hts⟩ (k_X6_scoreBy_8 l D κ ε qm (um 0) (um 1) (um 6) (um 2) (um 3) (um 4) (um 5) H.size ((xs 2)) c34 c35) (cwV 2 hts gL_law_X6_scoreBy rfl rfl rfl (by decide +kernel) ⟨(Nat.le_of_ble_eq_true rfl), (Nat.le_of_ble_eq_true rfl)⟩) (pre2_V (q0 := 2) (ci := 8) (wc := [(qm, .inr (8, [.int 0, .int 0, .int 2, .ref (um 0), .ref (um 1), .int 0, .int 500, .int 0, .int 0, .int 0, .ref (um 6)])), ((um 0), .inr (1, [.int 0, .ref (ε 1), .int 0])), ((um 1), .inl (κ 4, 4, .inr (.inr (.inr (.inr (sel [(um 2), (um 3), (um 4), (um 5)])))))), ((um 2), .inl (κ 0, 14, .inl (fun _ => 0))), ((um 3), .inl (κ 0, 196, .inl (fun _ => 0)))]) hP hD hK hE9 hS hA [2, 3, 4, 5, 6] (by decide) rfl rfl rfl) rfl rfl hl.1 rfl (lv_room (Nat.le_of_ble_eq_true rfl)) dL_law_1583 ⟨(Nat.le_of_ble_eq_true rfl), (Nat.le_of_ble_eq_true rfl)⟩) hS (fun q _ h => hF q h) hF (fun r u41 t H locs ht hvm hw hB hz1 hk1 hS => ?_)
          try dsimp only at hw hB
          obtain ⟨hP1, hD1⟩ := hB
          rw [ht] at hP1
          obtain ⟨hP, hD⟩ := post_j (ws' := [((ux 2), .inl (κ 3, 4, .inr (.inr (.inr (.inr (sel [(ux 6), (ux 12), (ux 18), (ux 24)])))))), ((ux 6), .inr (6, [.ref (ux 7), .ref (ux 8), .int 0])), (qm, .inr (8, u41)), (qo, .inl (κ 2, 1, .inr (.inl u30)))]) (wr := [((ux 2), .inl (κ 3, 4, .inr (.inr (.inr (.inr (sel [(ux 6), (ux 12), (ux 18), (ux 24)])))))), ((ux 6), .inr (6, [.ref (ux 7), .ref (ux 8), .int 0])), (qo, .inl (κ 2, 1, .inr (.inl u30)))]) (w1 := [(qm, .inr (8, u41))]) hP hD hF [2, 3, 4, 5, 6] rfl [0, 1, 7] rfl (by decide) (by decide) hk1 hP1 hD1 [0, 1, 3, 2] (by decide) rfl
          have hP : va_P D vwCl [((ux 2), .inl (κ 3, 4, .inr (.inr (.inr (.inr (sel [(ux 6), (ux 12), (ux 18), (ux 24)])))))), ((ux 6), .inr (6, [.ref (ux 7), .ref (ux 8), .int 0])), (qm, .inr (8, u41)), (qo, .inl (κ 2, 1, .inr (.inl u30)))] H := hP
          have hD : va_D (fun q : Nat => s.heap.size ≤ q) [((ux 2), .inl (κ 3, 4, .inr (.inr (.inr (.inr (sel [(ux 6), (ux 12), (ux 18), (ux 24)])))))), ((ux 6), .inr (6, [.ref (ux 7), .ref (ux 8), .int 0])), (qm, .inr (8, u41)), (qo, .inl (κ 2, 1, .inr (.inl u30)))] := hD
          obtain ⟨hu42, rfl⟩ := hw
          refine lv_istore (lv' := [(6, .int 0), (5, .int 0), (0, .ref b), (1, .ref qx), (2, .ref qm), (3, .ref qo), (4, .int 0)]) hx hb dL_law_1586 hl (by decide) rfl (fun ls hl => ?_)
          refine lv_aload_n hx hb dL_law_1588 rfl (lv_at hl 4 rfl) ?_
          refine vp_callSi (W.runV (As := []) (rest := []) ⟨hx, hb, hml, hown, hts⟩ (k_thrown l D κ qm u41 (0) hu42) (cwV 0 hts gL_law_X6_thrown rfl rfl rfl (by decide +kernel) ⟨(Nat.le_of_ble_eq_true rfl), (Nat.le_of_ble_eq_true rfl)⟩) (pre0_V (q0 := 2) (ci := 8) (wc := [(qm, .inr (8, u41))]) hP hK [2] rfl rfl rfl) rfl rfl hl.1 rfl (lv_room (Nat.le_of_ble_eq_true rfl)) dL_law_1589 ⟨(Nat.le_of_ble_eq_true rfl), (Nat.le_of_ble_eq_true rfl)⟩) (fun r hw => ?_)
          subst hw
          refine lv_iload hx hb dL_law_1592 (lv_at hl 1 rfl) ?_
          refine lv_icmp_eq (tgt := 1599) hx hb dL_law_1594 (by decide) (fun _ => ?_) (fun h => absurd (by decide) h)
          refine lv_iload hx hb dL_law_1599 (lv_at hl 1 rfl) ?_
          refine lv_if_ne (tgt := 1616) hx hb dL_law_1601 (by decide) (fun h => absurd (by decide) h) (fun _ => ?_)
          refine lv_aload_n hx hb dL_law_1604 rfl (lv_at hl 5 rfl) ?_
          refine lv_iconst (v := 0) hx hb dL_law_1605 (by decide) ?_
          refine va_lald (cA := κ 2) (n := 1) (f := u30) hx hb hK hP 3 2 rfl rfl (vpl (by decide)) dL_law_1606 ?_
          refine tpl (v := 0) hu36 ?_
          refine lv_iload hx hb dL_law_1607 (lv_at hl 0 rfl) ?_
          refine lv_i2l (v := 0) hx hb dL_law_1609 (by decide) ?_
          refine W.lcmp hx hb dL_law_1610 ?_
          refine tpi (v := 0) (by decide) ?_
          refine lv_if_eq (tgt := 1616) hx hb dL_law_1611 (by decide) (fun _ => ?_) (fun h => absurd (by decide) h)
          refine lv_goto (tgt := 1677) hx hb dL_law_1616 (by decide) ?_
          exact law_end C0 (Nat.le_of_ble_eq_true rfl) (Nat.le_of_ble_eq_true rfl) hS (lv_sub hl [2, 6] rfl)
      · skip
        by_cases e43 : (xs 1) = 3
        · skip
          refine lv_aload_n hx hb dL_law_1551 rfl (lv_at hl 1 rfl) ?_
          refine lv_aload_n hx hb dL_law_1552 rfl (lv_at hl 0 rfl) ?_
          refine lv_iload hx hb dL_law_1553 (lv_at hl 4 rfl) ?_
          refine lv_iconst (v := 1) hx hb dL_law_1555 (by decide) ?_
          refine lv_iadd hx hb dL_law_1556 ?_
          refine tpi (v := 1) (by decide) ?_
          refine va_sld hx hb hX hbl hbA hS (vpl (by decide)) dL_law_1557 ?_
          refine tpi (v := (xs 1)) rfl ?_
          refine tpi (v := 3) e43 ?_
          refine lv_aload_n hx hb dL_law_1558 rfl (lv_at hl 0 rfl) ?_
          refine lv_iload hx hb dL_law_1559 (lv_at hl 4 rfl) ?_
          refine lv_iconst (v := 2) hx hb dL_law_1561 (by decide) ?_
          refine lv_iadd hx hb dL_law_1562 ?_
          refine tpi (v := 2) (by decide) ?_
          refine va_sld hx hb hX hbl hbA hS (vpl (by decide)) dL_law_1563 ?_
          refine tpi (v := (xs 2)) rfl ?_
          refine lv_aload_n hx hb dL_law_1564 rfl (lv_at hl 3 rfl) ?_
          have hF := va_free (wc := [(qx, .inr (7, [.ref (ux 0), .ref (ux 27), .ref (ux 30), .ref (ux 31), .ref (ux 35), .ref (ux 36), .int 0, .int 0, .int 0, .int 0])), (qo, .inl (κ 2, 1, .inr (.inl (fun _ => 0)))), ((ux 0), .inr (2, [.int 0, .int 2, .ref (ux 1), .ref (ux 2)])), ((ux 27), .inr (3, [.ref (ux 0), .int 0, .int 500, .ref (ux 28), .ref (ux 29), .long 0, .int 0])), ((ux 1), .inl (κ 3, 4, .inr (.inr (.inr (.inr (sel [(ux 3), (ux 9), (ux 15), (ux 21)])))))), ((ux 28), .inl (κ 0, 13, .inl (fun _ => 0))), ((ux 29), .inl (κ 0, 13, .inl (fun _ => 0))), ((ux 3), .inr (6, [.ref (ux 4), .ref (ux 5), .int 0])), ((ux 9), .inr (6, [.ref (ux 10), .ref (ux 11), .int 0]))]) hD hS hA [0, 15, 1, 7, 2, 8, 9, 4, 6] rfl
          refine va_calli (vx_runSW (As := [.ref qx, .int 3, .int (xs 2), .ref qo]) (rest := []) ⟨hx, hb, hml, hown, hts⟩ (k_L_scoreBy_3 l hst D κ ε qx qo (ux 0) (ux 27) (ux 30) (ux 31) (ux 35) (ux 36) (ux 1) (ux 2) (ux 28) (ux 29) (ux 3) (ux 9) (ux 15) (ux 21) (ux 4) (ux 5) (ux 10) (ux 11) H.size ((xs 2))) (vx_cwSW 4 hts gL_law_L_scoreBy rfl rfl rfl (by decide +kernel) ⟨(Nat.le_of_ble_eq_true rfl), (Nat.le_of_ble_eq_true rfl)⟩) (pre2_S (wc := [(qx, .inr (7, [.ref (ux 0), .ref (ux 27), .ref (ux 30), .ref (ux 31), .ref (ux 35), .ref (ux 36), .int 0, .int 0, .int 0, .int 0])), (qo, .inl (κ 2, 1, .inr (.inl (fun _ => 0)))), ((ux 0), .inr (2, [.int 0, .int 2, .ref (ux 1), .ref (ux 2)])), ((ux 27), .inr (3, [.ref (ux 0), .int 0, .int 500, .ref (ux 28), .ref (ux 29), .long 0, .int 0])), ((ux 1), .inl (κ 3, 4, .inr (.inr (.inr (.inr (sel [(ux 3), (ux 9), (ux 15), (ux 21)])))))), ((ux 28), .inl (κ 0, 13, .inl (fun _ => 0))), ((ux 29), .inl (κ 0, 13, .inl (fun _ => 0))), ((ux 3), .inr (6, [.ref (ux 4), .ref (ux 5), .int 0])), ((ux 9), .inr (6, [.ref (ux 10), .ref (ux 11), .int 0]))]) hP hD hK hE9 hS hA [0, 15, 1, 7, 2, 8, 9, 4, 6] (by decide) rfl) rfl rfl hl.1 rfl (lv_room (Nat.le_of_ble_eq_true rfl)) dL_law_1565 ⟨(Nat.le_of_ble_eq_true rfl), (Nat.le_of_ble_eq_true rfl)⟩) hS (fun q _ h => hF q h) hF (fun r u44 t H locs ht hvm hw hB hz1 hk1 hS => ?_)
          try dsimp only at hw hB
          obtain ⟨hP1, hD1⟩ := hB
          rw [ht] at hP1
          obtain ⟨hP, hD⟩ := post_j (ws' := [((ux 2), .inl (κ 3, 4, .inr (.inr (.inr (.inr (sel [(ux 6), (ux 12), (ux 18), (ux 24)])))))), ((ux 6), .inr (6, [.ref (ux 7), .ref (ux 8), .int 0])), (qm, .inr (8, [.int 0, .int 0, .int 2, .ref (um 0), .ref (um 1), .int 0, .int 500, .int 0, .int 0, .int 0, .ref (um 6)])), ((um 0), .inr (1, [.int 0, .ref (ε 1), .int 0])), ((um 1), .inl (κ 4, 4, .inr (.inr (.inr (.inr (sel [(um 2), (um 3), (um 4), (um 5)])))))), ((um 2), .inl (κ 0, 14, .inl (fun _ => 0))), ((um 3), .inl (κ 0, 196, .inl (fun _ => 0))), (qo, .inl (κ 2, 1, .inr (.inl u44)))]) (wr := [((ux 2), .inl (κ 3, 4, .inr (.inr (.inr (.inr (sel [(ux 6), (ux 12), (ux 18), (ux 24)])))))), ((ux 6), .inr (6, [.ref (ux 7), .ref (ux 8), .int 0])), (qm, .inr (8, [.int 0, .int 0, .int 2, .ref (um 0), .ref (um 1), .int 0, .int 500, .int 0, .int 0, .int 0, .ref (um 6)])), ((um 0), .inr (1, [.int 0, .ref (ε 1), .int 0])), ((um 1), .inl (κ 4, 4, .inr (.inr (.inr (.inr (sel [(um 2), (um 3), (um 4), (um 5)])))))), ((um 2), .inl (κ 0, 14, .inl (fun _ => 0))), ((um 3), .inl (κ 0, 196, .inl (fun _ => 0)))]) (w1 := [(qo, .inl (κ 2, 1, .inr (.inl u44)))]) hP hD hF [0, 15, 1, 7, 2, 8, 9, 4, 6] rfl [3, 5, 10, 11, 12, 13, 14] rfl (by decide) (by decide) hk1 hP1 hD1 [0, 1, 2, 3, 4, 5, 6, 7] (by decide) rfl
          have hP : va_P D vwCl [((ux 2), .inl (κ 3, 4, .inr (.inr (.inr (.inr (sel [(ux 6), (ux 12), (ux 18), (ux 24)])))))), ((ux 6), .inr (6, [.ref (ux 7), .ref (ux 8), .int 0])), (qm, .inr (8, [.int 0, .int 0, .int 2, .ref (um 0), .ref (um 1), .int 0, .int 500, .int 0, .int 0, .int 0, .ref (um 6)])), ((um 0), .inr (1, [.int 0, .ref (ε 1), .int 0])), ((um 1), .inl (κ 4, 4, .inr (.inr (.inr (.inr (sel [(um 2), (um 3), (um 4), (um 5)])))))), ((um 2), .inl (κ 0, 14, .inl (fun _ => 0))), ((um 3), .inl (κ 0, 196, .inl (fun _ => 0))), (qo, .inl (κ 2, 1, .inr (.inl u44)))] H := hP
          have hD : va_D (fun q : Nat => s.heap.size ≤ q) [((ux 2), .inl (κ 3, 4, .inr (.inr (.inr (.inr (sel [(ux 6), (ux 12), (ux 18), (ux 24)])))))), ((ux 6), .inr (6, [.ref (ux 7), .ref (ux 8), .int 0])), (qm, .inr (8, [.int 0, .int 0, .int 2, .ref (um 0), .ref (um 1), .int 0, .int 500, .int 0, .int 0, .int 0, .ref (um 6)])), ((um 0), .inr (1, [.int 0, .ref (ε 1), .int 0])), ((um 1), .inl (κ 4, 4, .inr (.inr (.inr (.inr (sel [(um 2), (um 3), (um 4), (um 5)])))))), ((um 2), .inl (κ 0, 14, .inl (fun _ => 0))), ((um 3), .inl (κ 0, 196, .inl (fun _ => 0))), (qo, .inl (κ 2, 1, .inr (.inl u44)))] := hD
          rcases hw with ⟨c45, rfl⟩ | ⟨c46, c47, rfl⟩ | ⟨c48, c49, hu50, rfl⟩
          · skip
            refine lv_istore (lv' := [(5, .int 1), (0, .ref b), (1, .ref qx), (2, .ref qm), (3, .ref qo), (4, .int 0)]) hx hb dL_law_1568 hl (by decide) rfl (fun ls hl => ?_)
            refine lv_aload_n hx hb dL_law_1570 rfl (lv_at hl 3 rfl) ?_
            refine lv_aload_n hx hb dL_law_1571 rfl (lv_at hl 1 rfl) ?_
            refine lv_iload hx hb dL_law_1572 (lv_at hl 5 rfl) ?_
            refine lv_iconst (v := 1) hx hb dL_law_1574 (by decide) ?_
            refine lv_iadd hx hb dL_law_1575 ?_
            refine tpi (v := 1) (by decide) ?_
            refine va_sld hx hb hX hbl hbA hS (vpl (by decide)) dL_law_1576 ?_
            refine tpi (v := (xs 1)) rfl ?_
            refine tpi (v := 3) e43 ?_
            refine lv_aload_n hx hb dL_law_1577 rfl (lv_at hl 1 rfl) ?_
            refine lv_iload hx hb dL_law_1578 (lv_at hl 5 rfl) ?_
            refine lv_iconst (v := 2) hx hb dL_law_1580 (by decide) ?_
            refine lv_iadd hx hb dL_law_1581 ?_
            refine tpi (v := 2) (by decide) ?_
            refine va_sld hx hb hX hbl hbA hS (vpl (by decide)) dL_law_1582 ?_
            refine tpi (v := (xs 2)) rfl ?_
            have hF := va_free (wc := [(qm, .inr (8, [.int 0, .int 0, .int 2, .ref (um 0), .ref (um 1), .int 0, .int 500, .int 0, .int 0, .int 0, .ref (um 6)]))]) hD hS hA [2] rfl
            refine va_calli (va_runV (As := [.int 3, .int (xs 2)]) (rest := []) ⟨hx, hb, hml, hown, hts⟩ (k_X6_scoreBy_9 l D κ ε qm (um 0) (um 1) (um 6) H.size ((xs 2)) c45) (cwV 2 hts gL_law_X6_scoreBy rfl rfl rfl (by decide +kernel) ⟨(Nat.le_of_ble_eq_true rfl), (Nat.le_of_ble_eq_true rfl)⟩) (pre2_V (q0 := 2) (ci := 8) (wc := [(qm, .inr (8, [.int 0, .int 0, .int 2, .ref (um 0), .ref (um 1), .int 0, .int 500, .int 0, .int 0, .int 0, .ref (um 6)]))]) hP hD hK hE9 hS hA [2] (by decide) rfl rfl rfl) rfl rfl hl.1 rfl (lv_room (Nat.le_of_ble_eq_true rfl)) dL_law_1583 ⟨(Nat.le_of_ble_eq_true rfl), (Nat.le_of_ble_eq_true rfl)⟩) hS (fun q _ h => hF q h) hF (fun r u51 t H locs ht hvm hw hB hz1 hk1 hS => ?_)
            try dsimp only at hw hB
            obtain ⟨hP1, hD1⟩ := hB
            rw [ht] at hP1
            obtain ⟨hP, hD⟩ := post_j (ws' := [((ux 2), .inl (κ 3, 4, .inr (.inr (.inr (.inr (sel [(ux 6), (ux 12), (ux 18), (ux 24)])))))), ((ux 6), .inr (6, [.ref (ux 7), .ref (ux 8), .int 0])), (qm, .inr (8, u51)), ((um 0), .inr (1, [.int 0, .ref (ε 1), .int 0])), ((um 1), .inl (κ 4, 4, .inr (.inr (.inr (.inr (sel [(um 2), (um 3), (um 4), (um 5)])))))), ((um 2), .inl (κ 0, 14, .inl (fun _ => 0))), ((um 3), .inl (κ 0, 196, .inl (fun _ => 0))), (qo, .inl (κ 2, 1, .inr (.inl u44)))]) (wr := [((ux 2), .inl (κ 3, 4, .inr (.inr (.inr (.inr (sel [(ux 6), (ux 12), (ux 18), (ux 24)])))))), ((ux 6), .inr (6, [.ref (ux 7), .ref (ux 8), .int 0])), ((um 0), .inr (1, [.int 0, .ref (ε 1), .int 0])), ((um 1), .inl (κ 4, 4, .inr (.inr (.inr (.inr (sel [(um 2), (um 3), (um 4), (um 5)])))))), ((um 2), .inl (κ 0, 14, .inl (fun _ => 0))), ((um 3), .inl (κ 0, 196, .inl (fun _ => 0))), (qo, .inl (κ 2, 1, .inr (.inl u44)))]) (w1 := [(qm, .inr (8, u51))]) hP hD hF [2] rfl [0, 1, 3, 4, 5, 6, 7] rfl (by decide) (by decide) hk1 hP1 hD1 [0, 1, 7, 2, 3, 4, 5, 6] (by decide) rfl
            have hP : va_P D vwCl [((ux 2), .inl (κ 3, 4, .inr (.inr (.inr (.inr (sel [(ux 6), (ux 12), (ux 18), (ux 24)])))))), ((ux 6), .inr (6, [.ref (ux 7), .ref (ux 8), .int 0])), (qm, .inr (8, u51)), ((um 0), .inr (1, [.int 0, .ref (ε 1), .int 0])), ((um 1), .inl (κ 4, 4, .inr (.inr (.inr (.inr (sel [(um 2), (um 3), (um 4), (um 5)])))))), ((um 2), .inl (κ 0, 14, .inl (fun _ => 0))), ((um 3), .inl (κ 0, 196, .inl (fun _ => 0))), (qo, .inl (κ 2, 1, .inr (.inl u44)))] H := hP
            have hD : va_D (fun q : Nat => s.heap.size ≤ q) [((ux 2), .inl (κ 3, 4, .inr (.inr (.inr (.inr (sel [(ux 6), (ux 12), (ux 18), (ux 24)])))))), ((ux 6), .inr (6, [.ref (ux 7), .ref (ux 8), .int 0])), (qm, .inr (8, u51)), ((um 0), .inr (1, [.int 0, .ref (ε 1), .int 0])), ((um 1), .inl (κ 4, 4, .inr (.inr (.inr (.inr (sel [(um 2), (um 3), (um 4), (um 5)])))))), ((um 2), .inl (κ 0, 14, .inl (fun _ => 0))), ((um 3), .inl (κ 0, 196, .inl (fun _ => 0))), (qo, .inl (κ 2, 1, .inr (.inl u44)))] := hD
            obtain ⟨hu52, rfl⟩ := hw
            refine lv_istore (lv' := [(6, .int 0), (5, .int 1), (0, .ref b), (1, .ref qx), (2, .ref qm), (3, .ref qo), (4, .int 0)]) hx hb dL_law_1586 hl (by decide) rfl (fun ls hl => ?_)
            refine lv_aload_n hx hb dL_law_1588 rfl (lv_at hl 4 rfl) ?_
            refine vp_callSi (W.runV (As := []) (rest := []) ⟨hx, hb, hml, hown, hts⟩ (k_thrown l D κ qm u51 (1) hu52) (cwV 0 hts gL_law_X6_thrown rfl rfl rfl (by decide +kernel) ⟨(Nat.le_of_ble_eq_true rfl), (Nat.le_of_ble_eq_true rfl)⟩) (pre0_V (q0 := 2) (ci := 8) (wc := [(qm, .inr (8, u51))]) hP hK [2] rfl rfl rfl) rfl rfl hl.1 rfl (lv_room (Nat.le_of_ble_eq_true rfl)) dL_law_1589 ⟨(Nat.le_of_ble_eq_true rfl), (Nat.le_of_ble_eq_true rfl)⟩) (fun r hw => ?_)
            subst hw
            refine lv_iload hx hb dL_law_1592 (lv_at hl 1 rfl) ?_
            refine lv_icmp_eq (tgt := 1599) hx hb dL_law_1594 (by decide) (fun _ => ?_) (fun h => absurd (by decide) h)
            refine lv_iload hx hb dL_law_1599 (lv_at hl 1 rfl) ?_
            refine lv_if_ne (tgt := 1616) hx hb dL_law_1601 (by decide) (fun _ => ?_) (fun h => absurd h (by decide))
            refine lv_goto (tgt := 1677) hx hb dL_law_1616 (by decide) ?_
            exact law_end C0 (Nat.le_of_ble_eq_true rfl) (Nat.le_of_ble_eq_true rfl) hS (lv_sub hl [2, 6] rfl)
          · skip
            refine lv_istore (lv' := [(5, .int 1), (0, .ref b), (1, .ref qx), (2, .ref qm), (3, .ref qo), (4, .int 0)]) hx hb dL_law_1568 hl (by decide) rfl (fun ls hl => ?_)
            refine lv_aload_n hx hb dL_law_1570 rfl (lv_at hl 3 rfl) ?_
            refine lv_aload_n hx hb dL_law_1571 rfl (lv_at hl 1 rfl) ?_
            refine lv_iload hx hb dL_law_1572 (lv_at hl 5 rfl) ?_
            refine lv_iconst (v := 1) hx hb dL_law_1574 (by decide) ?_
            refine lv_iadd hx hb dL_law_1575 ?_
            refine tpi (v := 1) (by decide) ?_
            refine va_sld hx hb hX hbl hbA hS (vpl (by decide)) dL_law_1576 ?_
            refine tpi (v := (xs 1)) rfl ?_
            refine tpi (v := 3) e43 ?_
            refine lv_aload_n hx hb dL_law_1577 rfl (lv_at hl 1 rfl) ?_
            refine lv_iload hx hb dL_law_1578 (lv_at hl 5 rfl) ?_
            refine lv_iconst (v := 2) hx hb dL_law_1580 (by decide) ?_
            refine lv_iadd hx hb dL_law_1581 ?_
            refine tpi (v := 2) (by decide) ?_
            refine va_sld hx hb hX hbl hbA hS (vpl (by decide)) dL_law_1582 ?_
            refine tpi (v := (xs 2)) rfl ?_
            have hF := va_free (wc := [(qm, .inr (8, [.int 0, .int 0, .int 2, .ref (um 0), .ref (um 1), .int 0, .int 500, .int 0, .int 0, .int 0, .ref (um 6)]))]) hD hS hA [2] rfl
            refine va_calli (va_runV (As := [.int 3, .int (xs 2)]) (rest := []) ⟨hx, hb, hml, hown, hts⟩ (k_X6_scoreBy_10 l D κ ε qm (um 0) (um 1) (um 6) H.size ((xs 2)) c46 c47) (cwV 2 hts gL_law_X6_scoreBy rfl rfl rfl (by decide +kernel) ⟨(Nat.le_of_ble_eq_true rfl), (Nat.le_of_ble_eq_true rfl)⟩) (pre2_V (q0 := 2) (ci := 8) (wc := [(qm, .inr (8, [.int 0, .int 0, .int 2, .ref (um 0), .ref (um 1), .int 0, .int 500, .int 0, .int 0, .int 0, .ref (um 6)]))]) hP hD hK hE9 hS hA [2] (by decide) rfl rfl rfl) rfl rfl hl.1 rfl (lv_room (Nat.le_of_ble_eq_true rfl)) dL_law_1583 ⟨(Nat.le_of_ble_eq_true rfl), (Nat.le_of_ble_eq_true rfl)⟩) hS (fun q _ h => hF q h) hF (fun r u53 t H locs ht hvm hw hB hz1 hk1 hS => ?_)
            try dsimp only at hw hB
            obtain ⟨hP1, hD1⟩ := hB
            rw [ht] at hP1
            obtain ⟨hP, hD⟩ := post_j (ws' := [((ux 2), .inl (κ 3, 4, .inr (.inr (.inr (.inr (sel [(ux 6), (ux 12), (ux 18), (ux 24)])))))), ((ux 6), .inr (6, [.ref (ux 7), .ref (ux 8), .int 0])), (qm, .inr (8, u53)), ((um 0), .inr (1, [.int 0, .ref (ε 1), .int 0])), ((um 1), .inl (κ 4, 4, .inr (.inr (.inr (.inr (sel [(um 2), (um 3), (um 4), (um 5)])))))), ((um 2), .inl (κ 0, 14, .inl (fun _ => 0))), ((um 3), .inl (κ 0, 196, .inl (fun _ => 0))), (qo, .inl (κ 2, 1, .inr (.inl u44)))]) (wr := [((ux 2), .inl (κ 3, 4, .inr (.inr (.inr (.inr (sel [(ux 6), (ux 12), (ux 18), (ux 24)])))))), ((ux 6), .inr (6, [.ref (ux 7), .ref (ux 8), .int 0])), ((um 0), .inr (1, [.int 0, .ref (ε 1), .int 0])), ((um 1), .inl (κ 4, 4, .inr (.inr (.inr (.inr (sel [(um 2), (um 3), (um 4), (um 5)])))))), ((um 2), .inl (κ 0, 14, .inl (fun _ => 0))), ((um 3), .inl (κ 0, 196, .inl (fun _ => 0))), (qo, .inl (κ 2, 1, .inr (.inl u44)))]) (w1 := [(qm, .inr (8, u53))]) hP hD hF [2] rfl [0, 1, 3, 4, 5, 6, 7] rfl (by decide) (by decide) hk1 hP1 hD1 [0, 1, 7, 2, 3, 4, 5, 6] (by decide) rfl
            have hP : va_P D vwCl [((ux 2), .inl (κ 3, 4, .inr (.inr (.inr (.inr (sel [(ux 6), (ux 12), (ux 18), (ux 24)])))))), ((ux 6), .inr (6, [.ref (ux 7), .ref (ux 8), .int 0])), (qm, .inr (8, u53)), ((um 0), .inr (1, [.int 0, .ref (ε 1), .int 0])), ((um 1), .inl (κ 4, 4, .inr (.inr (.inr (.inr (sel [(um 2), (um 3), (um 4), (um 5)])))))), ((um 2), .inl (κ 0, 14, .inl (fun _ => 0))), ((um 3), .inl (κ 0, 196, .inl (fun _ => 0))), (qo, .inl (κ 2, 1, .inr (.inl u44)))] H := hP
            have hD : va_D (fun q : Nat => s.heap.size ≤ q) [((ux 2), .inl (κ 3, 4, .inr (.inr (.inr (.inr (sel [(ux 6), (ux 12), (ux 18), (ux 24)])))))), ((ux 6), .inr (6, [.ref (ux 7), .ref (ux 8), .int 0])), (qm, .inr (8, u53)), ((um 0), .inr (1, [.int 0, .ref (ε 1), .int 0])), ((um 1), .inl (κ 4, 4, .inr (.inr (.inr (.inr (sel [(um 2), (um 3), (um 4), (um 5)])))))), ((um 2), .inl (κ 0, 14, .inl (fun _ => 0))), ((um 3), .inl (κ 0, 196, .inl (fun _ => 0))), (qo, .inl (κ 2, 1, .inr (.inl u44)))] := hD
            obtain ⟨hu54, rfl⟩ := hw
            refine lv_istore (lv' := [(6, .int 0), (5, .int 1), (0, .ref b), (1, .ref qx), (2, .ref qm), (3, .ref qo), (4, .int 0)]) hx hb dL_law_1586 hl (by decide) rfl (fun ls hl => ?_)
            refine lv_aload_n hx hb dL_law_1588 rfl (lv_at hl 4 rfl) ?_
            refine vp_callSi (W.runV (As := []) (rest := []) ⟨hx, hb, hml, hown, hts⟩ (k_thrown l D κ qm u53 (1) hu54) (cwV 0 hts gL_law_X6_thrown rfl rfl rfl (by decide +kernel) ⟨(Nat.le_of_ble_eq_true rfl), (Nat.le_of_ble_eq_true rfl)⟩) (pre0_V (q0 := 2) (ci := 8) (wc := [(qm, .inr (8, u53))]) hP hK [2] rfl rfl rfl) rfl rfl hl.1 rfl (lv_room (Nat.le_of_ble_eq_true rfl)) dL_law_1589 ⟨(Nat.le_of_ble_eq_true rfl), (Nat.le_of_ble_eq_true rfl)⟩) (fun r hw => ?_)
            subst hw
            refine lv_iload hx hb dL_law_1592 (lv_at hl 1 rfl) ?_
            refine lv_icmp_eq (tgt := 1599) hx hb dL_law_1594 (by decide) (fun _ => ?_) (fun h => absurd (by decide) h)
            refine lv_iload hx hb dL_law_1599 (lv_at hl 1 rfl) ?_
            refine lv_if_ne (tgt := 1616) hx hb dL_law_1601 (by decide) (fun _ => ?_) (fun h => absurd h (by decide))
            refine lv_goto (tgt := 1677) hx hb dL_law_1616 (by decide) ?_
            exact law_end C0 (Nat.le_of_ble_eq_true rfl) (Nat.le_of_ble_eq_true rfl) hS (lv_sub hl [2, 6] rfl)
          · skip
            refine lv_istore (lv' := [(5, .int 0), (0, .ref b), (1, .ref qx), (2, .ref qm), (3, .ref qo), (4, .int 0)]) hx hb dL_law_1568 hl (by decide) rfl (fun ls hl => ?_)
            refine lv_aload_n hx hb dL_law_1570 rfl (lv_at hl 3 rfl) ?_
            refine lv_aload_n hx hb dL_law_1571 rfl (lv_at hl 1 rfl) ?_
            refine lv_iload hx hb dL_law_1572 (lv_at hl 5 rfl) ?_
            refine lv_iconst (v := 1) hx hb dL_law_1574 (by decide) ?_
            refine lv_iadd hx hb dL_law_1575 ?_
            refine tpi (v := 1) (by decide) ?_
            refine va_sld hx hb hX hbl hbA hS (vpl (by decide)) dL_law_1576 ?_
            refine tpi (v := (xs 1)) rfl ?_
            refine tpi (v := 3) e43 ?_
            refine lv_aload_n hx hb dL_law_1577 rfl (lv_at hl 1 rfl) ?_
            refine lv_iload hx hb dL_law_1578 (lv_at hl 5 rfl) ?_
            refine lv_iconst (v := 2) hx hb dL_law_1580 (by decide) ?_
            refine lv_iadd hx hb dL_law_1581 ?_
            refine tpi (v := 2) (by decide) ?_
            refine va_sld hx hb hX hbl hbA hS (vpl (by decide)) dL_law_1582 ?_
            refine tpi (v := (xs 2)) rfl ?_
            have hF := va_free (wc := [(qm, .inr (8, [.int 0, .int 0, .int 2, .ref (um 0), .ref (um 1), .int 0, .int 500, .int 0, .int 0, .int 0, .ref (um 6)])), ((um 0), .inr (1, [.int 0, .ref (ε 1), .int 0])), ((um 1), .inl (κ 4, 4, .inr (.inr (.inr (.inr (sel [(um 2), (um 3), (um 4), (um 5)])))))), ((um 2), .inl (κ 0, 14, .inl (fun _ => 0))), ((um 3), .inl (κ 0, 196, .inl (fun _ => 0)))]) hD hS hA [2, 3, 4, 5, 6] rfl
            refine va_calli (va_runV (As := [.int 3, .int (xs 2)]) (rest := []) ⟨hx, hb, hml, hown, hts⟩ (k_X6_scoreBy_11 l D κ ε qm (um 0) (um 1) (um 6) (um 2) (um 3) (um 4) (um 5) H.size ((xs 2)) c48 c49) (cwV 2 hts gL_law_X6_scoreBy rfl rfl rfl (by decide +kernel) ⟨(Nat.le_of_ble_eq_true rfl), (Nat.le_of_ble_eq_true rfl)⟩) (pre2_V (q0 := 2) (ci := 8) (wc := [(qm, .inr (8, [.int 0, .int 0, .int 2, .ref (um 0), .ref (um 1), .int 0, .int 500, .int 0, .int 0, .int 0, .ref (um 6)])), ((um 0), .inr (1, [.int 0, .ref (ε 1), .int 0])), ((um 1), .inl (κ 4, 4, .inr (.inr (.inr (.inr (sel [(um 2), (um 3), (um 4), (um 5)])))))), ((um 2), .inl (κ 0, 14, .inl (fun _ => 0))), ((um 3), .inl (κ 0, 196, .inl (fun _ => 0)))]) hP hD hK hE9 hS hA [2, 3, 4, 5, 6] (by decide) rfl rfl rfl) rfl rfl hl.1 rfl (lv_room (Nat.le_of_ble_eq_true rfl)) dL_law_1583 ⟨(Nat.le_of_ble_eq_true rfl), (Nat.le_of_ble_eq_true rfl)⟩) hS (fun q _ h => hF q h) hF (fun r u55 t H locs ht hvm hw hB hz1 hk1 hS => ?_)
            try dsimp only at hw hB
            obtain ⟨hP1, hD1⟩ := hB
            rw [ht] at hP1
            obtain ⟨hP, hD⟩ := post_j (ws' := [((ux 2), .inl (κ 3, 4, .inr (.inr (.inr (.inr (sel [(ux 6), (ux 12), (ux 18), (ux 24)])))))), ((ux 6), .inr (6, [.ref (ux 7), .ref (ux 8), .int 0])), (qm, .inr (8, u55)), (qo, .inl (κ 2, 1, .inr (.inl u44)))]) (wr := [((ux 2), .inl (κ 3, 4, .inr (.inr (.inr (.inr (sel [(ux 6), (ux 12), (ux 18), (ux 24)])))))), ((ux 6), .inr (6, [.ref (ux 7), .ref (ux 8), .int 0])), (qo, .inl (κ 2, 1, .inr (.inl u44)))]) (w1 := [(qm, .inr (8, u55))]) hP hD hF [2, 3, 4, 5, 6] rfl [0, 1, 7] rfl (by decide) (by decide) hk1 hP1 hD1 [0, 1, 3, 2] (by decide) rfl
            have hP : va_P D vwCl [((ux 2), .inl (κ 3, 4, .inr (.inr (.inr (.inr (sel [(ux 6), (ux 12), (ux 18), (ux 24)])))))), ((ux 6), .inr (6, [.ref (ux 7), .ref (ux 8), .int 0])), (qm, .inr (8, u55)), (qo, .inl (κ 2, 1, .inr (.inl u44)))] H := hP
            have hD : va_D (fun q : Nat => s.heap.size ≤ q) [((ux 2), .inl (κ 3, 4, .inr (.inr (.inr (.inr (sel [(ux 6), (ux 12), (ux 18), (ux 24)])))))), ((ux 6), .inr (6, [.ref (ux 7), .ref (ux 8), .int 0])), (qm, .inr (8, u55)), (qo, .inl (κ 2, 1, .inr (.inl u44)))] := hD
            obtain ⟨hu56, rfl⟩ := hw
            refine lv_istore (lv' := [(6, .int 0), (5, .int 0), (0, .ref b), (1, .ref qx), (2, .ref qm), (3, .ref qo), (4, .int 0)]) hx hb dL_law_1586 hl (by decide) rfl (fun ls hl => ?_)
            refine lv_aload_n hx hb dL_law_1588 rfl (lv_at hl 4 rfl) ?_
            refine vp_callSi (W.runV (As := []) (rest := []) ⟨hx, hb, hml, hown, hts⟩ (k_thrown l D κ qm u55 (0) hu56) (cwV 0 hts gL_law_X6_thrown rfl rfl rfl (by decide +kernel) ⟨(Nat.le_of_ble_eq_true rfl), (Nat.le_of_ble_eq_true rfl)⟩) (pre0_V (q0 := 2) (ci := 8) (wc := [(qm, .inr (8, u55))]) hP hK [2] rfl rfl rfl) rfl rfl hl.1 rfl (lv_room (Nat.le_of_ble_eq_true rfl)) dL_law_1589 ⟨(Nat.le_of_ble_eq_true rfl), (Nat.le_of_ble_eq_true rfl)⟩) (fun r hw => ?_)
            subst hw
            refine lv_iload hx hb dL_law_1592 (lv_at hl 1 rfl) ?_
            refine lv_icmp_eq (tgt := 1599) hx hb dL_law_1594 (by decide) (fun _ => ?_) (fun h => absurd (by decide) h)
            refine lv_iload hx hb dL_law_1599 (lv_at hl 1 rfl) ?_
            refine lv_if_ne (tgt := 1616) hx hb dL_law_1601 (by decide) (fun h => absurd (by decide) h) (fun _ => ?_)
            refine lv_aload_n hx hb dL_law_1604 rfl (lv_at hl 5 rfl) ?_
            refine lv_iconst (v := 0) hx hb dL_law_1605 (by decide) ?_
            refine va_lald (cA := κ 2) (n := 1) (f := u44) hx hb hK hP 3 2 rfl rfl (vpl (by decide)) dL_law_1606 ?_
            refine tpl (v := 0) hu50 ?_
            refine lv_iload hx hb dL_law_1607 (lv_at hl 0 rfl) ?_
            refine lv_i2l (v := 0) hx hb dL_law_1609 (by decide) ?_
            refine W.lcmp hx hb dL_law_1610 ?_
            refine tpi (v := 0) (by decide) ?_
            refine lv_if_eq (tgt := 1616) hx hb dL_law_1611 (by decide) (fun _ => ?_) (fun h => absurd (by decide) h)
            refine lv_goto (tgt := 1677) hx hb dL_law_1616 (by decide) ?_
            exact law_end C0 (Nat.le_of_ble_eq_true rfl) (Nat.le_of_ble_eq_true rfl) hS (lv_sub hl [2, 6] rfl)
        · skip
          by_cases e57 : (xs 1) = 4
          · skip
            refine lv_aload_n hx hb dL_law_1551 rfl (lv_at hl 1 rfl) ?_
            refine lv_aload_n hx hb dL_law_1552 rfl (lv_at hl 0 rfl) ?_
            refine lv_iload hx hb dL_law_1553 (lv_at hl 4 rfl) ?_
            refine lv_iconst (v := 1) hx hb dL_law_1555 (by decide) ?_
            refine lv_iadd hx hb dL_law_1556 ?_
            refine tpi (v := 1) (by decide) ?_
            refine va_sld hx hb hX hbl hbA hS (vpl (by decide)) dL_law_1557 ?_
            refine tpi (v := (xs 1)) rfl ?_
            refine tpi (v := 4) e57 ?_
            refine lv_aload_n hx hb dL_law_1558 rfl (lv_at hl 0 rfl) ?_
            refine lv_iload hx hb dL_law_1559 (lv_at hl 4 rfl) ?_
            refine lv_iconst (v := 2) hx hb dL_law_1561 (by decide) ?_
            refine lv_iadd hx hb dL_law_1562 ?_
            refine tpi (v := 2) (by decide) ?_
            refine va_sld hx hb hX hbl hbA hS (vpl (by decide)) dL_law_1563 ?_
            refine tpi (v := (xs 2)) rfl ?_
            refine lv_aload_n hx hb dL_law_1564 rfl (lv_at hl 3 rfl) ?_
            have hF := va_free (wc := [(qx, .inr (7, [.ref (ux 0), .ref (ux 27), .ref (ux 30), .ref (ux 31), .ref (ux 35), .ref (ux 36), .int 0, .int 0, .int 0, .int 0])), (qo, .inl (κ 2, 1, .inr (.inl (fun _ => 0)))), ((ux 0), .inr (2, [.int 0, .int 2, .ref (ux 1), .ref (ux 2)])), ((ux 27), .inr (3, [.ref (ux 0), .int 0, .int 500, .ref (ux 28), .ref (ux 29), .long 0, .int 0])), ((ux 1), .inl (κ 3, 4, .inr (.inr (.inr (.inr (sel [(ux 3), (ux 9), (ux 15), (ux 21)])))))), ((ux 2), .inl (κ 3, 4, .inr (.inr (.inr (.inr (sel [(ux 6), (ux 12), (ux 18), (ux 24)])))))), ((ux 28), .inl (κ 0, 13, .inl (fun _ => 0))), ((ux 29), .inl (κ 0, 13, .inl (fun _ => 0))), ((ux 9), .inr (6, [.ref (ux 10), .ref (ux 11), .int 0])), ((ux 6), .inr (6, [.ref (ux 7), .ref (ux 8), .int 0]))]) hD hS hA [0, 15, 1, 7, 2, 3, 8, 9, 6, 5] rfl
            refine va_calli (vx_runSW (As := [.ref qx, .int 4, .int (xs 2), .ref qo]) (rest := []) ⟨hx, hb, hml, hown, hts⟩ (k_L_scoreBy_4 l hst D κ ε qx qo (ux 0) (ux 27) (ux 30) (ux 31) (ux 35) (ux 36) (ux 1) (ux 2) (ux 28) (ux 29) (ux 3) (ux 9) (ux 15) (ux 21) (ux 6) (ux 12) (ux 18) (ux 24) (ux 10) (ux 11) (ux 7) (ux 8) H.size ((xs 2))) (vx_cwSW 4 hts gL_law_L_scoreBy rfl rfl rfl (by decide +kernel) ⟨(Nat.le_of_ble_eq_true rfl), (Nat.le_of_ble_eq_true rfl)⟩) (pre2_S (wc := [(qx, .inr (7, [.ref (ux 0), .ref (ux 27), .ref (ux 30), .ref (ux 31), .ref (ux 35), .ref (ux 36), .int 0, .int 0, .int 0, .int 0])), (qo, .inl (κ 2, 1, .inr (.inl (fun _ => 0)))), ((ux 0), .inr (2, [.int 0, .int 2, .ref (ux 1), .ref (ux 2)])), ((ux 27), .inr (3, [.ref (ux 0), .int 0, .int 500, .ref (ux 28), .ref (ux 29), .long 0, .int 0])), ((ux 1), .inl (κ 3, 4, .inr (.inr (.inr (.inr (sel [(ux 3), (ux 9), (ux 15), (ux 21)])))))), ((ux 2), .inl (κ 3, 4, .inr (.inr (.inr (.inr (sel [(ux 6), (ux 12), (ux 18), (ux 24)])))))), ((ux 28), .inl (κ 0, 13, .inl (fun _ => 0))), ((ux 29), .inl (κ 0, 13, .inl (fun _ => 0))), ((ux 9), .inr (6, [.ref (ux 10), .ref (ux 11), .int 0])), ((ux 6), .inr (6, [.ref (ux 7), .ref (ux 8), .int 0]))]) hP hD hK hE9 hS hA [0, 15, 1, 7, 2, 3, 8, 9, 6, 5] (by decide) rfl) rfl rfl hl.1 rfl (lv_room (Nat.le_of_ble_eq_true rfl)) dL_law_1565 ⟨(Nat.le_of_ble_eq_true rfl), (Nat.le_of_ble_eq_true rfl)⟩) hS (fun q _ h => hF q h) hF (fun r u58 t H locs ht hvm hw hB hz1 hk1 hS => ?_)
            try dsimp only at hw hB
            obtain ⟨hP1, hD1⟩ := hB
            rw [ht] at hP1
            obtain ⟨hP, hD⟩ := post_j (ws' := [((ux 3), .inr (6, [.ref (ux 4), .ref (ux 5), .int 0])), (qm, .inr (8, [.int 0, .int 0, .int 2, .ref (um 0), .ref (um 1), .int 0, .int 500, .int 0, .int 0, .int 0, .ref (um 6)])), ((um 0), .inr (1, [.int 0, .ref (ε 1), .int 0])), ((um 1), .inl (κ 4, 4, .inr (.inr (.inr (.inr (sel [(um 2), (um 3), (um 4), (um 5)])))))), ((um 2), .inl (κ 0, 14, .inl (fun _ => 0))), ((um 3), .inl (κ 0, 196, .inl (fun _ => 0))), (qo, .inl (κ 2, 1, .inr (.inl u58)))]) (wr := [((ux 3), .inr (6, [.ref (ux 4), .ref (ux 5), .int 0])), (qm, .inr (8, [.int 0, .int 0, .int 2, .ref (um 0), .ref (um 1), .int 0, .int 500, .int 0, .int 0, .int 0, .ref (um 6)])), ((um 0), .inr (1, [.int 0, .ref (ε 1), .int 0])), ((um 1), .inl (κ 4, 4, .inr (.inr (.inr (.inr (sel [(um 2), (um 3), (um 4), (um 5)])))))), ((um 2), .inl (κ 0, 14, .inl (fun _ => 0))), ((um 3), .inl (κ 0, 196, .inl (fun _ => 0)))]) (w1 := [(qo, .inl (κ 2, 1, .inr (.inl u58)))]) hP hD hF [0, 15, 1, 7, 2, 3, 8, 9, 6, 5] rfl [4, 10, 11, 12, 13, 14] rfl (by decide) (by decide) hk1 hP1 hD1 [0, 1, 2, 3, 4, 5, 6] (by decide) rfl
            have hP : va_P D vwCl [((ux 3), .inr (6, [.ref (ux 4), .ref (ux 5), .int 0])), (qm, .inr (8, [.int 0, .int 0, .int 2, .ref (um 0), .ref (um 1), .int 0, .int 500, .int 0, .int 0, .int 0, .ref (um 6)])), ((um 0), .inr (1, [.int 0, .ref (ε 1), .int 0])), ((um 1), .inl (κ 4, 4, .inr (.inr (.inr (.inr (sel [(um 2), (um 3), (um 4), (um 5)])))))), ((um 2), .inl (κ 0, 14, .inl (fun _ => 0))), ((um 3), .inl (κ 0, 196, .inl (fun _ => 0))), (qo, .inl (κ 2, 1, .inr (.inl u58)))] H := hP
            have hD : va_D (fun q : Nat => s.heap.size ≤ q) [((ux 3), .inr (6, [.ref (ux 4), .ref (ux 5), .int 0])), (qm, .inr (8, [.int 0, .int 0, .int 2, .ref (um 0), .ref (um 1), .int 0, .int 500, .int 0, .int 0, .int 0, .ref (um 6)])), ((um 0), .inr (1, [.int 0, .ref (ε 1), .int 0])), ((um 1), .inl (κ 4, 4, .inr (.inr (.inr (.inr (sel [(um 2), (um 3), (um 4), (um 5)])))))), ((um 2), .inl (κ 0, 14, .inl (fun _ => 0))), ((um 3), .inl (κ 0, 196, .inl (fun _ => 0))), (qo, .inl (κ 2, 1, .inr (.inl u58)))] := hD
            rcases hw with ⟨c59, rfl⟩ | ⟨c60, c61, rfl⟩ | ⟨c62, c63, hu64, rfl⟩
            · skip
              refine lv_istore (lv' := [(5, .int 1), (0, .ref b), (1, .ref qx), (2, .ref qm), (3, .ref qo), (4, .int 0)]) hx hb dL_law_1568 hl (by decide) rfl (fun ls hl => ?_)
              refine lv_aload_n hx hb dL_law_1570 rfl (lv_at hl 3 rfl) ?_
              refine lv_aload_n hx hb dL_law_1571 rfl (lv_at hl 1 rfl) ?_
              refine lv_iload hx hb dL_law_1572 (lv_at hl 5 rfl) ?_
              refine lv_iconst (v := 1) hx hb dL_law_1574 (by decide) ?_
              refine lv_iadd hx hb dL_law_1575 ?_
              refine tpi (v := 1) (by decide) ?_
              refine va_sld hx hb hX hbl hbA hS (vpl (by decide)) dL_law_1576 ?_
              refine tpi (v := (xs 1)) rfl ?_
              refine tpi (v := 4) e57 ?_
              refine lv_aload_n hx hb dL_law_1577 rfl (lv_at hl 1 rfl) ?_
              refine lv_iload hx hb dL_law_1578 (lv_at hl 5 rfl) ?_
              refine lv_iconst (v := 2) hx hb dL_law_1580 (by decide) ?_
              refine lv_iadd hx hb dL_law_1581 ?_
              refine tpi (v := 2) (by decide) ?_
              refine va_sld hx hb hX hbl hbA hS (vpl (by decide)) dL_law_1582 ?_
              refine tpi (v := (xs 2)) rfl ?_
              have hF := va_free (wc := [(qm, .inr (8, [.int 0, .int 0, .int 2, .ref (um 0), .ref (um 1), .int 0, .int 500, .int 0, .int 0, .int 0, .ref (um 6)]))]) hD hS hA [1] rfl
              refine va_calli (va_runV (As := [.int 4, .int (xs 2)]) (rest := []) ⟨hx, hb, hml, hown, hts⟩ (k_X6_scoreBy_12 l D κ ε qm (um 0) (um 1) (um 6) H.size ((xs 2)) c59) (cwV 2 hts gL_law_X6_scoreBy rfl rfl rfl (by decide +kernel) ⟨(Nat.le_of_ble_eq_true rfl), (Nat.le_of_ble_eq_true rfl)⟩) (pre2_V (q0 := 1) (ci := 8) (wc := [(qm, .inr (8, [.int 0, .int 0, .int 2, .ref (um 0), .ref (um 1), .int 0, .int 500, .int 0, .int 0, .int 0, .ref (um 6)]))]) hP hD hK hE9 hS hA [1] (by decide) rfl rfl rfl) rfl rfl hl.1 rfl (lv_room (Nat.le_of_ble_eq_true rfl)) dL_law_1583 ⟨(Nat.le_of_ble_eq_true rfl), (Nat.le_of_ble_eq_true rfl)⟩) hS (fun q _ h => hF q h) hF (fun r u65 t H locs ht hvm hw hB hz1 hk1 hS => ?_)
              try dsimp only at hw hB
              obtain ⟨hP1, hD1⟩ := hB
              rw [ht] at hP1
              obtain ⟨hP, hD⟩ := post_j (ws' := [((ux 3), .inr (6, [.ref (ux 4), .ref (ux 5), .int 0])), (qm, .inr (8, u65)), ((um 0), .inr (1, [.int 0, .ref (ε 1), .int 0])), ((um 1), .inl (κ 4, 4, .inr (.inr (.inr (.inr (sel [(um 2), (um 3), (um 4), (um 5)])))))), ((um 2), .inl (κ 0, 14, .inl (fun _ => 0))), ((um 3), .inl (κ 0, 196, .inl (fun _ => 0))), (qo, .inl (κ 2, 1, .inr (.inl u58)))]) (wr := [((ux 3), .inr (6, [.ref (ux 4), .ref (ux 5), .int 0])), ((um 0), .inr (1, [.int 0, .ref (ε 1), .int 0])), ((um 1), .inl (κ 4, 4, .inr (.inr (.inr (.inr (sel [(um 2), (um 3), (um 4), (um 5)])))))), ((um 2), .inl (κ 0, 14, .inl (fun _ => 0))), ((um 3), .inl (κ 0, 196, .inl (fun _ => 0))), (qo, .inl (κ 2, 1, .inr (.inl u58)))]) (w1 := [(qm, .inr (8, u65))]) hP hD hF [1] rfl [0, 2, 3, 4, 5, 6] rfl (by decide) (by decide) hk1 hP1 hD1 [0, 6, 1, 2, 3, 4, 5] (by decide) rfl
              have hP : va_P D vwCl [((ux 3), .inr (6, [.ref (ux 4), .ref (ux 5), .int 0])), (qm, .inr (8, u65)), ((um 0), .inr (1, [.int 0, .ref (ε 1), .int 0])), ((um 1), .inl (κ 4, 4, .inr (.inr (.inr (.inr (sel [(um 2), (um 3), (um 4), (um 5)])))))), ((um 2), .inl (κ 0, 14, .inl (fun _ => 0))), ((um 3), .inl (κ 0, 196, .inl (fun _ => 0))), (qo, .inl (κ 2, 1, .inr (.inl u58)))] H := hP
              have hD : va_D (fun q : Nat => s.heap.size ≤ q) [((ux 3), .inr (6, [.ref (ux 4), .ref (ux 5), .int 0])), (qm, .inr (8, u65)), ((um 0), .inr (1, [.int 0, .ref (ε 1), .int 0])), ((um 1), .inl (κ 4, 4, .inr (.inr (.inr (.inr (sel [(um 2), (um 3), (um 4), (um 5)])))))), ((um 2), .inl (κ 0, 14, .inl (fun _ => 0))), ((um 3), .inl (κ 0, 196, .inl (fun _ => 0))), (qo, .inl (κ 2, 1, .inr (.inl u58)))] := hD
              obtain ⟨hu66, rfl⟩ := hw
              refine lv_istore (lv' := [(6, .int 0), (5, .int 1), (0, .ref b), (1, .ref qx), (2, .ref qm), (3, .ref qo), (4, .int 0)]) hx hb dL_law_1586 hl (by decide) rfl (fun ls hl => ?_)
              refine lv_aload_n hx hb dL_law_1588 rfl (lv_at hl 4 rfl) ?_
              refine vp_callSi (W.runV (As := []) (rest := []) ⟨hx, hb, hml, hown, hts⟩ (k_thrown l D κ qm u65 (1) hu66) (cwV 0 hts gL_law_X6_thrown rfl rfl rfl (by decide +kernel) ⟨(Nat.le_of_ble_eq_true rfl), (Nat.le_of_ble_eq_true rfl)⟩) (pre0_V (q0 := 1) (ci := 8) (wc := [(qm, .inr (8, u65))]) hP hK [1] rfl rfl rfl) rfl rfl hl.1 rfl (lv_room (Nat.le_of_ble_eq_true rfl)) dL_law_1589 ⟨(Nat.le_of_ble_eq_true rfl), (Nat.le_of_ble_eq_true rfl)⟩) (fun r hw => ?_)
              subst hw
              refine lv_iload hx hb dL_law_1592 (lv_at hl 1 rfl) ?_
              refine lv_icmp_eq (tgt := 1599) hx hb dL_law_1594 (by decide) (fun _ => ?_) (fun h => absurd (by decide) h)
              refine lv_iload hx hb dL_law_1599 (lv_at hl 1 rfl) ?_
              refine lv_if_ne (tgt := 1616) hx hb dL_law_1601 (by decide) (fun _ => ?_) (fun h => absurd h (by decide))
              refine lv_goto (tgt := 1677) hx hb dL_law_1616 (by decide) ?_
              exact law_end C0 (Nat.le_of_ble_eq_true rfl) (Nat.le_of_ble_eq_true rfl) hS (lv_sub hl [2, 6] rfl)
            · skip
              refine lv_istore (lv' := [(5, .int 1), (0, .ref b), (1, .ref qx), (2, .ref qm), (3, .ref qo), (4, .int 0)]) hx hb dL_law_1568 hl (by decide) rfl (fun ls hl => ?_)
              refine lv_aload_n hx hb dL_law_1570 rfl (lv_at hl 3 rfl) ?_
              refine lv_aload_n hx hb dL_law_1571 rfl (lv_at hl 1 rfl) ?_
              refine lv_iload hx hb dL_law_1572 (lv_at hl 5 rfl) ?_
              refine lv_iconst (v := 1) hx hb dL_law_1574 (by decide) ?_
              refine lv_iadd hx hb dL_law_1575 ?_
              refine tpi (v := 1) (by decide) ?_
              refine va_sld hx hb hX hbl hbA hS (vpl (by decide)) dL_law_1576 ?_
              refine tpi (v := (xs 1)) rfl ?_
              refine tpi (v := 4) e57 ?_
              refine lv_aload_n hx hb dL_law_1577 rfl (lv_at hl 1 rfl) ?_
              refine lv_iload hx hb dL_law_1578 (lv_at hl 5 rfl) ?_
              refine lv_iconst (v := 2) hx hb dL_law_1580 (by decide) ?_
              refine lv_iadd hx hb dL_law_1581 ?_
              refine tpi (v := 2) (by decide) ?_
              refine va_sld hx hb hX hbl hbA hS (vpl (by decide)) dL_law_1582 ?_
              refine tpi (v := (xs 2)) rfl ?_
              have hF := va_free (wc := [(qm, .inr (8, [.int 0, .int 0, .int 2, .ref (um 0), .ref (um 1), .int 0, .int 500, .int 0, .int 0, .int 0, .ref (um 6)]))]) hD hS hA [1] rfl
              refine va_calli (va_runV (As := [.int 4, .int (xs 2)]) (rest := []) ⟨hx, hb, hml, hown, hts⟩ (k_X6_scoreBy_13 l D κ ε qm (um 0) (um 1) (um 6) H.size ((xs 2)) c60 c61) (cwV 2 hts gL_law_X6_scoreBy rfl rfl rfl (by decide +kernel) ⟨(Nat.le_of_ble_eq_true rfl), (Nat.le_of_ble_eq_true rfl)⟩) (pre2_V (q0 := 1) (ci := 8) (wc := [(qm, .inr (8, [.int 0, .int 0, .int 2, .ref (um 0), .ref (um 1), .int 0, .int 500, .int 0, .int 0, .int 0, .ref (um 6)]))]) hP hD hK hE9 hS hA [1] (by decide) rfl rfl rfl) rfl rfl hl.1 rfl (lv_room (Nat.le_of_ble_eq_true rfl)) dL_law_1583 ⟨(Nat.le_of_ble_eq_true rfl), (Nat.le_of_ble_eq_true rfl)⟩) hS (fun q _ h => hF q h) hF (fun r u67 t H locs ht hvm hw hB hz1 hk1 hS => ?_)
              try dsimp only at hw hB
              obtain ⟨hP1, hD1⟩ := hB
              rw [ht] at hP1
              obtain ⟨hP, hD⟩ := post_j (ws' := [((ux 3), .inr (6, [.ref (ux 4), .ref (ux 5), .int 0])), (qm, .inr (8, u67)), ((um 0), .inr (1, [.int 0, .ref (ε 1), .int 0])), ((um 1), .inl (κ 4, 4, .inr (.inr (.inr (.inr (sel [(um 2), (um 3), (um 4), (um 5)])))))), ((um 2), .inl (κ 0, 14, .inl (fun _ => 0))), ((um 3), .inl (κ 0, 196, .inl (fun _ => 0))), (qo, .inl (κ 2, 1, .inr (.inl u58)))]) (wr := [((ux 3), .inr (6, [.ref (ux 4), .ref (ux 5), .int 0])), ((um 0), .inr (1, [.int 0, .ref (ε 1), .int 0])), ((um 1), .inl (κ 4, 4, .inr (.inr (.inr (.inr (sel [(um 2), (um 3), (um 4), (um 5)])))))), ((um 2), .inl (κ 0, 14, .inl (fun _ => 0))), ((um 3), .inl (κ 0, 196, .inl (fun _ => 0))), (qo, .inl (κ 2, 1, .inr (.inl u58)))]) (w1 := [(qm, .inr (8, u67))]) hP hD hF [1] rfl [0, 2, 3, 4, 5, 6] rfl (by decide) (by decide) hk1 hP1 hD1 [0, 6, 1, 2, 3, 4, 5] (by decide) rfl
              have hP : va_P D vwCl [((ux 3), .inr (6, [.ref (ux 4), .ref (ux 5), .int 0])), (qm, .inr (8, u67)), ((um 0), .inr (1, [.int 0, .ref (ε 1), .int 0])), ((um 1), .inl (κ 4, 4, .inr (.inr (.inr (.inr (sel [(um 2), (um 3), (um 4), (um 5)])))))), ((um 2), .inl (κ 0, 14, .inl (fun _ => 0))), ((um 3), .inl (κ 0, 196, .inl (fun _ => 0))), (qo, .inl (κ 2, 1, .inr (.inl u58)))] H := hP
              have hD : va_D (fun q : Nat => s.heap.size ≤ q) [((ux 3), .inr (6, [.ref (ux 4), .ref (ux 5), .int 0])), (qm, .inr (8, u67)), ((um 0), .inr (1, [.int 0, .ref (ε 1), .int 0])), ((um 1), .inl (κ 4, 4, .inr (.inr (.inr (.inr (sel [(um 2), (um 3), (um 4), (um 5)])))))), ((um 2), .inl (κ 0, 14, .inl (fun _ => 0))), ((um 3), .inl (κ 0, 196, .inl (fun _ => 0))), (qo, .inl (κ 2, 1, .inr (.inl u58)))] := hD
              obtain ⟨hu68, rfl⟩ := hw
              refine lv_istore (lv' := [(6, .int 0), (5, .int 1), (0, .ref b), (1, .ref qx), (2, .ref qm), (3, .ref qo), (4, .int 0)]) hx hb dL_law_1586 hl (by decide) rfl (fun ls hl => ?_)
              refine lv_aload_n hx hb dL_law_1588 rfl (lv_at hl 4 rfl) ?_
              refine vp_callSi (W.runV (As := []) (rest := []) ⟨hx, hb, hml, hown, hts⟩ (k_thrown l D κ qm u67 (1) hu68) (cwV 0 hts gL_law_X6_thrown rfl rfl rfl (by decide +kernel) ⟨(Nat.le_of_ble_eq_true rfl), (Nat.le_of_ble_eq_true rfl)⟩) (pre0_V (q0 := 1) (ci := 8) (wc := [(qm, .inr (8, u67))]) hP hK [1] rfl rfl rfl) rfl rfl hl.1 rfl (lv_room (Nat.le_of_ble_eq_true rfl)) dL_law_1589 ⟨(Nat.le_of_ble_eq_true rfl), (Nat.le_of_ble_eq_true rfl)⟩) (fun r hw => ?_)
              subst hw
              refine lv_iload hx hb dL_law_1592 (lv_at hl 1 rfl) ?_
              refine lv_icmp_eq (tgt := 1599) hx hb dL_law_1594 (by decide) (fun _ => ?_) (fun h => absurd (by decide) h)
              refine lv_iload hx hb dL_law_1599 (lv_at hl 1 rfl) ?_
              refine lv_if_ne (tgt := 1616) hx hb dL_law_1601 (by decide) (fun _ => ?_) (fun h => absurd h (by decide))
              refine lv_goto (tgt := 1677) hx hb dL_law_1616 (by decide) ?_
              exact law_end C0 (Nat.le_of_ble_eq_true rfl) (Nat.le_of_ble_eq_true rfl) hS (lv_sub hl [2, 6] rfl)
            · skip
              refine lv_istore (lv' := [(5, .int 0), (0, .ref b), (1, .ref qx), (2, .ref qm), (3, .ref qo), (4, .int 0)]) hx hb dL_law_1568 hl (by decide) rfl (fun ls hl => ?_)
              refine lv_aload_n hx hb dL_law_1570 rfl (lv_at hl 3 rfl) ?_
              refine lv_aload_n hx hb dL_law_1571 rfl (lv_at hl 1 rfl) ?_
              refine lv_iload hx hb dL_law_1572 (lv_at hl 5 rfl) ?_
              refine lv_iconst (v := 1) hx hb dL_law_1574 (by decide) ?_
              refine lv_iadd hx hb dL_law_1575 ?_
              refine tpi (v := 1) (by decide) ?_
              refine va_sld hx hb hX hbl hbA hS (vpl (by decide)) dL_law_1576 ?_
              refine tpi (v := (xs 1)) rfl ?_
              refine tpi (v := 4) e57 ?_
              refine lv_aload_n hx hb dL_law_1577 rfl (lv_at hl 1 rfl) ?_
              refine lv_iload hx hb dL_law_1578 (lv_at hl 5 rfl) ?_
              refine lv_iconst (v := 2) hx hb dL_law_1580 (by decide) ?_
              refine lv_iadd hx hb dL_law_1581 ?_
              refine tpi (v := 2) (by decide) ?_
              refine va_sld hx hb hX hbl hbA hS (vpl (by decide)) dL_law_1582 ?_
              refine tpi (v := (xs 2)) rfl ?_
              have hF := va_free (wc := [(qm, .inr (8, [.int 0, .int 0, .int 2, .ref (um 0), .ref (um 1), .int 0, .int 500, .int 0, .int 0, .int 0, .ref (um 6)])), ((um 0), .inr (1, [.int 0, .ref (ε 1), .int 0])), ((um 1), .inl (κ 4, 4, .inr (.inr (.inr (.inr (sel [(um 2), (um 3), (um 4), (um 5)])))))), ((um 3), .inl (κ 0, 196, .inl (fun _ => 0)))]) hD hS hA [1, 2, 3, 5] rfl
              refine va_calli (va_runV (As := [.int 4, .int (xs 2)]) (rest := []) ⟨hx, hb, hml, hown, hts⟩ (k_X6_scoreBy_14 l D κ ε qm (um 0) (um 1) (um 6) (um 2) (um 3) (um 4) (um 5) H.size ((xs 2)) c62 c63) (cwV 2 hts gL_law_X6_scoreBy rfl rfl rfl (by decide +kernel) ⟨(Nat.le_of_ble_eq_true rfl), (Nat.le_of_ble_eq_true rfl)⟩) (pre2_V (q0 := 1) (ci := 8) (wc := [(qm, .inr (8, [.int 0, .int 0, .int 2, .ref (um 0), .ref (um 1), .int 0, .int 500, .int 0, .int 0, .int 0, .ref (um 6)])), ((um 0), .inr (1, [.int 0, .ref (ε 1), .int 0])), ((um 1), .inl (κ 4, 4, .inr (.inr (.inr (.inr (sel [(um 2), (um 3), (um 4), (um 5)])))))), ((um 3), .inl (κ 0, 196, .inl (fun _ => 0)))]) hP hD hK hE9 hS hA [1, 2, 3, 5] (by decide) rfl rfl rfl) rfl rfl hl.1 rfl (lv_room (Nat.le_of_ble_eq_true rfl)) dL_law_1583 ⟨(Nat.le_of_ble_eq_true rfl), (Nat.le_of_ble_eq_true rfl)⟩) hS (fun q _ h => hF q h) hF (fun r u69 t H locs ht hvm hw hB hz1 hk1 hS => ?_)
              try dsimp only at hw hB
              obtain ⟨hP1, hD1⟩ := hB
              rw [ht] at hP1
              obtain ⟨hP, hD⟩ := post_j (ws' := [((ux 3), .inr (6, [.ref (ux 4), .ref (ux 5), .int 0])), (qm, .inr (8, u69)), ((um 2), .inl (κ 0, 14, .inl (fun _ => 0))), (qo, .inl (κ 2, 1, .inr (.inl u58)))]) (wr := [((ux 3), .inr (6, [.ref (ux 4), .ref (ux 5), .int 0])), ((um 2), .inl (κ 0, 14, .inl (fun _ => 0))), (qo, .inl (κ 2, 1, .inr (.inl u58)))]) (w1 := [(qm, .inr (8, u69))]) hP hD hF [1, 2, 3, 5] rfl [0, 4, 6] rfl (by decide) (by decide) hk1 hP1 hD1 [0, 3, 1, 2] (by decide) rfl
              have hP : va_P D vwCl [((ux 3), .inr (6, [.ref (ux 4), .ref (ux 5), .int 0])), (qm, .inr (8, u69)), ((um 2), .inl (κ 0, 14, .inl (fun _ => 0))), (qo, .inl (κ 2, 1, .inr (.inl u58)))] H := hP
              have hD : va_D (fun q : Nat => s.heap.size ≤ q) [((ux 3), .inr (6, [.ref (ux 4), .ref (ux 5), .int 0])), (qm, .inr (8, u69)), ((um 2), .inl (κ 0, 14, .inl (fun _ => 0))), (qo, .inl (κ 2, 1, .inr (.inl u58)))] := hD
              obtain ⟨hu70, rfl⟩ := hw
              refine lv_istore (lv' := [(6, .int 0), (5, .int 0), (0, .ref b), (1, .ref qx), (2, .ref qm), (3, .ref qo), (4, .int 0)]) hx hb dL_law_1586 hl (by decide) rfl (fun ls hl => ?_)
              refine lv_aload_n hx hb dL_law_1588 rfl (lv_at hl 4 rfl) ?_
              refine vp_callSi (W.runV (As := []) (rest := []) ⟨hx, hb, hml, hown, hts⟩ (k_thrown l D κ qm u69 (0) hu70) (cwV 0 hts gL_law_X6_thrown rfl rfl rfl (by decide +kernel) ⟨(Nat.le_of_ble_eq_true rfl), (Nat.le_of_ble_eq_true rfl)⟩) (pre0_V (q0 := 1) (ci := 8) (wc := [(qm, .inr (8, u69))]) hP hK [1] rfl rfl rfl) rfl rfl hl.1 rfl (lv_room (Nat.le_of_ble_eq_true rfl)) dL_law_1589 ⟨(Nat.le_of_ble_eq_true rfl), (Nat.le_of_ble_eq_true rfl)⟩) (fun r hw => ?_)
              subst hw
              refine lv_iload hx hb dL_law_1592 (lv_at hl 1 rfl) ?_
              refine lv_icmp_eq (tgt := 1599) hx hb dL_law_1594 (by decide) (fun _ => ?_) (fun h => absurd (by decide) h)
              refine lv_iload hx hb dL_law_1599 (lv_at hl 1 rfl) ?_
              refine lv_if_ne (tgt := 1616) hx hb dL_law_1601 (by decide) (fun h => absurd (by decide) h) (fun _ => ?_)
              refine lv_aload_n hx hb dL_law_1604 rfl (lv_at hl 5 rfl) ?_
              refine lv_iconst (v := 0) hx hb dL_law_1605 (by decide) ?_
              refine va_lald (cA := κ 2) (n := 1) (f := u58) hx hb hK hP 3 2 rfl rfl (vpl (by decide)) dL_law_1606 ?_
              refine tpl (v := 0) hu64 ?_
              refine lv_iload hx hb dL_law_1607 (lv_at hl 0 rfl) ?_
              refine lv_i2l (v := 0) hx hb dL_law_1609 (by decide) ?_
              refine W.lcmp hx hb dL_law_1610 ?_
              refine tpi (v := 0) (by decide) ?_
              refine lv_if_eq (tgt := 1616) hx hb dL_law_1611 (by decide) (fun _ => ?_) (fun h => absurd (by decide) h)
              refine lv_goto (tgt := 1677) hx hb dL_law_1616 (by decide) ?_
              exact law_end C0 (Nat.le_of_ble_eq_true rfl) (Nat.le_of_ble_eq_true rfl) hS (lv_sub hl [2, 6] rfl)
          · skip
            refine lv_aload_n hx hb dL_law_1551 rfl (lv_at hl 1 rfl) ?_
            refine lv_aload_n hx hb dL_law_1552 rfl (lv_at hl 0 rfl) ?_
            refine lv_iload hx hb dL_law_1553 (lv_at hl 4 rfl) ?_
            refine lv_iconst (v := 1) hx hb dL_law_1555 (by decide) ?_
            refine lv_iadd hx hb dL_law_1556 ?_
            refine tpi (v := 1) (by decide) ?_
            refine va_sld hx hb hX hbl hbA hS (vpl (by decide)) dL_law_1557 ?_
            refine tpi (v := (xs 1)) rfl ?_
            refine lv_aload_n hx hb dL_law_1558 rfl (lv_at hl 0 rfl) ?_
            refine lv_iload hx hb dL_law_1559 (lv_at hl 4 rfl) ?_
            refine lv_iconst (v := 2) hx hb dL_law_1561 (by decide) ?_
            refine lv_iadd hx hb dL_law_1562 ?_
            refine tpi (v := 2) (by decide) ?_
            refine va_sld hx hb hX hbl hbA hS (vpl (by decide)) dL_law_1563 ?_
            refine tpi (v := (xs 2)) rfl ?_
            refine lv_aload_n hx hb dL_law_1564 rfl (lv_at hl 3 rfl) ?_
            have hF := va_free (wc := [(qx, .inr (7, [.ref (ux 0), .ref (ux 27), .ref (ux 30), .ref (ux 31), .ref (ux 35), .ref (ux 36), .int 0, .int 0, .int 0, .int 0])), (qo, .inl (κ 2, 1, .inr (.inl (fun _ => 0))))]) hD hS hA [0, 15] rfl
            refine va_calli (vx_runSW (As := [.ref qx, .int (xs 1), .int (xs 2), .ref qo]) (rest := []) ⟨hx, hb, hml, hown, hts⟩ (k_L_scoreBy_5 l hst D κ ε qx qo (ux 0) (ux 27) (ux 30) (ux 31) (ux 35) (ux 36) H.size ((xs 1)) ((xs 2)) e1 e15 e29 e43 e57) (vx_cwSW 4 hts gL_law_L_scoreBy rfl rfl rfl (by decide +kernel) ⟨(Nat.le_of_ble_eq_true rfl), (Nat.le_of_ble_eq_true rfl)⟩) (pre2_S (wc := [(qx, .inr (7, [.ref (ux 0), .ref (ux 27), .ref (ux 30), .ref (ux 31), .ref (ux 35), .ref (ux 36), .int 0, .int 0, .int 0, .int 0])), (qo, .inl (κ 2, 1, .inr (.inl (fun _ => 0))))]) hP hD hK hE9 hS hA [0, 15] (by decide) rfl) rfl rfl hl.1 rfl (lv_room (Nat.le_of_ble_eq_true rfl)) dL_law_1565 ⟨(Nat.le_of_ble_eq_true rfl), (Nat.le_of_ble_eq_true rfl)⟩) hS (fun q _ h => hF q h) hF (fun r u71 t H locs ht hvm hw hB hz1 hk1 hS => ?_)
            try dsimp only at hw hB
            obtain ⟨hP1, hD1⟩ := hB
            rw [ht] at hP1
            obtain ⟨hP, hD⟩ := post_j (ws' := [((ux 0), .inr (2, [.int 0, .int 2, .ref (ux 1), .ref (ux 2)])), ((ux 1), .inl (κ 3, 4, .inr (.inr (.inr (.inr (sel [(ux 3), (ux 9), (ux 15), (ux 21)])))))), ((ux 2), .inl (κ 3, 4, .inr (.inr (.inr (.inr (sel [(ux 6), (ux 12), (ux 18), (ux 24)])))))), ((ux 3), .inr (6, [.ref (ux 4), .ref (ux 5), .int 0])), ((ux 6), .inr (6, [.ref (ux 7), .ref (ux 8), .int 0])), ((ux 9), .inr (6, [.ref (ux 10), .ref (ux 11), .int 0])), ((ux 27), .inr (3, [.ref (ux 0), .int 0, .int 500, .ref (ux 28), .ref (ux 29), .long 0, .int 0])), ((ux 28), .inl (κ 0, 13, .inl (fun _ => 0))), ((ux 29), .inl (κ 0, 13, .inl (fun _ => 0))), (qm, .inr (8, [.int 0, .int 0, .int 2, .ref (um 0), .ref (um 1), .int 0, .int 500, .int 0, .int 0, .int 0, .ref (um 6)])), ((um 0), .inr (1, [.int 0, .ref (ε 1), .int 0])), ((um 1), .inl (κ 4, 4, .inr (.inr (.inr (.inr (sel [(um 2), (um 3), (um 4), (um 5)])))))), ((um 2), .inl (κ 0, 14, .inl (fun _ => 0))), ((um 3), .inl (κ 0, 196, .inl (fun _ => 0))), (qo, .inl (κ 2, 1, .inr (.inl u71)))]) (wr := [((ux 0), .inr (2, [.int 0, .int 2, .ref (ux 1), .ref (ux 2)])), ((ux 1), .inl (κ 3, 4, .inr (.inr (.inr (.inr (sel [(ux 3), (ux 9), (ux 15), (ux 21)])))))), ((ux 2), .inl (κ 3, 4, .inr (.inr (.inr (.inr (sel [(ux 6), (ux 12), (ux 18), (ux 24)])))))), ((ux 3), .inr (6, [.ref (ux 4), .ref (ux 5), .int 0])), ((ux 6), .inr (6, [.ref (ux 7), .ref (ux 8), .int 0])), ((ux 9), .inr (6, [.ref (ux 10), .ref (ux 11), .int 0])), ((ux 27), .inr (3, [.ref (ux 0), .int 0, .int 500, .ref (ux 28), .ref (ux 29), .long 0, .int 0])), ((ux 28), .inl (κ 0, 13, .inl (fun _ => 0))), ((ux 29), .inl (κ 0, 13, .inl (fun _ => 0))), (qm, .inr (8, [.int 0, .int 0, .int 2, .ref (um 0), .ref (um 1), .int 0, .int 500, .int 0, .int 0, .int 0, .ref (um 6)])), ((um 0), .inr (1, [.int 0, .ref (ε 1), .int 0])), ((um 1), .inl (κ 4, 4, .inr (.inr (.inr (.inr (sel [(um 2), (um 3), (um 4), (um 5)])))))), ((um 2), .inl (κ 0, 14, .inl (fun _ => 0))), ((um 3), .inl (κ 0, 196, .inl (fun _ => 0)))]) (w1 := [(qo, .inl (κ 2, 1, .inr (.inl u71)))]) hP hD hF [0, 15] rfl [1, 2, 3, 4, 5, 6, 7, 8, 9, 10, 11, 12, 13, 14] rfl (by decide) (by decide) hk1 hP1 hD1 [0, 1, 2, 3, 4, 5, 6, 7, 8, 9, 10, 11, 12, 13, 14] (by decide) rfl
            have hP : va_P D vwCl [((ux 0), .inr (2, [.int 0, .int 2, .ref (ux 1), .ref (ux 2)])), ((ux 1), .inl (κ 3, 4, .inr (.inr (.inr (.inr (sel [(ux 3), (ux 9), (ux 15), (ux 21)])))))), ((ux 2), .inl (κ 3, 4, .inr (.inr (.inr (.inr (sel [(ux 6), (ux 12), (ux 18), (ux 24)])))))), ((ux 3), .inr (6, [.ref (ux 4), .ref (ux 5), .int 0])), ((ux 6), .inr (6, [.ref (ux 7), .ref (ux 8), .int 0])), ((ux 9), .inr (6, [.ref (ux 10), .ref (ux 11), .int 0])), ((ux 27), .inr (3, [.ref (ux 0), .int 0, .int 500, .ref (ux 28), .ref (ux 29), .long 0, .int 0])), ((ux 28), .inl (κ 0, 13, .inl (fun _ => 0))), ((ux 29), .inl (κ 0, 13, .inl (fun _ => 0))), (qm, .inr (8, [.int 0, .int 0, .int 2, .ref (um 0), .ref (um 1), .int 0, .int 500, .int 0, .int 0, .int 0, .ref (um 6)])), ((um 0), .inr (1, [.int 0, .ref (ε 1), .int 0])), ((um 1), .inl (κ 4, 4, .inr (.inr (.inr (.inr (sel [(um 2), (um 3), (um 4), (um 5)])))))), ((um 2), .inl (κ 0, 14, .inl (fun _ => 0))), ((um 3), .inl (κ 0, 196, .inl (fun _ => 0))), (qo, .inl (κ 2, 1, .inr (.inl u71)))] H := hP
            have hD : va_D (fun q : Nat => s.heap.size ≤ q) [((ux 0), .inr (2, [.int 0, .int 2, .ref (ux 1), .ref (ux 2)])), ((ux 1), .inl (κ 3, 4, .inr (.inr (.inr (.inr (sel [(ux 3), (ux 9), (ux 15), (ux 21)])))))), ((ux 2), .inl (κ 3, 4, .inr (.inr (.inr (.inr (sel [(ux 6), (ux 12), (ux 18), (ux 24)])))))), ((ux 3), .inr (6, [.ref (ux 4), .ref (ux 5), .int 0])), ((ux 6), .inr (6, [.ref (ux 7), .ref (ux 8), .int 0])), ((ux 9), .inr (6, [.ref (ux 10), .ref (ux 11), .int 0])), ((ux 27), .inr (3, [.ref (ux 0), .int 0, .int 500, .ref (ux 28), .ref (ux 29), .long 0, .int 0])), ((ux 28), .inl (κ 0, 13, .inl (fun _ => 0))), ((ux 29), .inl (κ 0, 13, .inl (fun _ => 0))), (qm, .inr (8, [.int 0, .int 0, .int 2, .ref (um 0), .ref (um 1), .int 0, .int 500, .int 0, .int 0, .int 0, .ref (um 6)])), ((um 0), .inr (1, [.int 0, .ref (ε 1), .int 0])), ((um 1), .inl (κ 4, 4, .inr (.inr (.inr (.inr (sel [(um 2), (um 3), (um 4), (um 5)])))))), ((um 2), .inl (κ 0, 14, .inl (fun _ => 0))), ((um 3), .inl (κ 0, 196, .inl (fun _ => 0))), (qo, .inl (κ 2, 1, .inr (.inl u71)))] := hD
            rcases hw with ⟨c72, rfl⟩ | ⟨c73, rfl⟩
            · skip
              refine lv_istore (lv' := [(5, .int 1), (0, .ref b), (1, .ref qx), (2, .ref qm), (3, .ref qo), (4, .int 0)]) hx hb dL_law_1568 hl (by decide) rfl (fun ls hl => ?_)
              refine lv_aload_n hx hb dL_law_1570 rfl (lv_at hl 3 rfl) ?_
              refine lv_aload_n hx hb dL_law_1571 rfl (lv_at hl 1 rfl) ?_
              refine lv_iload hx hb dL_law_1572 (lv_at hl 5 rfl) ?_
              refine lv_iconst (v := 1) hx hb dL_law_1574 (by decide) ?_
              refine lv_iadd hx hb dL_law_1575 ?_
              refine tpi (v := 1) (by decide) ?_
              refine va_sld hx hb hX hbl hbA hS (vpl (by decide)) dL_law_1576 ?_
              refine tpi (v := (xs 1)) rfl ?_
              refine lv_aload_n hx hb dL_law_1577 rfl (lv_at hl 1 rfl) ?_
              refine lv_iload hx hb dL_law_1578 (lv_at hl 5 rfl) ?_
              refine lv_iconst (v := 2) hx hb dL_law_1580 (by decide) ?_
              refine lv_iadd hx hb dL_law_1581 ?_
              refine tpi (v := 2) (by decide) ?_
              refine va_sld hx hb hX hbl hbA hS (vpl (by decide)) dL_law_1582 ?_
              refine tpi (v := (xs 2)) rfl ?_
              have hF := va_free (wc := [(qm, .inr (8, [.int 0, .int 0, .int 2, .ref (um 0), .ref (um 1), .int 0, .int 500, .int 0, .int 0, .int 0, .ref (um 6)]))]) hD hS hA [9] rfl
              refine va_calli (va_runV (As := [.int (xs 1), .int (xs 2)]) (rest := []) ⟨hx, hb, hml, hown, hts⟩ (k_X6_scoreBy_15 l D κ ε qm (um 0) (um 1) (um 6) H.size ((xs 1)) ((xs 2)) c72) (cwV 2 hts gL_law_X6_scoreBy rfl rfl rfl (by decide +kernel) ⟨(Nat.le_of_ble_eq_true rfl), (Nat.le_of_ble_eq_true rfl)⟩) (pre2_V (q0 := 9) (ci := 8) (wc := [(qm, .inr (8, [.int 0, .int 0, .int 2, .ref (um 0), .ref (um 1), .int 0, .int 500, .int 0, .int 0, .int 0, .ref (um 6)]))]) hP hD hK hE9 hS hA [9] (by decide) rfl rfl rfl) rfl rfl hl.1 rfl (lv_room (Nat.le_of_ble_eq_true rfl)) dL_law_1583 ⟨(Nat.le_of_ble_eq_true rfl), (Nat.le_of_ble_eq_true rfl)⟩) hS (fun q _ h => hF q h) hF (fun r u74 t H locs ht hvm hw hB hz1 hk1 hS => ?_)
              try dsimp only at hw hB
              obtain ⟨hP1, hD1⟩ := hB
              rw [ht] at hP1
              obtain ⟨hP, hD⟩ := post_j (ws' := [((ux 0), .inr (2, [.int 0, .int 2, .ref (ux 1), .ref (ux 2)])), ((ux 1), .inl (κ 3, 4, .inr (.inr (.inr (.inr (sel [(ux 3), (ux 9), (ux 15), (ux 21)])))))), ((ux 2), .inl (κ 3, 4, .inr (.inr (.inr (.inr (sel [(ux 6), (ux 12), (ux 18), (ux 24)])))))), ((ux 3), .inr (6, [.ref (ux 4), .ref (ux 5), .int 0])), ((ux 6), .inr (6, [.ref (ux 7), .ref (ux 8), .int 0])), ((ux 9), .inr (6, [.ref (ux 10), .ref (ux 11), .int 0])), ((ux 27), .inr (3, [.ref (ux 0), .int 0, .int 500, .ref (ux 28), .ref (ux 29), .long 0, .int 0])), ((ux 28), .inl (κ 0, 13, .inl (fun _ => 0))), ((ux 29), .inl (κ 0, 13, .inl (fun _ => 0))), (qm, .inr (8, u74)), ((um 0), .inr (1, [.int 0, .ref (ε 1), .int 0])), ((um 1), .inl (κ 4, 4, .inr (.inr (.inr (.inr (sel [(um 2), (um 3), (um 4), (um 5)])))))), ((um 2), .inl (κ 0, 14, .inl (fun _ => 0))), ((um 3), .inl (κ 0, 196, .inl (fun _ => 0))), (qo, .inl (κ 2, 1, .inr (.inl u71)))]) (wr := [((ux 0), .inr (2, [.int 0, .int 2, .ref (ux 1), .ref (ux 2)])), ((ux 1), .inl (κ 3, 4, .inr (.inr (.inr (.inr (sel [(ux 3), (ux 9), (ux 15), (ux 21)])))))), ((ux 2), .inl (κ 3, 4, .inr (.inr (.inr (.inr (sel [(ux 6), (ux 12), (ux 18), (ux 24)])))))), ((ux 3), .inr (6, [.ref (ux 4), .ref (ux 5), .int 0])), ((ux 6), .inr (6, [.ref (ux 7), .ref (ux 8), .int 0])), ((ux 9), .inr (6, [.ref (ux 10), .ref (ux 11), .int 0])), ((ux 27), .inr (3, [.ref (ux 0), .int 0, .int 500, .ref (ux 28), .ref (ux 29), .long 0, .int 0])), ((ux 28), .inl (κ 0, 13, .inl (fun _ => 0))), ((ux 29), .inl (κ 0, 13, .inl (fun _ => 0))), ((um 0), .inr (1, [.int 0, .ref (ε 1), .int 0])), ((um 1), .inl (κ 4, 4, .inr (.inr (.inr (.inr (sel [(um 2), (um 3), (um 4), (um 5)])))))), ((um 2), .inl (κ 0, 14, .inl (fun _ => 0))), ((um 3), .inl (κ 0, 196, .inl (fun _ => 0))), (qo, .inl (κ 2, 1, .inr (.inl u71)))]) (w1 := [(qm, .inr (8, u74))]) hP hD hF [9] rfl [0, 1, 2, 3, 4, 5, 6, 7, 8, 10, 11, 12, 13, 14] rfl (by decide) (by decide) hk1 hP1 hD1 [0, 1, 2, 3, 4, 5, 6, 7, 8, 14, 9, 10, 11, 12, 13] (by decide) rfl
              have hP : va_P D vwCl [((ux 0), .inr (2, [.int 0, .int 2, .ref (ux 1), .ref (ux 2)])), ((ux 1), .inl (κ 3, 4, .inr (.inr (.inr (.inr (sel [(ux 3), (ux 9), (ux 15), (ux 21)])))))), ((ux 2), .inl (κ 3, 4, .inr (.inr (.inr (.inr (sel [(ux 6), (ux 12), (ux 18), (ux 24)])))))), ((ux 3), .inr (6, [.ref (ux 4), .ref (ux 5), .int 0])), ((ux 6), .inr (6, [.ref (ux 7), .ref (ux 8), .int 0])), ((ux 9), .inr (6, [.ref (ux 10), .ref (ux 11), .int 0])), ((ux 27), .inr (3, [.ref (ux 0), .int 0, .int 500, .ref (ux 28), .ref (ux 29), .long 0, .int 0])), ((ux 28), .inl (κ 0, 13, .inl (fun _ => 0))), ((ux 29), .inl (κ 0, 13, .inl (fun _ => 0))), (qm, .inr (8, u74)), ((um 0), .inr (1, [.int 0, .ref (ε 1), .int 0])), ((um 1), .inl (κ 4, 4, .inr (.inr (.inr (.inr (sel [(um 2), (um 3), (um 4), (um 5)])))))), ((um 2), .inl (κ 0, 14, .inl (fun _ => 0))), ((um 3), .inl (κ 0, 196, .inl (fun _ => 0))), (qo, .inl (κ 2, 1, .inr (.inl u71)))] H := hP
              have hD : va_D (fun q : Nat => s.heap.size ≤ q) [((ux 0), .inr (2, [.int 0, .int 2, .ref (ux 1), .ref (ux 2)])), ((ux 1), .inl (κ 3, 4, .inr (.inr (.inr (.inr (sel [(ux 3), (ux 9), (ux 15), (ux 21)])))))), ((ux 2), .inl (κ 3, 4, .inr (.inr (.inr (.inr (sel [(ux 6), (ux 12), (ux 18), (ux 24)])))))), ((ux 3), .inr (6, [.ref (ux 4), .ref (ux 5), .int 0])), ((ux 6), .inr (6, [.ref (ux 7), .ref (ux 8), .int 0])), ((ux 9), .inr (6, [.ref (ux 10), .ref (ux 11), .int 0])), ((ux 27), .inr (3, [.ref (ux 0), .int 0, .int 500, .ref (ux 28), .ref (ux 29), .long 0, .int 0])), ((ux 28), .inl (κ 0, 13, .inl (fun _ => 0))), ((ux 29), .inl (κ 0, 13, .inl (fun _ => 0))), (qm, .inr (8, u74)), ((um 0), .inr (1, [.int 0, .ref (ε 1), .int 0])), ((um 1), .inl (κ 4, 4, .inr (.inr (.inr (.inr (sel [(um 2), (um 3), (um 4), (um 5)])))))), ((um 2), .inl (κ 0, 14, .inl (fun _ => 0))), ((um 3), .inl (κ 0, 196, .inl (fun _ => 0))), (qo, .inl (κ 2, 1, .inr (.inl u71)))] := hD
              obtain ⟨hu75, rfl⟩ := hw
              refine lv_istore (lv' := [(6, .int 0), (5, .int 1), (0, .ref b), (1, .ref qx), (2, .ref qm), (3, .ref qo), (4, .int 0)]) hx hb dL_law_1586 hl (by decide) rfl (fun ls hl => ?_)
              refine lv_aload_n hx hb dL_law_1588 rfl (lv_at hl 4 rfl) ?_
              refine vp_callSi (W.runV (As := []) (rest := []) ⟨hx, hb, hml, hown, hts⟩ (k_thrown l D κ qm u74 (1) hu75) (cwV 0 hts gL_law_X6_thrown rfl rfl rfl (by decide +kernel) ⟨(Nat.le_of_ble_eq_true rfl), (Nat.le_of_ble_eq_true rfl)⟩) (pre0_V (q0 := 9) (ci := 8) (wc := [(qm, .inr (8, u74))]) hP hK [9] rfl rfl rfl) rfl rfl hl.1 rfl (lv_room (Nat.le_of_ble_eq_true rfl)) dL_law_1589 ⟨(Nat.le_of_ble_eq_true rfl), (Nat.le_of_ble_eq_true rfl)⟩) (fun r hw => ?_)
              subst hw
              refine lv_iload hx hb dL_law_1592 (lv_at hl 1 rfl) ?_
              refine lv_icmp_eq (tgt := 1599) hx hb dL_law_1594 (by decide) (fun _ => ?_) (fun h => absurd (by decide) h)
              refine lv_iload hx hb dL_law_1599 (lv_at hl 1 rfl) ?_
              refine lv_if_ne (tgt := 1616) hx hb dL_law_1601 (by decide) (fun _ => ?_) (fun h => absurd h (by decide))
              refine lv_goto (tgt := 1677) hx hb dL_law_1616 (by decide) ?_
              exact law_end C0 (Nat.le_of_ble_eq_true rfl) (Nat.le_of_ble_eq_true rfl) hS (lv_sub hl [2, 6] rfl)
            · skip
              refine lv_istore (lv' := [(5, .int 1), (0, .ref b), (1, .ref qx), (2, .ref qm), (3, .ref qo), (4, .int 0)]) hx hb dL_law_1568 hl (by decide) rfl (fun ls hl => ?_)
              refine lv_aload_n hx hb dL_law_1570 rfl (lv_at hl 3 rfl) ?_
              refine lv_aload_n hx hb dL_law_1571 rfl (lv_at hl 1 rfl) ?_
              refine lv_iload hx hb dL_law_1572 (lv_at hl 5 rfl) ?_
              refine lv_iconst (v := 1) hx hb dL_law_1574 (by decide) ?_
              refine lv_iadd hx hb dL_law_1575 ?_
              refine tpi (v := 1) (by decide) ?_
              refine va_sld hx hb hX hbl hbA hS (vpl (by decide)) dL_law_1576 ?_
              refine tpi (v := (xs 1)) rfl ?_
              refine lv_aload_n hx hb dL_law_1577 rfl (lv_at hl 1 rfl) ?_
              refine lv_iload hx hb dL_law_1578 (lv_at hl 5 rfl) ?_
              refine lv_iconst (v := 2) hx hb dL_law_1580 (by decide) ?_
              refine lv_iadd hx hb dL_law_1581 ?_
              refine tpi (v := 2) (by decide) ?_
              refine va_sld hx hb hX hbl hbA hS (vpl (by decide)) dL_law_1582 ?_
              refine tpi (v := (xs 2)) rfl ?_
              have hF := va_free (wc := [(qm, .inr (8, [.int 0, .int 0, .int 2, .ref (um 0), .ref (um 1), .int 0, .int 500, .int 0, .int 0, .int 0, .ref (um 6)]))]) hD hS hA [9] rfl
              refine va_calli (va_runV (As := [.int (xs 1), .int (xs 2)]) (rest := []) ⟨hx, hb, hml, hown, hts⟩ (k_X6_scoreBy_16 l D κ ε qm (um 0) (um 1) (um 6) H.size ((xs 1)) ((xs 2)) e1 e15 e29 e43 e57 c73) (cwV 2 hts gL_law_X6_scoreBy rfl rfl rfl (by decide +kernel) ⟨(Nat.le_of_ble_eq_true rfl), (Nat.le_of_ble_eq_true rfl)⟩) (pre2_V (q0 := 9) (ci := 8) (wc := [(qm, .inr (8, [.int 0, .int 0, .int 2, .ref (um 0), .ref (um 1), .int 0, .int 500, .int 0, .int 0, .int 0, .ref (um 6)]))]) hP hD hK hE9 hS hA [9] (by decide) rfl rfl rfl) rfl rfl hl.1 rfl (lv_room (Nat.le_of_ble_eq_true rfl)) dL_law_1583 ⟨(Nat.le_of_ble_eq_true rfl), (Nat.le_of_ble_eq_true rfl)⟩) hS (fun q _ h => hF q h) hF (fun r u76 t H locs ht hvm hw hB hz1 hk1 hS => ?_)
              try dsimp only at hw hB
              obtain ⟨hP1, hD1⟩ := hB
              rw [ht] at hP1
              obtain ⟨hP, hD⟩ := post_j (ws' := [((ux 0), .inr (2, [.int 0, .int 2, .ref (ux 1), .ref (ux 2)])), ((ux 1), .inl (κ 3, 4, .inr (.inr (.inr (.inr (sel [(ux 3), (ux 9), (ux 15), (ux 21)])))))), ((ux 2), .inl (κ 3, 4, .inr (.inr (.inr (.inr (sel [(ux 6), (ux 12), (ux 18), (ux 24)])))))), ((ux 3), .inr (6, [.ref (ux 4), .ref (ux 5), .int 0])), ((ux 6), .inr (6, [.ref (ux 7), .ref (ux 8), .int 0])), ((ux 9), .inr (6, [.ref (ux 10), .ref (ux 11), .int 0])), ((ux 27), .inr (3, [.ref (ux 0), .int 0, .int 500, .ref (ux 28), .ref (ux 29), .long 0, .int 0])), ((ux 28), .inl (κ 0, 13, .inl (fun _ => 0))), ((ux 29), .inl (κ 0, 13, .inl (fun _ => 0))), (qm, .inr (8, u76)), ((um 0), .inr (1, [.int 0, .ref (ε 1), .int 0])), ((um 1), .inl (κ 4, 4, .inr (.inr (.inr (.inr (sel [(um 2), (um 3), (um 4), (um 5)])))))), ((um 2), .inl (κ 0, 14, .inl (fun _ => 0))), ((um 3), .inl (κ 0, 196, .inl (fun _ => 0))), (qo, .inl (κ 2, 1, .inr (.inl u71)))]) (wr := [((ux 0), .inr (2, [.int 0, .int 2, .ref (ux 1), .ref (ux 2)])), ((ux 1), .inl (κ 3, 4, .inr (.inr (.inr (.inr (sel [(ux 3), (ux 9), (ux 15), (ux 21)])))))), ((ux 2), .inl (κ 3, 4, .inr (.inr (.inr (.inr (sel [(ux 6), (ux 12), (ux 18), (ux 24)])))))), ((ux 3), .inr (6, [.ref (ux 4), .ref (ux 5), .int 0])), ((ux 6), .inr (6, [.ref (ux 7), .ref (ux 8), .int 0])), ((ux 9), .inr (6, [.ref (ux 10), .ref (ux 11), .int 0])), ((ux 27), .inr (3, [.ref (ux 0), .int 0, .int 500, .ref (ux 28), .ref (ux 29), .long 0, .int 0])), ((ux 28), .inl (κ 0, 13, .inl (fun _ => 0))), ((ux 29), .inl (κ 0, 13, .inl (fun _ => 0))), ((um 0), .inr (1, [.int 0, .ref (ε 1), .int 0])), ((um 1), .inl (κ 4, 4, .inr (.inr (.inr (.inr (sel [(um 2), (um 3), (um 4), (um 5)])))))), ((um 2), .inl (κ 0, 14, .inl (fun _ => 0))), ((um 3), .inl (κ 0, 196, .inl (fun _ => 0))), (qo, .inl (κ 2, 1, .inr (.inl u71)))]) (w1 := [(qm, .inr (8, u76))]) hP hD hF [9] rfl [0, 1, 2, 3, 4, 5, 6, 7, 8, 10, 11, 12, 13, 14] rfl (by decide) (by decide) hk1 hP1 hD1 [0, 1, 2, 3, 4, 5, 6, 7, 8, 14, 9, 10, 11, 12, 13] (by decide) rfl
              have hP : va_P D vwCl [((ux 0), .inr (2, [.int 0, .int 2, .ref (ux 1), .ref (ux 2)])), ((ux 1), .inl (κ 3, 4, .inr (.inr (.inr (.inr (sel [(ux 3), (ux 9), (ux 15), (ux 21)])))))), ((ux 2), .inl (κ 3, 4, .inr (.inr (.inr (.inr (sel [(ux 6), (ux 12), (ux 18), (ux 24)])))))), ((ux 3), .inr (6, [.ref (ux 4), .ref (ux 5), .int 0])), ((ux 6), .inr (6, [.ref (ux 7), .ref (ux 8), .int 0])), ((ux 9), .inr (6, [.ref (ux 10), .ref (ux 11), .int 0])), ((ux 27), .inr (3, [.ref (ux 0), .int 0, .int 500, .ref (ux 28), .ref (ux 29), .long 0, .int 0])), ((ux 28), .inl (κ 0, 13, .inl (fun _ => 0))), ((ux 29), .inl (κ 0, 13, .inl (fun _ => 0))), (qm, .inr (8, u76)), ((um 0), .inr (1, [.int 0, .ref (ε 1), .int 0])), ((um 1), .inl (κ 4, 4, .inr (.inr (.inr (.inr (sel [(um 2), (um 3), (um 4), (um 5)])))))), ((um 2), .inl (κ 0, 14, .inl (fun _ => 0))), ((um 3), .inl (κ 0, 196, .inl (fun _ => 0))), (qo, .inl (κ 2, 1, .inr (.inl u71)))] H := hP
              have hD : va_D (fun q : Nat => s.heap.size ≤ q) [((ux 0), .inr (2, [.int 0, .int 2, .ref (ux 1), .ref (ux 2)])), ((ux 1), .inl (κ 3, 4, .inr (.inr (.inr (.inr (sel [(ux 3), (ux 9), (ux 15), (ux 21)])))))), ((ux 2), .inl (κ 3, 4, .inr (.inr (.inr (.inr (sel [(ux 6), (ux 12), (ux 18), (ux 24)])))))), ((ux 3), .inr (6, [.ref (ux 4), .ref (ux 5), .int 0])), ((ux 6), .inr (6, [.ref (ux 7), .ref (ux 8), .int 0])), ((ux 9), .inr (6, [.ref (ux 10), .ref (ux 11), .int 0])), ((ux 27), .inr (3, [.ref (ux 0), .int 0, .int 500, .ref (ux 28), .ref (ux 29), .long 0, .int 0])), ((ux 28), .inl (κ 0, 13, .inl (fun _ => 0))), ((ux 29), .inl (κ 0, 13, .inl (fun _ => 0))), (qm, .inr (8, u76)), ((um 0), .inr (1, [.int 0, .ref (ε 1), .int 0])), ((um 1), .inl (κ 4, 4, .inr (.inr (.inr (.inr (sel [(um 2), (um 3), (um 4), (um 5)])))))), ((um 2), .inl (κ 0, 14, .inl (fun _ => 0))), ((um 3), .inl (κ 0, 196, .inl (fun _ => 0))), (qo, .inl (κ 2, 1, .inr (.inl u71)))] := hD
              obtain ⟨hu77, rfl⟩ := hw
              refine lv_istore (lv' := [(6, .int 0), (5, .int 1), (0, .ref b), (1, .ref qx), (2, .ref qm), (3, .ref qo), (4, .int 0)]) hx hb dL_law_1586 hl (by decide) rfl (fun ls hl => ?_)
              refine lv_aload_n hx hb dL_law_1588 rfl (lv_at hl 4 rfl) ?_
              refine vp_callSi (W.runV (As := []) (rest := []) ⟨hx, hb, hml, hown, hts⟩ (k_thrown l D κ qm u76 (1) hu77) (cwV 0 hts gL_law_X6_thrown rfl rfl rfl (by decide +kernel) ⟨(Nat.le_of_ble_eq_true rfl), (Nat.le_of_ble_eq_true rfl)⟩) (pre0_V (q0 := 9) (ci := 8) (wc := [(qm, .inr (8, u76))]) hP hK [9] rfl rfl rfl) rfl rfl hl.1 rfl (lv_room (Nat.le_of_ble_eq_true rfl)) dL_law_1589 ⟨(Nat.le_of_ble_eq_true rfl), (Nat.le_of_ble_eq_true rfl)⟩) (fun r hw => ?_)
              subst hw
              refine lv_iload hx hb dL_law_1592 (lv_at hl 1 rfl) ?_
              refine lv_icmp_eq (tgt := 1599) hx hb dL_law_1594 (by decide) (fun _ => ?_) (fun h => absurd (by decide) h)
              refine lv_iload hx hb dL_law_1599 (lv_at hl 1 rfl) ?_
              refine lv_if_ne (tgt := 1616) hx hb dL_law_1601 (by decide) (fun _ => ?_) (fun h => absurd h (by decide))
              refine lv_goto (tgt := 1677) hx hb dL_law_1616 (by decide) ?_
              exact law_end C0 (Nat.le_of_ble_eq_true rfl) (Nat.le_of_ble_eq_true rfl) hS (lv_sub hl [2, 6] rfl)
