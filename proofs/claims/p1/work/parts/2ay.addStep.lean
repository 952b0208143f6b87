set_option maxHeartbeats 4000000 in
set_option maxRecDepth 100000 in
theorem k_X5_isStep_0 (l : Launch) (D : va_G) (κ ε : Nat → Nat) (h0 : Nat) (p0 : Int32) : Met l yX5_isStep wsX5_isStep ({ frames := 0, cells := 0, slots := 0, locals := 0 }) (va_Pc [.ref h0, .int 0, .int p0] (Pre0 D κ [])) (vp_Si (fun r => (r = 1))) 0 0 (fun _ => False) := by
  refine Met.ofW (cc := cX5_isStep) (maxL := 3) (ret := (some .boolean)) (by decide) rfl ?_
  intro p e s m args below meth c s₁ B hml hv
  obtain ⟨rfl, hP, hK⟩ := hv
  have hx := B.exec
  have hb := B.bytes
  have hr := B.returns
  have hts := atoms_spec (ws := wsX5_isStep) B.pre
  have hown : s.vm.findClass RX5 = some m.cls := findClass_of_methodNamed B.named
  have hlocks := B.notSynchronized
  have hP : va_P D vwCl [] s.heap := hP
  have hl := lv_entry [.ref h0, .int 0, .int p0] (n := 3) (Nat.le_of_ble_eq_true rfl)
  rw [lg_entry_eq]
  generalize (lg_sl [.ref h0, .int 0, .int p0] ++ List.replicate (3 - (lg_sl [.ref h0, .int 0, .int p0]).length) Slot.unset).toArray = ls at hl ⊢
  have hl : lv_has ls 3 [(0, .ref h0), (1, .int 0), (2, .int p0)] := hl
  refine lv_iload_n hx hb dX5_isStep_0 rfl (lv_at hl 1 rfl) ?_
  refine lv_tableIn (tgt := 40) (off := 39) hx hb dX5_isStep_1 (by decide) (by decide) (by decide) (by decide) ?_
  refine lv_iconst (v := 1) hx hb dX5_isStep_40 (by decide) ?_
  exact W.zret (v := 1) hx hb hr rfl (fun t ht hW => ⟨1, rfl, rfl, ht⟩) (fun q hq => absurd hq List.not_mem_nil) dX5_isStep_41

theorem wi_X2_append_RX2 : ∀ w ∈ u_ws RX2 TX2 4, w ∈ wsX2_append := by decide +kernel

theorem wd364_X2_append : (.fieldLink RX2 21 "Canticle$Script" "size" "I" : Cond) ∈ wsX2_append := by decide +kernel

theorem wd365_X2_append : (.fieldLink RX2 9 "Canticle$Script" "codes" "[I" : Cond) ∈ wsX2_append := by decide +kernel

theorem wd366_X2_append : (.fieldLink RX2 15 "Canticle$Script" "numbers" "[I" : Cond) ∈ wsX2_append := by decide +kernel

set_option maxHeartbeats 4000000 in
set_option maxRecDepth 100000 in
theorem k_X2_append_0 (l : Launch) (D : va_G) (κ ε : Nat → Nat) (h0 h1 h2 h3 : Nat) (sz : Nat) (p0 : Int32) : Met l yX2_append wsX2_append ({ frames := 0, cells := 0, slots := 0, locals := 0 }) (va_Pc [.ref h0, .int 0, .int p0] (Pre2 D κ ε [(h0, .inr (4, [.ref h1, .ref h2, .ref h3, .int 0])), (h1, .inl (κ 0, 12, .inl (fun _ => 0))), (h2, .inl (κ 0, 12, .inl (fun _ => 0)))] sz)) (va_Qi (fun r (u : Unit) => (r = 0)) (fun u t => va_P D vwCl [(h0, .inr (4, [.ref h1, .ref h2, .ref h3, .int 1])), (h1, .inl (κ 0, 12, .inl (fun _ => 0))), (h2, .inl (κ 0, 12, .inl (upd (fun _ => 0) 0 p0)))] t.heap ∧ va_D (va_A [(h0, .inr (4, [.ref h1, .ref h2, .ref h3, .int 0])), (h1, .inl (κ 0, 12, .inl (fun _ => 0))), (h2, .inl (κ 0, 12, .inl (fun _ => 0)))] sz) [(h0, .inr (4, [.ref h1, .ref h2, .ref h3, .int 1])), (h1, .inl (κ 0, 12, .inl (fun _ => 0))), (h2, .inl (κ 0, 12, .inl (upd (fun _ => 0) 0 p0)))]) (va_A [(h0, .inr (4, [.ref h1, .ref h2, .ref h3, .int 0])), (h1, .inl (κ 0, 12, .inl (fun _ => 0))), (h2, .inl (κ 0, 12, .inl (fun _ => 0)))] sz)) 0 0 (va_A [(h0, .inr (4, [.ref h1, .ref h2, .ref h3, .int 0])), (h1, .inl (κ 0, 12, .inl (fun _ => 0))), (h2, .inl (κ 0, 12, .inl (fun _ => 0)))] sz) := by
  refine Met.ofW (cc := cX2_append) (maxL := 3) (ret := (some .int)) (by decide) rfl ?_
  intro p e s m args below meth c s₁ B hml hv
  obtain ⟨rfl, hsz, hP, hK, hD0, hE9⟩ := hv
  have hx := B.exec
  have hb := B.bytes
  have hr := B.returns
  have hts := atoms_spec (ws := wsX2_append) B.pre
  have hown : s.vm.findClass RX2 = some m.cls := findClass_of_methodNamed B.named
  have hlocks := B.notSynchronized
  subst hsz
  have hD := hD0.self (sz := s.heap.size)
  generalize hAe : va_A [(h0, .inr (4, [.ref h1, .ref h2, .ref h3, .int 0])), (h1, .inl (κ 0, 12, .inl (fun _ => 0))), (h2, .inl (κ 0, 12, .inl (fun _ => 0)))] s.heap.size = A at hD hE9 ⊢
  have hE := hE9.1
  have hDc := hE9.2
  have hA : ∀ q : Nat, s.heap.size ≤ q → A q := fun q h => by rw [← hAe]; exact Or.inr h
  have hS : va_S A s.heap s.heap [] := va_S.rf
  have hP : va_P D vwCl [(h0, .inr (4, [.ref h1, .ref h2, .ref h3, .int 0])), (h1, .inl (κ 0, 12, .inl (fun _ => 0))), (h2, .inl (κ 0, 12, .inl (fun _ => 0)))] s.heap := hP
  have hl := lv_entry [.ref h0, .int 0, .int p0] (n := 3) (Nat.le_of_ble_eq_true rfl)
  rw [lg_entry_eq]
  generalize (lg_sl [.ref h0, .int 0, .int p0] ++ List.replicate (3 - (lg_sl [.ref h0, .int 0, .int p0]).length) Slot.unset).toArray = ls at hl ⊢
  have hl : lv_has ls 3 [(0, .ref h0), (1, .int 0), (2, .int p0)] := hl
  refine lv_aload_n hx hb dX2_append_0 rfl (lv_at hl 0 rfl) ?_
  refine va_get (D := D) (ci := 4) (v := .int 0) (C := RX2) (T := TX2) (N := 4) hx hb hts wi_X2_append_RX2 hown hK hP 0 rfl rfl 3 (by decide) (hts _ wd364_X2_append) (fun _ h9 => h9) rfl dX2_append_1 ?_
  refine lv_bipush (v := 12) hx hb dX2_append_4 (by decide) ?_
  refine lv_icmp_ge (tgt := 39) hx hb dX2_append_6 (by decide) (fun h => absurd h (by decide)) (fun _ => ?_)
  refine lv_aload_n hx hb dX2_append_9 rfl (lv_at hl 0 rfl) ?_
  refine va_get (D := D) (ci := 4) (v := .ref h1) (C := RX2) (T := TX2) (N := 4) hx hb hts wi_X2_append_RX2 hown hK hP 0 rfl rfl 0 (by decide) (hts _ wd365_X2_append) (fun _ h9 => h9) rfl dX2_append_10 ?_
  refine lv_aload_n hx hb dX2_append_13 rfl (lv_at hl 0 rfl) ?_
  refine va_get (D := D) (ci := 4) (v := .int 0) (C := RX2) (T := TX2) (N := 4) hx hb hts wi_X2_append_RX2 hown hK hP 0 rfl rfl 3 (by decide) (hts _ wd364_X2_append) (fun _ h9 => h9) rfl dX2_append_14 ?_
  refine lv_iload_n hx hb dX2_append_17 rfl (lv_at hl 1 rfl) ?_
  refine va_iast (cA := κ 0) (n := 12) (f := (fun _ => 0)) hx hb hK hP hD hS 1 0 rfl rfl (vpl (by decide)) dX2_append_18 (fun H locs hP hD hS => ?_)
  have hP : va_P D vwCl _ H := P_cg (ws' := _) (y := (12, .inl (fun _ => 0))) 1 hP rfl (cell_cg (fun j _ => by show upd _ _ _ j = _; unfold upd; split <;> rfl)) rfl
  have hD : va_D A _ := D_cg (ws' := _) (y := .inl (κ 0, 12, .inl (fun _ => 0))) 1 hD rfl rfl
  have hP : va_P D vwCl [(h0, .inr (4, [.ref h1, .ref h2, .ref h3, .int 0])), (h1, .inl (κ 0, 12, .inl (fun _ => 0))), (h2, .inl (κ 0, 12, .inl (fun _ => 0)))] H := hP
  have hD : va_D A [(h0, .inr (4, [.ref h1, .ref h2, .ref h3, .int 0])), (h1, .inl (κ 0, 12, .inl (fun _ => 0))), (h2, .inl (κ 0, 12, .inl (fun _ => 0)))] := hD
  refine lv_aload_n hx hb dX2_append_19 rfl (lv_at hl 0 rfl) ?_
  refine va_get (D := D) (ci := 4) (v := .ref h2) (C := RX2) (T := TX2) (N := 4) hx hb hts wi_X2_append_RX2 hown hK hP 0 rfl rfl 1 (by decide) (hts _ wd366_X2_append) (fun _ h9 => h9) rfl dX2_append_20 ?_
  refine lv_aload_n hx hb dX2_append_23 rfl (lv_at hl 0 rfl) ?_
  refine va_get (D := D) (ci := 4) (v := .int 0) (C := RX2) (T := TX2) (N := 4) hx hb hts wi_X2_append_RX2 hown hK hP 0 rfl rfl 3 (by decide) (hts _ wd364_X2_append) (fun _ h9 => h9) rfl dX2_append_24 ?_
  refine lv_iload_n hx hb dX2_append_27 rfl (lv_at hl 2 rfl) ?_
  refine va_iast (cA := κ 0) (n := 12) (f := (fun _ => 0)) hx hb hK hP hD hS 2 0 rfl rfl (vpl (by decide)) dX2_append_28 (fun H locs hP hD hS => ?_)
  have hP : va_P D vwCl [(h0, .inr (4, [.ref h1, .ref h2, .ref h3, .int 0])), (h1, .inl (κ 0, 12, .inl (fun _ => 0))), (h2, .inl (κ 0, 12, .inl (upd (fun _ => 0) 0 p0)))] H := hP
  have hD : va_D A [(h0, .inr (4, [.ref h1, .ref h2, .ref h3, .int 0])), (h1, .inl (κ 0, 12, .inl (fun _ => 0))), (h2, .inl (κ 0, 12, .inl (upd (fun _ => 0) 0 p0)))] := hD
  refine lv_aload_n hx hb dX2_append_29 rfl (lv_at hl 0 rfl) ?_
  refine lv_dup hx hb dX2_append_30 rfl ?_
  refine va_get (D := D) (ci := 4) (v := .int 0) (C := RX2) (T := TX2) (N := 4) hx hb hts wi_X2_append_RX2 hown hK hP 0 rfl rfl 3 (by decide) (hts _ wd364_X2_append) (fun _ h9 => h9) rfl dX2_append_31 ?_
  refine lv_iconst (v := 1) hx hb dX2_append_34 (by decide) ?_
  refine lv_iadd hx hb dX2_append_35 ?_
  refine tpi (v := 1) (by decide) ?_
  refine va_put (D := D) (ci := 4) (v := .int 1) (ty := .int) (C := RX2) (T := TX2) (N := 4) hx hb hts wi_X2_append_RX2 tyX2 tyX2_ok nmX2 hown hK hP hD hS 0 rfl rfl 3 (by decide) (hts _ wd364_X2_append) (fun _ h9 => h9) rfl (by decide +kernel) rfl rfl (Nat.le_of_ble_eq_true rfl) dX2_append_36 (fun H locs hP hD hS => ?_)
  have hP : va_P D vwCl [(h0, .inr (4, [.ref h1, .ref h2, .ref h3, .int 1])), (h1, .inl (κ 0, 12, .inl (fun _ => 0))), (h2, .inl (κ 0, 12, .inl (upd (fun _ => 0) 0 p0)))] H := hP
  have hD : va_D A [(h0, .inr (4, [.ref h1, .ref h2, .ref h3, .int 1])), (h1, .inl (κ 0, 12, .inl (fun _ => 0))), (h2, .inl (κ 0, 12, .inl (upd (fun _ => 0) 0 p0)))] := hD
  refine lv_aload_n hx hb dX2_append_39 rfl (lv_at hl 0 rfl) ?_
  refine va_get (D := D) (ci := 4) (v := .int 1) (C := RX2) (T := TX2) (N := 4) hx hb hts wi_X2_append_RX2 hown hK hP 0 rfl rfl 3 (by decide) (hts _ wd364_X2_append) (fun _ h9 => h9) rfl dX2_append_40 ?_
  refine lv_iconst (v := 1) hx hb dX2_append_43 (by decide) ?_
  refine lv_isub hx hb dX2_append_44 ?_
  refine tpi (v := 0) (by decide) ?_
  have hP9 := hP
  have hD9 := hD
  exact W.iret (v := 0) hx hb hr (fun t ht hW => ⟨⟨0, (), rfl, rfl, by rw [ht]; exact hP9, hD9⟩, hS.F ht⟩) hS.2.2 dX2_append_45

theorem wi_X5_addStep_RX5 : ∀ w ∈ u_ws RX5 TX5 10, w ∈ wsX5_addStep := by decide +kernel

theorem wd367_X5_addStep : (.fieldLink RX5 37 "Canticle" "script" "LCanticle$Script;" : Cond) ∈ wsX5_addStep := by decide +kernel

theorem wi_X5_addStep_RX2 : ∀ w ∈ u_ws RX2 TX2 4, w ∈ wsX5_addStep := by decide +kernel

theorem wd368_X5_addStep : (.fieldLink RX5 222 "Canticle$Script" "size" "I" : Cond) ∈ wsX5_addStep := by decide +kernel

set_option maxHeartbeats 4000000 in
set_option maxRecDepth 100000 in
theorem k_X5_addStep_0 (l : Launch) (D : va_G) (κ ε : Nat → Nat) (h0 h1 h2 h3 h4 h5 h6 h7 h8 h9 : Nat) (sz : Nat) (p0 : Int32) : Met l yX5_addStep wsX5_addStep ({ frames := 1, cells := 0, slots := 0, locals := 22 }) (va_Pc [.ref h0, .int 0, .int p0] (Pre2 D κ ε [(h0, .inr (7, [.ref h1, .ref h2, .ref h3, .ref h4, .ref h5, .ref h6, .int 0, .int 0, .int 0, .int 0])), (h4, .inr (4, [.ref h7, .ref h8, .ref h9, .int 0])), (h7, .inl (κ 0, 12, .inl (fun _ => 0))), (h8, .inl (κ 0, 12, .inl (fun _ => 0)))] sz)) (va_Qi (fun r (u : Unit) => (r = 0)) (fun _ _ => True) (va_A [(h0, .inr (7, [.ref h1, .ref h2, .ref h3, .ref h4, .ref h5, .ref h6, .int 0, .int 0, .int 0, .int 0])), (h4, .inr (4, [.ref h7, .ref h8, .ref h9, .int 0])), (h7, .inl (κ 0, 12, .inl (fun _ => 0))), (h8, .inl (κ 0, 12, .inl (fun _ => 0)))] sz)) 0 0 (va_A [(h0, .inr (7, [.ref h1, .ref h2, .ref h3, .ref h4, .ref h5, .ref h6, .int 0, .int 0, .int 0, .int 0])), (h4, .inr (4, [.ref h7, .ref h8, .ref h9, .int 0])), (h7, .inl (κ 0, 12, .inl (fun _ => 0))), (h8, .inl (κ 0, 12, .inl (fun _ => 0)))] sz) := by
  refine Met.ofW (cc := cX5_addStep) (maxL := 3) (ret := (some .int)) (by decide) rfl ?_
  intro p e s m args below meth c s₁ B hml hv
  obtain ⟨rfl, hsz, hP, hK, hD0, hE9⟩ := hv
  have hx := B.exec
  have hb := B.bytes
  have hr := B.returns
  have hts := atoms_spec (ws := wsX5_addStep) B.pre
  have hown : s.vm.findClass RX5 = some m.cls := findClass_of_methodNamed B.named
  have hlocks := B.notSynchronized
  subst hsz
  have hD := hD0.self (sz := s.heap.size)
  generalize hAe : va_A [(h0, .inr (7, [.ref h1, .ref h2, .ref h3, .ref h4, .ref h5, .ref h6, .int 0, .int 0, .int 0, .int 0])), (h4, .inr (4, [.ref h7, .ref h8, .ref h9, .int 0])), (h7, .inl (κ 0, 12, .inl (fun _ => 0))), (h8, .inl (κ 0, 12, .inl (fun _ => 0)))] s.heap.size = A at hD hE9 ⊢
  have hE := hE9.1
  have hDc := hE9.2
  have hA : ∀ q : Nat, s.heap.size ≤ q → A q := fun q h => by rw [← hAe]; exact Or.inr h
  have hS : va_S A s.heap s.heap [] := va_S.rf
  have hP : va_P D vwCl [(h0, .inr (7, [.ref h1, .ref h2, .ref h3, .ref h4, .ref h5, .ref h6, .int 0, .int 0, .int 0, .int 0])), (h4, .inr (4, [.ref h7, .ref h8, .ref h9, .int 0])), (h7, .inl (κ 0, 12, .inl (fun _ => 0))), (h8, .inl (κ 0, 12, .inl (fun _ => 0)))] s.heap := hP
  have hl := lv_entry [.ref h0, .int 0, .int p0] (n := 3) (Nat.le_of_ble_eq_true rfl)
  rw [lg_entry_eq]
  generalize (lg_sl [.ref h0, .int 0, .int p0] ++ List.replicate (3 - (lg_sl [.ref h0, .int 0, .int p0]).length) Slot.unset).toArray = ls at hl ⊢
  have hl : lv_has ls 3 [(0, .ref h0), (1, .int 0), (2, .int p0)] := hl
  refine lv_aload_n hx hb dX5_addStep_0 rfl (lv_at hl 0 rfl) ?_
  refine lv_iload_n hx hb dX5_addStep_1 rfl (lv_at hl 1 rfl) ?_
  refine lv_iload_n hx hb dX5_addStep_2 rfl (lv_at hl 2 rfl) ?_
  refine vp_callSi (W.runV (As := [.int 0, .int p0]) (rest := []) ⟨hx, hb, hml, hown, hts⟩ (k_X5_isStep_0 l D κ ε h0 (p0)) (cwV 2 hts gX5_addStep_X5_isStep rfl rfl rfl (by decide +kernel) ⟨(Nat.le_of_ble_eq_true rfl), (Nat.le_of_ble_eq_true rfl)⟩) (pre0_V (q0 := 0) (ci := 7) (wc := []) hP hK [] rfl rfl rfl) rfl rfl hl.1 rfl (lv_room (Nat.le_of_ble_eq_true rfl)) dX5_addStep_3 ⟨(Nat.le_of_ble_eq_true rfl), (Nat.le_of_ble_eq_true rfl)⟩) (fun r hw => ?_)
  rw [hw]
  refine lv_if_ne (tgt := 19) hx hb dX5_addStep_6 (by decide) (fun _ => ?_) (fun h => absurd h (by decide))
  refine lv_aload_n hx hb dX5_addStep_19 rfl (lv_at hl 0 rfl) ?_
  refine va_get (D := D) (ci := 7) (v := .ref h4) (C := RX5) (T := TX5) (N := 10) hx hb hts wi_X5_addStep_RX5 hown hK hP 0 rfl rfl 3 (by decide) (hts _ wd367_X5_addStep) (fun _ h9 => h9) rfl dX5_addStep_20 ?_
  refine va_get (D := D) (ci := 4) (v := .int 0) (C := RX2) (T := TX2) (N := 4) hx hb hts wi_X5_addStep_RX2 hown hK hP 1 rfl rfl 3 (by decide) (hts _ wd368_X5_addStep) (fun _ h9 => h9) rfl dX5_addStep_23 ?_
  refine lv_bipush (v := 12) hx hb dX5_addStep_26 (by decide) ?_
  refine lv_icmp_lt (tgt := 41) hx hb dX5_addStep_28 (by decide) (fun _ => ?_) (fun h => absurd (by decide) h)
  refine lv_aload_n hx hb dX5_addStep_41 rfl (lv_at hl 0 rfl) ?_
  refine va_get (D := D) (ci := 7) (v := .ref h4) (C := RX5) (T := TX5) (N := 10) hx hb hts wi_X5_addStep_RX5 hown hK hP 0 rfl rfl 3 (by decide) (hts _ wd367_X5_addStep) (fun _ h9 => h9) rfl dX5_addStep_42 ?_
  refine lv_iload_n hx hb dX5_addStep_45 rfl (lv_at hl 1 rfl) ?_
  refine lv_iload_n hx hb dX5_addStep_46 rfl (lv_at hl 2 rfl) ?_
  have hF := va_free (wc := [(h4, .inr (4, [.ref h7, .ref h8, .ref h9, .int 0])), (h7, .inl (κ 0, 12, .inl (fun _ => 0))), (h8, .inl (κ 0, 12, .inl (fun _ => 0)))]) hD hS hA [1, 2, 3] rfl
  refine va_calli (va_runV (As := [.int 0, .int p0]) (rest := []) ⟨hx, hb, hml, hown, hts⟩ (k_X2_append_0 l D κ ε h4 h7 h8 h9 s.heap.size (p0)) (cwV 2 hts gX5_addStep_X2_append rfl rfl rfl (by decide +kernel) ⟨(Nat.le_of_ble_eq_true rfl), (Nat.le_of_ble_eq_true rfl)⟩) (pre2_V (q0 := 1) (ci := 4) (wc := [(h4, .inr (4, [.ref h7, .ref h8, .ref h9, .int 0])), (h7, .inl (κ 0, 12, .inl (fun _ => 0))), (h8, .inl (κ 0, 12, .inl (fun _ => 0)))]) hP hD hK hE9 hS hA [1, 2, 3] (by decide) rfl rfl rfl) rfl rfl hl.1 rfl (lv_room (Nat.le_of_ble_eq_true rfl)) dX5_addStep_47 ⟨(Nat.le_of_ble_eq_true rfl), (Nat.le_of_ble_eq_true rfl)⟩) hS (fun q _ h => hF q h) hF (fun r u1 t H locs ht hvm hw hB hz1 hk1 hS => ?_)
  try dsimp only at hw hB
  obtain ⟨hP1, hD1⟩ := hB
  rw [ht] at hP1
  obtain ⟨hP, hD⟩ := post_j (ws' := [(h0, .inr (7, [.ref h1, .ref h2, .ref h3, .ref h4, .ref h5, .ref h6, .int 0, .int 0, .int 0, .int 0])), (h4, .inr (4, [.ref h7, .ref h8, .ref h9, .int 1])), (h7, .inl (κ 0, 12, .inl (fun _ => 0))), (h8, .inl (κ 0, 12, .inl (upd (fun _ => 0) 0 p0)))]) (wr := [(h0, .inr (7, [.ref h1, .ref h2, .ref h3, .ref h4, .ref h5, .ref h6, .int 0, .int 0, .int 0, .int 0]))]) (w1 := [(h4, .inr (4, [.ref h7, .ref h8, .ref h9, .int 1])), (h7, .inl (κ 0, 12, .inl (fun _ => 0))), (h8, .inl (κ 0, 12, .inl (upd (fun _ => 0) 0 p0)))]) hP hD hF [1, 2, 3] rfl [0] rfl (by decide) (by decide) hk1 hP1 hD1 [0, 1, 2, 3] (by decide) rfl
  have hP : va_P D vwCl [(h0, .inr (7, [.ref h1, .ref h2, .ref h3, .ref h4, .ref h5, .ref h6, .int 0, .int 0, .int 0, .int 0])), (h4, .inr (4, [.ref h7, .ref h8, .ref h9, .int 1])), (h7, .inl (κ 0, 12, .inl (fun _ => 0))), (h8, .inl (κ 0, 12, .inl (upd (fun _ => 0) 0 p0)))] H := hP
  have hD : va_D A [(h0, .inr (7, [.ref h1, .ref h2, .ref h3, .ref h4, .ref h5, .ref h6, .int 0, .int 0, .int 0, .int 0])), (h4, .inr (4, [.ref h7, .ref h8, .ref h9, .int 1])), (h7, .inl (κ 0, 12, .inl (fun _ => 0))), (h8, .inl (κ 0, 12, .inl (upd (fun _ => 0) 0 p0)))] := hD
  rw [hw]
  exact W.iret (v := 0) hx hb hr (fun t ht hW => ⟨⟨0, (), rfl, rfl, trivial⟩, hS.F ht⟩) hS.2.2 dX5_addStep_50

def wsL_addStepx : List Cond := wsL_addStep ++ [.classLink RL 13 "java/lang/IllegalStateException"]

theorem gL_addStep_X5_addStep_x : GoodIn wsL_addStepx (wsV RL 70 RX5 yX5_addStep wsX5_addStep) := fun w h => ⟨List.mem_append_left _ (gL_addStep_X5_addStep w h).1, (gL_addStep_X5_addStep w h).2⟩

set_option maxHeartbeats 4000000 in
set_option maxRecDepth 100000 in
theorem k_L_addStep_0 (l : Launch) (hst : l.stackTraces = false) (D : va_G) (κ ε : Nat → Nat) (h0 h1 h2 h3 h4 h5 h6 h7 h8 h9 h10 : Nat) (sz : Nat) (p0 : Int32) : Met l yL_addStep wsL_addStepx ({ frames := 2, cells := 0, slots := 0, locals := 44 }) (va_Pc [.ref h0, .int 0, .int p0, .ref h1] (Pre2 D κ ε [(h0, .inr (7, [.ref h2, .ref h3, .ref h4, .ref h5, .ref h6, .ref h7, .int 0, .int 0, .int 0, .int 0])), (h1, .inl (κ 2, 1, .inr (.inl (fun _ => 0)))), (h5, .inr (4, [.ref h8, .ref h9, .ref h10, .int 0])), (h8, .inl (κ 0, 12, .inl (fun _ => 0))), (h9, .inl (κ 0, 12, .inl (fun _ => 0)))] sz)) (va_Qi (fun r (u : Nat → Int64) => (u 0 = 0) ∧ (r = 0)) (fun u t => va_P D vwCl [(h1, .inl (κ 2, 1, .inr (.inl u)))] t.heap ∧ va_D (va_A [(h0, .inr (7, [.ref h2, .ref h3, .ref h4, .ref h5, .ref h6, .ref h7, .int 0, .int 0, .int 0, .int 0])), (h1, .inl (κ 2, 1, .inr (.inl (fun _ => 0)))), (h5, .inr (4, [.ref h8, .ref h9, .ref h10, .int 0])), (h8, .inl (κ 0, 12, .inl (fun _ => 0))), (h9, .inl (κ 0, 12, .inl (fun _ => 0)))] sz) [(h1, .inl (κ 2, 1, .inr (.inl u)))]) (va_A [(h0, .inr (7, [.ref h2, .ref h3, .ref h4, .ref h5, .ref h6, .ref h7, .int 0, .int 0, .int 0, .int 0])), (h1, .inl (κ 2, 1, .inr (.inl (fun _ => 0)))), (h5, .inr (4, [.ref h8, .ref h9, .ref h10, .int 0])), (h8, .inl (κ 0, 12, .inl (fun _ => 0))), (h9, .inl (κ 0, 12, .inl (fun _ => 0)))] sz)) 0 0 (va_A [(h0, .inr (7, [.ref h2, .ref h3, .ref h4, .ref h5, .ref h6, .ref h7, .int 0, .int 0, .int 0, .int 0])), (h1, .inl (κ 2, 1, .inr (.inl (fun _ => 0)))), (h5, .inr (4, [.ref h8, .ref h9, .ref h10, .int 0])), (h8, .inl (κ 0, 12, .inl (fun _ => 0))), (h9, .inl (κ 0, 12, .inl (fun _ => 0)))] sz) := by
  refine va_MetW (cc := cL_addStep) (maxL := 5) (ret := (some .int)) (hh := [(0, 10, 13, 19), (0, 10, 17, 13)]) (by decide) rfl ?_
  intro p e s m args below meth c s₁ B hml hv
  obtain ⟨rfl, hsz, hP, hK, hD0, hE9⟩ := hv
  have hx := B.exec
  have hb := B.bytes
  have hr := B.returns
  have hts := atoms_spec (ws := wsL_addStepx) B.pre
  have hown : s.vm.findClass RL = some m.cls := findClass_of_methodNamed B.named
  have hlocks := B.notSynchronized
  have htab : c.exceptionTable.toList = tableOf [(0, 10, 13, 19), (0, 10, 17, 13)] := vx_table (x := yL_addStep) B (hts (.codeWith yL_addStep cL_addStep 5 (some .int) [(0, 10, 13, 19), (0, 10, 17, 13)]) List.mem_cons_self)
  subst hsz
  have hD := hD0.self (sz := s.heap.size)
  generalize hAe : va_A [(h0, .inr (7, [.ref h2, .ref h3, .ref h4, .ref h5, .ref h6, .ref h7, .int 0, .int 0, .int 0, .int 0])), (h1, .inl (κ 2, 1, .inr (.inl (fun _ => 0)))), (h5, .inr (4, [.ref h8, .ref h9, .ref h10, .int 0])), (h8, .inl (κ 0, 12, .inl (fun _ => 0))), (h9, .inl (κ 0, 12, .inl (fun _ => 0)))] s.heap.size = A at hD hE9 ⊢
  have hE := hE9.1
  have hDc := hE9.2
  have hA : ∀ q : Nat, s.heap.size ≤ q → A q := fun q h => by rw [← hAe]; exact Or.inr h
  have hS : va_S A s.heap s.heap [] := va_S.rf
  have hP : va_P D vwCl [(h0, .inr (7, [.ref h2, .ref h3, .ref h4, .ref h5, .ref h6, .ref h7, .int 0, .int 0, .int 0, .int 0])), (h1, .inl (κ 2, 1, .inr (.inl (fun _ => 0)))), (h5, .inr (4, [.ref h8, .ref h9, .ref h10, .int 0])), (h8, .inl (κ 0, 12, .inl (fun _ => 0))), (h9, .inl (κ 0, 12, .inl (fun _ => 0)))] s.heap := hP
  have hl := lv_entry [.ref h0, .int 0, .int p0, .ref h1] (n := 5) (Nat.le_of_ble_eq_true rfl)
  rw [lg_entry_eq]
  generalize (lg_sl [.ref h0, .int 0, .int p0, .ref h1] ++ List.replicate (5 - (lg_sl [.ref h0, .int 0, .int p0, .ref h1]).length) Slot.unset).toArray = ls at hl ⊢
  have hl : lv_has ls 5 [(0, .ref h0), (1, .int 0), (2, .int p0), (3, .ref h1)] := hl
  refine lv_aload_n hx hb dL_addStep_0 rfl (lv_at hl 3 rfl) ?_
  refine lv_iconst (v := 0) hx hb dL_addStep_1 (by decide) ?_
  refine lv_aload_n hx hb dL_addStep_2 rfl (lv_at hl 0 rfl) ?_
  refine lv_iload_n hx hb dL_addStep_3 rfl (lv_at hl 1 rfl) ?_
  refine lv_iload_n hx hb dL_addStep_4 rfl (lv_at hl 2 rfl) ?_
  have hF := va_free (wc := [(h0, .inr (7, [.ref h2, .ref h3, .ref h4, .ref h5, .ref h6, .ref h7, .int 0, .int 0, .int 0, .int 0])), (h5, .inr (4, [.ref h8, .ref h9, .ref h10, .int 0])), (h8, .inl (κ 0, 12, .inl (fun _ => 0))), (h9, .inl (κ 0, 12, .inl (fun _ => 0)))]) hD hS hA [0, 2, 3, 4] rfl
  refine va_calli (va_runV (As := [.int 0, .int p0]) (rest := [.int 0, .ref h1]) ⟨hx, hb, hml, hown, hts⟩ (k_X5_addStep_0 l D κ ε h0 h2 h3 h4 h5 h6 h7 h8 h9 h10 s.heap.size (p0)) (cwV 2 hts gL_addStep_X5_addStep_x rfl rfl rfl (by decide +kernel) ⟨(Nat.le_of_ble_eq_true rfl), (Nat.le_of_ble_eq_true rfl)⟩) (pre2_V (q0 := 0) (ci := 7) (wc := [(h0, .inr (7, [.ref h2, .ref h3, .ref h4, .ref h5, .ref h6, .ref h7, .int 0, .int 0, .int 0, .int 0])), (h5, .inr (4, [.ref h8, .ref h9, .ref h10, .int 0])), (h8, .inl (κ 0, 12, .inl (fun _ => 0))), (h9, .inl (κ 0, 12, .inl (fun _ => 0)))]) hP hD hK hE9 hS hA [0, 2, 3, 4] (by decide) rfl rfl rfl) rfl rfl hl.1 rfl (lv_room (Nat.le_of_ble_eq_true rfl)) dL_addStep_5 ⟨(Nat.le_of_ble_eq_true rfl), (Nat.le_of_ble_eq_true rfl)⟩) hS (fun q _ h => hF q h) hF (fun r u1 t H locs ht hvm hw hB hz1 hk1 hS => ?_)
  try dsimp only at hw hB
  have hP1 : va_P D vwCl [] H := P_nil
  obtain ⟨hP, hD⟩ := post_j (ws' := [(h1, .inl (κ 2, 1, .inr (.inl (fun _ => 0))))]) (wr := [(h1, .inl (κ 2, 1, .inr (.inl (fun _ => 0))))]) (w1 := []) hP hD hF [0, 2, 3, 4] rfl [1] rfl (by decide) (by decide) hk1 hP1 D_nil [0] (by decide) rfl
  have hP : va_P D vwCl [(h1, .inl (κ 2, 1, .inr (.inl (fun _ => 0))))] H := hP
  have hD : va_D A [(h1, .inl (κ 2, 1, .inr (.inl (fun _ => 0))))] := hD
  rw [hw]
  refine lv_i2l (v := 0) hx hb dL_addStep_8 (by decide) ?_
  refine va_last (cA := κ 2) (n := 1) (f := (fun _ => 0)) hx hb hK hP hD hS 0 2 rfl rfl (vpl (by decide)) dL_addStep_9 (fun H locs hP hD hS => ?_)
  have hP : va_P D vwCl [(h1, .inl (κ 2, 1, .inr (.inl (vp_updL (fun _ => 0) 0 0))))] H := hP
  have hD : va_D A [(h1, .inl (κ 2, 1, .inr (.inl (vp_updL (fun _ => 0) 0 0))))] := hD
  refine lv_goto (tgt := 21) hx hb dL_addStep_10 (by decide) ?_
  refine lv_iconst (v := 0) hx hb dL_addStep_21 (by decide) ?_
  have hP9 := hP.sub (ws' := [(h1, .inl (κ 2, 1, .inr (.inl (vp_updL (fun _ => 0) 0 0))))]) [0] rfl
  have hD9 := hD.sub (ws' := [(h1, .inl (κ 2, 1, .inr (.inl (vp_updL (fun _ => 0) 0 0))))]) [0] (by decide) rfl
  exact W.iret (v := 0) hx hb hr (fun t ht hW => ⟨⟨0, (vp_updL (fun _ => 0) 0 0), rfl, ⟨rfl, rfl⟩, by rw [ht]; exact hP9, hD9⟩, hS.F ht⟩) hS.2.2 dL_addStep_22

set_option maxHeartbeats 4000000 in
set_option maxRecDepth 100000 in
theorem k_X6_isIn_39 (l : Launch) (D : va_G) (κ ε : Nat → Nat) : Met l yX6_isIn wsX6_isIn ({ frames := 0, cells := 0, slots := 0, locals := 0 }) (va_Pc [.int 0, .int 0, .int 5] (Pre0 D κ [])) (vp_Si (fun r => (r = 1))) 0 0 (fun _ => False) := by
  refine Met.ofW (cc := cX6_isIn) (maxL := 3) (ret := (some .boolean)) (by decide) rfl ?_
  intro p e s m args below meth c s₁ B hml hv
  obtain ⟨rfl, hP, hK⟩ := hv
  have hx := B.exec
  have hb := B.bytes
  have hr := B.returns
  have hts := atoms_spec (ws := wsX6_isIn) B.pre
  have hown : s.vm.findClass RX6 = some m.cls := findClass_of_methodNamed B.named
  have hlocks := B.notSynchronized
  have hP : va_P D vwCl [] s.heap := hP
  have hl := lv_entry [.int 0, .int 0, .int 5] (n := 3) (Nat.le_of_ble_eq_true rfl)
  rw [lg_entry_eq]
  generalize (lg_sl [.int 0, .int 0, .int 5] ++ List.replicate (3 - (lg_sl [.int 0, .int 0, .int 5]).length) Slot.unset).toArray = ls at hl ⊢
  have hl : lv_has ls 3 [(0, .int 0), (1, .int 0), (2, .int 5)] := hl
  refine lv_iload_n hx hb dX6_isIn_0 rfl (lv_at hl 0 rfl) ?_
  refine lv_iload_n hx hb dX6_isIn_1 rfl (lv_at hl 1 rfl) ?_
  refine lv_icmp_lt (tgt := 14) hx hb dX6_isIn_2 (by decide) (fun h => absurd h (by decide)) (fun _ => ?_)
  refine lv_iload_n hx hb dX6_isIn_5 rfl (lv_at hl 0 rfl) ?_
  refine lv_iload_n hx hb dX6_isIn_6 rfl (lv_at hl 2 rfl) ?_
  refine lv_icmp_gt (tgt := 14) hx hb dX6_isIn_7 (by decide) (fun h => absurd h (by decide)) (fun _ => ?_)
  refine lv_iconst (v := 1) hx hb dX6_isIn_10 (by decide) ?_
  refine lv_goto (tgt := 15) hx hb dX6_isIn_11 (by decide) ?_
  exact W.zret (v := 1) hx hb hr rfl (fun t ht hW => ⟨1, rfl, rfl, ht⟩) (fun q hq => absurd hq List.not_mem_nil) dX6_isIn_15

set_option maxHeartbeats 4000000 in
set_option maxRecDepth 100000 in
theorem k_X6_refuse_3 (l : Launch) (D : va_G) (κ ε : Nat → Nat) (h0 h1 h2 h3 : Nat) (p0 : Int32) (p1 : Int32) (p2 : Int32) (p3 : Int32) (p4 : Int32) (p5 : Int32) : Met l yX6_refuse wsX6_refuse ({ frames := 0, cells := 0, slots := 0, locals := 0 }) (va_Pc [.ref h0, .int 0, .int 2] (Pre0 D κ [(h0, .inr (8, [.int 0, .int p0, .int p1, .ref h1, .ref h2, .int p2, .int p3, .int p4, .int p5, .int 0, .ref h3]))])) (vp_Si (fun r => (r = 0))) 0 0 (fun _ => False) := by
  refine Met.ofW (cc := cX6_refuse) (maxL := 3) (ret := (some .boolean)) (by decide) rfl ?_
  intro p e s m args below meth c s₁ B hml hv
  obtain ⟨rfl, hP, hK⟩ := hv
  have hx := B.exec
  have hb := B.bytes
  have hr := B.returns
  have hts := atoms_spec (ws := wsX6_refuse) B.pre
  have hown : s.vm.findClass RX6 = some m.cls := findClass_of_methodNamed B.named
  have hlocks := B.notSynchronized
  have hP : va_P D vwCl [(h0, .inr (8, [.int 0, .int p0, .int p1, .ref h1, .ref h2, .int p2, .int p3, .int p4, .int p5, .int 0, .ref h3]))] s.heap := hP
  have hl := lv_entry [.ref h0, .int 0, .int 2] (n := 3) (Nat.le_of_ble_eq_true rfl)
  rw [lg_entry_eq]
  generalize (lg_sl [.ref h0, .int 0, .int 2] ++ List.replicate (3 - (lg_sl [.ref h0, .int 0, .int 2]).length) Slot.unset).toArray = ls at hl ⊢
  have hl : lv_has ls 3 [(0, .ref h0), (1, .int 0), (2, .int 2)] := hl
  refine lv_iload_n hx hb dX6_refuse_0 rfl (lv_at hl 1 rfl) ?_
  refine lv_if_eq (tgt := 16) hx hb dX6_refuse_1 (by decide) (fun _ => ?_) (fun h => absurd (by decide) h)
  refine lv_aload_n hx hb dX6_refuse_16 rfl (lv_at hl 0 rfl) ?_
  refine va_get (D := D) (ci := 8) (v := .int 0) (C := RX6) (T := TX6) (N := 11) hx hb hts wi_X6_refuse_RX6 hown hK hP 0 rfl rfl 0 (by decide) (hts _ wd129_X6_refuse) (fun _ h9 => h9) rfl dX6_refuse_17 ?_
  refine lv_if_le (tgt := 27) hx hb dX6_refuse_20 (by decide) (fun _ => ?_) (fun h => absurd (by decide) h)
  refine lv_iconst (v := 0) hx hb dX6_refuse_27 (by decide) ?_
  exact W.zret (v := 0) hx hb hr rfl (fun t ht hW => ⟨0, rfl, rfl, ht⟩) (fun q hq => absurd hq List.not_mem_nil) dX6_refuse_28

theorem wi_Jx4a65c_grow_92f84_RJx4a65c : ∀ w ∈ u_ws RJx4a65c TJx4a65c 3, w ∈ wsJx4a65c_grow_92f84 := by decide +kernel

theorem wd369_Jx4a65c_grow_92f84 : (.fieldLink RJx4a65c 9 "java/util/ArrayList" "elementData" "[Ljava/lang/Object;" : Cond) ∈ wsJx4a65c_grow_92f84 := by decide +kernel

theorem wd370_Jx4a65c_grow_92f84 : (.fieldLink RJx4a65c 39 "java/util/ArrayList" "DEFAULTCAPACITY_EMPTY_ELEMENTDATA" "[Ljava/lang/Object;" : Cond) ∈ wsJx4a65c_grow_92f84 := by decide +kernel

theorem wd371_Jx4a65c_grow_92f84 : (.methodLink RJx4a65c 79 Lib.Math.max.name : Cond) ∈ wsJx4a65c_grow_92f84 := by decide +kernel

theorem wd372_Jx4a65c_grow_92f84 : (.static Lib.Math.max.name : Cond) ∈ wsJx4a65c_grow_92f84 := by decide +kernel

theorem wd373_Jx4a65c_grow_92f84 : (.initialized "java/lang/Math" : Cond) ∈ wsJx4a65c_grow_92f84 := by decide +kernel

theorem wd374_Jx4a65c_grow_92f84 : (.code Lib.Math.max.name Lib.Math.max.code 2 (some .int) : Cond) ∈ wsJx4a65c_grow_92f84 := by decide +kernel

theorem wd375_Jx4a65c_grow_92f84 : (.classLink RJx4a65c 7 "java/lang/Object" : Cond) ∈ wsJx4a65c_grow_92f84 := by decide +kernel

set_option maxHeartbeats 4000000 in
set_option maxRecDepth 100000 in
theorem k_Jx4a65c_grow_92f84_0 (l : Launch) (D : va_G) (κ ε : Nat → Nat) (h0 : Nat) (sz : Nat) (p0 : Int32) (p1 : Int32) : Met l yJx4a65c_grow_92f84 wsJx4a65c_grow_92f84 ({ frames := 1, cells := 1, slots := 10, locals := 17 }) (va_Pc [.ref h0, .int 1] (Pre2 D κ ε [(h0, .inr (1, [.int p0, .ref (ε 1), .int p1]))] sz)) (va_Qr (fun u : Nat → Nat => True) (fun u a t => a = (u 0) ∧ (fun u t => va_P D vwCl [(h0, .inr (1, [.int p0, .ref (u 0), .int p1])), ((u 0), .inl (κ 5, 10, .inr (.inr (.inr (.inr (fun _ => none))))))] t.heap ∧ va_D (va_A [(h0, .inr (1, [.int p0, .ref (ε 1), .int p1]))] sz) [(h0, .inr (1, [.int p0, .ref (u 0), .int p1])), ((u 0), .inl (κ 5, 10, .inr (.inr (.inr (.inr (fun _ => none))))))]) u t) (va_A [(h0, .inr (1, [.int p0, .ref (ε 1), .int p1]))] sz)) 1 10 (va_A [(h0, .inr (1, [.int p0, .ref (ε 1), .int p1]))] sz) := by
  refine Met.ofW (cc := cJx4a65c_grow_92f84) (maxL := 4) (ret := (some (.array (.object "java/lang/Object")))) (by decide) rfl ?_
  intro p e s m args below meth c s₁ B hml hv
  obtain ⟨rfl, hsz, hP, hK, hD0, hE9⟩ := hv
  have hx := B.exec
  have hb := B.bytes
  have hr := B.returns
  have hts := atoms_spec (ws := wsJx4a65c_grow_92f84) B.pre
  have hown : s.vm.findClass RJx4a65c = some m.cls := findClass_of_methodNamed B.named
  have hlocks := B.notSynchronized
  subst hsz
  have hD := hD0.self (sz := s.heap.size)
  generalize hAe : va_A [(h0, .inr (1, [.int p0, .ref (ε 1), .int p1]))] s.heap.size = A at hD hE9 ⊢
  have hE := hE9.1
  have hDc := hE9.2
  have hA : ∀ q : Nat, s.heap.size ≤ q → A q := fun q h => by rw [← hAe]; exact Or.inr h
  have hS : va_S A s.heap s.heap [] := va_S.rf
  have hP : va_P D vwCl [(h0, .inr (1, [.int p0, .ref (ε 1), .int p1]))] s.heap := hP
  have hl := lv_entry [.ref h0, .int 1] (n := 4) (Nat.le_of_ble_eq_true rfl)
  rw [lg_entry_eq]
  generalize (lg_sl [.ref h0, .int 1] ++ List.replicate (4 - (lg_sl [.ref h0, .int 1]).length) Slot.unset).toArray = ls at hl ⊢
  have hl : lv_has ls 4 [(0, .ref h0), (1, .int 1)] := hl
  refine lv_aload_n hx hb dJx4a65c_grow_92f84_0 rfl (lv_at hl 0 rfl) ?_
  refine va_get (D := D) (ci := 1) (v := .ref (ε 1)) (C := RJx4a65c) (T := TJx4a65c) (N := 3) hx hb hts wi_Jx4a65c_grow_92f84_RJx4a65c hown hK hP 0 rfl rfl 1 (by decide) (hts _ wd369_Jx4a65c_grow_92f84) (fun _ h9 => h9) rfl dJx4a65c_grow_92f84_1 ?_
  refine va_tlen (v := 0) hx hb hE.2.2.2.2.2.1 hS (by decide) dJx4a65c_grow_92f84_4 ?_
  refine lv_istore_n (lv' := [(2, .int 0), (0, .ref h0), (1, .int 1)]) hx hb dJx4a65c_grow_92f84_5 rfl hl (by decide) rfl (fun ls hl => ?_)
  refine lv_iload_n hx hb dJx4a65c_grow_92f84_6 rfl (lv_at hl 0 rfl) ?_
  refine lv_if_gt (tgt := 20) hx hb dJx4a65c_grow_92f84_7 (by decide) (fun h => absurd h (by decide)) (fun _ => ?_)
  refine lv_aload_n hx hb dJx4a65c_grow_92f84_10 rfl (lv_at hl 1 rfl) ?_
  refine va_get (D := D) (ci := 1) (v := .ref (ε 1)) (C := RJx4a65c) (T := TJx4a65c) (N := 3) hx hb hts wi_Jx4a65c_grow_92f84_RJx4a65c hown hK hP 0 rfl rfl 1 (by decide) (hts _ wd369_Jx4a65c_grow_92f84) (fun _ h9 => h9) rfl dJx4a65c_grow_92f84_11 ?_
  refine va_gets hx hb hE.2.2.2.2.1 hS hown (hts _ wd370_Jx4a65c_grow_92f84) (fun _ h9 => h9) dJx4a65c_grow_92f84_14 ?_
  refine lv_acmp_eq (rx := some (ε 1)) (ry := some (ε 1)) (tgt := 45) hx hb dJx4a65c_grow_92f84_17 (by decide) (fun _ => ?_) (fun h => absurd rfl h)
  refine lv_aload_n hx hb dJx4a65c_grow_92f84_45 rfl (lv_at hl 1 rfl) ?_
  refine lv_bipush (v := 10) hx hb dJx4a65c_grow_92f84_46 (by decide) ?_
  refine lv_iload_n hx hb dJx4a65c_grow_92f84_48 rfl (lv_at hl 2 rfl) ?_
  refine va_mmax hx hb (by rw [hml]; exact hl.1.symm) hown (hts _ wd371_Jx4a65c_grow_92f84) (hts _ wd372_Jx4a65c_grow_92f84) (hts _ wd373_Jx4a65c_grow_92f84) (hts _ wd374_Jx4a65c_grow_92f84) (Nat.le_of_ble_eq_true rfl) (Nat.le_of_ble_eq_true rfl) (Nat.le_of_ble_eq_true rfl) (Nat.le_of_ble_eq_true rfl) dJx4a65c_grow_92f84_49 ?_
  refine tpi (v := 10) (by decide) ?_
  refine va_newq (C := "java/lang/Object") (N' := 10) hx hb hown (hts _ wd375_Jx4a65c_grow_92f84) hE.2.2.2.2.2.2.2.2.2.2.2.1 hK hP hD hS hA (by decide) (by decide) (by decide) (Nat.le_of_ble_eq_true rfl) (Nat.le_of_ble_eq_true rfl) dJx4a65c_grow_92f84_52 (fun q1 cy H hKn hP hD hS => ?_)
  obtain rfl : cy = κ 5 := K_one (i := 5) hKn rfl
  have hP : va_P D vwCl [(h0, .inr (1, [.int p0, .ref (ε 1), .int p1])), (q1, .inl (κ 5, 10, .inr (.inr (.inr (.inr (fun _ => none))))))] H := hP
  have hD : va_D A [(h0, .inr (1, [.int p0, .ref (ε 1), .int p1])), (q1, .inl (κ 5, 10, .inr (.inr (.inr (.inr (fun _ => none))))))] := hD
  refine lv_dup_x1 hx hb dJx4a65c_grow_92f84_55 rfl rfl ?_
  refine va_put (D := D) (ci := 1) (v := .ref q1) (ty := (tyJx4a65c 1)) (C := RJx4a65c) (T := TJx4a65c) (N := 3) hx hb hts wi_Jx4a65c_grow_92f84_RJx4a65c tyJx4a65c tyJx4a65c_ok nmJx4a65c hown hK hP hD hS 0 rfl rfl 1 (by decide) (hts _ wd369_Jx4a65c_grow_92f84) (fun _ h9 => h9) rfl (by decide +kernel) rfl rfl (Nat.le_of_ble_eq_true rfl) dJx4a65c_grow_92f84_56 (fun H locs hP hD hS => ?_)
  have hP : va_P D vwCl [(h0, .inr (1, [.int p0, .ref q1, .int p1])), (q1, .inl (κ 5, 10, .inr (.inr (.inr (.inr (fun _ => none))))))] H := hP
  have hD : va_D A [(h0, .inr (1, [.int p0, .ref q1, .int p1])), (q1, .inl (κ 5, 10, .inr (.inr (.inr (.inr (fun _ => none))))))] := hD
  have hP9 := hP
  have hD9 := hD
  refine W.widen (k := 1) (n := 10) (Nat.le_of_ble_eq_true rfl) (Nat.le_of_ble_eq_true rfl) ?_
  exact W.aret (v := .ref q1) hx hb hr (Or.inr ⟨_, rfl⟩) (Or.inr ⟨_, rfl⟩) (fun t ht hW => ⟨⟨(fun i => [q1].getD i 0), q1, rfl, trivial, rfl, by rw [ht]; exact hP9, hD9⟩, hS.F ht⟩) hS.2.2 dJx4a65c_grow_92f84_59

theorem wi_Jx4a65c_grow_d5877_RJx4a65c : ∀ w ∈ u_ws RJx4a65c TJx4a65c 3, w ∈ wsJx4a65c_grow_d5877 := by decide +kernel

theorem wd376_Jx4a65c_grow_d5877 : (.fieldLink RJx4a65c 48 "java/util/ArrayList" "size" "I" : Cond) ∈ wsJx4a65c_grow_d5877 := by decide +kernel

set_option maxHeartbeats 4000000 in
set_option maxRecDepth 100000 in
theorem k_Jx4a65c_grow_d5877_0 (l : Launch) (D : va_G) (κ ε : Nat → Nat) (h0 : Nat) (sz : Nat) (p0 : Int32) : Met l yJx4a65c_grow_d5877 wsJx4a65c_grow_d5877 ({ frames := 2, cells := 1, slots := 10, locals := 40 }) (va_Pc [.ref h0] (Pre2 D κ ε [(h0, .inr (1, [.int p0, .ref (ε 1), .int 0]))] sz)) (va_Qr (fun u : Nat → Nat => True) (fun u a t => a = (u 0) ∧ (fun u t => va_P D vwCl [(h0, .inr (1, [.int p0, .ref (u 0), .int 0])), ((u 0), .inl (κ 5, 10, .inr (.inr (.inr (.inr (fun _ => none))))))] t.heap ∧ va_D (va_A [(h0, .inr (1, [.int p0, .ref (ε 1), .int 0]))] sz) [(h0, .inr (1, [.int p0, .ref (u 0), .int 0])), ((u 0), .inl (κ 5, 10, .inr (.inr (.inr (.inr (fun _ => none))))))]) u t) (va_A [(h0, .inr (1, [.int p0, .ref (ε 1), .int 0]))] sz)) 1 10 (va_A [(h0, .inr (1, [.int p0, .ref (ε 1), .int 0]))] sz) := by
  refine Met.ofW (cc := cJx4a65c_grow_d5877) (maxL := 1) (ret := (some (.array (.object "java/lang/Object")))) (by decide) rfl ?_
  intro p e s m args below meth c s₁ B hml hv
  obtain ⟨rfl, hsz, hP, hK, hD0, hE9⟩ := hv
  have hx := B.exec
  have hb := B.bytes
  have hr := B.returns
  have hts := atoms_spec (ws := wsJx4a65c_grow_d5877) B.pre
  have hown : s.vm.findClass RJx4a65c = some m.cls := findClass_of_methodNamed B.named
  have hlocks := B.notSynchronized
  subst hsz
  have hD := hD0.self (sz := s.heap.size)
  generalize hAe : va_A [(h0, .inr (1, [.int p0, .ref (ε 1), .int 0]))] s.heap.size = A at hD hE9 ⊢
  have hE := hE9.1
  have hDc := hE9.2
  have hA : ∀ q : Nat, s.heap.size ≤ q → A q := fun q h => by rw [← hAe]; exact Or.inr h
  have hS : va_S A s.heap s.heap [] := va_S.rf
  have hP : va_P D vwCl [(h0, .inr (1, [.int p0, .ref (ε 1), .int 0]))] s.heap := hP
  have hl := lv_entry [.ref h0] (n := 1) (Nat.le_of_ble_eq_true rfl)
  rw [lg_entry_eq]
  generalize (lg_sl [.ref h0] ++ List.replicate (1 - (lg_sl [.ref h0]).length) Slot.unset).toArray = ls at hl ⊢
  have hl : lv_has ls 1 [(0, .ref h0)] := hl
  refine lv_aload_n hx hb dJx4a65c_grow_d5877_0 rfl (lv_at hl 0 rfl) ?_
  refine lv_aload_n hx hb dJx4a65c_grow_d5877_1 rfl (lv_at hl 0 rfl) ?_
  refine va_get (D := D) (ci := 1) (v := .int 0) (C := RJx4a65c) (T := TJx4a65c) (N := 3) hx hb hts wi_Jx4a65c_grow_d5877_RJx4a65c hown hK hP 0 rfl rfl 2 (by decide) (hts _ wd376_Jx4a65c_grow_d5877) (fun _ h9 => h9) rfl dJx4a65c_grow_d5877_2 ?_
  refine lv_iconst (v := 1) hx hb dJx4a65c_grow_d5877_5 (by decide) ?_
  refine lv_iadd hx hb dJx4a65c_grow_d5877_6 ?_
  refine tpi (v := 1) (by decide) ?_
  have hF := va_free (wc := [(h0, .inr (1, [.int p0, .ref (ε 1), .int 0]))]) hD hS hA [0] rfl
  refine va_callr (va_runV (As := [.int 1]) (rest := []) ⟨hx, hb, hml, hown, hts⟩ (k_Jx4a65c_grow_92f84_0 l D κ ε h0 s.heap.size (p0) (0)) (cwV 1 hts gJx4a65c_grow_d5877_Jx4a65c_grow_92f84 rfl rfl rfl (by decide +kernel) ⟨(Nat.le_of_ble_eq_true rfl), (Nat.le_of_ble_eq_true rfl)⟩) (pre2_V (q0 := 0) (ci := 1) (wc := [(h0, .inr (1, [.int p0, .ref (ε 1), .int 0]))]) hP hD hK hE9 hS hA [0] (by decide) rfl rfl rfl) rfl rfl hl.1 rfl (lv_room (Nat.le_of_ble_eq_true rfl)) dJx4a65c_grow_d5877_7 ⟨(Nat.le_of_ble_eq_true rfl), (Nat.le_of_ble_eq_true rfl)⟩) hS (fun q _ h => hF q h) hF (fun u1 ra t H locs ht hvm hw hB hz1 hk1 hS => ?_)
  try dsimp only at hw hB
  obtain ⟨rfl, hB⟩ := hB
  obtain ⟨hP1, hD1⟩ := hB
  rw [ht] at hP1
  obtain ⟨hP, hD⟩ := post_j (ws' := [(h0, .inr (1, [.int p0, .ref (u1 0), .int 0])), ((u1 0), .inl (κ 5, 10, .inr (.inr (.inr (.inr (fun _ => none))))))]) (wr := []) (w1 := [(h0, .inr (1, [.int p0, .ref (u1 0), .int 0])), ((u1 0), .inl (κ 5, 10, .inr (.inr (.inr (.inr (fun _ => none))))))]) hP hD hF [0] rfl [] rfl (by decide) (by decide) hk1 hP1 hD1 [0, 1] (by decide) rfl
  have hP : va_P D vwCl [(h0, .inr (1, [.int p0, .ref (u1 0), .int 0])), ((u1 0), .inl (κ 5, 10, .inr (.inr (.inr (.inr (fun _ => none))))))] H := hP
  have hD : va_D A [(h0, .inr (1, [.int p0, .ref (u1 0), .int 0])), ((u1 0), .inl (κ 5, 10, .inr (.inr (.inr (.inr (fun _ => none))))))] := hD
  have hP9 := hP
  have hD9 := hD
  refine W.widen (k := 1) (n := 10) (Nat.le_of_ble_eq_true rfl) (Nat.le_of_ble_eq_true rfl) ?_
  exact W.aret (v := .ref (u1 0)) hx hb hr (Or.inr ⟨_, rfl⟩) (Or.inr ⟨_, rfl⟩) (fun t ht hW => ⟨⟨(fun i => [(u1 0)].getD i 0), (u1 0), rfl, trivial, rfl, by rw [ht]; exact hP9, hD9⟩, hS.F ht⟩) hS.2.2 dJx4a65c_grow_d5877_10

theorem wi_Jx4a65c_add_72be8_RJx4a65c : ∀ w ∈ u_ws RJx4a65c TJx4a65c 3, w ∈ wsJx4a65c_add_72be8 := by decide +kernel

theorem wd377_Jx4a65c_add_72be8 : (.fieldLink RJx4a65c 48 "java/util/ArrayList" "size" "I" : Cond) ∈ wsJx4a65c_add_72be8 := by decide +kernel

set_option maxHeartbeats 4000000 in
set_option maxRecDepth 100000 in
theorem k_Jx4a65c_add_72be8_0 (l : Launch) (D : va_G) (κ ε : Nat → Nat) (h0 h1 : Nat) (sz : Nat) (p0 : Int32) (p1 : Int32) : Met l yJx4a65c_add_72be8 wsJx4a65c_add_72be8 ({ frames := 3, cells := 1, slots := 10, locals := 60 }) (va_Pc [.ref h0, .ref h1, .ref (ε 1), .int 0] (Pre2 D κ ε [(h0, .inr (1, [.int p0, .ref (ε 1), .int 0])), (h1, .inl (κ 0, 2, .inl (upd (fun _ => 0) 1 p1)))] sz)) (va_Qv (fun u : Nat → Nat => True) (fun u t => va_P D vwCl [(h0, .inr (1, [.int p0, .ref (u 0), .int 1])), (h1, .inl (κ 0, 2, .inl (upd (fun _ => 0) 1 p1))), ((u 0), .inl (κ 5, 10, .inr (.inr (.inr (.inr (va_up (fun _ => none) 0 (some h1)))))))] t.heap ∧ va_D (va_A [(h0, .inr (1, [.int p0, .ref (ε 1), .int 0])), (h1, .inl (κ 0, 2, .inl (upd (fun _ => 0) 1 p1)))] sz) [(h0, .inr (1, [.int p0, .ref (u 0), .int 1])), (h1, .inl (κ 0, 2, .inl (upd (fun _ => 0) 1 p1))), ((u 0), .inl (κ 5, 10, .inr (.inr (.inr (.inr (va_up (fun _ => none) 0 (some h1)))))))]) (va_A [(h0, .inr (1, [.int p0, .ref (ε 1), .int 0])), (h1, .inl (κ 0, 2, .inl (upd (fun _ => 0) 1 p1)))] sz)) 1 10 (va_A [(h0, .inr (1, [.int p0, .ref (ε 1), .int 0])), (h1, .inl (κ 0, 2, .inl (upd (fun _ => 0) 1 p1)))] sz) := by
  refine Met.ofW (cc := cJx4a65c_add_72be8) (maxL := 4) (ret := none) (by decide) rfl ?_
  intro p e s m args below meth c s₁ B hml hv
  obtain ⟨rfl, hsz, hP, hK, hD0, hE9⟩ := hv
  have hx := B.exec
  have hb := B.bytes
  have hr := B.returns
  have hts := atoms_spec (ws := wsJx4a65c_add_72be8) B.pre
  have hown : s.vm.findClass RJx4a65c = some m.cls := findClass_of_methodNamed B.named
  have hlocks := B.notSynchronized
  subst hsz
  have hD := hD0.self (sz := s.heap.size)
  generalize hAe : va_A [(h0, .inr (1, [.int p0, .ref (ε 1), .int 0])), (h1, .inl (κ 0, 2, .inl (upd (fun _ => 0) 1 p1)))] s.heap.size = A at hD hE9 ⊢
  have hE := hE9.1
  have hDc := hE9.2
  have hA : ∀ q : Nat, s.heap.size ≤ q → A q := fun q h => by rw [← hAe]; exact Or.inr h
  have hS : va_S A s.heap s.heap [] := va_S.rf
  have hP : va_P D vwCl [(h0, .inr (1, [.int p0, .ref (ε 1), .int 0])), (h1, .inl (κ 0, 2, .inl (upd (fun _ => 0) 1 p1)))] s.heap := hP
  have hl := lv_entry [.ref h0, .ref h1, .ref (ε 1), .int 0] (n := 4) (Nat.le_of_ble_eq_true rfl)
  rw [lg_entry_eq]
  generalize (lg_sl [.ref h0, .ref h1, .ref (ε 1), .int 0] ++ List.replicate (4 - (lg_sl [.ref h0, .ref h1, .ref (ε 1), .int 0]).length) Slot.unset).toArray = ls at hl ⊢
  have hl : lv_has ls 4 [(0, .ref h0), (1, .ref h1), (2, .ref (ε 1)), (3, .int 0)] := hl
  refine lv_iload_n hx hb dJx4a65c_add_72be8_0 rfl (lv_at hl 3 rfl) ?_
  refine lv_aload_n hx hb dJx4a65c_add_72be8_1 rfl (lv_at hl 2 rfl) ?_
  refine va_tlen (v := 0) hx hb hE.2.2.2.2.2.1 hS (by decide) dJx4a65c_add_72be8_2 ?_
  refine lv_icmp_ne (tgt := 11) hx hb dJx4a65c_add_72be8_3 (by decide) (fun h => absurd (by decide) h) (fun _ => ?_)
  refine lv_aload_n hx hb dJx4a65c_add_72be8_6 rfl (lv_at hl 0 rfl) ?_
  have hF := va_free (wc := [(h0, .inr (1, [.int p0, .ref (ε 1), .int 0]))]) hD hS hA [0] rfl
  refine va_callr (va_runV (As := []) (rest := []) ⟨hx, hb, hml, hown, hts⟩ (k_Jx4a65c_grow_d5877_0 l D κ ε h0 s.heap.size (p0)) (cwV 0 hts gJx4a65c_add_72be8_Jx4a65c_grow_d5877 rfl rfl rfl (by decide +kernel) ⟨(Nat.le_of_ble_eq_true rfl), (Nat.le_of_ble_eq_true rfl)⟩) (pre2_V (q0 := 0) (ci := 1) (wc := [(h0, .inr (1, [.int p0, .ref (ε 1), .int 0]))]) hP hD hK hE9 hS hA [0] (by decide) rfl rfl rfl) rfl rfl hl.1 rfl (lv_room (Nat.le_of_ble_eq_true rfl)) dJx4a65c_add_72be8_7 ⟨(Nat.le_of_ble_eq_true rfl), (Nat.le_of_ble_eq_true rfl)⟩) hS (fun q _ h => hF q h) hF (fun u1 ra t H locs ht hvm hw hB hz1 hk1 hS => ?_)
  try dsimp only at hw hB
  obtain ⟨rfl, hB⟩ := hB
  obtain ⟨hP1, hD1⟩ := hB
  rw [ht] at hP1
  obtain ⟨hP, hD⟩ := post_j (ws' := [(h0, .inr (1, [.int p0, .ref (u1 0), .int 0])), (h1, .inl (κ 0, 2, .inl (upd (fun _ => 0) 1 p1))), ((u1 0), .inl (κ 5, 10, .inr (.inr (.inr (.inr (fun _ => none))))))]) (wr := [(h1, .inl (κ 0, 2, .inl (upd (fun _ => 0) 1 p1)))]) (w1 := [(h0, .inr (1, [.int p0, .ref (u1 0), .int 0])), ((u1 0), .inl (κ 5, 10, .inr (.inr (.inr (.inr (fun _ => none))))))]) hP hD hF [0] rfl [1] rfl (by decide) (by decide) hk1 hP1 hD1 [1, 0, 2] (by decide) rfl
  have hP : va_P D vwCl [(h0, .inr (1, [.int p0, .ref (u1 0), .int 0])), (h1, .inl (κ 0, 2, .inl (upd (fun _ => 0) 1 p1))), ((u1 0), .inl (κ 5, 10, .inr (.inr (.inr (.inr (fun _ => none))))))] H := hP
  have hD : va_D A [(h0, .inr (1, [.int p0, .ref (u1 0), .int 0])), (h1, .inl (κ 0, 2, .inl (upd (fun _ => 0) 1 p1))), ((u1 0), .inl (κ 5, 10, .inr (.inr (.inr (.inr (fun _ => none))))))] := hD
  refine lv_astore_n (lv' := [(2, .ref (u1 0)), (0, .ref h0), (1, .ref h1), (3, .int 0)]) hx hb dJx4a65c_add_72be8_10 rfl hl (by decide) rfl (fun ls hl => ?_)
  refine lv_aload_n hx hb dJx4a65c_add_72be8_11 rfl (lv_at hl 0 rfl) ?_
  refine lv_iload_n hx hb dJx4a65c_add_72be8_12 rfl (lv_at hl 3 rfl) ?_
  refine lv_aload_n hx hb dJx4a65c_add_72be8_13 rfl (lv_at hl 2 rfl) ?_
  refine va_astqM (cA := κ 5) (n := 10) (f := (fun _ => none)) hx hb hK hP hD hS 2 5 rfl rfl (any_arr hK hE hP 1 rfl) (vpl (by decide)) dJx4a65c_add_72be8_14 (fun H locs hP hD hS => ?_)
  have hP : va_P D vwCl [(h0, .inr (1, [.int p0, .ref (u1 0), .int 0])), (h1, .inl (κ 0, 2, .inl (upd (fun _ => 0) 1 p1))), ((u1 0), .inl (κ 5, 10, .inr (.inr (.inr (.inr (va_up (fun _ => none) 0 (some h1)))))))] H := hP
  have hD : va_D A [(h0, .inr (1, [.int p0, .ref (u1 0), .int 0])), (h1, .inl (κ 0, 2, .inl (upd (fun _ => 0) 1 p1))), ((u1 0), .inl (κ 5, 10, .inr (.inr (.inr (.inr (va_up (fun _ => none) 0 (some h1)))))))] := hD
  refine lv_aload_n hx hb dJx4a65c_add_72be8_15 rfl (lv_at hl 1 rfl) ?_
  refine lv_iload_n hx hb dJx4a65c_add_72be8_16 rfl (lv_at hl 3 rfl) ?_
  refine lv_iconst (v := 1) hx hb dJx4a65c_add_72be8_17 (by decide) ?_
  refine lv_iadd hx hb dJx4a65c_add_72be8_18 ?_
  refine tpi (v := 1) (by decide) ?_
  refine va_put (D := D) (ci := 1) (v := .int 1) (ty := .int) (C := RJx4a65c) (T := TJx4a65c) (N := 3) hx hb hts wi_Jx4a65c_add_72be8_RJx4a65c tyJx4a65c tyJx4a65c_ok nmJx4a65c hown hK hP hD hS 0 rfl rfl 2 (by decide) (hts _ wd377_Jx4a65c_add_72be8) (fun _ h9 => h9) rfl (by decide +kernel) rfl rfl (Nat.le_of_ble_eq_true rfl) dJx4a65c_add_72be8_19 (fun H locs hP hD hS => ?_)
  have hP : va_P D vwCl [(h0, .inr (1, [.int p0, .ref (u1 0), .int 1])), (h1, .inl (κ 0, 2, .inl (upd (fun _ => 0) 1 p1))), ((u1 0), .inl (κ 5, 10, .inr (.inr (.inr (.inr (va_up (fun _ => none) 0 (some h1)))))))] H := hP
  have hD : va_D A [(h0, .inr (1, [.int p0, .ref (u1 0), .int 1])), (h1, .inl (κ 0, 2, .inl (upd (fun _ => 0) 1 p1))), ((u1 0), .inl (κ 5, 10, .inr (.inr (.inr (.inr (va_up (fun _ => none) 0 (some h1)))))))] := hD
  have hP9 := hP
  have hD9 := hD
  refine W.widen (k := 1) (n := 10) (Nat.le_of_ble_eq_true rfl) (Nat.le_of_ble_eq_true rfl) ?_
  exact W.vret hx hb hr (fun t ht hW => ⟨⟨(fun i => [(u1 0)].getD i 0), rfl, trivial, by rw [ht]; exact hP9, hD9⟩, hS.F ht⟩) hS.2.2 dJx4a65c_add_72be8_22

theorem wd378_Jx4a65c_add_9ea2d : (.sameField "java/util/ArrayList" "java/util/AbstractList" "modCount" "I" : Cond) ∈ wsJx4a65c_add_9ea2d := by decide +kernel

theorem wi_Jx4a65c_add_9ea2d_RJx4a65c : ∀ w ∈ u_ws RJx4a65c TJx4a65c 3, w ∈ wsJx4a65c_add_9ea2d := by decide +kernel

theorem wd379_Jx4a65c_add_9ea2d : (.fieldLink RJx4a65c 63 "java/util/ArrayList" "modCount" "I" : Cond) ∈ wsJx4a65c_add_9ea2d := by decide +kernel

theorem wd380_Jx4a65c_add_9ea2d : (.fieldLink RJx4a65c 9 "java/util/ArrayList" "elementData" "[Ljava/lang/Object;" : Cond) ∈ wsJx4a65c_add_9ea2d := by decide +kernel

theorem wd381_Jx4a65c_add_9ea2d : (.fieldLink RJx4a65c 48 "java/util/ArrayList" "size" "I" : Cond) ∈ wsJx4a65c_add_9ea2d := by decide +kernel

set_option maxHeartbeats 4000000 in
set_option maxRecDepth 100000 in
theorem k_Jx4a65c_add_9ea2d_0 (l : Launch) (D : va_G) (κ ε : Nat → Nat) (h0 h1 : Nat) (sz : Nat) (p0 : Int32) : Met l yJx4a65c_add_9ea2d wsJx4a65c_add_9ea2d ({ frames := 4, cells := 1, slots := 10, locals := 83 }) (va_Pc [.ref h0, .ref h1] (Pre2 D κ ε [(h0, .inr (1, [.int 0, .ref (ε 1), .int 0])), (h1, .inl (κ 0, 2, .inl (upd (fun _ => 0) 1 p0)))] sz)) (va_Qi (fun r (u : Nat → Nat) => (r = 1)) (fun u t => va_P D vwCl [(h0, .inr (1, [.int 1, .ref (u 0), .int 1])), (h1, .inl (κ 0, 2, .inl (upd (fun _ => 0) 1 p0))), ((u 0), .inl (κ 5, 10, .inr (.inr (.inr (.inr (va_up (fun _ => none) 0 (some h1)))))))] t.heap ∧ va_D (va_A [(h0, .inr (1, [.int 0, .ref (ε 1), .int 0])), (h1, .inl (κ 0, 2, .inl (upd (fun _ => 0) 1 p0)))] sz) [(h0, .inr (1, [.int 1, .ref (u 0), .int 1])), (h1, .inl (κ 0, 2, .inl (upd (fun _ => 0) 1 p0))), ((u 0), .inl (κ 5, 10, .inr (.inr (.inr (.inr (va_up (fun _ => none) 0 (some h1)))))))]) (va_A [(h0, .inr (1, [.int 0, .ref (ε 1), .int 0])), (h1, .inl (κ 0, 2, .inl (upd (fun _ => 0) 1 p0)))] sz)) 1 10 (va_A [(h0, .inr (1, [.int 0, .ref (ε 1), .int 0])), (h1, .inl (κ 0, 2, .inl (upd (fun _ => 0) 1 p0)))] sz) := by
  refine Met.ofW (cc := cJx4a65c_add_9ea2d) (maxL := 2) (ret := (some .boolean)) (by decide) rfl ?_
  intro p e s m args below meth c s₁ B hml hv
  obtain ⟨rfl, hsz, hP, hK, hD0, hE9⟩ := hv
  have hx := B.exec
  have hb := B.bytes
  have hr := B.returns
  have hts := atoms_spec (ws := wsJx4a65c_add_9ea2d) B.pre
  have hown : s.vm.findClass RJx4a65c = some m.cls := findClass_of_methodNamed B.named
  have hlocks := B.notSynchronized
  subst hsz
  have hD := hD0.self (sz := s.heap.size)
  generalize hAe : va_A [(h0, .inr (1, [.int 0, .ref (ε 1), .int 0])), (h1, .inl (κ 0, 2, .inl (upd (fun _ => 0) 1 p0)))] s.heap.size = A at hD hE9 ⊢
  have hE := hE9.1
  have hDc := hE9.2
  have hA : ∀ q : Nat, s.heap.size ≤ q → A q := fun q h => by rw [← hAe]; exact Or.inr h
  have hS : va_S A s.heap s.heap [] := va_S.rf
  have hP : va_P D vwCl [(h0, .inr (1, [.int 0, .ref (ε 1), .int 0])), (h1, .inl (κ 0, 2, .inl (upd (fun _ => 0) 1 p0)))] s.heap := hP
  have hl := lv_entry [.ref h0, .ref h1] (n := 2) (Nat.le_of_ble_eq_true rfl)
  rw [lg_entry_eq]
  generalize (lg_sl [.ref h0, .ref h1] ++ List.replicate (2 - (lg_sl [.ref h0, .ref h1]).length) Slot.unset).toArray = ls at hl ⊢
  have hl : lv_has ls 2 [(0, .ref h0), (1, .ref h1)] := hl
  refine lv_aload_n hx hb dJx4a65c_add_9ea2d_0 rfl (lv_at hl 0 rfl) ?_
  refine lv_dup hx hb dJx4a65c_add_9ea2d_1 rfl ?_
  refine va_get (D := D) (ci := 1) (v := .int 0) (C := RJx4a65c) (T := TJx4a65c) (N := 3) hx hb hts wi_Jx4a65c_add_9ea2d_RJx4a65c hown hK hP 0 rfl rfl 0 (by decide) (hts _ wd379_Jx4a65c_add_9ea2d) (fun x9 h9 => u_same (hts _ wd378_Jx4a65c_add_9ea2d) x9 h9) rfl dJx4a65c_add_9ea2d_2 ?_
  refine lv_iconst (v := 1) hx hb dJx4a65c_add_9ea2d_5 (by decide) ?_
  refine lv_iadd hx hb dJx4a65c_add_9ea2d_6 ?_
  refine tpi (v := 1) (by decide) ?_
  refine va_put (D := D) (ci := 1) (v := .int 1) (ty := .int) (C := RJx4a65c) (T := TJx4a65c) (N := 3) hx hb hts wi_Jx4a65c_add_9ea2d_RJx4a65c tyJx4a65c tyJx4a65c_ok nmJx4a65c hown hK hP hD hS 0 rfl rfl 0 (by decide) (hts _ wd379_Jx4a65c_add_9ea2d) (fun x9 h9 => u_same (hts _ wd378_Jx4a65c_add_9ea2d) x9 h9) rfl (by decide +kernel) rfl rfl (Nat.le_of_ble_eq_true rfl) dJx4a65c_add_9ea2d_7 (fun H locs hP hD hS => ?_)
  have hP : va_P D vwCl [(h0, .inr (1, [.int 1, .ref (ε 1), .int 0])), (h1, .inl (κ 0, 2, .inl (upd (fun _ => 0) 1 p0)))] H := hP
  have hD : va_D A [(h0, .inr (1, [.int 1, .ref (ε 1), .int 0])), (h1, .inl (κ 0, 2, .inl (upd (fun _ => 0) 1 p0)))] := hD
  refine lv_aload_n hx hb dJx4a65c_add_9ea2d_10 rfl (lv_at hl 0 rfl) ?_
  refine lv_aload_n hx hb dJx4a65c_add_9ea2d_11 rfl (lv_at hl 1 rfl) ?_
  refine lv_aload_n hx hb dJx4a65c_add_9ea2d_12 rfl (lv_at hl 0 rfl) ?_
  refine va_get (D := D) (ci := 1) (v := .ref (ε 1)) (C := RJx4a65c) (T := TJx4a65c) (N := 3) hx hb hts wi_Jx4a65c_add_9ea2d_RJx4a65c hown hK hP 0 rfl rfl 1 (by decide) (hts _ wd380_Jx4a65c_add_9ea2d) (fun _ h9 => h9) rfl dJx4a65c_add_9ea2d_13 ?_
  refine lv_aload_n hx hb dJx4a65c_add_9ea2d_16 rfl (lv_at hl 0 rfl) ?_
  refine va_get (D := D) (ci := 1) (v := .int 0) (C := RJx4a65c) (T := TJx4a65c) (N := 3) hx hb hts wi_Jx4a65c_add_9ea2d_RJx4a65c hown hK hP 0 rfl rfl 2 (by decide) (hts _ wd381_Jx4a65c_add_9ea2d) (fun _ h9 => h9) rfl dJx4a65c_add_9ea2d_17 ?_
  have hF := va_free (wc := [(h0, .inr (1, [.int 1, .ref (ε 1), .int 0])), (h1, .inl (κ 0, 2, .inl (upd (fun _ => 0) 1 p0)))]) hD hS hA [0, 1] rfl
  refine va_callv (va_runV (As := [.ref h1, .ref (ε 1), .int 0]) (rest := []) ⟨hx, hb, hml, hown, hts⟩ (k_Jx4a65c_add_72be8_0 l D κ ε h0 h1 H.size (1) (p0)) (cwV 3 hts gJx4a65c_add_9ea2d_Jx4a65c_add_72be8 rfl rfl rfl (by decide +kernel) ⟨(Nat.le_of_ble_eq_true rfl), (Nat.le_of_ble_eq_true rfl)⟩) (pre2_V (q0 := 0) (ci := 1) (wc := [(h0, .inr (1, [.int 1, .ref (ε 1), .int 0])), (h1, .inl (κ 0, 2, .inl (upd (fun _ => 0) 1 p0)))]) hP hD hK hE9 hS hA [0, 1] (by decide) rfl rfl rfl) rfl rfl hl.1 rfl (lv_room (Nat.le_of_ble_eq_true rfl)) dJx4a65c_add_9ea2d_20 ⟨(Nat.le_of_ble_eq_true rfl), (Nat.le_of_ble_eq_true rfl)⟩) hS (fun q _ h => hF q h) hF (fun u1 t H locs ht hvm hw hB hz1 hk1 hS => ?_)
  try dsimp only at hw hB
  obtain ⟨hP1, hD1⟩ := hB
  rw [ht] at hP1
  obtain ⟨hP, hD⟩ := post_j (ws' := [(h0, .inr (1, [.int 1, .ref (u1 0), .int 1])), (h1, .inl (κ 0, 2, .inl (upd (fun _ => 0) 1 p0))), ((u1 0), .inl (κ 5, 10, .inr (.inr (.inr (.inr (va_up (fun _ => none) 0 (some h1)))))))]) (wr := []) (w1 := [(h0, .inr (1, [.int 1, .ref (u1 0), .int 1])), (h1, .inl (κ 0, 2, .inl (upd (fun _ => 0) 1 p0))), ((u1 0), .inl (κ 5, 10, .inr (.inr (.inr (.inr (va_up (fun _ => none) 0 (some h1)))))))]) hP hD hF [0, 1] rfl [] rfl (by decide) (by decide) hk1 hP1 hD1 [0, 1, 2] (by decide) rfl
  have hP : va_P D vwCl [(h0, .inr (1, [.int 1, .ref (u1 0), .int 1])), (h1, .inl (κ 0, 2, .inl (upd (fun _ => 0) 1 p0))), ((u1 0), .inl (κ 5, 10, .inr (.inr (.inr (.inr (va_up (fun _ => none) 0 (some h1)))))))] H := hP
  have hD : va_D A [(h0, .inr (1, [.int 1, .ref (u1 0), .int 1])), (h1, .inl (κ 0, 2, .inl (upd (fun _ => 0) 1 p0))), ((u1 0), .inl (κ 5, 10, .inr (.inr (.inr (.inr (va_up (fun _ => none) 0 (some h1)))))))] := hD
  refine lv_iconst (v := 1) hx hb dJx4a65c_add_9ea2d_23 (by decide) ?_
  have hP9 := hP
  have hD9 := hD
  refine W.widen (k := 1) (n := 10) (Nat.le_of_ble_eq_true rfl) (Nat.le_of_ble_eq_true rfl) ?_
  exact W.zret (v := 1) hx hb hr rfl (fun t ht hW => ⟨⟨1, (fun i => [(u1 0)].getD i 0), rfl, rfl, by rw [ht]; exact hP9, hD9⟩, hS.F ht⟩) hS.2.2 dJx4a65c_add_9ea2d_24

set_option maxHeartbeats 4000000 in
set_option maxRecDepth 100000 in
theorem k_Jx4a65c_size_8abf5_1 (l : Launch) (D : va_G) (κ ε : Nat → Nat) (h0 h1 : Nat) (p0 : Int32) : Met l yJx4a65c_size_8abf5 wsJx4a65c_size_8abf5 ({ frames := 0, cells := 0, slots := 0, locals := 0 }) (va_Pc [.ref h0] (Pre0 D κ [(h0, .inr (1, [.int p0, .ref h1, .int 1]))])) (vp_Si (fun r => (r = 1))) 0 0 (fun _ => False) := by
  refine Met.ofW (cc := cJx4a65c_size_8abf5) (maxL := 1) (ret := (some .int)) (by decide) rfl ?_
  intro p e s m args below meth c s₁ B hml hv
  obtain ⟨rfl, hP, hK⟩ := hv
  have hx := B.exec
  have hb := B.bytes
  have hr := B.returns
  have hts := atoms_spec (ws := wsJx4a65c_size_8abf5) B.pre
  have hown : s.vm.findClass RJx4a65c = some m.cls := findClass_of_methodNamed B.named
  have hlocks := B.notSynchronized
  have hP : va_P D vwCl [(h0, .inr (1, [.int p0, .ref h1, .int 1]))] s.heap := hP
  have hl := lv_entry [.ref h0] (n := 1) (Nat.le_of_ble_eq_true rfl)
  rw [lg_entry_eq]
  generalize (lg_sl [.ref h0] ++ List.replicate (1 - (lg_sl [.ref h0]).length) Slot.unset).toArray = ls at hl ⊢
  have hl : lv_has ls 1 [(0, .ref h0)] := hl
  refine lv_aload_n hx hb dJx4a65c_size_8abf5_0 rfl (lv_at hl 0 rfl) ?_
  refine va_get (D := D) (ci := 1) (v := .int 1) (C := RJx4a65c) (T := TJx4a65c) (N := 3) hx hb hts wi_Jx4a65c_size_8abf5_RJx4a65c hown hK hP 0 rfl rfl 2 (by decide) (hts _ wd154_Jx4a65c_size_8abf5) (fun _ h9 => h9) rfl dJx4a65c_size_8abf5_1 ?_
  exact W.iret (v := 1) hx hb hr (fun t ht hW => ⟨1, rfl, rfl, ht⟩) (fun q hq => absurd hq List.not_mem_nil) dJx4a65c_size_8abf5_4

theorem wi_X6_addStep_RX6 : ∀ w ∈ u_ws RX6 TX6 11, w ∈ wsX6_addStep := by decide +kernel

theorem wd382_X6_addStep : (.fieldLink RX6 31 "CanticleModel" "script" "Ljava/util/ArrayList;" : Cond) ∈ wsX6_addStep := by decide +kernel

theorem wd383_X6_addStep : (.arrayClass .int : Cond) ∈ wsX6_addStep := by decide +kernel

set_option maxHeartbeats 4000000 in
set_option maxRecDepth 100000 in
theorem k_X6_addStep_0 (l : Launch) (D : va_G) (κ ε : Nat → Nat) (h0 h1 h2 h3 : Nat) (sz : Nat) (p0 : Int32) : Met l yX6_addStep wsX6_addStep ({ frames := 5, cells := 2, slots := 12, locals := 104 }) (va_Pc [.ref h0, .int 0, .int p0] (Pre2 D κ ε [(h0, .inr (8, [.int 0, .int 0, .int 2, .ref h1, .ref h2, .int 0, .int 500, .int 0, .int 0, .int 0, .ref h3])), (h3, .inr (1, [.int 0, .ref (ε 1), .int 0]))] sz)) (va_Qi (fun r (u : List Value) => (u[0]? = some (.int 0)) ∧ (r = 0)) (fun u t => va_P D vwCl [(h0, .inr (8, u))] t.heap ∧ va_D (va_A [(h0, .inr (8, [.int 0, .int 0, .int 2, .ref h1, .ref h2, .int 0, .int 500, .int 0, .int 0, .int 0, .ref h3])), (h3, .inr (1, [.int 0, .ref (ε 1), .int 0]))] sz) [(h0, .inr (8, u))]) (va_A [(h0, .inr (8, [.int 0, .int 0, .int 2, .ref h1, .ref h2, .int 0, .int 500, .int 0, .int 0, .int 0, .ref h3])), (h3, .inr (1, [.int 0, .ref (ε 1), .int 0]))] sz)) 2 12 (va_A [(h0, .inr (8, [.int 0, .int 0, .int 2, .ref h1, .ref h2, .int 0, .int 500, .int 0, .int 0, .int 0, .ref h3])), (h3, .inr (1, [.int 0, .ref (ε 1), .int 0]))] sz) := by
  refine Met.ofW (cc := cX6_addStep) (maxL := 3) (ret := (some .int)) (by decide) rfl ?_
  intro p e s m args below meth c s₁ B hml hv
  obtain ⟨rfl, hsz, hP, hK, hD0, hE9⟩ := hv
  have hx := B.exec
  have hb := B.bytes
  have hr := B.returns
  have hts := atoms_spec (ws := wsX6_addStep) B.pre
  have hown : s.vm.findClass RX6 = some m.cls := findClass_of_methodNamed B.named
  have hlocks := B.notSynchronized
  subst hsz
  have hD := hD0.self (sz := s.heap.size)
  generalize hAe : va_A [(h0, .inr (8, [.int 0, .int 0, .int 2, .ref h1, .ref h2, .int 0, .int 500, .int 0, .int 0, .int 0, .ref h3])), (h3, .inr (1, [.int 0, .ref (ε 1), .int 0]))] s.heap.size = A at hD hE9 ⊢
  have hE := hE9.1
  have hDc := hE9.2
  have hA : ∀ q : Nat, s.heap.size ≤ q → A q := fun q h => by rw [← hAe]; exact Or.inr h
  have hS : va_S A s.heap s.heap [] := va_S.rf
  have hP : va_P D vwCl [(h0, .inr (8, [.int 0, .int 0, .int 2, .ref h1, .ref h2, .int 0, .int 500, .int 0, .int 0, .int 0, .ref h3])), (h3, .inr (1, [.int 0, .ref (ε 1), .int 0]))] s.heap := hP
  have hl := lv_entry [.ref h0, .int 0, .int p0] (n := 3) (Nat.le_of_ble_eq_true rfl)
  rw [lg_entry_eq]
  generalize (lg_sl [.ref h0, .int 0, .int p0] ++ List.replicate (3 - (lg_sl [.ref h0, .int 0, .int p0]).length) Slot.unset).toArray = ls at hl ⊢
  have hl : lv_has ls 3 [(0, .ref h0), (1, .int 0), (2, .int p0)] := hl
  refine lv_aload_n hx hb dX6_addStep_0 rfl (lv_at hl 0 rfl) ?_
  refine lv_iload_n hx hb dX6_addStep_1 rfl (lv_at hl 1 rfl) ?_
  refine lv_iconst (v := 0) hx hb dX6_addStep_2 (by decide) ?_
  refine lv_iconst (v := 5) hx hb dX6_addStep_3 (by decide) ?_
  refine vp_callSi (W.runS (As := [.int 0, .int 0, .int 5]) (rest := [.ref h0]) ⟨hx, hb, hml, hown, hts⟩ (k_X6_isIn_39 l D κ ε) (va_cwS 3 hts gX6_addStep_X6_isIn rfl rfl rfl (by decide +kernel) ⟨(Nat.le_of_ble_eq_true rfl), (Nat.le_of_ble_eq_true rfl)⟩) (pre0_S (wc := []) hP hK [] rfl) rfl rfl hl.1 rfl (lv_room (Nat.le_of_ble_eq_true rfl)) dX6_addStep_4 ⟨(Nat.le_of_ble_eq_true rfl), (Nat.le_of_ble_eq_true rfl)⟩) (fun r hw => ?_)
  rw [hw]
  refine lv_if_eq (tgt := 66) hx hb dX6_addStep_7 (by decide) (fun h => absurd h (by decide)) (fun _ => ?_)
  refine lv_iload_n hx hb dX6_addStep_10 rfl (lv_at hl 1 rfl) ?_
  refine lv_iconst (v := 2) hx hb dX6_addStep_11 (by decide) ?_
  refine lv_icmp_ne (tgt := 29) hx hb dX6_addStep_12 (by decide) (fun _ => ?_) (fun h => absurd h (by decide))
  refine lv_iload_n hx hb dX6_addStep_29 rfl (lv_at hl 1 rfl) ?_
  refine lv_iconst (v := 4) hx hb dX6_addStep_30 (by decide) ?_
  refine lv_icmp_ne (tgt := 46) hx hb dX6_addStep_31 (by decide) (fun _ => ?_) (fun h => absurd h (by decide))
  refine lv_iload_n hx hb dX6_addStep_46 rfl (lv_at hl 1 rfl) ?_
  refine lv_iconst (v := 3) hx hb dX6_addStep_47 (by decide) ?_
  refine lv_icmp_eq (tgt := 56) hx hb dX6_addStep_48 (by decide) (fun h => absurd h (by decide)) (fun _ => ?_)
  refine lv_iload_n hx hb dX6_addStep_51 rfl (lv_at hl 1 rfl) ?_
  refine lv_iconst (v := 5) hx hb dX6_addStep_52 (by decide) ?_
  refine lv_icmp_ne (tgt := 70) hx hb dX6_addStep_53 (by decide) (fun _ => ?_) (fun h => absurd h (by decide))
  refine lv_iconst (v := 0) hx hb dX6_addStep_70 (by decide) ?_
  refine lv_iconst (v := 1) hx hb dX6_addStep_71 (by decide) ?_
  have hF := va_free (wc := [(h0, .inr (8, [.int 0, .int 0, .int 2, .ref h1, .ref h2, .int 0, .int 500, .int 0, .int 0, .int 0, .ref h3]))]) hD hS hA [0] rfl
  refine va_calli (va_runV (As := [.int 0, .int 1]) (rest := []) ⟨hx, hb, hml, hown, hts⟩ (k_X6_start_0 l D κ ε h0 h1 h2 h3 s.heap.size (0) (2) (0) (500) (0) (0)) (cwV 2 hts gX6_addStep_X6_start rfl rfl rfl (by decide +kernel) ⟨(Nat.le_of_ble_eq_true rfl), (Nat.le_of_ble_eq_true rfl)⟩) (pre2_V (q0 := 0) (ci := 8) (wc := [(h0, .inr (8, [.int 0, .int 0, .int 2, .ref h1, .ref h2, .int 0, .int 500, .int 0, .int 0, .int 0, .ref h3]))]) hP hD hK hE9 hS hA [0] (by decide) rfl rfl rfl) rfl rfl hl.1 rfl (lv_room (Nat.le_of_ble_eq_true rfl)) dX6_addStep_72 ⟨(Nat.le_of_ble_eq_true rfl), (Nat.le_of_ble_eq_true rfl)⟩) hS (fun q _ h => hF q h) hF (fun r u1 t H locs ht hvm hw hB hz1 hk1 hS => ?_)
  try dsimp only at hw hB
  obtain ⟨hP1, hD1⟩ := hB
  rw [ht] at hP1
  obtain ⟨hP, hD⟩ := post_j (ws' := [(h0, .inr (8, [.int 0, .int 0, .int 2, .ref h1, .ref h2, .int 0, .int 500, .int 0, .int 0, .int 0, .ref h3])), (h3, .inr (1, [.int 0, .ref (ε 1), .int 0]))]) (wr := [(h3, .inr (1, [.int 0, .ref (ε 1), .int 0]))]) (w1 := [(h0, .inr (8, [.int 0, .int 0, .int 2, .ref h1, .ref h2, .int 0, .int 500, .int 0, .int 0, .int 0, .ref h3]))]) hP hD hF [0] rfl [1] rfl (by decide) (by decide) hk1 hP1 hD1 [1, 0] (by decide) rfl
  have hP : va_P D vwCl [(h0, .inr (8, [.int 0, .int 0, .int 2, .ref h1, .ref h2, .int 0, .int 500, .int 0, .int 0, .int 0, .ref h3])), (h3, .inr (1, [.int 0, .ref (ε 1), .int 0]))] H := hP
  have hD : va_D A [(h0, .inr (8, [.int 0, .int 0, .int 2, .ref h1, .ref h2, .int 0, .int 500, .int 0, .int 0, .int 0, .ref h3])), (h3, .inr (1, [.int 0, .ref (ε 1), .int 0]))] := hD
  rw [hw]
  refine lv_if_eq (tgt := 80) hx hb dX6_addStep_75 (by decide) (fun _ => ?_) (fun h => absurd (by decide) h)
  refine lv_aload_n hx hb dX6_addStep_80 rfl (lv_at hl 0 rfl) ?_
  refine lv_aload_n hx hb dX6_addStep_81 rfl (lv_at hl 0 rfl) ?_
  refine va_get (D := D) (ci := 8) (v := .ref h3) (C := RX6) (T := TX6) (N := 11) hx hb hts wi_X6_addStep_RX6 hown hK hP 0 rfl rfl 10 (by decide) (hts _ wd382_X6_addStep) (fun _ h9 => h9) rfl dX6_addStep_82 ?_
  refine vp_callSi (W.runV (As := []) (rest := [.ref h0]) ⟨hx, hb, hml, hown, hts⟩ (k_Jx4a65c_size_8abf5_0 l D κ ε h3 (0)) (cwV 0 hts gX6_addStep_Jx4a65c_size_8abf5 rfl rfl rfl (by decide +kernel) ⟨(Nat.le_of_ble_eq_true rfl), (Nat.le_of_ble_eq_true rfl)⟩) (pre0_V (q0 := 1) (ci := 1) (wc := [(h3, .inr (1, [.int 0, .ref (ε 1), .int 0]))]) hP hK [1] rfl rfl rfl) rfl rfl hl.1 rfl (lv_room (Nat.le_of_ble_eq_true rfl)) dX6_addStep_85 ⟨(Nat.le_of_ble_eq_true rfl), (Nat.le_of_ble_eq_true rfl)⟩) (fun r hw => ?_)
  rw [hw]
  refine lv_bipush (v := 12) hx hb dX6_addStep_88 (by decide) ?_
  refine lv_icmp_ne (tgt := 97) hx hb dX6_addStep_90 (by decide) (fun _ => ?_) (fun h => absurd h (by decide))
  refine lv_iconst (v := 0) hx hb dX6_addStep_97 (by decide) ?_
  refine lv_iconst (v := 2) hx hb dX6_addStep_98 (by decide) ?_
  refine vp_callSi (W.runV (As := [.int 0, .int 2]) (rest := []) ⟨hx, hb, hml, hown, hts⟩ (k_X6_refuse_3 l D κ ε h0 h1 h2 h3 (0) (2) (0) (500) (0) (0)) (cwV 2 hts gX6_addStep_X6_refuse rfl rfl rfl (by decide +kernel) ⟨(Nat.le_of_ble_eq_true rfl), (Nat.le_of_ble_eq_true rfl)⟩) (pre0_V (q0 := 0) (ci := 8) (wc := [(h0, .inr (8, [.int 0, .int 0, .int 2, .ref h1, .ref h2, .int 0, .int 500, .int 0, .int 0, .int 0, .ref h3]))]) hP hK [0] rfl rfl rfl) rfl rfl hl.1 rfl (lv_room (Nat.le_of_ble_eq_true rfl)) dX6_addStep_99 ⟨(Nat.le_of_ble_eq_true rfl), (Nat.le_of_ble_eq_true rfl)⟩) (fun r hw => ?_)
  rw [hw]
  refine lv_if_eq (tgt := 107) hx hb dX6_addStep_102 (by decide) (fun _ => ?_) (fun h => absurd (by decide) h)
  refine lv_aload_n hx hb dX6_addStep_107 rfl (lv_at hl 0 rfl) ?_
  refine va_get (D := D) (ci := 8) (v := .ref h3) (C := RX6) (T := TX6) (N := 11) hx hb hts wi_X6_addStep_RX6 hown hK hP 0 rfl rfl 10 (by decide) (hts _ wd382_X6_addStep) (fun _ h9 => h9) rfl dX6_addStep_108 ?_
  refine lv_iconst (v := 2) hx hb dX6_addStep_111 (by decide) ?_
  refine va_newa (atype := .int) (a0 := (2, .inl (fun _ => 0))) hx hb (hts _ wd383_X6_addStep) rfl hK hP hD hS hA (fun _ => rfl) (by decide) (by decide) (by decide) (Nat.le_of_ble_eq_true rfl) (Nat.le_of_ble_eq_true rfl) dX6_addStep_112 (fun q2 cy H hKn hP hD hS => ?_)
  obtain rfl : cy = κ 0 := K_one (i := 0) hKn rfl
  have hP : va_P D vwCl [(h0, .inr (8, [.int 0, .int 0, .int 2, .ref h1, .ref h2, .int 0, .int 500, .int 0, .int 0, .int 0, .ref h3])), (h3, .inr (1, [.int 0, .ref (ε 1), .int 0])), (q2, .inl (κ 0, 2, .inl (fun _ => 0)))] H := hP
  have hD : va_D A [(h0, .inr (8, [.int 0, .int 0, .int 2, .ref h1, .ref h2, .int 0, .int 500, .int 0, .int 0, .int 0, .ref h3])), (h3, .inr (1, [.int 0, .ref (ε 1), .int 0])), (q2, .inl (κ 0, 2, .inl (fun _ => 0)))] := hD
  refine lv_dup hx hb dX6_addStep_114 rfl ?_
  refine lv_iconst (v := 0) hx hb dX6_addStep_115 (by decide) ?_
  refine lv_iload_n hx hb dX6_addStep_116 rfl (lv_at hl 1 rfl) ?_
  refine va_iast (cA := κ 0) (n := 2) (f := (fun _ => 0)) hx hb hK hP hD hS 2 0 rfl rfl (vpl (by decide)) dX6_addStep_117 (fun H locs hP hD hS => ?_)
  have hP : va_P D vwCl _ H := P_cg (ws' := _) (y := (2, .inl (fun _ => 0))) 2 hP rfl (cell_cg (fun j _ => by show upd _ _ _ j = _; unfold upd; split <;> rfl)) rfl
  have hD : va_D A _ := D_cg (ws' := _) (y := .inl (κ 0, 2, .inl (fun _ => 0))) 2 hD rfl rfl
  have hP : va_P D vwCl [(h0, .inr (8, [.int 0, .int 0, .int 2, .ref h1, .ref h2, .int 0, .int 500, .int 0, .int 0, .int 0, .ref h3])), (h3, .inr (1, [.int 0, .ref (ε 1), .int 0])), (q2, .inl (κ 0, 2, .inl (fun _ => 0)))] H := hP
  have hD : va_D A [(h0, .inr (8, [.int 0, .int 0, .int 2, .ref h1, .ref h2, .int 0, .int 500, .int 0, .int 0, .int 0, .ref h3])), (h3, .inr (1, [.int 0, .ref (ε 1), .int 0])), (q2, .inl (κ 0, 2, .inl (fun _ => 0)))] := hD
  refine lv_dup hx hb dX6_addStep_118 rfl ?_
  refine lv_iconst (v := 1) hx hb dX6_addStep_119 (by decide) ?_
  refine lv_iload_n hx hb dX6_addStep_120 rfl (lv_at hl 2 rfl) ?_
  refine va_iast (cA := κ 0) (n := 2) (f := (fun _ => 0)) hx hb hK hP hD hS 2 0 rfl rfl (vpl (by decide)) dX6_addStep_121 (fun H locs hP hD hS => ?_)
  have hP : va_P D vwCl [(h0, .inr (8, [.int 0, .int 0, .int 2, .ref h1, .ref h2, .int 0, .int 500, .int 0, .int 0, .int 0, .ref h3])), (h3, .inr (1, [.int 0, .ref (ε 1), .int 0])), (q2, .inl (κ 0, 2, .inl (upd (fun _ => 0) 1 p0)))] H := hP
  have hD : va_D A [(h0, .inr (8, [.int 0, .int 0, .int 2, .ref h1, .ref h2, .int 0, .int 500, .int 0, .int 0, .int 0, .ref h3])), (h3, .inr (1, [.int 0, .ref (ε 1), .int 0])), (q2, .inl (κ 0, 2, .inl (upd (fun _ => 0) 1 p0)))] := hD
  have hF := va_free (wc := [(h3, .inr (1, [.int 0, .ref (ε 1), .int 0])), (q2, .inl (κ 0, 2, .inl (upd (fun _ => 0) 1 p0)))]) hD hS hA [1, 2] rfl
  refine va_calli (va_runV (As := [.ref q2]) (rest := []) ⟨hx, hb, hml, hown, hts⟩ (k_Jx4a65c_add_9ea2d_0 l D κ ε h3 q2 H.size (p0)) (cwV 1 hts gX6_addStep_Jx4a65c_add_9ea2d rfl rfl rfl (by decide +kernel) ⟨(Nat.le_of_ble_eq_true rfl), (Nat.le_of_ble_eq_true rfl)⟩) (pre2_V (q0 := 1) (ci := 1) (wc := [(h3, .inr (1, [.int 0, .ref (ε 1), .int 0])), (q2, .inl (κ 0, 2, .inl (upd (fun _ => 0) 1 p0)))]) hP hD hK hE9 hS hA [1, 2] (by decide) rfl rfl rfl) rfl rfl hl.1 rfl (lv_room (Nat.le_of_ble_eq_true rfl)) dX6_addStep_122 ⟨(Nat.le_of_ble_eq_true rfl), (Nat.le_of_ble_eq_true rfl)⟩) hS (fun q _ h => hF q h) hF (fun r u3 t H locs ht hvm hw hB hz1 hk1 hS => ?_)
  try dsimp only at hw hB
  obtain ⟨hP1, hD1⟩ := hB
  rw [ht] at hP1
  obtain ⟨hP, hD⟩ := post_j (ws' := [(h0, .inr (8, [.int 0, .int 0, .int 2, .ref h1, .ref h2, .int 0, .int 500, .int 0, .int 0, .int 0, .ref h3])), (h3, .inr (1, [.int 1, .ref (u3 0), .int 1])), (q2, .inl (κ 0, 2, .inl (upd (fun _ => 0) 1 p0))), ((u3 0), .inl (κ 5, 10, .inr (.inr (.inr (.inr (va_up (fun _ => none) 0 (some q2)))))))]) (wr := [(h0, .inr (8, [.int 0, .int 0, .int 2, .ref h1, .ref h2, .int 0, .int 500, .int 0, .int 0, .int 0, .ref h3]))]) (w1 := [(h3, .inr (1, [.int 1, .ref (u3 0), .int 1])), (q2, .inl (κ 0, 2, .inl (upd (fun _ => 0) 1 p0))), ((u3 0), .inl (κ 5, 10, .inr (.inr (.inr (.inr (va_up (fun _ => none) 0 (some q2)))))))]) hP hD hF [1, 2] rfl [0] rfl (by decide) (by decide) hk1 hP1 hD1 [0, 1, 2, 3] (by decide) rfl
  have hP : va_P D vwCl [(h0, .inr (8, [.int 0, .int 0, .int 2, .ref h1, .ref h2, .int 0, .int 500, .int 0, .int 0, .int 0, .ref h3])), (h3, .inr (1, [.int 1, .ref (u3 0), .int 1])), (q2, .inl (κ 0, 2, .inl (upd (fun _ => 0) 1 p0))), ((u3 0), .inl (κ 5, 10, .inr (.inr (.inr (.inr (va_up (fun _ => none) 0 (some q2)))))))] H := hP
  have hD : va_D A [(h0, .inr (8, [.int 0, .int 0, .int 2, .ref h1, .ref h2, .int 0, .int 500, .int 0, .int 0, .int 0, .ref h3])), (h3, .inr (1, [.int 1, .ref (u3 0), .int 1])), (q2, .inl (κ 0, 2, .inl (upd (fun _ => 0) 1 p0))), ((u3 0), .inl (κ 5, 10, .inr (.inr (.inr (.inr (va_up (fun _ => none) 0 (some q2)))))))] := hD
  rw [hw]
  refine lv_pop hx hb dX6_addStep_125 rfl ?_
  refine lv_aload_n hx hb dX6_addStep_126 rfl (lv_at hl 0 rfl) ?_
  refine va_get (D := D) (ci := 8) (v := .ref h3) (C := RX6) (T := TX6) (N := 11) hx hb hts wi_X6_addStep_RX6 hown hK hP 0 rfl rfl 10 (by decide) (hts _ wd382_X6_addStep) (fun _ h9 => h9) rfl dX6_addStep_127 ?_
  refine vp_callSi (W.runV (As := []) (rest := []) ⟨hx, hb, hml, hown, hts⟩ (k_Jx4a65c_size_8abf5_1 l D κ ε h3 (u3 0) (1)) (cwV 0 hts gX6_addStep_Jx4a65c_size_8abf5 rfl rfl rfl (by decide +kernel) ⟨(Nat.le_of_ble_eq_true rfl), (Nat.le_of_ble_eq_true rfl)⟩) (pre0_V (q0 := 1) (ci := 1) (wc := [(h3, .inr (1, [.int 1, .ref (u3 0), .int 1]))]) hP hK [1] rfl rfl rfl) rfl rfl hl.1 rfl (lv_room (Nat.le_of_ble_eq_true rfl)) dX6_addStep_130 ⟨(Nat.le_of_ble_eq_true rfl), (Nat.le_of_ble_eq_true rfl)⟩) (fun r hw => ?_)
  rw [hw]
  refine lv_iconst (v := 1) hx hb dX6_addStep_133 (by decide) ?_
  refine lv_isub hx hb dX6_addStep_134 ?_
  refine tpi (v := 0) (by decide) ?_
  have hP9 := hP.sub (ws' := [(h0, .inr (8, [.int 0, .int 0, .int 2, .ref h1, .ref h2, .int 0, .int 500, .int 0, .int 0, .int 0, .ref h3]))]) [0] rfl
  have hD9 := hD.sub (ws' := [(h0, .inr (8, [.int 0, .int 0, .int 2, .ref h1, .ref h2, .int 0, .int 500, .int 0, .int 0, .int 0, .ref h3]))]) [0] (by decide) rfl
  refine W.widen (k := 2) (n := 12) (Nat.le_of_ble_eq_true rfl) (Nat.le_of_ble_eq_true rfl) ?_
  exact W.iret (v := 0) hx hb hr (fun t ht hW => ⟨⟨0, [.int 0, .int 0, .int 2, .ref h1, .ref h2, .int 0, .int 500, .int 0, .int 0, .int 0, .ref h3], rfl, ⟨rfl, rfl⟩, by rw [ht]; exact hP9, hD9⟩, hS.F ht⟩) hS.2.2 dX6_addStep_135

set_option maxHeartbeats 4000000 in
set_option maxRecDepth 100000 in
theorem k_X5_isStep_1 (l : Launch) (D : va_G) (κ ε : Nat → Nat) (h0 : Nat) (p0 : Int32) : Met l yX5_isStep wsX5_isStep ({ frames := 0, cells := 0, slots := 0, locals := 0 }) (va_Pc [.ref h0, .int 1, .int p0] (Pre0 D κ [])) (vp_Si (fun r => (r = 1))) 0 0 (fun _ => False) := by
  refine Met.ofW (cc := cX5_isStep) (maxL := 3) (ret := (some .boolean)) (by decide) rfl ?_
  intro p e s m args below meth c s₁ B hml hv
  obtain ⟨rfl, hP, hK⟩ := hv
  have hx := B.exec
  have hb := B.bytes
  have hr := B.returns
  have hts := atoms_spec (ws := wsX5_isStep) B.pre
  have hown : s.vm.findClass RX5 = some m.cls := findClass_of_methodNamed B.named
  have hlocks := B.notSynchronized
  have hP : va_P D vwCl [] s.heap := hP
  have hl := lv_entry [.ref h0, .int 1, .int p0] (n := 3) (Nat.le_of_ble_eq_true rfl)
  rw [lg_entry_eq]
  generalize (lg_sl [.ref h0, .int 1, .int p0] ++ List.replicate (3 - (lg_sl [.ref h0, .int 1, .int p0]).length) Slot.unset).toArray = ls at hl ⊢
  have hl : lv_has ls 3 [(0, .ref h0), (1, .int 1), (2, .int p0)] := hl
  refine lv_iload_n hx hb dX5_isStep_0 rfl (lv_at hl 1 rfl) ?_
  refine lv_tableIn (tgt := 40) (off := 39) hx hb dX5_isStep_1 (by decide) (by decide) (by decide) (by decide) ?_
  refine lv_iconst (v := 1) hx hb dX5_isStep_40 (by decide) ?_
  exact W.zret (v := 1) hx hb hr rfl (fun t ht hW => ⟨1, rfl, rfl, ht⟩) (fun q hq => absurd hq List.not_mem_nil) dX5_isStep_41

set_option maxHeartbeats 4000000 in
set_option maxRecDepth 100000 in
theorem k_X2_append_1 (l : Launch) (D : va_G) (κ ε : Nat → Nat) (h0 h1 h2 h3 : Nat) (sz : Nat) (p0 : Int32) : Met l yX2_append wsX2_append ({ frames := 0, cells := 0, slots := 0, locals := 0 }) (va_Pc [.ref h0, .int 1, .int p0] (Pre2 D κ ε [(h0, .inr (4, [.ref h1, .ref h2, .ref h3, .int 0])), (h1, .inl (κ 0, 12, .inl (fun _ => 0))), (h2, .inl (κ 0, 12, .inl (fun _ => 0)))] sz)) (va_Qi (fun r (u : Unit) => (r = 0)) (fun u t => va_P D vwCl [(h0, .inr (4, [.ref h1, .ref h2, .ref h3, .int 1])), (h1, .inl (κ 0, 12, .inl (upd (fun _ => 0) 0 1))), (h2, .inl (κ 0, 12, .inl (upd (fun _ => 0) 0 p0)))] t.heap ∧ va_D (va_A [(h0, .inr (4, [.ref h1, .ref h2, .ref h3, .int 0])), (h1, .inl (κ 0, 12, .inl (fun _ => 0))), (h2, .inl (κ 0, 12, .inl (fun _ => 0)))] sz) [(h0, .inr (4, [.ref h1, .ref h2, .ref h3, .int 1])), (h1, .inl (κ 0, 12, .inl (upd (fun _ => 0) 0 1))), (h2, .inl (κ 0, 12, .inl (upd (fun _ => 0) 0 p0)))]) (va_A [(h0, .inr (4, [.ref h1, .ref h2, .ref h3, .int 0])), (h1, .inl (κ 0, 12, .inl (fun _ => 0))), (h2, .inl (κ 0, 12, .inl (fun _ => 0)))] sz)) 0 0 (va_A [(h0, .inr (4, [.ref h1, .ref h2, .ref h3, .int 0])), (h1, .inl (κ 0, 12, .inl (fun _ => 0))), (h2, .inl (κ 0, 12, .inl (fun _ => 0)))] sz) := by
  refine Met.ofW (cc := cX2_append) (maxL := 3) (ret := (some .int)) (by decide) rfl ?_
  intro p e s m args below meth c s₁ B hml hv
  obtain ⟨rfl, hsz, hP, hK, hD0, hE9⟩ := hv
  have hx := B.exec
  have hb := B.bytes
  have hr := B.returns
  have hts := atoms_spec (ws := wsX2_append) B.pre
  have hown : s.vm.findClass RX2 = some m.cls := findClass_of_methodNamed B.named
  have hlocks := B.notSynchronized
  subst hsz
  have hD := hD0.self (sz := s.heap.size)
  generalize hAe : va_A [(h0, .inr (4, [.ref h1, .ref h2, .ref h3, .int 0])), (h1, .inl (κ 0, 12, .inl (fun _ => 0))), (h2, .inl (κ 0, 12, .inl (fun _ => 0)))] s.heap.size = A at hD hE9 ⊢
  have hE := hE9.1
  have hDc := hE9.2
  have hA : ∀ q : Nat, s.heap.size ≤ q → A q := fun q h => by rw [← hAe]; exact Or.inr h
  have hS : va_S A s.heap s.heap [] := va_S.rf
  have hP : va_P D vwCl [(h0, .inr (4, [.ref h1, .ref h2, .ref h3, .int 0])), (h1, .inl (κ 0, 12, .inl (fun _ => 0))), (h2, .inl (κ 0, 12, .inl (fun _ => 0)))] s.heap := hP
  have hl := lv_entry [.ref h0, .int 1, .int p0] (n := 3) (Nat.le_of_ble_eq_true rfl)
  rw [lg_entry_eq]
  generalize (lg_sl [.ref h0, .int 1, .int p0] ++ List.replicate (3 - (lg_sl [.ref h0, .int 1, .int p0]).length) Slot.unset).toArray = ls at hl ⊢
  have hl : lv_has ls 3 [(0, .ref h0), (1, .int 1), (2, .int p0)] := hl
  refine lv_aload_n hx hb dX2_append_0 rfl (lv_at hl 0 rfl) ?_
  refine va_get (D := D) (ci := 4) (v := .int 0) (C := RX2) (T := TX2) (N := 4) hx hb hts wi_X2_append_RX2 hown hK hP 0 rfl rfl 3 (by decide) (hts _ wd364_X2_append) (fun _ h9 => h9) rfl dX2_append_1 ?_
  refine lv_bipush (v := 12) hx hb dX2_append_4 (by decide) ?_
  refine lv_icmp_ge (tgt := 39) hx hb dX2_append_6 (by decide) (fun h => absurd h (by decide)) (fun _ => ?_)
  refine lv_aload_n hx hb dX2_append_9 rfl (lv_at hl 0 rfl) ?_
  refine va_get (D := D) (ci := 4) (v := .ref h1) (C := RX2) (T := TX2) (N := 4) hx hb hts wi_X2_append_RX2 hown hK hP 0 rfl rfl 0 (by decide) (hts _ wd365_X2_append) (fun _ h9 => h9) rfl dX2_append_10 ?_
  refine lv_aload_n hx hb dX2_append_13 rfl (lv_at hl 0 rfl) ?_
  refine va_get (D := D) (ci := 4) (v := .int 0) (C := RX2) (T := TX2) (N := 4) hx hb hts wi_X2_append_RX2 hown hK hP 0 rfl rfl 3 (by decide) (hts _ wd364_X2_append) (fun _ h9 => h9) rfl dX2_append_14 ?_
  refine lv_iload_n hx hb dX2_append_17 rfl (lv_at hl 1 rfl) ?_
  refine va_iast (cA := κ 0) (n := 12) (f := (fun _ => 0)) hx hb hK hP hD hS 1 0 rfl rfl (vpl (by decide)) dX2_append_18 (fun H locs hP hD hS => ?_)
  have hP : va_P D vwCl [(h0, .inr (4, [.ref h1, .ref h2, .ref h3, .int 0])), (h1, .inl (κ 0, 12, .inl (upd (fun _ => 0) 0 1))), (h2, .inl (κ 0, 12, .inl (fun _ => 0)))] H := hP
  have hD : va_D A [(h0, .inr (4, [.ref h1, .ref h2, .ref h3, .int 0])), (h1, .inl (κ 0, 12, .inl (upd (fun _ => 0) 0 1))), (h2, .inl (κ 0, 12, .inl (fun _ => 0)))] := hD
  refine lv_aload_n hx hb dX2_append_19 rfl (lv_at hl 0 rfl) ?_
  refine va_get (D := D) (ci := 4) (v := .ref h2) (C := RX2) (T := TX2) (N := 4) hx hb hts wi_X2_append_RX2 hown hK hP 0 rfl rfl 1 (by decide) (hts _ wd366_X2_append) (fun _ h9 => h9) rfl dX2_append_20 ?_
  refine lv_aload_n hx hb dX2_append_23 rfl (lv_at hl 0 rfl) ?_
  refine va_get (D := D) (ci := 4) (v := .int 0) (C := RX2) (T := TX2) (N := 4) hx hb hts wi_X2_append_RX2 hown hK hP 0 rfl rfl 3 (by decide) (hts _ wd364_X2_append) (fun _ h9 => h9) rfl dX2_append_24 ?_
  refine lv_iload_n hx hb dX2_append_27 rfl (lv_at hl 2 rfl) ?_
  refine va_iast (cA := κ 0) (n := 12) (f := (fun _ => 0)) hx hb hK hP hD hS 2 0 rfl rfl (vpl (by decide)) dX2_append_28 (fun H locs hP hD hS => ?_)
  have hP : va_P D vwCl [(h0, .inr (4, [.ref h1, .ref h2, .ref h3, .int 0])), (h1, .inl (κ 0, 12, .inl (upd (fun _ => 0) 0 1))), (h2, .inl (κ 0, 12, .inl (upd (fun _ => 0) 0 p0)))] H := hP
  have hD : va_D A [(h0, .inr (4, [.ref h1, .ref h2, .ref h3, .int 0])), (h1, .inl (κ 0, 12, .inl (upd (fun _ => 0) 0 1))), (h2, .inl (κ 0, 12, .inl (upd (fun _ => 0) 0 p0)))] := hD
  refine lv_aload_n hx hb dX2_append_29 rfl (lv_at hl 0 rfl) ?_
  refine lv_dup hx hb dX2_append_30 rfl ?_
  refine va_get (D := D) (ci := 4) (v := .int 0) (C := RX2) (T := TX2) (N := 4) hx hb hts wi_X2_append_RX2 hown hK hP 0 rfl rfl 3 (by decide) (hts _ wd364_X2_append) (fun _ h9 => h9) rfl dX2_append_31 ?_
  refine lv_iconst (v := 1) hx hb dX2_append_34 (by decide) ?_
  refine lv_iadd hx hb dX2_append_35 ?_
  refine tpi (v := 1) (by decide) ?_
  refine va_put (D := D) (ci := 4) (v := .int 1) (ty := .int) (C := RX2) (T := TX2) (N := 4) hx hb hts wi_X2_append_RX2 tyX2 tyX2_ok nmX2 hown hK hP hD hS 0 rfl rfl 3 (by decide) (hts _ wd364_X2_append) (fun _ h9 => h9) rfl (by decide +kernel) rfl rfl (Nat.le_of_ble_eq_true rfl) dX2_append_36 (fun H locs hP hD hS => ?_)
  have hP : va_P D vwCl [(h0, .inr (4, [.ref h1, .ref h2, .ref h3, .int 1])), (h1, .inl (κ 0, 12, .inl (upd (fun _ => 0) 0 1))), (h2, .inl (κ 0, 12, .inl (upd (fun _ => 0) 0 p0)))] H := hP
  have hD : va_D A [(h0, .inr (4, [.ref h1, .ref h2, .ref h3, .int 1])), (h1, .inl (κ 0, 12, .inl (upd (fun _ => 0) 0 1))), (h2, .inl (κ 0, 12, .inl (upd (fun _ => 0) 0 p0)))] := hD
  refine lv_aload_n hx hb dX2_append_39 rfl (lv_at hl 0 rfl) ?_
  refine va_get (D := D) (ci := 4) (v := .int 1) (C := RX2) (T := TX2) (N := 4) hx hb hts wi_X2_append_RX2 hown hK hP 0 rfl rfl 3 (by decide) (hts _ wd364_X2_append) (fun _ h9 => h9) rfl dX2_append_40 ?_
  refine lv_iconst (v := 1) hx hb dX2_append_43 (by decide) ?_
  refine lv_isub hx hb dX2_append_44 ?_
  refine tpi (v := 0) (by decide) ?_
  have hP9 := hP
  have hD9 := hD
  exact W.iret (v := 0) hx hb hr (fun t ht hW => ⟨⟨0, (), rfl, rfl, by rw [ht]; exact hP9, hD9⟩, hS.F ht⟩) hS.2.2 dX2_append_45

set_option maxHeartbeats 4000000 in
set_option maxRecDepth 100000 in
theorem k_X5_addStep_1 (l : Launch) (D : va_G) (κ ε : Nat → Nat) (h0 h1 h2 h3 h4 h5 h6 h7 h8 h9 : Nat) (sz : Nat) (p0 : Int32) : Met l yX5_addStep wsX5_addStep ({ frames := 1, cells := 0, slots := 0, locals := 22 }) (va_Pc [.ref h0, .int 1, .int p0] (Pre2 D κ ε [(h0, .inr (7, [.ref h1, .ref h2, .ref h3, .ref h4, .ref h5, .ref h6, .int 0, .int 0, .int 0, .int 0])), (h4, .inr (4, [.ref h7, .ref h8, .ref h9, .int 0])), (h7, .inl (κ 0, 12, .inl (fun _ => 0))), (h8, .inl (κ 0, 12, .inl (fun _ => 0)))] sz)) (va_Qi (fun r (u : Unit) => (r = 0)) (fun _ _ => True) (va_A [(h0, .inr (7, [.ref h1, .ref h2, .ref h3, .ref h4, .ref h5, .ref h6, .int 0, .int 0, .int 0, .int 0])), (h4, .inr (4, [.ref h7, .ref h8, .ref h9, .int 0])), (h7, .inl (κ 0, 12, .inl (fun _ => 0))), (h8, .inl (κ 0, 12, .inl (fun _ => 0)))] sz)) 0 0 (va_A [(h0, .inr (7, [.ref h1, .ref h2, .ref h3, .ref h4, .ref h5, .ref h6, .int 0, .int 0, .int 0, .int 0])), (h4, .inr (4, [.ref h7, .ref h8, .ref h9, .int 0])), (h7, .inl (κ 0, 12, .inl (fun _ => 0))), (h8, .inl (κ 0, 12, .inl (fun _ => 0)))] sz) := by
  refine Met.ofW (cc := cX5_addStep) (maxL := 3) (ret := (some .int)) (by decide) rfl ?_
  intro p e s m args below meth c s₁ B hml hv
  obtain ⟨rfl, hsz, hP, hK, hD0, hE9⟩ := hv
  have hx := B.exec
  have hb := B.bytes
  have hr := B.returns
  have hts := atoms_spec (ws := wsX5_addStep) B.pre
  have hown : s.vm.findClass RX5 = some m.cls := findClass_of_methodNamed B.named
  have hlocks := B.notSynchronized
  subst hsz
  have hD := hD0.self (sz := s.heap.size)
  generalize hAe : va_A [(h0, .inr (7, [.ref h1, .ref h2, .ref h3, .ref h4, .ref h5, .ref h6, .int 0, .int 0, .int 0, .int 0])), (h4, .inr (4, [.ref h7, .ref h8, .ref h9, .int 0])), (h7, .inl (κ 0, 12, .inl (fun _ => 0))), (h8, .inl (κ 0, 12, .inl (fun _ => 0)))] s.heap.size = A at hD hE9 ⊢
  have hE := hE9.1
  have hDc := hE9.2
  have hA : ∀ q : Nat, s.heap.size ≤ q → A q := fun q h => by rw [← hAe]; exact Or.inr h
  have hS : va_S A s.heap s.heap [] := va_S.rf
  have hP : va_P D vwCl [(h0, .inr (7, [.ref h1, .ref h2, .ref h3, .ref h4, .ref h5, .ref h6, .int 0, .int 0, .int 0, .int 0])), (h4, .inr (4, [.ref h7, .ref h8, .ref h9, .int 0])), (h7, .inl (κ 0, 12, .inl (fun _ => 0))), (h8, .inl (κ 0, 12, .inl (fun _ => 0)))] s.heap := hP
  have hl := lv_entry [.ref h0, .int 1, .int p0] (n := 3) (Nat.le_of_ble_eq_true rfl)
  rw [lg_entry_eq]
  generalize (lg_sl [.ref h0, .int 1, .int p0] ++ List.replicate (3 - (lg_sl [.ref h0, .int 1, .int p0]).length) Slot.unset).toArray = ls at hl ⊢
  have hl : lv_has ls 3 [(0, .ref h0), (1, .int 1), (2, .int p0)] := hl
  refine lv_aload_n hx hb dX5_addStep_0 rfl (lv_at hl 0 rfl) ?_
  refine lv_iload_n hx hb dX5_addStep_1 rfl (lv_at hl 1 rfl) ?_
  refine lv_iload_n hx hb dX5_addStep_2 rfl (lv_at hl 2 rfl) ?_
  refine vp_callSi (W.runV (As := [.int 1, .int p0]) (rest := []) ⟨hx, hb, hml, hown, hts⟩ (k_X5_isStep_1 l D κ ε h0 (p0)) (cwV 2 hts gX5_addStep_X5_isStep rfl rfl rfl (by decide +kernel) ⟨(Nat.le_of_ble_eq_true rfl), (Nat.le_of_ble_eq_true rfl)⟩) (pre0_V (q0 := 0) (ci := 7) (wc := []) hP hK [] rfl rfl rfl) rfl rfl hl.1 rfl (lv_room (Nat.le_of_ble_eq_true rfl)) dX5_addStep_3 ⟨(Nat.le_of_ble_eq_true rfl), (Nat.le_of_ble_eq_true rfl)⟩) (fun r hw => ?_)
  rw [hw]
  refine lv_if_ne (tgt := 19) hx hb dX5_addStep_6 (by decide) (fun _ => ?_) (fun h => absurd h (by decide))
  refine lv_aload_n hx hb dX5_addStep_19 rfl (lv_at hl 0 rfl) ?_
  refine va_get (D := D) (ci := 7) (v := .ref h4) (C := RX5) (T := TX5) (N := 10) hx hb hts wi_X5_addStep_RX5 hown hK hP 0 rfl rfl 3 (by decide) (hts _ wd367_X5_addStep) (fun _ h9 => h9) rfl dX5_addStep_20 ?_
  refine va_get (D := D) (ci := 4) (v := .int 0) (C := RX2) (T := TX2) (N := 4) hx hb hts wi_X5_addStep_RX2 hown hK hP 1 rfl rfl 3 (by decide) (hts _ wd368_X5_addStep) (fun _ h9 => h9) rfl dX5_addStep_23 ?_
  refine lv_bipush (v := 12) hx hb dX5_addStep_26 (by decide) ?_
  refine lv_icmp_lt (tgt := 41) hx hb dX5_addStep_28 (by decide) (fun _ => ?_) (fun h => absurd (by decide) h)
  refine lv_aload_n hx hb dX5_addStep_41 rfl (lv_at hl 0 rfl) ?_
  refine va_get (D := D) (ci := 7) (v := .ref h4) (C := RX5) (T := TX5) (N := 10) hx hb hts wi_X5_addStep_RX5 hown hK hP 0 rfl rfl 3 (by decide) (hts _ wd367_X5_addStep) (fun _ h9 => h9) rfl dX5_addStep_42 ?_
  refine lv_iload_n hx hb dX5_addStep_45 rfl (lv_at hl 1 rfl) ?_
  refine lv_iload_n hx hb dX5_addStep_46 rfl (lv_at hl 2 rfl) ?_
  have hF := va_free (wc := [(h4, .inr (4, [.ref h7, .ref h8, .ref h9, .int 0])), (h7, .inl (κ 0, 12, .inl (fun _ => 0))), (h8, .inl (κ 0, 12, .inl (fun _ => 0)))]) hD hS hA [1, 2, 3] rfl
  refine va_calli (va_runV (As := [.int 1, .int p0]) (rest := []) ⟨hx, hb, hml, hown, hts⟩ (k_X2_append_1 l D κ ε h4 h7 h8 h9 s.heap.size (p0)) (cwV 2 hts gX5_addStep_X2_append rfl rfl rfl (by decide +kernel) ⟨(Nat.le_of_ble_eq_true rfl), (Nat.le_of_ble_eq_true rfl)⟩) (pre2_V (q0 := 1) (ci := 4) (wc := [(h4, .inr (4, [.ref h7, .ref h8, .ref h9, .int 0])), (h7, .inl (κ 0, 12, .inl (fun _ => 0))), (h8, .inl (κ 0, 12, .inl (fun _ => 0)))]) hP hD hK hE9 hS hA [1, 2, 3] (by decide) rfl rfl rfl) rfl rfl hl.1 rfl (lv_room (Nat.le_of_ble_eq_true rfl)) dX5_addStep_47 ⟨(Nat.le_of_ble_eq_true rfl), (Nat.le_of_ble_eq_true rfl)⟩) hS (fun q _ h => hF q h) hF (fun r u1 t H locs ht hvm hw hB hz1 hk1 hS => ?_)
  try dsimp only at hw hB
  obtain ⟨hP1, hD1⟩ := hB
  rw [ht] at hP1
  obtain ⟨hP, hD⟩ := post_j (ws' := [(h0, .inr (7, [.ref h1, .ref h2, .ref h3, .ref h4, .ref h5, .ref h6, .int 0, .int 0, .int 0, .int 0])), (h4, .inr (4, [.ref h7, .ref h8, .ref h9, .int 1])), (h7, .inl (κ 0, 12, .inl (upd (fun _ => 0) 0 1))), (h8, .inl (κ 0, 12, .inl (upd (fun _ => 0) 0 p0)))]) (wr := [(h0, .inr (7, [.ref h1, .ref h2, .ref h3, .ref h4, .ref h5, .ref h6, .int 0, .int 0, .int 0, .int 0]))]) (w1 := [(h4, .inr (4, [.ref h7, .ref h8, .ref h9, .int 1])), (h7, .inl (κ 0, 12, .inl (upd (fun _ => 0) 0 1))), (h8, .inl (κ 0, 12, .inl (upd (fun _ => 0) 0 p0)))]) hP hD hF [1, 2, 3] rfl [0] rfl (by decide) (by decide) hk1 hP1 hD1 [0, 1, 2, 3] (by decide) rfl
  have hP : va_P D vwCl [(h0, .inr (7, [.ref h1, .ref h2, .ref h3, .ref h4, .ref h5, .ref h6, .int 0, .int 0, .int 0, .int 0])), (h4, .inr (4, [.ref h7, .ref h8, .ref h9, .int 1])), (h7, .inl (κ 0, 12, .inl (upd (fun _ => 0) 0 1))), (h8, .inl (κ 0, 12, .inl (upd (fun _ => 0) 0 p0)))] H := hP
  have hD : va_D A [(h0, .inr (7, [.ref h1, .ref h2, .ref h3, .ref h4, .ref h5, .ref h6, .int 0, .int 0, .int 0, .int 0])), (h4, .inr (4, [.ref h7, .ref h8, .ref h9, .int 1])), (h7, .inl (κ 0, 12, .inl (upd (fun _ => 0) 0 1))), (h8, .inl (κ 0, 12, .inl (upd (fun _ => 0) 0 p0)))] := hD
  rw [hw]
  exact W.iret (v := 0) hx hb hr (fun t ht hW => ⟨⟨0, (), rfl, rfl, trivial⟩, hS.F ht⟩) hS.2.2 dX5_addStep_50

set_option maxHeartbeats 4000000 in
set_option maxRecDepth 100000 in
theorem k_L_addStep_1 (l : Launch) (hst : l.stackTraces = false) (D : va_G) (κ ε : Nat → Nat) (h0 h1 h2 h3 h4 h5 h6 h7 h8 h9 h10 : Nat) (sz : Nat) (p0 : Int32) : Met l yL_addStep wsL_addStepx ({ frames := 2, cells := 0, slots := 0, locals := 44 }) (va_Pc [.ref h0, .int 1, .int p0, .ref h1] (Pre2 D κ ε [(h0, .inr (7, [.ref h2, .ref h3, .ref h4, .ref h5, .ref h6, .ref h7, .int 0, .int 0, .int 0, .int 0])), (h1, .inl (κ 2, 1, .inr (.inl (fun _ => 0)))), (h5, .inr (4, [.ref h8, .ref h9, .ref h10, .int 0])), (h8, .inl (κ 0, 12, .inl (fun _ => 0))), (h9, .inl (κ 0, 12, .inl (fun _ => 0)))] sz)) (va_Qi (fun r (u : Nat → Int64) => (u 0 = 0) ∧ (r = 0)) (fun u t => va_P D vwCl [(h1, .inl (κ 2, 1, .inr (.inl u)))] t.heap ∧ va_D (va_A [(h0, .inr (7, [.ref h2, .ref h3, .ref h4, .ref h5, .ref h6, .ref h7, .int 0, .int 0, .int 0, .int 0])), (h1, .inl (κ 2, 1, .inr (.inl (fun _ => 0)))), (h5, .inr (4, [.ref h8, .ref h9, .ref h10, .int 0])), (h8, .inl (κ 0, 12, .inl (fun _ => 0))), (h9, .inl (κ 0, 12, .inl (fun _ => 0)))] sz) [(h1, .inl (κ 2, 1, .inr (.inl u)))]) (va_A [(h0, .inr (7, [.ref h2, .ref h3, .ref h4, .ref h5, .ref h6, .ref h7, .int 0, .int 0, .int 0, .int 0])), (h1, .inl (κ 2, 1, .inr (.inl (fun _ => 0)))), (h5, .inr (4, [.ref h8, .ref h9, .ref h10, .int 0])), (h8, .inl (κ 0, 12, .inl (fun _ => 0))), (h9, .inl (κ 0, 12, .inl (fun _ => 0)))] sz)) 0 0 (va_A [(h0, .inr (7, [.ref h2, .ref h3, .ref h4, .ref h5, .ref h6, .ref h7, .int 0, .int 0, .int 0, .int 0])), (h1, .inl (κ 2, 1, .inr (.inl (fun _ => 0)))), (h5, .inr (4, [.ref h8, .ref h9, .ref h10, .int 0])), (h8, .inl (κ 0, 12, .inl (fun _ => 0))), (h9, .inl (κ 0, 12, .inl (fun _ => 0)))] sz) := by
  refine va_MetW (cc := cL_addStep) (maxL := 5) (ret := (some .int)) (hh := [(0, 10, 13, 19), (0, 10, 17, 13)]) (by decide) rfl ?_
  intro p e s m args below meth c s₁ B hml hv
  obtain ⟨rfl, hsz, hP, hK, hD0, hE9⟩ := hv
  have hx := B.exec
  have hb := B.bytes
  have hr := B.returns
  have hts := atoms_spec (ws := wsL_addStepx) B.pre
  have hown : s.vm.findClass RL = some m.cls := findClass_of_methodNamed B.named
  have hlocks := B.notSynchronized
  have htab : c.exceptionTable.toList = tableOf [(0, 10, 13, 19), (0, 10, 17, 13)] := vx_table (x := yL_addStep) B (hts (.codeWith yL_addStep cL_addStep 5 (some .int) [(0, 10, 13, 19), (0, 10, 17, 13)]) List.mem_cons_self)
  subst hsz
  have hD := hD0.self (sz := s.heap.size)
  generalize hAe : va_A [(h0, .inr (7, [.ref h2, .ref h3, .ref h4, .ref h5, .ref h6, .ref h7, .int 0, .int 0, .int 0, .int 0])), (h1, .inl (κ 2, 1, .inr (.inl (fun _ => 0)))), (h5, .inr (4, [.ref h8, .ref h9, .ref h10, .int 0])), (h8, .inl (κ 0, 12, .inl (fun _ => 0))), (h9, .inl (κ 0, 12, .inl (fun _ => 0)))] s.heap.size = A at hD hE9 ⊢
  have hE := hE9.1
  have hDc := hE9.2
  have hA : ∀ q : Nat, s.heap.size ≤ q → A q := fun q h => by rw [← hAe]; exact Or.inr h
  have hS : va_S A s.heap s.heap [] := va_S.rf
  have hP : va_P D vwCl [(h0, .inr (7, [.ref h2, .ref h3, .ref h4, .ref h5, .ref h6, .ref h7, .int 0, .int 0, .int 0, .int 0])), (h1, .inl (κ 2, 1, .inr (.inl (fun _ => 0)))), (h5, .inr (4, [.ref h8, .ref h9, .ref h10, .int 0])), (h8, .inl (κ 0, 12, .inl (fun _ => 0))), (h9, .inl (κ 0, 12, .inl (fun _ => 0)))] s.heap := hP
  have hl := lv_entry [.ref h0, .int 1, .int p0, .ref h1] (n := 5) (Nat.le_of_ble_eq_true rfl)
  rw [lg_entry_eq]
  generalize (lg_sl [.ref h0, .int 1, .int p0, .ref h1] ++ List.replicate (5 - (lg_sl [.ref h0, .int 1, .int p0, .ref h1]).length) Slot.unset).toArray = ls at hl ⊢
  have hl : lv_has ls 5 [(0, .ref h0), (1, .int 1), (2, .int p0), (3, .ref h1)] := hl
  refine lv_aload_n hx hb dL_addStep_0 rfl (lv_at hl 3 rfl) ?_
  refine lv_iconst (v := 0) hx hb dL_addStep_1 (by decide) ?_
  refine lv_aload_n hx hb dL_addStep_2 rfl (lv_at hl 0 rfl) ?_
  refine lv_iload_n hx hb dL_addStep_3 rfl (lv_at hl 1 rfl) ?_
  refine lv_iload_n hx hb dL_addStep_4 rfl (lv_at hl 2 rfl) ?_
  have hF := va_free (wc := [(h0, .inr (7, [.ref h2, .ref h3, .ref h4, .ref h5, .ref h6, .ref h7, .int 0, .int 0, .int 0, .int 0])), (h5, .inr (4, [.ref h8, .ref h9, .ref h10, .int 0])), (h8, .inl (κ 0, 12, .inl (fun _ => 0))), (h9, .inl (κ 0, 12, .inl (fun _ => 0)))]) hD hS hA [0, 2, 3, 4] rfl
  refine va_calli (va_runV (As := [.int 1, .int p0]) (rest := [.int 0, .ref h1]) ⟨hx, hb, hml, hown, hts⟩ (k_X5_addStep_1 l D κ ε h0 h2 h3 h4 h5 h6 h7 h8 h9 h10 s.heap.size (p0)) (cwV 2 hts gL_addStep_X5_addStep_x rfl rfl rfl (by decide +kernel) ⟨(Nat.le_of_ble_eq_true rfl), (Nat.le_of_ble_eq_true rfl)⟩) (pre2_V (q0 := 0) (ci := 7) (wc := [(h0, .inr (7, [.ref h2, .ref h3, .ref h4, .ref h5, .ref h6, .ref h7, .int 0, .int 0, .int 0, .int 0])), (h5, .inr (4, [.ref h8, .ref h9, .ref h10, .int 0])), (h8, .inl (κ 0, 12, .inl (fun _ => 0))), (h9, .inl (κ 0, 12, .inl (fun _ => 0)))]) hP hD hK hE9 hS hA [0, 2, 3, 4] (by decide) rfl rfl rfl) rfl rfl hl.1 rfl (lv_room (Nat.le_of_ble_eq_true rfl)) dL_addStep_5 ⟨(Nat.le_of_ble_eq_true rfl), (Nat.le_of_ble_eq_true rfl)⟩) hS (fun q _ h => hF q h) hF (fun r u1 t H locs ht hvm hw hB hz1 hk1 hS => ?_)
  try dsimp only at hw hB
  have hP1 : va_P D vwCl [] H := P_nil
  obtain ⟨hP, hD⟩ := post_j (ws' := [(h1, .inl (κ 2, 1, .inr (.inl (fun _ => 0))))]) (wr := [(h1, .inl (κ 2, 1, .inr (.inl (fun _ => 0))))]) (w1 := []) hP hD hF [0, 2, 3, 4] rfl [1] rfl (by decide) (by decide) hk1 hP1 D_nil [0] (by decide) rfl
  have hP : va_P D vwCl [(h1, .inl (κ 2, 1, .inr (.inl (fun _ => 0))))] H := hP
  have hD : va_D A [(h1, .inl (κ 2, 1, .inr (.inl (fun _ => 0))))] := hD
  rw [hw]
  refine lv_i2l (v := 0) hx hb dL_addStep_8 (by decide) ?_
  refine va_last (cA := κ 2) (n := 1) (f := (fun _ => 0)) hx hb hK hP hD hS 0 2 rfl rfl (vpl (by decide)) dL_addStep_9 (fun H locs hP hD hS => ?_)
  have hP : va_P D vwCl [(h1, .inl (κ 2, 1, .inr (.inl (vp_updL (fun _ => 0) 0 0))))] H := hP
  have hD : va_D A [(h1, .inl (κ 2, 1, .inr (.inl (vp_updL (fun _ => 0) 0 0))))] := hD
  refine lv_goto (tgt := 21) hx hb dL_addStep_10 (by decide) ?_
  refine lv_iconst (v := 0) hx hb dL_addStep_21 (by decide) ?_
  have hP9 := hP.sub (ws' := [(h1, .inl (κ 2, 1, .inr (.inl (vp_updL (fun _ => 0) 0 0))))]) [0] rfl
  have hD9 := hD.sub (ws' := [(h1, .inl (κ 2, 1, .inr (.inl (vp_updL (fun _ => 0) 0 0))))]) [0] (by decide) rfl
  exact W.iret (v := 0) hx hb hr (fun t ht hW => ⟨⟨0, (vp_updL (fun _ => 0) 0 0), rfl, ⟨rfl, rfl⟩, by rw [ht]; exact hP9, hD9⟩, hS.F ht⟩) hS.2.2 dL_addStep_22

set_option maxHeartbeats 4000000 in
set_option maxRecDepth 100000 in
theorem k_X6_isIn_40 (l : Launch) (D : va_G) (κ ε : Nat → Nat) : Met l yX6_isIn wsX6_isIn ({ frames := 0, cells := 0, slots := 0, locals := 0 }) (va_Pc [.int 1, .int 0, .int 5] (Pre0 D κ [])) (vp_Si (fun r => (r = 1))) 0 0 (fun _ => False) := by
  refine Met.ofW (cc := cX6_isIn) (maxL := 3) (ret := (some .boolean)) (by decide) rfl ?_
  intro p e s m args below meth c s₁ B hml hv
  obtain ⟨rfl, hP, hK⟩ := hv
  have hx := B.exec
  have hb := B.bytes
  have hr := B.returns
  have hts := atoms_spec (ws := wsX6_isIn) B.pre
  have hown : s.vm.findClass RX6 = some m.cls := findClass_of_methodNamed B.named
  have hlocks := B.notSynchronized
  have hP : va_P D vwCl [] s.heap := hP
  have hl := lv_entry [.int 1, .int 0, .int 5] (n := 3) (Nat.le_of_ble_eq_true rfl)
  rw [lg_entry_eq]
  generalize (lg_sl [.int 1, .int 0, .int 5] ++ List.replicate (3 - (lg_sl [.int 1, .int 0, .int 5]).length) Slot.unset).toArray = ls at hl ⊢
  have hl : lv_has ls 3 [(0, .int 1), (1, .int 0), (2, .int 5)] := hl
  refine lv_iload_n hx hb dX6_isIn_0 rfl (lv_at hl 0 rfl) ?_
  refine lv_iload_n hx hb dX6_isIn_1 rfl (lv_at hl 1 rfl) ?_
  refine lv_icmp_lt (tgt := 14) hx hb dX6_isIn_2 (by decide) (fun h => absurd h (by decide)) (fun _ => ?_)
  refine lv_iload_n hx hb dX6_isIn_5 rfl (lv_at hl 0 rfl) ?_
  refine lv_iload_n hx hb dX6_isIn_6 rfl (lv_at hl 2 rfl) ?_
  refine lv_icmp_gt (tgt := 14) hx hb dX6_isIn_7 (by decide) (fun h => absurd h (by decide)) (fun _ => ?_)
  refine lv_iconst (v := 1) hx hb dX6_isIn_10 (by decide) ?_
  refine lv_goto (tgt := 15) hx hb dX6_isIn_11 (by decide) ?_
  exact W.zret (v := 1) hx hb hr rfl (fun t ht hW => ⟨1, rfl, rfl, ht⟩) (fun q hq => absurd hq List.not_mem_nil) dX6_isIn_15

set_option maxHeartbeats 4000000 in
set_option maxRecDepth 100000 in
theorem k_Jx4a65c_add_72be8_1 (l : Launch) (D : va_G) (κ ε : Nat → Nat) (h0 h1 : Nat) (sz : Nat) (p0 : Int32) (p1 : Int32) : Met l yJx4a65c_add_72be8 wsJx4a65c_add_72be8 ({ frames := 3, cells := 1, slots := 10, locals := 60 }) (va_Pc [.ref h0, .ref h1, .ref (ε 1), .int 0] (Pre2 D κ ε [(h0, .inr (1, [.int p0, .ref (ε 1), .int 0])), (h1, .inl (κ 0, 2, .inl (upd (upd (fun _ => 0) 0 1) 1 p1)))] sz)) (va_Qv (fun u : Nat → Nat => True) (fun u t => va_P D vwCl [(h0, .inr (1, [.int p0, .ref (u 0), .int 1])), (h1, .inl (κ 0, 2, .inl (upd (upd (fun _ => 0) 0 1) 1 p1))), ((u 0), .inl (κ 5, 10, .inr (.inr (.inr (.inr (va_up (fun _ => none) 0 (some h1)))))))] t.heap ∧ va_D (va_A [(h0, .inr (1, [.int p0, .ref (ε 1), .int 0])), (h1, .inl (κ 0, 2, .inl (upd (upd (fun _ => 0) 0 1) 1 p1)))] sz) [(h0, .inr (1, [.int p0, .ref (u 0), .int 1])), (h1, .inl (κ 0, 2, .inl (upd (upd (fun _ => 0) 0 1) 1 p1))), ((u 0), .inl (κ 5, 10, .inr (.inr (.inr (.inr (va_up (fun _ => none) 0 (some h1)))))))]) (va_A [(h0, .inr (1, [.int p0, .ref (ε 1), .int 0])), (h1, .inl (κ 0, 2, .inl (upd (upd (fun _ => 0) 0 1) 1 p1)))] sz)) 1 10 (va_A [(h0, .inr (1, [.int p0, .ref (ε 1), .int 0])), (h1, .inl (κ 0, 2, .inl (upd (upd (fun _ => 0) 0 1) 1 p1)))] sz) := by
  refine Met.ofW (cc := cJx4a65c_add_72be8) (maxL := 4) (ret := none) (by decide) rfl ?_
  intro p e s m args below meth c s₁ B hml hv
  obtain ⟨rfl, hsz, hP, hK, hD0, hE9⟩ := hv
  have hx := B.exec
  have hb := B.bytes
  have hr := B.returns
  have hts := atoms_spec (ws := wsJx4a65c_add_72be8) B.pre
  have hown : s.vm.findClass RJx4a65c = some m.cls := findClass_of_methodNamed B.named
  have hlocks := B.notSynchronized
  subst hsz
  have hD := hD0.self (sz := s.heap.size)
  generalize hAe : va_A [(h0, .inr (1, [.int p0, .ref (ε 1), .int 0])), (h1, .inl (κ 0, 2, .inl (upd (upd (fun _ => 0) 0 1) 1 p1)))] s.heap.size = A at hD hE9 ⊢
  have hE := hE9.1
  have hDc := hE9.2
  have hA : ∀ q : Nat, s.heap.size ≤ q → A q := fun q h => by rw [← hAe]; exact Or.inr h
  have hS : va_S A s.heap s.heap [] := va_S.rf
  have hP : va_P D vwCl [(h0, .inr (1, [.int p0, .ref (ε 1), .int 0])), (h1, .inl (κ 0, 2, .inl (upd (upd (fun _ => 0) 0 1) 1 p1)))] s.heap := hP
  have hl := lv_entry [.ref h0, .ref h1, .ref (ε 1), .int 0] (n := 4) (Nat.le_of_ble_eq_true rfl)
  rw [lg_entry_eq]
  generalize (lg_sl [.ref h0, .ref h1, .ref (ε 1), .int 0] ++ List.replicate (4 - (lg_sl [.ref h0, .ref h1, .ref (ε 1), .int 0]).length) Slot.unset).toArray = ls at hl ⊢
  have hl : lv_has ls 4 [(0, .ref h0), (1, .ref h1), (2, .ref (ε 1)), (3, .int 0)] := hl
  refine lv_iload_n hx hb dJx4a65c_add_72be8_0 rfl (lv_at hl 3 rfl) ?_
  refine lv_aload_n hx hb dJx4a65c_add_72be8_1 rfl (lv_at hl 2 rfl) ?_
  refine va_tlen (v := 0) hx hb hE.2.2.2.2.2.1 hS (by decide) dJx4a65c_add_72be8_2 ?_
  refine lv_icmp_ne (tgt := 11) hx hb dJx4a65c_add_72be8_3 (by decide) (fun h => absurd (by decide) h) (fun _ => ?_)
  refine lv_aload_n hx hb dJx4a65c_add_72be8_6 rfl (lv_at hl 0 rfl) ?_
  have hF := va_free (wc := [(h0, .inr (1, [.int p0, .ref (ε 1), .int 0]))]) hD hS hA [0] rfl
  refine va_callr (va_runV (As := []) (rest := []) ⟨hx, hb, hml, hown, hts⟩ (k_Jx4a65c_grow_d5877_0 l D κ ε h0 s.heap.size (p0)) (cwV 0 hts gJx4a65c_add_72be8_Jx4a65c_grow_d5877 rfl rfl rfl (by decide +kernel) ⟨(Nat.le_of_ble_eq_true rfl), (Nat.le_of_ble_eq_true rfl)⟩) (pre2_V (q0 := 0) (ci := 1) (wc := [(h0, .inr (1, [.int p0, .ref (ε 1), .int 0]))]) hP hD hK hE9 hS hA [0] (by decide) rfl rfl rfl) rfl rfl hl.1 rfl (lv_room (Nat.le_of_ble_eq_true rfl)) dJx4a65c_add_72be8_7 ⟨(Nat.le_of_ble_eq_true rfl), (Nat.le_of_ble_eq_true rfl)⟩) hS (fun q _ h => hF q h) hF (fun u1 ra t H locs ht hvm hw hB hz1 hk1 hS => ?_)
  try dsimp only at hw hB
  obtain ⟨rfl, hB⟩ := hB
  obtain ⟨hP1, hD1⟩ := hB
  rw [ht] at hP1
  obtain ⟨hP, hD⟩ := post_j (ws' := [(h0, .inr (1, [.int p0, .ref (u1 0), .int 0])), (h1, .inl (κ 0, 2, .inl (upd (upd (fun _ => 0) 0 1) 1 p1))), ((u1 0), .inl (κ 5, 10, .inr (.inr (.inr (.inr (fun _ => none))))))]) (wr := [(h1, .inl (κ 0, 2, .inl (upd (upd (fun _ => 0) 0 1) 1 p1)))]) (w1 := [(h0, .inr (1, [.int p0, .ref (u1 0), .int 0])), ((u1 0), .inl (κ 5, 10, .inr (.inr (.inr (.inr (fun _ => none))))))]) hP hD hF [0] rfl [1] rfl (by decide) (by decide) hk1 hP1 hD1 [1, 0, 2] (by decide) rfl
  have hP : va_P D vwCl [(h0, .inr (1, [.int p0, .ref (u1 0), .int 0])), (h1, .inl (κ 0, 2, .inl (upd (upd (fun _ => 0) 0 1) 1 p1))), ((u1 0), .inl (κ 5, 10, .inr (.inr (.inr (.inr (fun _ => none))))))] H := hP
  have hD : va_D A [(h0, .inr (1, [.int p0, .ref (u1 0), .int 0])), (h1, .inl (κ 0, 2, .inl (upd (upd (fun _ => 0) 0 1) 1 p1))), ((u1 0), .inl (κ 5, 10, .inr (.inr (.inr (.inr (fun _ => none))))))] := hD
  refine lv_astore_n (lv' := [(2, .ref (u1 0)), (0, .ref h0), (1, .ref h1), (3, .int 0)]) hx hb dJx4a65c_add_72be8_10 rfl hl (by decide) rfl (fun ls hl => ?_)
  refine lv_aload_n hx hb dJx4a65c_add_72be8_11 rfl (lv_at hl 0 rfl) ?_
  refine lv_iload_n hx hb dJx4a65c_add_72be8_12 rfl (lv_at hl 3 rfl) ?_
  refine lv_aload_n hx hb dJx4a65c_add_72be8_13 rfl (lv_at hl 2 rfl) ?_
  refine va_astqM (cA := κ 5) (n := 10) (f := (fun _ => none)) hx hb hK hP hD hS 2 5 rfl rfl (any_arr hK hE hP 1 rfl) (vpl (by decide)) dJx4a65c_add_72be8_14 (fun H locs hP hD hS => ?_)
  have hP : va_P D vwCl [(h0, .inr (1, [.int p0, .ref (u1 0), .int 0])), (h1, .inl (κ 0, 2, .inl (upd (upd (fun _ => 0) 0 1) 1 p1))), ((u1 0), .inl (κ 5, 10, .inr (.inr (.inr (.inr (va_up (fun _ => none) 0 (some h1)))))))] H := hP
  have hD : va_D A [(h0, .inr (1, [.int p0, .ref (u1 0), .int 0])), (h1, .inl (κ 0, 2, .inl (upd (upd (fun _ => 0) 0 1) 1 p1))), ((u1 0), .inl (κ 5, 10, .inr (.inr (.inr (.inr (va_up (fun _ => none) 0 (some h1)))))))] := hD
  refine lv_aload_n hx hb dJx4a65c_add_72be8_15 rfl (lv_at hl 1 rfl) ?_
  refine lv_iload_n hx hb dJx4a65c_add_72be8_16 rfl (lv_at hl 3 rfl) ?_
  refine lv_iconst (v := 1) hx hb dJx4a65c_add_72be8_17 (by decide) ?_
  refine lv_iadd hx hb dJx4a65c_add_72be8_18 ?_
  refine tpi (v := 1) (by decide) ?_
  refine va_put (D := D) (ci := 1) (v := .int 1) (ty := .int) (C := RJx4a65c) (T := TJx4a65c) (N := 3) hx hb hts wi_Jx4a65c_add_72be8_RJx4a65c tyJx4a65c tyJx4a65c_ok nmJx4a65c hown hK hP hD hS 0 rfl rfl 2 (by decide) (hts _ wd377_Jx4a65c_add_72be8) (fun _ h9 => h9) rfl (by decide +kernel) rfl rfl (Nat.le_of_ble_eq_true rfl) dJx4a65c_add_72be8_19 (fun H locs hP hD hS => ?_)
  have hP : va_P D vwCl [(h0, .inr (1, [.int p0, .ref (u1 0), .int 1])), (h1, .inl (κ 0, 2, .inl (upd (upd (fun _ => 0) 0 1) 1 p1))), ((u1 0), .inl (κ 5, 10, .inr (.inr (.inr (.inr (va_up (fun _ => none) 0 (some h1)))))))] H := hP
  have hD : va_D A [(h0, .inr (1, [.int p0, .ref (u1 0), .int 1])), (h1, .inl (κ 0, 2, .inl (upd (upd (fun _ => 0) 0 1) 1 p1))), ((u1 0), .inl (κ 5, 10, .inr (.inr (.inr (.inr (va_up (fun _ => none) 0 (some h1)))))))] := hD
  have hP9 := hP
  have hD9 := hD
  refine W.widen (k := 1) (n := 10) (Nat.le_of_ble_eq_true rfl) (Nat.le_of_ble_eq_true rfl) ?_
  exact W.vret hx hb hr (fun t ht hW => ⟨⟨(fun i => [(u1 0)].getD i 0), rfl, trivial, by rw [ht]; exact hP9, hD9⟩, hS.F ht⟩) hS.2.2 dJx4a65c_add_72be8_22

set_option maxHeartbeats 4000000 in
set_option maxRecDepth 100000 in
theorem k_Jx4a65c_add_9ea2d_1 (l : Launch) (D : va_G) (κ ε : Nat → Nat) (h0 h1 : Nat) (sz : Nat) (p0 : Int32) : Met l yJx4a65c_add_9ea2d wsJx4a65c_add_9ea2d ({ frames := 4, cells := 1, slots := 10, locals := 83 }) (va_Pc [.ref h0, .ref h1] (Pre2 D κ ε [(h0, .inr (1, [.int 0, .ref (ε 1), .int 0])), (h1, .inl (κ 0, 2, .inl (upd (upd (fun _ => 0) 0 1) 1 p0)))] sz)) (va_Qi (fun r (u : Nat → Nat) => (r = 1)) (fun u t => va_P D vwCl [(h0, .inr (1, [.int 1, .ref (u 0), .int 1])), (h1, .inl (κ 0, 2, .inl (upd (upd (fun _ => 0) 0 1) 1 p0))), ((u 0), .inl (κ 5, 10, .inr (.inr (.inr (.inr (va_up (fun _ => none) 0 (some h1)))))))] t.heap ∧ va_D (va_A [(h0, .inr (1, [.int 0, .ref (ε 1), .int 0])), (h1, .inl (κ 0, 2, .inl (upd (upd (fun _ => 0) 0 1) 1 p0)))] sz) [(h0, .inr (1, [.int 1, .ref (u 0), .int 1])), (h1, .inl (κ 0, 2, .inl (upd (upd (fun _ => 0) 0 1) 1 p0))), ((u 0), .inl (κ 5, 10, .inr (.inr (.inr (.inr (va_up (fun _ => none) 0 (some h1)))))))]) (va_A [(h0, .inr (1, [.int 0, .ref (ε 1), .int 0])), (h1, .inl (κ 0, 2, .inl (upd (upd (fun _ => 0) 0 1) 1 p0)))] sz)) 1 10 (va_A [(h0, .inr (1, [.int 0, .ref (ε 1), .int 0])), (h1, .inl (κ 0, 2, .inl (upd (upd (fun _ => 0) 0 1) 1 p0)))] sz) := by
  refine Met.ofW (cc := cJx4a65c_add_9ea2d) (maxL := 2) (ret := (some .boolean)) (by decide) rfl ?_
  intro p e s m args below meth c s₁ B hml hv
  obtain ⟨rfl, hsz, hP, hK, hD0, hE9⟩ := hv
  have hx := B.exec
  have hb := B.bytes
  have hr := B.returns
  have hts := atoms_spec (ws := wsJx4a65c_add_9ea2d) B.pre
  have hown : s.vm.findClass RJx4a65c = some m.cls := findClass_of_methodNamed B.named
  have hlocks := B.notSynchronized
  subst hsz
  have hD := hD0.self (sz := s.heap.size)
  generalize hAe : va_A [(h0, .inr (1, [.int 0, .ref (ε 1), .int 0])), (h1, .inl (κ 0, 2, .inl (upd (upd (fun _ => 0) 0 1) 1 p0)))] s.heap.size = A at hD hE9 ⊢
  have hE := hE9.1
  have hDc := hE9.2
  have hA : ∀ q : Nat, s.heap.size ≤ q → A q := fun q h => by rw [← hAe]; exact Or.inr h
  have hS : va_S A s.heap s.heap [] := va_S.rf
  have hP : va_P D vwCl [(h0, .inr (1, [.int 0, .ref (ε 1), .int 0])), (h1, .inl (κ 0, 2, .inl (upd (upd (fun _ => 0) 0 1) 1 p0)))] s.heap := hP
  have hl := lv_entry [.ref h0, .ref h1] (n := 2) (Nat.le_of_ble_eq_true rfl)
  rw [lg_entry_eq]
  generalize (lg_sl [.ref h0, .ref h1] ++ List.replicate (2 - (lg_sl [.ref h0, .ref h1]).length) Slot.unset).toArray = ls at hl ⊢
  have hl : lv_has ls 2 [(0, .ref h0), (1, .ref h1)] := hl
  refine lv_aload_n hx hb dJx4a65c_add_9ea2d_0 rfl (lv_at hl 0 rfl) ?_
  refine lv_dup hx hb dJx4a65c_add_9ea2d_1 rfl ?_
  refine va_get (D := D) (ci := 1) (v := .int 0) (C := RJx4a65c) (T := TJx4a65c) (N := 3) hx hb hts wi_Jx4a65c_add_9ea2d_RJx4a65c hown hK hP 0 rfl rfl 0 (by decide) (hts _ wd379_Jx4a65c_add_9ea2d) (fun x9 h9 => u_same (hts _ wd378_Jx4a65c_add_9ea2d) x9 h9) rfl dJx4a65c_add_9ea2d_2 ?_
  refine lv_iconst (v := 1) hx hb dJx4a65c_add_9ea2d_5 (by decide) ?_
  refine lv_iadd hx hb dJx4a65c_add_9ea2d_6 ?_
  refine tpi (v := 1) (by decide) ?_
  refine va_put (D := D) (ci := 1) (v := .int 1) (ty := .int) (C := RJx4a65c) (T := TJx4a65c) (N := 3) hx hb hts wi_Jx4a65c_add_9ea2d_RJx4a65c tyJx4a65c tyJx4a65c_ok nmJx4a65c hown hK hP hD hS 0 rfl rfl 0 (by decide) (hts _ wd379_Jx4a65c_add_9ea2d) (fun x9 h9 => u_same (hts _ wd378_Jx4a65c_add_9ea2d) x9 h9) rfl (by decide +kernel) rfl rfl (Nat.le_of_ble_eq_true rfl) dJx4a65c_add_9ea2d_7 (fun H locs hP hD hS => ?_)
  have hP : va_P D vwCl [(h0, .inr (1, [.int 1, .ref (ε 1), .int 0])), (h1, .inl (κ 0, 2, .inl (upd (upd (fun _ => 0) 0 1) 1 p0)))] H := hP
  have hD : va_D A [(h0, .inr (1, [.int 1, .ref (ε 1), .int 0])), (h1, .inl (κ 0, 2, .inl (upd (upd (fun _ => 0) 0 1) 1 p0)))] := hD
  refine lv_aload_n hx hb dJx4a65c_add_9ea2d_10 rfl (lv_at hl 0 rfl) ?_
  refine lv_aload_n hx hb dJx4a65c_add_9ea2d_11 rfl (lv_at hl 1 rfl) ?_
  refine lv_aload_n hx hb dJx4a65c_add_9ea2d_12 rfl (lv_at hl 0 rfl) ?_
  refine va_get (D := D) (ci := 1) (v := .ref (ε 1)) (C := RJx4a65c) (T := TJx4a65c) (N := 3) hx hb hts wi_Jx4a65c_add_9ea2d_RJx4a65c hown hK hP 0 rfl rfl 1 (by decide) (hts _ wd380_Jx4a65c_add_9ea2d) (fun _ h9 => h9) rfl dJx4a65c_add_9ea2d_13 ?_
  refine lv_aload_n hx hb dJx4a65c_add_9ea2d_16 rfl (lv_at hl 0 rfl) ?_
  refine va_get (D := D) (ci := 1) (v := .int 0) (C := RJx4a65c) (T := TJx4a65c) (N := 3) hx hb hts wi_Jx4a65c_add_9ea2d_RJx4a65c hown hK hP 0 rfl rfl 2 (by decide) (hts _ wd381_Jx4a65c_add_9ea2d) (fun _ h9 => h9) rfl dJx4a65c_add_9ea2d_17 ?_
  have hF := va_free (wc := [(h0, .inr (1, [.int 1, .ref (ε 1), .int 0])), (h1, .inl (κ 0, 2, .inl (upd (upd (fun _ => 0) 0 1) 1 p0)))]) hD hS hA [0, 1] rfl
  refine va_callv (va_runV (As := [.ref h1, .ref (ε 1), .int 0]) (rest := []) ⟨hx, hb, hml, hown, hts⟩ (k_Jx4a65c_add_72be8_1 l D κ ε h0 h1 H.size (1) (p0)) (cwV 3 hts gJx4a65c_add_9ea2d_Jx4a65c_add_72be8 rfl rfl rfl (by decide +kernel) ⟨(Nat.le_of_ble_eq_true rfl), (Nat.le_of_ble_eq_true rfl)⟩) (pre2_V (q0 := 0) (ci := 1) (wc := [(h0, .inr (1, [.int 1, .ref (ε 1), .int 0])), (h1, .inl (κ 0, 2, .inl (upd (upd (fun _ => 0) 0 1) 1 p0)))]) hP hD hK hE9 hS hA [0, 1] (by decide) rfl rfl rfl) rfl rfl hl.1 rfl (lv_room (Nat.le_of_ble_eq_true rfl)) dJx4a65c_add_9ea2d_20 ⟨(Nat.le_of_ble_eq_true rfl), (Nat.le_of_ble_eq_true rfl)⟩) hS (fun q _ h => hF q h) hF (fun u1 t H locs ht hvm hw hB hz1 hk1 hS => ?_)
  try dsimp only at hw hB
  obtain ⟨hP1, hD1⟩ := hB
  rw [ht] at hP1
  obtain ⟨hP, hD⟩ := post_j (ws' := [(h0, .inr (1, [.int 1, .ref (u1 0), .int 1])), (h1, .inl (κ 0, 2, .inl (upd (upd (fun _ => 0) 0 1) 1 p0))), ((u1 0), .inl (κ 5, 10, .inr (.inr (.inr (.inr (va_up (fun _ => none) 0 (some h1)))))))]) (wr := []) (w1 := [(h0, .inr (1, [.int 1, .ref (u1 0), .int 1])), (h1, .inl (κ 0, 2, .inl (upd (upd (fun _ => 0) 0 1) 1 p0))), ((u1 0), .inl (κ 5, 10, .inr (.inr (.inr (.inr (va_up (fun _ => none) 0 (some h1)))))))]) hP hD hF [0, 1] rfl [] rfl (by decide) (by decide) hk1 hP1 hD1 [0, 1, 2] (by decide) rfl
  have hP : va_P D vwCl [(h0, .inr (1, [.int 1, .ref (u1 0), .int 1])), (h1, .inl (κ 0, 2, .inl (upd (upd (fun _ => 0) 0 1) 1 p0))), ((u1 0), .inl (κ 5, 10, .inr (.inr (.inr (.inr (va_up (fun _ => none) 0 (some h1)))))))] H := hP
  have hD : va_D A [(h0, .inr (1, [.int 1, .ref (u1 0), .int 1])), (h1, .inl (κ 0, 2, .inl (upd (upd (fun _ => 0) 0 1) 1 p0))), ((u1 0), .inl (κ 5, 10, .inr (.inr (.inr (.inr (va_up (fun _ => none) 0 (some h1)))))))] := hD
  refine lv_iconst (v := 1) hx hb dJx4a65c_add_9ea2d_23 (by decide) ?_
  have hP9 := hP
  have hD9 := hD
  refine W.widen (k := 1) (n := 10) (Nat.le_of_ble_eq_true rfl) (Nat.le_of_ble_eq_true rfl) ?_
  exact W.zret (v := 1) hx hb hr rfl (fun t ht hW => ⟨⟨1, (fun i => [(u1 0)].getD i 0), rfl, rfl, by rw [ht]; exact hP9, hD9⟩, hS.F ht⟩) hS.2.2 dJx4a65c_add_9ea2d_24

set_option maxHeartbeats 4000000 in
set_option maxRecDepth 100000 in
theorem k_X6_addStep_1 (l : Launch) (D : va_G) (κ ε : Nat → Nat) (h0 h1 h2 h3 : Nat) (sz : Nat) (p0 : Int32) : Met l yX6_addStep wsX6_addStep ({ frames := 5, cells := 2, slots := 12, locals := 104 }) (va_Pc [.ref h0, .int 1, .int p0] (Pre2 D κ ε [(h0, .inr (8, [.int 0, .int 0, .int 2, .ref h1, .ref h2, .int 0, .int 500, .int 0, .int 0, .int 0, .ref h3])), (h3, .inr (1, [.int 0, .ref (ε 1), .int 0]))] sz)) (va_Qi (fun r (u : List Value) => (u[0]? = some (.int 0)) ∧ (r = 0)) (fun u t => va_P D vwCl [(h0, .inr (8, u))] t.heap ∧ va_D (va_A [(h0, .inr (8, [.int 0, .int 0, .int 2, .ref h1, .ref h2, .int 0, .int 500, .int 0, .int 0, .int 0, .ref h3])), (h3, .inr (1, [.int 0, .ref (ε 1), .int 0]))] sz) [(h0, .inr (8, u))]) (va_A [(h0, .inr (8, [.int 0, .int 0, .int 2, .ref h1, .ref h2, .int 0, .int 500, .int 0, .int 0, .int 0, .ref h3])), (h3, .inr (1, [.int 0, .ref (ε 1), .int 0]))] sz)) 2 12 (va_A [(h0, .inr (8, [.int 0, .int 0, .int 2, .ref h1, .ref h2, .int 0, .int 500, .int 0, .int 0, .int 0, .ref h3])), (h3, .inr (1, [.int 0, .ref (ε 1), .int 0]))] sz) := by
  refine Met.ofW (cc := cX6_addStep) (maxL := 3) (ret := (some .int)) (by decide) rfl ?_
  intro p e s m args below meth c s₁ B hml hv
  obtain ⟨rfl, hsz, hP, hK, hD0, hE9⟩ := hv
  have hx := B.exec
  have hb := B.bytes
  have hr := B.returns
  have hts := atoms_spec (ws := wsX6_addStep) B.pre
  have hown : s.vm.findClass RX6 = some m.cls := findClass_of_methodNamed B.named
  have hlocks := B.notSynchronized
  subst hsz
  have hD := hD0.self (sz := s.heap.size)
  generalize hAe : va_A [(h0, .inr (8, [.int 0, .int 0, .int 2, .ref h1, .ref h2, .int 0, .int 500, .int 0, .int 0, .int 0, .ref h3])), (h3, .inr (1, [.int 0, .ref (ε 1), .int 0]))] s.heap.size = A at hD hE9 ⊢
  have hE := hE9.1
  have hDc := hE9.2
  have hA : ∀ q : Nat, s.heap.size ≤ q → A q := fun q h => by rw [← hAe]; exact Or.inr h
  have hS : va_S A s.heap s.heap [] := va_S.rf
  have hP : va_P D vwCl [(h0, .inr (8, [.int 0, .int 0, .int 2, .ref h1, .ref h2, .int 0, .int 500, .int 0, .int 0, .int 0, .ref h3])), (h3, .inr (1, [.int 0, .ref (ε 1), .int 0]))] s.heap := hP
  have hl := lv_entry [.ref h0, .int 1, .int p0] (n := 3) (Nat.le_of_ble_eq_true rfl)
  rw [lg_entry_eq]
  generalize (lg_sl [.ref h0, .int 1, .int p0] ++ List.replicate (3 - (lg_sl [.ref h0, .int 1, .int p0]).length) Slot.unset).toArray = ls at hl ⊢
  have hl : lv_has ls 3 [(0, .ref h0), (1, .int 1), (2, .int p0)] := hl
  refine lv_aload_n hx hb dX6_addStep_0 rfl (lv_at hl 0 rfl) ?_
  refine lv_iload_n hx hb dX6_addStep_1 rfl (lv_at hl 1 rfl) ?_
  refine lv_iconst (v := 0) hx hb dX6_addStep_2 (by decide) ?_
  refine lv_iconst (v := 5) hx hb dX6_addStep_3 (by decide) ?_
  refine vp_callSi (W.runS (As := [.int 1, .int 0, .int 5]) (rest := [.ref h0]) ⟨hx, hb, hml, hown, hts⟩ (k_X6_isIn_40 l D κ ε) (va_cwS 3 hts gX6_addStep_X6_isIn rfl rfl rfl (by decide +kernel) ⟨(Nat.le_of_ble_eq_true rfl), (Nat.le_of_ble_eq_true rfl)⟩) (pre0_S (wc := []) hP hK [] rfl) rfl rfl hl.1 rfl (lv_room (Nat.le_of_ble_eq_true rfl)) dX6_addStep_4 ⟨(Nat.le_of_ble_eq_true rfl), (Nat.le_of_ble_eq_true rfl)⟩) (fun r hw => ?_)
  rw [hw]
  refine lv_if_eq (tgt := 66) hx hb dX6_addStep_7 (by decide) (fun h => absurd h (by decide)) (fun _ => ?_)
  refine lv_iload_n hx hb dX6_addStep_10 rfl (lv_at hl 1 rfl) ?_
  refine lv_iconst (v := 2) hx hb dX6_addStep_11 (by decide) ?_
  refine lv_icmp_ne (tgt := 29) hx hb dX6_addStep_12 (by decide) (fun _ => ?_) (fun h => absurd h (by decide))
  refine lv_iload_n hx hb dX6_addStep_29 rfl (lv_at hl 1 rfl) ?_
  refine lv_iconst (v := 4) hx hb dX6_addStep_30 (by decide) ?_
  refine lv_icmp_ne (tgt := 46) hx hb dX6_addStep_31 (by decide) (fun _ => ?_) (fun h => absurd h (by decide))
  refine lv_iload_n hx hb dX6_addStep_46 rfl (lv_at hl 1 rfl) ?_
  refine lv_iconst (v := 3) hx hb dX6_addStep_47 (by decide) ?_
  refine lv_icmp_eq (tgt := 56) hx hb dX6_addStep_48 (by decide) (fun h => absurd h (by decide)) (fun _ => ?_)
  refine lv_iload_n hx hb dX6_addStep_51 rfl (lv_at hl 1 rfl) ?_
  refine lv_iconst (v := 5) hx hb dX6_addStep_52 (by decide) ?_
  refine lv_icmp_ne (tgt := 70) hx hb dX6_addStep_53 (by decide) (fun _ => ?_) (fun h => absurd h (by decide))
  refine lv_iconst (v := 0) hx hb dX6_addStep_70 (by decide) ?_
  refine lv_iconst (v := 1) hx hb dX6_addStep_71 (by decide) ?_
  have hF := va_free (wc := [(h0, .inr (8, [.int 0, .int 0, .int 2, .ref h1, .ref h2, .int 0, .int 500, .int 0, .int 0, .int 0, .ref h3]))]) hD hS hA [0] rfl
  refine va_calli (va_runV (As := [.int 0, .int 1]) (rest := []) ⟨hx, hb, hml, hown, hts⟩ (k_X6_start_0 l D κ ε h0 h1 h2 h3 s.heap.size (0) (2) (0) (500) (0) (0)) (cwV 2 hts gX6_addStep_X6_start rfl rfl rfl (by decide +kernel) ⟨(Nat.le_of_ble_eq_true rfl), (Nat.le_of_ble_eq_true rfl)⟩) (pre2_V (q0 := 0) (ci := 8) (wc := [(h0, .inr (8, [.int 0, .int 0, .int 2, .ref h1, .ref h2, .int 0, .int 500, .int 0, .int 0, .int 0, .ref h3]))]) hP hD hK hE9 hS hA [0] (by decide) rfl rfl rfl) rfl rfl hl.1 rfl (lv_room (Nat.le_of_ble_eq_true rfl)) dX6_addStep_72 ⟨(Nat.le_of_ble_eq_true rfl), (Nat.le_of_ble_eq_true rfl)⟩) hS (fun q _ h => hF q h) hF (fun r u1 t H locs ht hvm hw hB hz1 hk1 hS => ?_)
  try dsimp only at hw hB
  obtain ⟨hP1, hD1⟩ := hB
  rw [ht] at hP1
  obtain ⟨hP, hD⟩ := post_j (ws' := [(h0, .inr (8, [.int 0, .int 0, .int 2, .ref h1, .ref h2, .int 0, .int 500, .int 0, .int 0, .int 0, .ref h3])), (h3, .inr (1, [.int 0, .ref (ε 1), .int 0]))]) (wr := [(h3, .inr (1, [.int 0, .ref (ε 1), .int 0]))]) (w1 := [(h0, .inr (8, [.int 0, .int 0, .int 2, .ref h1, .ref h2, .int 0, .int 500, .int 0, .int 0, .int 0, .ref h3]))]) hP hD hF [0] rfl [1] rfl (by decide) (by decide) hk1 hP1 hD1 [1, 0] (by decide) rfl
  have hP : va_P D vwCl [(h0, .inr (8, [.int 0, .int 0, .int 2, .ref h1, .ref h2, .int 0, .int 500, .int 0, .int 0, .int 0, .ref h3])), (h3, .inr (1, [.int 0, .ref (ε 1), .int 0]))] H := hP
  have hD : va_D A [(h0, .inr (8, [.int 0, .int 0, .int 2, .ref h1, .ref h2, .int 0, .int 500, .int 0, .int 0, .int 0, .ref h3])), (h3, .inr (1, [.int 0, .ref (ε 1), .int 0]))] := hD
  rw [hw]
  refine lv_if_eq (tgt := 80) hx hb dX6_addStep_75 (by decide) (fun _ => ?_) (fun h => absurd (by decide) h)
  refine lv_aload_n hx hb dX6_addStep_80 rfl (lv_at hl 0 rfl) ?_
  refine lv_aload_n hx hb dX6_addStep_81 rfl (lv_at hl 0 rfl) ?_
  refine va_get (D := D) (ci := 8) (v := .ref h3) (C := RX6) (T := TX6) (N := 11) hx hb hts wi_X6_addStep_RX6 hown hK hP 0 rfl rfl 10 (by decide) (hts _ wd382_X6_addStep) (fun _ h9 => h9) rfl dX6_addStep_82 ?_
  refine vp_callSi (W.runV (As := []) (rest := [.ref h0]) ⟨hx, hb, hml, hown, hts⟩ (k_Jx4a65c_size_8abf5_0 l D κ ε h3 (0)) (cwV 0 hts gX6_addStep_Jx4a65c_size_8abf5 rfl rfl rfl (by decide +kernel) ⟨(Nat.le_of_ble_eq_true rfl), (Nat.le_of_ble_eq_true rfl)⟩) (pre0_V (q0 := 1) (ci := 1) (wc := [(h3, .inr (1, [.int 0, .ref (ε 1), .int 0]))]) hP hK [1] rfl rfl rfl) rfl rfl hl.1 rfl (lv_room (Nat.le_of_ble_eq_true rfl)) dX6_addStep_85 ⟨(Nat.le_of_ble_eq_true rfl), (Nat.le_of_ble_eq_true rfl)⟩) (fun r hw => ?_)
  rw [hw]
  refine lv_bipush (v := 12) hx hb dX6_addStep_88 (by decide) ?_
  refine lv_icmp_ne (tgt := 97) hx hb dX6_addStep_90 (by decide) (fun _ => ?_) (fun h => absurd h (by decide))
  refine lv_iconst (v := 0) hx hb dX6_addStep_97 (by decide) ?_
  refine lv_iconst (v := 2) hx hb dX6_addStep_98 (by decide) ?_
  refine vp_callSi (W.runV (As := [.int 0, .int 2]) (rest := []) ⟨hx, hb, hml, hown, hts⟩ (k_X6_refuse_3 l D κ ε h0 h1 h2 h3 (0) (2) (0) (500) (0) (0)) (cwV 2 hts gX6_addStep_X6_refuse rfl rfl rfl (by decide +kernel) ⟨(Nat.le_of_ble_eq_true rfl), (Nat.le_of_ble_eq_true rfl)⟩) (pre0_V (q0 := 0) (ci := 8) (wc := [(h0, .inr (8, [.int 0, .int 0, .int 2, .ref h1, .ref h2, .int 0, .int 500, .int 0, .int 0, .int 0, .ref h3]))]) hP hK [0] rfl rfl rfl) rfl rfl hl.1 rfl (lv_room (Nat.le_of_ble_eq_true rfl)) dX6_addStep_99 ⟨(Nat.le_of_ble_eq_true rfl), (Nat.le_of_ble_eq_true rfl)⟩) (fun r hw => ?_)
  rw [hw]
  refine lv_if_eq (tgt := 107) hx hb dX6_addStep_102 (by decide) (fun _ => ?_) (fun h => absurd (by decide) h)
  refine lv_aload_n hx hb dX6_addStep_107 rfl (lv_at hl 0 rfl) ?_
  refine va_get (D := D) (ci := 8) (v := .ref h3) (C := RX6) (T := TX6) (N := 11) hx hb hts wi_X6_addStep_RX6 hown hK hP 0 rfl rfl 10 (by decide) (hts _ wd382_X6_addStep) (fun _ h9 => h9) rfl dX6_addStep_108 ?_
  refine lv_iconst (v := 2) hx hb dX6_addStep_111 (by decide) ?_
  refine va_newa (atype := .int) (a0 := (2, .inl (fun _ => 0))) hx hb (hts _ wd383_X6_addStep) rfl hK hP hD hS hA (fun _ => rfl) (by decide) (by decide) (by decide) (Nat.le_of_ble_eq_true rfl) (Nat.le_of_ble_eq_true rfl) dX6_addStep_112 (fun q2 cy H hKn hP hD hS => ?_)
  obtain rfl : cy = κ 0 := K_one (i := 0) hKn rfl
  have hP : va_P D vwCl [(h0, .inr (8, [.int 0, .int 0, .int 2, .ref h1, .ref h2, .int 0, .int 500, .int 0, .int 0, .int 0, .ref h3])), (h3, .inr (1, [.int 0, .ref (ε 1), .int 0])), (q2, .inl (κ 0, 2, .inl (fun _ => 0)))] H := hP
  have hD : va_D A [(h0, .inr (8, [.int 0, .int 0, .int 2, .ref h1, .ref h2, .int 0, .int 500, .int 0, .int 0, .int 0, .ref h3])), (h3, .inr (1, [.int 0, .ref (ε 1), .int 0])), (q2, .inl (κ 0, 2, .inl (fun _ => 0)))] := hD
  refine lv_dup hx hb dX6_addStep_114 rfl ?_
  refine lv_iconst (v := 0) hx hb dX6_addStep_115 (by decide) ?_
  refine lv_iload_n hx hb dX6_addStep_116 rfl (lv_at hl 1 rfl) ?_
  refine va_iast (cA := κ 0) (n := 2) (f := (fun _ => 0)) hx hb hK hP hD hS 2 0 rfl rfl (vpl (by decide)) dX6_addStep_117 (fun H locs hP hD hS => ?_)
  have hP : va_P D vwCl [(h0, .inr (8, [.int 0, .int 0, .int 2, .ref h1, .ref h2, .int 0, .int 500, .int 0, .int 0, .int 0, .ref h3])), (h3, .inr (1, [.int 0, .ref (ε 1), .int 0])), (q2, .inl (κ 0, 2, .inl (upd (fun _ => 0) 0 1)))] H := hP
  have hD : va_D A [(h0, .inr (8, [.int 0, .int 0, .int 2, .ref h1, .ref h2, .int 0, .int 500, .int 0, .int 0, .int 0, .ref h3])), (h3, .inr (1, [.int 0, .ref (ε 1), .int 0])), (q2, .inl (κ 0, 2, .inl (upd (fun _ => 0) 0 1)))] := hD
  refine lv_dup hx hb dX6_addStep_118 rfl ?_
  refine lv_iconst (v := 1) hx hb dX6_addStep_119 (by decide) ?_
  refine lv_iload_n hx hb dX6_addStep_120 rfl (lv_at hl 2 rfl) ?_
  refine va_iast (cA := κ 0) (n := 2) (f := (upd (fun _ => 0) 0 1)) hx hb hK hP hD hS 2 0 rfl rfl (vpl (by decide)) dX6_addStep_121 (fun H locs hP hD hS => ?_)
  have hP : va_P D vwCl [(h0, .inr (8, [.int 0, .int 0, .int 2, .ref h1, .ref h2, .int 0, .int 500, .int 0, .int 0, .int 0, .ref h3])), (h3, .inr (1, [.int 0, .ref (ε 1), .int 0])), (q2, .inl (κ 0, 2, .inl (upd (upd (fun _ => 0) 0 1) 1 p0)))] H := hP
  have hD : va_D A [(h0, .inr (8, [.int 0, .int 0, .int 2, .ref h1, .ref h2, .int 0, .int 500, .int 0, .int 0, .int 0, .ref h3])), (h3, .inr (1, [.int 0, .ref (ε 1), .int 0])), (q2, .inl (κ 0, 2, .inl (upd (upd (fun _ => 0) 0 1) 1 p0)))] := hD
  have hF := va_free (wc := [(h3, .inr (1, [.int 0, .ref (ε 1), .int 0])), (q2, .inl (κ 0, 2, .inl (upd (upd (fun _ => 0) 0 1) 1 p0)))]) hD hS hA [1, 2] rfl
  refine va_calli (va_runV (As := [.ref q2]) (rest := []) ⟨hx, hb, hml, hown, hts⟩ (k_Jx4a65c_add_9ea2d_1 l D κ ε h3 q2 H.size (p0)) (cwV 1 hts gX6_addStep_Jx4a65c_add_9ea2d rfl rfl rfl (by decide +kernel) ⟨(Nat.le_of_ble_eq_true rfl), (Nat.le_of_ble_eq_true rfl)⟩) (pre2_V (q0 := 1) (ci := 1) (wc := [(h3, .inr (1, [.int 0, .ref (ε 1), .int 0])), (q2, .inl (κ 0, 2, .inl (upd (upd (fun _ => 0) 0 1) 1 p0)))]) hP hD hK hE9 hS hA [1, 2] (by decide) rfl rfl rfl) rfl rfl hl.1 rfl (lv_room (Nat.le_of_ble_eq_true rfl)) dX6_addStep_122 ⟨(Nat.le_of_ble_eq_true rfl), (Nat.le_of_ble_eq_true rfl)⟩) hS (fun q _ h => hF q h) hF (fun r u3 t H locs ht hvm hw hB hz1 hk1 hS => ?_)
  try dsimp only at hw hB
  obtain ⟨hP1, hD1⟩ := hB
  rw [ht] at hP1
  obtain ⟨hP, hD⟩ := post_j (ws' := [(h0, .inr (8, [.int 0, .int 0, .int 2, .ref h1, .ref h2, .int 0, .int 500, .int 0, .int 0, .int 0, .ref h3])), (h3, .inr (1, [.int 1, .ref (u3 0), .int 1])), (q2, .inl (κ 0, 2, .inl (upd (upd (fun _ => 0) 0 1) 1 p0))), ((u3 0), .inl (κ 5, 10, .inr (.inr (.inr (.inr (va_up (fun _ => none) 0 (some q2)))))))]) (wr := [(h0, .inr (8, [.int 0, .int 0, .int 2, .ref h1, .ref h2, .int 0, .int 500, .int 0, .int 0, .int 0, .ref h3]))]) (w1 := [(h3, .inr (1, [.int 1, .ref (u3 0), .int 1])), (q2, .inl (κ 0, 2, .inl (upd (upd (fun _ => 0) 0 1) 1 p0))), ((u3 0), .inl (κ 5, 10, .inr (.inr (.inr (.inr (va_up (fun _ => none) 0 (some q2)))))))]) hP hD hF [1, 2] rfl [0] rfl (by decide) (by decide) hk1 hP1 hD1 [0, 1, 2, 3] (by decide) rfl
  have hP : va_P D vwCl [(h0, .inr (8, [.int 0, .int 0, .int 2, .ref h1, .ref h2, .int 0, .int 500, .int 0, .int 0, .int 0, .ref h3])), (h3, .inr (1, [.int 1, .ref (u3 0), .int 1])), (q2, .inl (κ 0, 2, .inl (upd (upd (fun _ => 0) 0 1) 1 p0))), ((u3 0), .inl (κ 5, 10, .inr (.inr (.inr (.inr (va_up (fun _ => none) 0 (some q2)))))))] H := hP
  have hD : va_D A [(h0, .inr (8, [.int 0, .int 0, .int 2, .ref h1, .ref h2, .int 0, .int 500, .int 0, .int 0, .int 0, .ref h3])), (h3, .inr (1, [.int 1, .ref (u3 0), .int 1])), (q2, .inl (κ 0, 2, .inl (upd (upd (fun _ => 0) 0 1) 1 p0))), ((u3 0), .inl (κ 5, 10, .inr (.inr (.inr (.inr (va_up (fun _ => none) 0 (some q2)))))))] := hD
  rw [hw]
  refine lv_pop hx hb dX6_addStep_125 rfl ?_
  refine lv_aload_n hx hb dX6_addStep_126 rfl (lv_at hl 0 rfl) ?_
  refine va_get (D := D) (ci := 8) (v := .ref h3) (C := RX6) (T := TX6) (N := 11) hx hb hts wi_X6_addStep_RX6 hown hK hP 0 rfl rfl 10 (by decide) (hts _ wd382_X6_addStep) (fun _ h9 => h9) rfl dX6_addStep_127 ?_
  refine vp_callSi (W.runV (As := []) (rest := []) ⟨hx, hb, hml, hown, hts⟩ (k_Jx4a65c_size_8abf5_1 l D κ ε h3 (u3 0) (1)) (cwV 0 hts gX6_addStep_Jx4a65c_size_8abf5 rfl rfl rfl (by decide +kernel) ⟨(Nat.le_of_ble_eq_true rfl), (Nat.le_of_ble_eq_true rfl)⟩) (pre0_V (q0 := 1) (ci := 1) (wc := [(h3, .inr (1, [.int 1, .ref (u3 0), .int 1]))]) hP hK [1] rfl rfl rfl) rfl rfl hl.1 rfl (lv_room (Nat.le_of_ble_eq_true rfl)) dX6_addStep_130 ⟨(Nat.le_of_ble_eq_true rfl), (Nat.le_of_ble_eq_true rfl)⟩) (fun r hw => ?_)
  rw [hw]
  refine lv_iconst (v := 1) hx hb dX6_addStep_133 (by decide) ?_
  refine lv_isub hx hb dX6_addStep_134 ?_
  refine tpi (v := 0) (by decide) ?_
  have hP9 := hP.sub (ws' := [(h0, .inr (8, [.int 0, .int 0, .int 2, .ref h1, .ref h2, .int 0, .int 500, .int 0, .int 0, .int 0, .ref h3]))]) [0] rfl
  have hD9 := hD.sub (ws' := [(h0, .inr (8, [.int 0, .int 0, .int 2, .ref h1, .ref h2, .int 0, .int 500, .int 0, .int 0, .int 0, .ref h3]))]) [0] (by decide) rfl
  refine W.widen (k := 2) (n := 12) (Nat.le_of_ble_eq_true rfl) (Nat.le_of_ble_eq_true rfl) ?_
  exact W.iret (v := 0) hx hb hr (fun t ht hW => ⟨⟨0, [.int 0, .int 0, .int 2, .ref h1, .ref h2, .int 0, .int 500, .int 0, .int 0, .int 0, .ref h3], rfl, ⟨rfl, rfl⟩, by rw [ht]; exact hP9, hD9⟩, hS.F ht⟩) hS.2.2 dX6_addStep_135

set_option maxHeartbeats 4000000 in
set_option maxRecDepth 100000 in
theorem k_X5_isStep_2 (l : Launch) (D : va_G) (κ ε : Nat → Nat) (h0 h1 h2 h3 h4 h5 h6 h7 h8 : Nat) (p0 : Int32) (p1 : Int32) (p2 : Int32) (p3 : Int32) (p4 : Int32) : Met l yX5_isStep wsX5_isStep ({ frames := 1, cells := 0, slots := 0, locals := 21 }) (va_Pc [.ref h0, .int 2, .int p0] (Pre0 D κ [(h0, .inr (7, [.ref h1, .ref h2, .ref h3, .ref h4, .ref h5, .ref h6, .int p1, .int p2, .int p3, .int 0])), (h1, .inr (2, [.int 0, .int p4, .ref h7, .ref h8]))])) (vp_Si (fun r => ((p0 < 0) ∧ (r = 0)) ∨ ((¬ p0 < 0) ∧ (r = 0)))) 0 0 (fun _ => False) := by
  refine Met.ofW (cc := cX5_isStep) (maxL := 3) (ret := (some .boolean)) (by decide) rfl ?_
  intro p e s m args below meth c s₁ B hml hv
  obtain ⟨rfl, hP, hK⟩ := hv
  have hx := B.exec
  have hb := B.bytes
  have hr := B.returns
  have hts := atoms_spec (ws := wsX5_isStep) B.pre
  have hown : s.vm.findClass RX5 = some m.cls := findClass_of_methodNamed B.named
  have hlocks := B.notSynchronized
  have hP : va_P D vwCl [(h0, .inr (7, [.ref h1, .ref h2, .ref h3, .ref h4, .ref h5, .ref h6, .int p1, .int p2, .int p3, .int 0])), (h1, .inr (2, [.int 0, .int p4, .ref h7, .ref h8]))] s.heap := hP
  have hl := lv_entry [.ref h0, .int 2, .int p0] (n := 3) (Nat.le_of_ble_eq_true rfl)
  rw [lg_entry_eq]
  generalize (lg_sl [.ref h0, .int 2, .int p0] ++ List.replicate (3 - (lg_sl [.ref h0, .int 2, .int p0]).length) Slot.unset).toArray = ls at hl ⊢
  have hl : lv_has ls 3 [(0, .ref h0), (1, .int 2), (2, .int p0)] := hl
  refine lv_iload_n hx hb dX5_isStep_0 rfl (lv_at hl 1 rfl) ?_
  refine lv_tableIn (tgt := 42) (off := 41) hx hb dX5_isStep_1 (by decide) (by decide) (by decide) (by decide) ?_
  refine lv_aload_n hx hb dX5_isStep_42 rfl (lv_at hl 0 rfl) ?_
  refine lv_iload_n hx hb dX5_isStep_43 rfl (lv_at hl 2 rfl) ?_
  refine vp_callSi (W.runV (As := [.int p0]) (rest := []) ⟨hx, hb, hml, hown, hts⟩ (k_X5_isWord_0 l D κ ε h0 h1 h2 h3 h4 h5 h6 h7 h8 (p0) (p1) (p2) (p3) (p4)) (cwV 1 hts gX5_isStep_X5_isWord rfl rfl rfl (by decide +kernel) ⟨(Nat.le_of_ble_eq_true rfl), (Nat.le_of_ble_eq_true rfl)⟩) (pre0_V (q0 := 0) (ci := 7) (wc := [(h0, .inr (7, [.ref h1, .ref h2, .ref h3, .ref h4, .ref h5, .ref h6, .int p1, .int p2, .int p3, .int 0])), (h1, .inr (2, [.int 0, .int p4, .ref h7, .ref h8]))]) hP hK [0, 1] rfl rfl rfl) rfl rfl hl.1 rfl (lv_room (Nat.le_of_ble_eq_true rfl)) dX5_isStep_44 ⟨(Nat.le_of_ble_eq_true rfl), (Nat.le_of_ble_eq_true rfl)⟩) (fun r hw => ?_)
  rcases hw with ⟨c1, rfl⟩ | ⟨c2, rfl⟩
  · skip
    exact W.zret (v := 0) hx hb hr rfl (fun t ht hW => ⟨0, rfl, (Or.inl ⟨c1, rfl⟩), ht⟩) (fun q hq => absurd hq List.not_mem_nil) dX5_isStep_47
  · skip
    exact W.zret (v := 0) hx hb hr rfl (fun t ht hW => ⟨0, rfl, (Or.inr ⟨c2, rfl⟩), ht⟩) (fun q hq => absurd hq List.not_mem_nil) dX5_isStep_47

theorem at1_X5_addStep_82 : ∀ w ∈ (vx_atS RX5 82 "java/lang/IllegalArgumentException" ["java/lang/RuntimeException", "java/lang/Exception"]).filter goodWord, w ∈ wsX5_addStep := by decide +kernel

theorem wd384_X5_addStep : (.classLink RX5 78 "java/lang/IllegalArgumentException" : Cond) ∈ wsX5_addStep := by decide +kernel

theorem wd385_X5_addStep : (.initialized "java/lang/IllegalArgumentException" : Cond) ∈ wsX5_addStep := by decide +kernel

set_option maxHeartbeats 4000000 in
set_option maxRecDepth 100000 in
theorem k_X5_addStep_2 (l : Launch) (hst : l.stackTraces = false) (D : va_G) (κ ε : Nat → Nat) (h0 h1 h2 h3 h4 h5 h6 h7 h8 : Nat) (sz : Nat) (p0 : Int32) : vx_Met l yX5_addStep wsX5_addStep ({ frames := 6, cells := 1, slots := 6, locals := 120 }) (va_Pc [.ref h0, .int 2, .int p0] (Pre2 D κ ε [(h0, .inr (7, [.ref h1, .ref h2, .ref h3, .ref h4, .ref h5, .ref h6, .int 0, .int 0, .int 0, .int 0])), (h1, .inr (2, [.int 0, .int 2, .ref h7, .ref h8]))] sz)) (va_Qi (fun r (u : Unit) => False) (fun _ _ => True) (va_A [(h0, .inr (7, [.ref h1, .ref h2, .ref h3, .ref h4, .ref h5, .ref h6, .int 0, .int 0, .int 0, .int 0])), (h1, .inr (2, [.int 0, .int 2, .ref h7, .ref h8]))] sz)) (vx_X (fun _ : Unit => True) (fun E _ _ => ((p0 < 0) ∧ E = "java/lang/IllegalArgumentException") ∨ ((¬ p0 < 0) ∧ E = "java/lang/IllegalArgumentException")) (va_A [(h0, .inr (7, [.ref h1, .ref h2, .ref h3, .ref h4, .ref h5, .ref h6, .int 0, .int 0, .int 0, .int 0])), (h1, .inr (2, [.int 0, .int 2, .ref h7, .ref h8]))] sz)) 1 6 (va_A [(h0, .inr (7, [.ref h1, .ref h2, .ref h3, .ref h4, .ref h5, .ref h6, .int 0, .int 0, .int 0, .int 0])), (h1, .inr (2, [.int 0, .int 2, .ref h7, .ref h8]))] sz) := by
  refine vx_ofW (cc := cX5_addStep) (maxL := 3) (ret := (some .int)) (by decide) rfl ?_
  intro p e s m args below meth c s₁ B hml hnx hv
  obtain ⟨rfl, hsz, hP, hK, hD0, hE9⟩ := hv
  have hx := B.exec
  have hb := B.bytes
  have hr := B.returns
  have hts := atoms_spec (ws := wsX5_addStep) B.pre
  have hown : s.vm.findClass RX5 = some m.cls := findClass_of_methodNamed B.named
  have hlocks := B.notSynchronized
  subst hsz
  have hD := hD0.self (sz := s.heap.size)
  generalize hAe : va_A [(h0, .inr (7, [.ref h1, .ref h2, .ref h3, .ref h4, .ref h5, .ref h6, .int 0, .int 0, .int 0, .int 0])), (h1, .inr (2, [.int 0, .int 2, .ref h7, .ref h8]))] s.heap.size = A at hD hE9 ⊢
  have hE := hE9.1
  have hDc := hE9.2
  have hA : ∀ q : Nat, s.heap.size ≤ q → A q := fun q h => by rw [← hAe]; exact Or.inr h
  have hS : va_S A s.heap s.heap [] := va_S.rf
  have hP : va_P D vwCl [(h0, .inr (7, [.ref h1, .ref h2, .ref h3, .ref h4, .ref h5, .ref h6, .int 0, .int 0, .int 0, .int 0])), (h1, .inr (2, [.int 0, .int 2, .ref h7, .ref h8]))] s.heap := hP
  have hl := lv_entry [.ref h0, .int 2, .int p0] (n := 3) (Nat.le_of_ble_eq_true rfl)
  rw [lg_entry_eq]
  generalize (lg_sl [.ref h0, .int 2, .int p0] ++ List.replicate (3 - (lg_sl [.ref h0, .int 2, .int p0]).length) Slot.unset).toArray = ls at hl ⊢
  have hl : lv_has ls 3 [(0, .ref h0), (1, .int 2), (2, .int p0)] := hl
  refine lv_aload_n hx hb dX5_addStep_0 rfl (lv_at hl 0 rfl) ?_
  refine lv_iload_n hx hb dX5_addStep_1 rfl (lv_at hl 1 rfl) ?_
  refine lv_iload_n hx hb dX5_addStep_2 rfl (lv_at hl 2 rfl) ?_
  refine vp_callSi (W.runV (As := [.int 2, .int p0]) (rest := []) ⟨hx, hb, hml, hown, hts⟩ (k_X5_isStep_2 l D κ ε h0 h1 h2 h3 h4 h5 h6 h7 h8 (p0) (0) (0) (0) (2)) (cwV 2 hts gX5_addStep_X5_isStep rfl rfl rfl (by decide +kernel) ⟨(Nat.le_of_ble_eq_true rfl), (Nat.le_of_ble_eq_true rfl)⟩) (pre0_V (q0 := 0) (ci := 7) (wc := [(h0, .inr (7, [.ref h1, .ref h2, .ref h3, .ref h4, .ref h5, .ref h6, .int 0, .int 0, .int 0, .int 0])), (h1, .inr (2, [.int 0, .int 2, .ref h7, .ref h8]))]) hP hK [0, 1] rfl rfl rfl) rfl rfl hl.1 rfl (lv_room (Nat.le_of_ble_eq_true rfl)) dX5_addStep_3 ⟨(Nat.le_of_ble_eq_true rfl), (Nat.le_of_ble_eq_true rfl)⟩) (fun r hw => ?_)
  rcases hw with ⟨c1, rfl⟩ | ⟨c2, rfl⟩
  · skip
    refine lv_if_ne (tgt := 19) hx hb dX5_addStep_6 (by decide) (fun h => absurd (by decide) h) (fun _ => ?_)
    exact vx_throwS (names := ["java/lang/RuntimeException", "java/lang/Exception"]) (sa := ε 30) hx hb hst hown (by decide +kernel) (by decide +kernel) (hts _ wd384_X5_addStep) (hts _ wd385_X5_addStep) (hE.2.2.2.2.2.2.1 _ (List.mem_of_getElem? (i := 20) rfl)) (vx_hat (B := [.castable "java/lang/IllegalArgumentException" "java/lang/IllegalArgumentException", .declares (Bundle.initS "java/lang/RuntimeException"), .declares (Bundle.initS "java/lang/Exception"), .declares (Bundle.initS "java/lang/Throwable")]) (fun w hw => hts w (at1_X5_addStep_82 w hw)) at2_RX5_82 (vx_c (va_Nw.use rfl hE.2.2.2.2.2.2.2.2.2.2.2.2.2.2.1) (vx_c (va_Nw.use rfl hDc.1) (vx_c (va_Nw.use rfl hDc.2.1) (vx_c (va_Nw.use rfl hDc.2.2) vx_n))))) at2_RX5_82g hE.1 hE.2.1 hS (by rw [hml]; exact hl.1) dX5_addStep_9 dX5_addStep_12 dX5_addStep_13 dX5_addStep_15 dX5_addStep_18 (fun x hx => (hnx x hx).elim) (by decide) (by decide) (Nat.le_of_ble_eq_true rfl) (Nat.le_of_ble_eq_true rfl) hlocks (fun t _ h1 h2 => ⟨(), trivial, (Or.inl ⟨c1, rfl⟩), thF (H0 := s.heap) hS h1 h2⟩) hS.2.2 (Nat.le_of_ble_eq_true rfl) (Nat.le_of_ble_eq_true rfl)
  · skip
    refine lv_if_ne (tgt := 19) hx hb dX5_addStep_6 (by decide) (fun h => absurd (by decide) h) (fun _ => ?_)
    exact vx_throwS (names := ["java/lang/RuntimeException", "java/lang/Exception"]) (sa := ε 30) hx hb hst hown (by decide +kernel) (by decide +kernel) (hts _ wd384_X5_addStep) (hts _ wd385_X5_addStep) (hE.2.2.2.2.2.2.1 _ (List.mem_of_getElem? (i := 20) rfl)) (vx_hat (B := [.castable "java/lang/IllegalArgumentException" "java/lang/IllegalArgumentException", .declares (Bundle.initS "java/lang/RuntimeException"), .declares (Bundle.initS "java/lang/Exception"), .declares (Bundle.initS "java/lang/Throwable")]) (fun w hw => hts w (at1_X5_addStep_82 w hw)) at2_RX5_82 (vx_c (va_Nw.use rfl hE.2.2.2.2.2.2.2.2.2.2.2.2.2.2.1) (vx_c (va_Nw.use rfl hDc.1) (vx_c (va_Nw.use rfl hDc.2.1) (vx_c (va_Nw.use rfl hDc.2.2) vx_n))))) at2_RX5_82g hE.1 hE.2.1 hS (by rw [hml]; exact hl.1) dX5_addStep_9 dX5_addStep_12 dX5_addStep_13 dX5_addStep_15 dX5_addStep_18 (fun x hx => (hnx x hx).elim) (by decide) (by decide) (Nat.le_of_ble_eq_true rfl) (Nat.le_of_ble_eq_true rfl) hlocks (fun t _ h1 h2 => ⟨(), trivial, (Or.inr ⟨c2, rfl⟩), thF (H0 := s.heap) hS h1 h2⟩) hS.2.2 (Nat.le_of_ble_eq_true rfl) (Nat.le_of_ble_eq_true rfl)

theorem wd386_L_addStep : (.classLink RL 19 "java/lang/IllegalArgumentException" : Cond) ∈ wsL_addStepx := by decide +kernel

set_option maxHeartbeats 4000000 in
set_option maxRecDepth 100000 in
theorem k_L_addStep_2 (l : Launch) (hst : l.stackTraces = false) (D : va_G) (κ ε : Nat → Nat) (h0 h1 h2 h3 h4 h5 h6 h7 h8 h9 : Nat) (sz : Nat) (p0 : Int32) : Met l yL_addStep wsL_addStepx ({ frames := 7, cells := 1, slots := 6, locals := 142 }) (va_Pc [.ref h0, .int 2, .int p0, .ref h1] (Pre2 D κ ε [(h0, .inr (7, [.ref h2, .ref h3, .ref h4, .ref h5, .ref h6, .ref h7, .int 0, .int 0, .int 0, .int 0])), (h1, .inl (κ 2, 1, .inr (.inl (fun _ => 0)))), (h2, .inr (2, [.int 0, .int 2, .ref h8, .ref h9]))] sz)) (va_Qi (fun r (u : Nat → Int64) => ((p0 < 0) ∧ (r = 1)) ∨ ((¬ p0 < 0) ∧ (r = 1))) (fun u t => va_P D vwCl [(h1, .inl (κ 2, 1, .inr (.inl u)))] t.heap ∧ va_D (va_A [(h0, .inr (7, [.ref h2, .ref h3, .ref h4, .ref h5, .ref h6, .ref h7, .int 0, .int 0, .int 0, .int 0])), (h1, .inl (κ 2, 1, .inr (.inl (fun _ => 0)))), (h2, .inr (2, [.int 0, .int 2, .ref h8, .ref h9]))] sz) [(h1, .inl (κ 2, 1, .inr (.inl u)))]) (va_A [(h0, .inr (7, [.ref h2, .ref h3, .ref h4, .ref h5, .ref h6, .ref h7, .int 0, .int 0, .int 0, .int 0])), (h1, .inl (κ 2, 1, .inr (.inl (fun _ => 0)))), (h2, .inr (2, [.int 0, .int 2, .ref h8, .ref h9]))] sz)) 1 6 (va_A [(h0, .inr (7, [.ref h2, .ref h3, .ref h4, .ref h5, .ref h6, .ref h7, .int 0, .int 0, .int 0, .int 0])), (h1, .inl (κ 2, 1, .inr (.inl (fun _ => 0)))), (h2, .inr (2, [.int 0, .int 2, .ref h8, .ref h9]))] sz) := by
  refine va_MetW (cc := cL_addStep) (maxL := 5) (ret := (some .int)) (hh := [(0, 10, 13, 19), (0, 10, 17, 13)]) (by decide) rfl ?_
  intro p e s m args below meth c s₁ B hml hv
  obtain ⟨rfl, hsz, hP, hK, hD0, hE9⟩ := hv
  have hx := B.exec
  have hb := B.bytes
  have hr := B.returns
  have hts := atoms_spec (ws := wsL_addStepx) B.pre
  have hown : s.vm.findClass RL = some m.cls := findClass_of_methodNamed B.named
  have hlocks := B.notSynchronized
  have htab : c.exceptionTable.toList = tableOf [(0, 10, 13, 19), (0, 10, 17, 13)] := vx_table (x := yL_addStep) B (hts (.codeWith yL_addStep cL_addStep 5 (some .int) [(0, 10, 13, 19), (0, 10, 17, 13)]) List.mem_cons_self)
  subst hsz
  have hD := hD0.self (sz := s.heap.size)
  generalize hAe : va_A [(h0, .inr (7, [.ref h2, .ref h3, .ref h4, .ref h5, .ref h6, .ref h7, .int 0, .int 0, .int 0, .int 0])), (h1, .inl (κ 2, 1, .inr (.inl (fun _ => 0)))), (h2, .inr (2, [.int 0, .int 2, .ref h8, .ref h9]))] s.heap.size = A at hD hE9 ⊢
  have hE := hE9.1
  have hDc := hE9.2
  have hA : ∀ q : Nat, s.heap.size ≤ q → A q := fun q h => by rw [← hAe]; exact Or.inr h
  have hS : va_S A s.heap s.heap [] := va_S.rf
  have hP : va_P D vwCl [(h0, .inr (7, [.ref h2, .ref h3, .ref h4, .ref h5, .ref h6, .ref h7, .int 0, .int 0, .int 0, .int 0])), (h1, .inl (κ 2, 1, .inr (.inl (fun _ => 0)))), (h2, .inr (2, [.int 0, .int 2, .ref h8, .ref h9]))] s.heap := hP
  have hl := lv_entry [.ref h0, .int 2, .int p0, .ref h1] (n := 5) (Nat.le_of_ble_eq_true rfl)
  rw [lg_entry_eq]
  generalize (lg_sl [.ref h0, .int 2, .int p0, .ref h1] ++ List.replicate (5 - (lg_sl [.ref h0, .int 2, .int p0, .ref h1]).length) Slot.unset).toArray = ls at hl ⊢
  have hl : lv_has ls 5 [(0, .ref h0), (1, .int 2), (2, .int p0), (3, .ref h1)] := hl
  refine lv_aload_n hx hb dL_addStep_0 rfl (lv_at hl 3 rfl) ?_
  refine lv_iconst (v := 0) hx hb dL_addStep_1 (by decide) ?_
  refine lv_aload_n hx hb dL_addStep_2 rfl (lv_at hl 0 rfl) ?_
  refine lv_iload_n hx hb dL_addStep_3 rfl (lv_at hl 1 rfl) ?_
  refine lv_iload_n hx hb dL_addStep_4 rfl (lv_at hl 2 rfl) ?_
  have hF := va_free (wc := [(h0, .inr (7, [.ref h2, .ref h3, .ref h4, .ref h5, .ref h6, .ref h7, .int 0, .int 0, .int 0, .int 0])), (h2, .inr (2, [.int 0, .int 2, .ref h8, .ref h9]))]) hD hS hA [0, 2] rfl
  refine vx_calli (vx_runV (As := [.int 2, .int p0]) (rest := [.int 0, .ref h1]) ⟨hx, hb, hml, hown, hts⟩ (k_X5_addStep_2 l hst D κ ε h0 h2 h3 h4 h5 h6 h7 h8 h9 s.heap.size (p0)) (cwV 2 hts gL_addStep_X5_addStep_x rfl rfl rfl (by decide +kernel) ⟨(Nat.le_of_ble_eq_true rfl), (Nat.le_of_ble_eq_true rfl)⟩) (pre2_V (q0 := 0) (ci := 7) (wc := [(h0, .inr (7, [.ref h2, .ref h3, .ref h4, .ref h5, .ref h6, .ref h7, .int 0, .int 0, .int 0, .int 0])), (h2, .inr (2, [.int 0, .int 2, .ref h8, .ref h9]))]) hP hD hK hE9 hS hA [0, 2] (by decide) rfl rfl rfl) rfl rfl hl.1 rfl (lv_room (Nat.le_of_ble_eq_true rfl)) dL_addStep_5 ⟨(Nat.le_of_ble_eq_true rfl), (Nat.le_of_ble_eq_true rfl)⟩) hS (fun q _ h => hF q h) hF (fun q _ h => hF q h) (fun E9 ce q9 u t H locs ht hvm hw hB hz1 hk1 hS hce hcv hcl => ?_) (fun r u t H locs ht hvm hw hB hz1 hk1 hS => ?_)
  · try dsimp only at hB
    have hP1 : va_P D vwCl [] H := P_nil
    obtain ⟨hP, hD⟩ := post_j (ws' := [(h1, .inl (κ 2, 1, .inr (.inl (fun _ => 0))))]) (wr := [(h1, .inl (κ 2, 1, .inr (.inl (fun _ => 0))))]) (w1 := []) hP hD hF [0, 2] rfl [1] rfl (by decide) (by decide) hk1 hP1 D_nil [0] (by decide) rfl
    have hP : va_P D vwCl [(h1, .inl (κ 2, 1, .inr (.inl (fun _ => 0))))] H := hP
    have hD : va_D A [(h1, .inl (κ 2, 1, .inr (.inl (fun _ => 0))))] := hD
    rcases hB with ⟨c2, rfl⟩ | ⟨c3, rfl⟩
    · skip
      refine vx_catch (name := "java/lang/IllegalArgumentException") hown [] ⟨0, 10, 13, 19⟩ [⟨0, 10, 17, 13⟩] (htab.trans rfl) (fun z hz => nomatch hz) (by decide) (by decide) (hts _ wd386_L_addStep) (va_Nw.use rfl hE.2.2.2.2.2.2.2.2.2.2.2.2.2.2.1) hce hcv hcl ?_
      refine lv_astore (lv' := [(4, .ref q9), (0, .ref h0), (1, .int 2), (2, .int p0), (3, .ref h1)]) hx hb dL_addStep_13 hl (by decide) rfl (fun ls hl => ?_)
      refine lv_iconst (v := 1) hx hb dL_addStep_15 (by decide) ?_
      have hP9 := hP.sub (ws' := [(h1, .inl (κ 2, 1, .inr (.inl (fun _ => 0))))]) [0] rfl
      have hD9 := hD.sub (ws' := [(h1, .inl (κ 2, 1, .inr (.inl (fun _ => 0))))]) [0] (by decide) rfl
      refine W.widen (k := 1) (n := 6) (Nat.le_of_ble_eq_true rfl) (Nat.le_of_ble_eq_true rfl) ?_
      exact W.iret (v := 1) hx hb hr (fun t ht hW => ⟨⟨1, (fun _ => 0), rfl, (Or.inl ⟨c2, rfl⟩), by rw [ht]; exact hP9, hD9⟩, hS.F ht⟩) hS.2.2 dL_addStep_16
    · skip
      refine vx_catch (name := "java/lang/IllegalArgumentException") hown [] ⟨0, 10, 13, 19⟩ [⟨0, 10, 17, 13⟩] (htab.trans rfl) (fun z hz => nomatch hz) (by decide) (by decide) (hts _ wd386_L_addStep) (va_Nw.use rfl hE.2.2.2.2.2.2.2.2.2.2.2.2.2.2.1) hce hcv hcl ?_
      refine lv_astore (lv' := [(4, .ref q9), (0, .ref h0), (1, .int 2), (2, .int p0), (3, .ref h1)]) hx hb dL_addStep_13 hl (by decide) rfl (fun ls hl => ?_)
      refine lv_iconst (v := 1) hx hb dL_addStep_15 (by decide) ?_
      have hP9 := hP.sub (ws' := [(h1, .inl (κ 2, 1, .inr (.inl (fun _ => 0))))]) [0] rfl
      have hD9 := hD.sub (ws' := [(h1, .inl (κ 2, 1, .inr (.inl (fun _ => 0))))]) [0] (by decide) rfl
      refine W.widen (k := 1) (n := 6) (Nat.le_of_ble_eq_true rfl) (Nat.le_of_ble_eq_true rfl) ?_
      exact W.iret (v := 1) hx hb hr (fun t ht hW => ⟨⟨1, (fun _ => 0), rfl, (Or.inr ⟨c3, rfl⟩), by rw [ht]; exact hP9, hD9⟩, hS.F ht⟩) hS.2.2 dL_addStep_16
  · exact False.elim hw

set_option maxHeartbeats 4000000 in
set_option maxRecDepth 100000 in
theorem k_X6_isIn_41 (l : Launch) (D : va_G) (κ ε : Nat → Nat) : Met l yX6_isIn wsX6_isIn ({ frames := 0, cells := 0, slots := 0, locals := 0 }) (va_Pc [.int 2, .int 0, .int 5] (Pre0 D κ [])) (vp_Si (fun r => (r = 1))) 0 0 (fun _ => False) := by
  refine Met.ofW (cc := cX6_isIn) (maxL := 3) (ret := (some .boolean)) (by decide) rfl ?_
  intro p e s m args below meth c s₁ B hml hv
  obtain ⟨rfl, hP, hK⟩ := hv
  have hx := B.exec
  have hb := B.bytes
  have hr := B.returns
  have hts := atoms_spec (ws := wsX6_isIn) B.pre
  have hown : s.vm.findClass RX6 = some m.cls := findClass_of_methodNamed B.named
  have hlocks := B.notSynchronized
  have hP : va_P D vwCl [] s.heap := hP
  have hl := lv_entry [.int 2, .int 0, .int 5] (n := 3) (Nat.le_of_ble_eq_true rfl)
  rw [lg_entry_eq]
  generalize (lg_sl [.int 2, .int 0, .int 5] ++ List.replicate (3 - (lg_sl [.int 2, .int 0, .int 5]).length) Slot.unset).toArray = ls at hl ⊢
  have hl : lv_has ls 3 [(0, .int 2), (1, .int 0), (2, .int 5)] := hl
  refine lv_iload_n hx hb dX6_isIn_0 rfl (lv_at hl 0 rfl) ?_
  refine lv_iload_n hx hb dX6_isIn_1 rfl (lv_at hl 1 rfl) ?_
  refine lv_icmp_lt (tgt := 14) hx hb dX6_isIn_2 (by decide) (fun h => absurd h (by decide)) (fun _ => ?_)
  refine lv_iload_n hx hb dX6_isIn_5 rfl (lv_at hl 0 rfl) ?_
  refine lv_iload_n hx hb dX6_isIn_6 rfl (lv_at hl 2 rfl) ?_
  refine lv_icmp_gt (tgt := 14) hx hb dX6_isIn_7 (by decide) (fun h => absurd h (by decide)) (fun _ => ?_)
  refine lv_iconst (v := 1) hx hb dX6_isIn_10 (by decide) ?_
  refine lv_goto (tgt := 15) hx hb dX6_isIn_11 (by decide) ?_
  exact W.zret (v := 1) hx hb hr rfl (fun t ht hW => ⟨1, rfl, rfl, ht⟩) (fun q hq => absurd hq List.not_mem_nil) dX6_isIn_15

theorem wd387_X6_addStep : (.fieldLink RX6 56 "CanticleModel" "words" "I" : Cond) ∈ wsX6_addStep := by decide +kernel

set_option maxHeartbeats 4000000 in
set_option maxRecDepth 100000 in
theorem k_X6_addStep_2 (l : Launch) (D : va_G) (κ ε : Nat → Nat) (h0 h1 h2 h3 : Nat) (sz : Nat) (p0 : Int32) (hf0 : p0 < 0) : Met l yX6_addStep wsX6_addStep ({ frames := 2, cells := 0, slots := 0, locals := 44 }) (va_Pc [.ref h0, .int 2, .int p0] (Pre2 D κ ε [(h0, .inr (8, [.int 0, .int 0, .int 2, .ref h1, .ref h2, .int 0, .int 500, .int 0, .int 0, .int 0, .ref h3]))] sz)) (va_Qi (fun r (u : List Value) => (u[0]? = some (.int 1)) ∧ (r = 0)) (fun u t => va_P D vwCl [(h0, .inr (8, u))] t.heap ∧ va_D (va_A [(h0, .inr (8, [.int 0, .int 0, .int 2, .ref h1, .ref h2, .int 0, .int 500, .int 0, .int 0, .int 0, .ref h3]))] sz) [(h0, .inr (8, u))]) (va_A [(h0, .inr (8, [.int 0, .int 0, .int 2, .ref h1, .ref h2, .int 0, .int 500, .int 0, .int 0, .int 0, .ref h3]))] sz)) 0 0 (va_A [(h0, .inr (8, [.int 0, .int 0, .int 2, .ref h1, .ref h2, .int 0, .int 500, .int 0, .int 0, .int 0, .ref h3]))] sz) := by
  refine Met.ofW (cc := cX6_addStep) (maxL := 3) (ret := (some .int)) (by decide) rfl ?_
  intro p e s m args below meth c s₁ B hml hv
  obtain ⟨rfl, hsz, hP, hK, hD0, hE9⟩ := hv
  have hx := B.exec
  have hb := B.bytes
  have hr := B.returns
  have hts := atoms_spec (ws := wsX6_addStep) B.pre
  have hown : s.vm.findClass RX6 = some m.cls := findClass_of_methodNamed B.named
  have hlocks := B.notSynchronized
  subst hsz
  have hD := hD0.self (sz := s.heap.size)
  generalize hAe : va_A [(h0, .inr (8, [.int 0, .int 0, .int 2, .ref h1, .ref h2, .int 0, .int 500, .int 0, .int 0, .int 0, .ref h3]))] s.heap.size = A at hD hE9 ⊢
  have hE := hE9.1
  have hDc := hE9.2
  have hA : ∀ q : Nat, s.heap.size ≤ q → A q := fun q h => by rw [← hAe]; exact Or.inr h
  have hS : va_S A s.heap s.heap [] := va_S.rf
  have hP : va_P D vwCl [(h0, .inr (8, [.int 0, .int 0, .int 2, .ref h1, .ref h2, .int 0, .int 500, .int 0, .int 0, .int 0, .ref h3]))] s.heap := hP
  have hl := lv_entry [.ref h0, .int 2, .int p0] (n := 3) (Nat.le_of_ble_eq_true rfl)
  rw [lg_entry_eq]
  generalize (lg_sl [.ref h0, .int 2, .int p0] ++ List.replicate (3 - (lg_sl [.ref h0, .int 2, .int p0]).length) Slot.unset).toArray = ls at hl ⊢
  have hl : lv_has ls 3 [(0, .ref h0), (1, .int 2), (2, .int p0)] := hl
  refine lv_aload_n hx hb dX6_addStep_0 rfl (lv_at hl 0 rfl) ?_
  refine lv_iload_n hx hb dX6_addStep_1 rfl (lv_at hl 1 rfl) ?_
  refine lv_iconst (v := 0) hx hb dX6_addStep_2 (by decide) ?_
  refine lv_iconst (v := 5) hx hb dX6_addStep_3 (by decide) ?_
  refine vp_callSi (W.runS (As := [.int 2, .int 0, .int 5]) (rest := [.ref h0]) ⟨hx, hb, hml, hown, hts⟩ (k_X6_isIn_41 l D κ ε) (va_cwS 3 hts gX6_addStep_X6_isIn rfl rfl rfl (by decide +kernel) ⟨(Nat.le_of_ble_eq_true rfl), (Nat.le_of_ble_eq_true rfl)⟩) (pre0_S (wc := []) hP hK [] rfl) rfl rfl hl.1 rfl (lv_room (Nat.le_of_ble_eq_true rfl)) dX6_addStep_4 ⟨(Nat.le_of_ble_eq_true rfl), (Nat.le_of_ble_eq_true rfl)⟩) (fun r hw => ?_)
  rw [hw]
  refine lv_if_eq (tgt := 66) hx hb dX6_addStep_7 (by decide) (fun h => absurd h (by decide)) (fun _ => ?_)
  refine lv_iload_n hx hb dX6_addStep_10 rfl (lv_at hl 1 rfl) ?_
  refine lv_iconst (v := 2) hx hb dX6_addStep_11 (by decide) ?_
  refine lv_icmp_ne (tgt := 29) hx hb dX6_addStep_12 (by decide) (fun h => absurd (by decide) h) (fun _ => ?_)
  refine lv_iload_n hx hb dX6_addStep_15 rfl (lv_at hl 2 rfl) ?_
  refine lv_iconst (v := 0) hx hb dX6_addStep_16 (by decide) ?_
  refine lv_aload_n hx hb dX6_addStep_17 rfl (lv_at hl 0 rfl) ?_
  refine va_get (D := D) (ci := 8) (v := .int 0) (C := RX6) (T := TX6) (N := 11) hx hb hts wi_X6_addStep_RX6 hown hK hP 0 rfl rfl 1 (by decide) (hts _ wd387_X6_addStep) (fun _ h9 => h9) rfl dX6_addStep_18 ?_
  refine lv_iconst (v := 1) hx hb dX6_addStep_21 (by decide) ?_
  refine lv_isub hx hb dX6_addStep_22 ?_
  refine tpi (v := (-1)) (by decide) ?_
  refine vp_callSi (W.runS (As := [.int p0, .int 0, .int (-1)]) (rest := [.ref h0]) ⟨hx, hb, hml, hown, hts⟩ (k_X6_isIn_3 l D κ ε (p0) hf0) (va_cwS 3 hts gX6_addStep_X6_isIn rfl rfl rfl (by decide +kernel) ⟨(Nat.le_of_ble_eq_true rfl), (Nat.le_of_ble_eq_true rfl)⟩) (pre0_S (wc := []) hP hK [] rfl) rfl rfl hl.1 rfl (lv_room (Nat.le_of_ble_eq_true rfl)) dX6_addStep_23 ⟨(Nat.le_of_ble_eq_true rfl), (Nat.le_of_ble_eq_true rfl)⟩) (fun r hw => ?_)
  rw [hw]
  refine lv_if_eq (tgt := 66) hx hb dX6_addStep_26 (by decide) (fun _ => ?_) (fun h => absurd (by decide) h)
  refine lv_iconst (v := 1) hx hb dX6_addStep_66 (by decide) ?_
  refine lv_goto (tgt := 71) hx hb dX6_addStep_67 (by decide) ?_
  refine lv_iconst (v := 1) hx hb dX6_addStep_71 (by decide) ?_
  have hF := va_free (wc := [(h0, .inr (8, [.int 0, .int 0, .int 2, .ref h1, .ref h2, .int 0, .int 500, .int 0, .int 0, .int 0, .ref h3]))]) hD hS hA [0] rfl
  refine va_calli (va_runV (As := [.int 1, .int 1]) (rest := []) ⟨hx, hb, hml, hown, hts⟩ (k_X6_start_1 l D κ ε h0 h1 h2 h3 s.heap.size (0) (2) (0) (500) (0) (0)) (cwV 2 hts gX6_addStep_X6_start rfl rfl rfl (by decide +kernel) ⟨(Nat.le_of_ble_eq_true rfl), (Nat.le_of_ble_eq_true rfl)⟩) (pre2_V (q0 := 0) (ci := 8) (wc := [(h0, .inr (8, [.int 0, .int 0, .int 2, .ref h1, .ref h2, .int 0, .int 500, .int 0, .int 0, .int 0, .ref h3]))]) hP hD hK hE9 hS hA [0] (by decide) rfl rfl rfl) rfl rfl hl.1 rfl (lv_room (Nat.le_of_ble_eq_true rfl)) dX6_addStep_72 ⟨(Nat.le_of_ble_eq_true rfl), (Nat.le_of_ble_eq_true rfl)⟩) hS (fun q _ h => hF q h) hF (fun r u1 t H locs ht hvm hw hB hz1 hk1 hS => ?_)
  try dsimp only at hw hB
  obtain ⟨hP1, hD1⟩ := hB
  rw [ht] at hP1
  obtain ⟨hP, hD⟩ := post_j (ws' := [(h0, .inr (8, [.int 1, .int 0, .int 2, .ref h1, .ref h2, .int 0, .int 500, .int 0, .int 0, .int 0, .ref h3]))]) (wr := []) (w1 := [(h0, .inr (8, [.int 1, .int 0, .int 2, .ref h1, .ref h2, .int 0, .int 500, .int 0, .int 0, .int 0, .ref h3]))]) hP hD hF [0] rfl [] rfl (by decide) (by decide) hk1 hP1 hD1 [0] (by decide) rfl
  have hP : va_P D vwCl [(h0, .inr (8, [.int 1, .int 0, .int 2, .ref h1, .ref h2, .int 0, .int 500, .int 0, .int 0, .int 0, .ref h3]))] H := hP
  have hD : va_D A [(h0, .inr (8, [.int 1, .int 0, .int 2, .ref h1, .ref h2, .int 0, .int 500, .int 0, .int 0, .int 0, .ref h3]))] := hD
  rw [hw]
  refine lv_if_eq (tgt := 80) hx hb dX6_addStep_75 (by decide) (fun h => absurd h (by decide)) (fun _ => ?_)
  refine lv_iconst (v := 0) hx hb dX6_addStep_78 (by decide) ?_
  have hP9 := hP.sub (ws' := [(h0, .inr (8, [.int 1, .int 0, .int 2, .ref h1, .ref h2, .int 0, .int 500, .int 0, .int 0, .int 0, .ref h3]))]) [0] rfl
  have hD9 := hD.sub (ws' := [(h0, .inr (8, [.int 1, .int 0, .int 2, .ref h1, .ref h2, .int 0, .int 500, .int 0, .int 0, .int 0, .ref h3]))]) [0] (by decide) rfl
  exact W.iret (v := 0) hx hb hr (fun t ht hW => ⟨⟨0, [.int 1, .int 0, .int 2, .ref h1, .ref h2, .int 0, .int 500, .int 0, .int 0, .int 0, .ref h3], rfl, ⟨rfl, rfl⟩, by rw [ht]; exact hP9, hD9⟩, hS.F ht⟩) hS.2.2 dX6_addStep_79

set_option maxHeartbeats 4000000 in
set_option maxRecDepth 100000 in
theorem k_X6_addStep_3 (l : Launch) (D : va_G) (κ ε : Nat → Nat) (h0 h1 h2 h3 : Nat) (sz : Nat) (p0 : Int32) (hf0 : ¬ p0 < 0) : Met l yX6_addStep wsX6_addStep ({ frames := 2, cells := 0, slots := 0, locals := 44 }) (va_Pc [.ref h0, .int 2, .int p0] (Pre2 D κ ε [(h0, .inr (8, [.int 0, .int 0, .int 2, .ref h1, .ref h2, .int 0, .int 500, .int 0, .int 0, .int 0, .ref h3]))] sz)) (va_Qi (fun r (u : List Value) => (u[0]? = some (.int 1)) ∧ (r = 0)) (fun u t => va_P D vwCl [(h0, .inr (8, u))] t.heap ∧ va_D (va_A [(h0, .inr (8, [.int 0, .int 0, .int 2, .ref h1, .ref h2, .int 0, .int 500, .int 0, .int 0, .int 0, .ref h3]))] sz) [(h0, .inr (8, u))]) (va_A [(h0, .inr (8, [.int 0, .int 0, .int 2, .ref h1, .ref h2, .int 0, .int 500, .int 0, .int 0, .int 0, .ref h3]))] sz)) 0 0 (va_A [(h0, .inr (8, [.int 0, .int 0, .int 2, .ref h1, .ref h2, .int 0, .int 500, .int 0, .int 0, .int 0, .ref h3]))] sz) := by
  refine Met.ofW (cc := cX6_addStep) (maxL := 3) (ret := (some .int)) (by decide) rfl ?_
  intro p e s m args below meth c s₁ B hml hv
  obtain ⟨rfl, hsz, hP, hK, hD0, hE9⟩ := hv
  have hx := B.exec
  have hb := B.bytes
  have hr := B.returns
  have hts := atoms_spec (ws := wsX6_addStep) B.pre
  have hown : s.vm.findClass RX6 = some m.cls := findClass_of_methodNamed B.named
  have hlocks := B.notSynchronized
  subst hsz
  have hD := hD0.self (sz := s.heap.size)
  generalize hAe : va_A [(h0, .inr (8, [.int 0, .int 0, .int 2, .ref h1, .ref h2, .int 0, .int 500, .int 0, .int 0, .int 0, .ref h3]))] s.heap.size = A at hD hE9 ⊢
  have hE := hE9.1
  have hDc := hE9.2
  have hA : ∀ q : Nat, s.heap.size ≤ q → A q := fun q h => by rw [← hAe]; exact Or.inr h
  have hS : va_S A s.heap s.heap [] := va_S.rf
  have hP : va_P D vwCl [(h0, .inr (8, [.int 0, .int 0, .int 2, .ref h1, .ref h2, .int 0, .int 500, .int 0, .int 0, .int 0, .ref h3]))] s.heap := hP
  have hl := lv_entry [.ref h0, .int 2, .int p0] (n := 3) (Nat.le_of_ble_eq_true rfl)
  rw [lg_entry_eq]
  generalize (lg_sl [.ref h0, .int 2, .int p0] ++ List.replicate (3 - (lg_sl [.ref h0, .int 2, .int p0]).length) Slot.unset).toArray = ls at hl ⊢
  have hl : lv_has ls 3 [(0, .ref h0), (1, .int 2), (2, .int p0)] := hl
  refine lv_aload_n hx hb dX6_addStep_0 rfl (lv_at hl 0 rfl) ?_
  refine lv_iload_n hx hb dX6_addStep_1 rfl (lv_at hl 1 rfl) ?_
  refine lv_iconst (v := 0) hx hb dX6_addStep_2 (by decide) ?_
  refine lv_iconst (v := 5) hx hb dX6_addStep_3 (by decide) ?_
  refine vp_callSi (W.runS (As := [.int 2, .int 0, .int 5]) (rest := [.ref h0]) ⟨hx, hb, hml, hown, hts⟩ (k_X6_isIn_41 l D κ ε) (va_cwS 3 hts gX6_addStep_X6_isIn rfl rfl rfl (by decide +kernel) ⟨(Nat.le_of_ble_eq_true rfl), (Nat.le_of_ble_eq_true rfl)⟩) (pre0_S (wc := []) hP hK [] rfl) rfl rfl hl.1 rfl (lv_room (Nat.le_of_ble_eq_true rfl)) dX6_addStep_4 ⟨(Nat.le_of_ble_eq_true rfl), (Nat.le_of_ble_eq_true rfl)⟩) (fun r hw => ?_)
  rw [hw]
  refine lv_if_eq (tgt := 66) hx hb dX6_addStep_7 (by decide) (fun h => absurd h (by decide)) (fun _ => ?_)
  refine lv_iload_n hx hb dX6_addStep_10 rfl (lv_at hl 1 rfl) ?_
  refine lv_iconst (v := 2) hx hb dX6_addStep_11 (by decide) ?_
  refine lv_icmp_ne (tgt := 29) hx hb dX6_addStep_12 (by decide) (fun h => absurd (by decide) h) (fun _ => ?_)
  refine lv_iload_n hx hb dX6_addStep_15 rfl (lv_at hl 2 rfl) ?_
  refine lv_iconst (v := 0) hx hb dX6_addStep_16 (by decide) ?_
  refine lv_aload_n hx hb dX6_addStep_17 rfl (lv_at hl 0 rfl) ?_
  refine va_get (D := D) (ci := 8) (v := .int 0) (C := RX6) (T := TX6) (N := 11) hx hb hts wi_X6_addStep_RX6 hown hK hP 0 rfl rfl 1 (by decide) (hts _ wd387_X6_addStep) (fun _ h9 => h9) rfl dX6_addStep_18 ?_
  refine lv_iconst (v := 1) hx hb dX6_addStep_21 (by decide) ?_
  refine lv_isub hx hb dX6_addStep_22 ?_
  refine tpi (v := (-1)) (by decide) ?_
  refine vp_callSi (W.runS (As := [.int p0, .int 0, .int (-1)]) (rest := [.ref h0]) ⟨hx, hb, hml, hown, hts⟩ (k_X6_isIn_4 l D κ ε (p0) hf0) (va_cwS 3 hts gX6_addStep_X6_isIn rfl rfl rfl (by decide +kernel) ⟨(Nat.le_of_ble_eq_true rfl), (Nat.le_of_ble_eq_true rfl)⟩) (pre0_S (wc := []) hP hK [] rfl) rfl rfl hl.1 rfl (lv_room (Nat.le_of_ble_eq_true rfl)) dX6_addStep_23 ⟨(Nat.le_of_ble_eq_true rfl), (Nat.le_of_ble_eq_true rfl)⟩) (fun r hw => ?_)
  rw [hw]
  refine lv_if_eq (tgt := 66) hx hb dX6_addStep_26 (by decide) (fun _ => ?_) (fun h => absurd (by decide) h)
  refine lv_iconst (v := 1) hx hb dX6_addStep_66 (by decide) ?_
  refine lv_goto (tgt := 71) hx hb dX6_addStep_67 (by decide) ?_
  refine lv_iconst (v := 1) hx hb dX6_addStep_71 (by decide) ?_
  have hF := va_free (wc := [(h0, .inr (8, [.int 0, .int 0, .int 2, .ref h1, .ref h2, .int 0, .int 500, .int 0, .int 0, .int 0, .ref h3]))]) hD hS hA [0] rfl
  refine va_calli (va_runV (As := [.int 1, .int 1]) (rest := []) ⟨hx, hb, hml, hown, hts⟩ (k_X6_start_1 l D κ ε h0 h1 h2 h3 s.heap.size (0) (2) (0) (500) (0) (0)) (cwV 2 hts gX6_addStep_X6_start rfl rfl rfl (by decide +kernel) ⟨(Nat.le_of_ble_eq_true rfl), (Nat.le_of_ble_eq_true rfl)⟩) (pre2_V (q0 := 0) (ci := 8) (wc := [(h0, .inr (8, [.int 0, .int 0, .int 2, .ref h1, .ref h2, .int 0, .int 500, .int 0, .int 0, .int 0, .ref h3]))]) hP hD hK hE9 hS hA [0] (by decide) rfl rfl rfl) rfl rfl hl.1 rfl (lv_room (Nat.le_of_ble_eq_true rfl)) dX6_addStep_72 ⟨(Nat.le_of_ble_eq_true rfl), (Nat.le_of_ble_eq_true rfl)⟩) hS (fun q _ h => hF q h) hF (fun r u1 t H locs ht hvm hw hB hz1 hk1 hS => ?_)
  try dsimp only at hw hB
  obtain ⟨hP1, hD1⟩ := hB
  rw [ht] at hP1
  obtain ⟨hP, hD⟩ := post_j (ws' := [(h0, .inr (8, [.int 1, .int 0, .int 2, .ref h1, .ref h2, .int 0, .int 500, .int 0, .int 0, .int 0, .ref h3]))]) (wr := []) (w1 := [(h0, .inr (8, [.int 1, .int 0, .int 2, .ref h1, .ref h2, .int 0, .int 500, .int 0, .int 0, .int 0, .ref h3]))]) hP hD hF [0] rfl [] rfl (by decide) (by decide) hk1 hP1 hD1 [0] (by decide) rfl
  have hP : va_P D vwCl [(h0, .inr (8, [.int 1, .int 0, .int 2, .ref h1, .ref h2, .int 0, .int 500, .int 0, .int 0, .int 0, .ref h3]))] H := hP
  have hD : va_D A [(h0, .inr (8, [.int 1, .int 0, .int 2, .ref h1, .ref h2, .int 0, .int 500, .int 0, .int 0, .int 0, .ref h3]))] := hD
  rw [hw]
  refine lv_if_eq (tgt := 80) hx hb dX6_addStep_75 (by decide) (fun h => absurd h (by decide)) (fun _ => ?_)
  refine lv_iconst (v := 0) hx hb dX6_addStep_78 (by decide) ?_
  have hP9 := hP.sub (ws' := [(h0, .inr (8, [.int 1, .int 0, .int 2, .ref h1, .ref h2, .int 0, .int 500, .int 0, .int 0, .int 0, .ref h3]))]) [0] rfl
  have hD9 := hD.sub (ws' := [(h0, .inr (8, [.int 1, .int 0, .int 2, .ref h1, .ref h2, .int 0, .int 500, .int 0, .int 0, .int 0, .ref h3]))]) [0] (by decide) rfl
  exact W.iret (v := 0) hx hb hr (fun t ht hW => ⟨⟨0, [.int 1, .int 0, .int 2, .ref h1, .ref h2, .int 0, .int 500, .int 0, .int 0, .int 0, .ref h3], rfl, ⟨rfl, rfl⟩, by rw [ht]; exact hP9, hD9⟩, hS.F ht⟩) hS.2.2 dX6_addStep_79

set_option maxHeartbeats 4000000 in
set_option maxRecDepth 100000 in
theorem k_X5_isStep_3 (l : Launch) (D : va_G) (κ ε : Nat → Nat) (h0 : Nat) (p0 : Int32) : Met l yX5_isStep wsX5_isStep ({ frames := 0, cells := 0, slots := 0, locals := 0 }) (va_Pc [.ref h0, .int 3, .int p0] (Pre0 D κ [])) (vp_Si (fun r => ((p0 < 1) ∧ (r = 0)) ∨ ((¬ p0 < 1) ∧ (12 < p0) ∧ (r = 0)) ∨ ((¬ p0 < 1) ∧ (¬ 12 < p0) ∧ (r = 1)))) 0 0 (fun _ => False) := by
  refine Met.ofW (cc := cX5_isStep) (maxL := 3) (ret := (some .boolean)) (by decide) rfl ?_
  intro p e s m args below meth c s₁ B hml hv
  obtain ⟨rfl, hP, hK⟩ := hv
  have hx := B.exec
  have hb := B.bytes
  have hr := B.returns
  have hts := atoms_spec (ws := wsX5_isStep) B.pre
  have hown : s.vm.findClass RX5 = some m.cls := findClass_of_methodNamed B.named
  have hlocks := B.notSynchronized
  have hP : va_P D vwCl [] s.heap := hP
  have hl := lv_entry [.ref h0, .int 3, .int p0] (n := 3) (Nat.le_of_ble_eq_true rfl)
  rw [lg_entry_eq]
  generalize (lg_sl [.ref h0, .int 3, .int p0] ++ List.replicate (3 - (lg_sl [.ref h0, .int 3, .int p0]).length) Slot.unset).toArray = ls at hl ⊢
  have hl : lv_has ls 3 [(0, .ref h0), (1, .int 3), (2, .int p0)] := hl
  refine lv_iload_n hx hb dX5_isStep_0 rfl (lv_at hl 1 rfl) ?_
  refine lv_tableIn (tgt := 73) (off := 72) hx hb dX5_isStep_1 (by decide) (by decide) (by decide) (by decide) ?_
  refine lv_iload_n hx hb dX5_isStep_73 rfl (lv_at hl 2 rfl) ?_
  refine lv_iconst (v := 1) hx hb dX5_isStep_74 (by decide) ?_
  refine lv_icmp_lt (tgt := 88) hx hb dX5_isStep_75 (by decide) (fun c1 => ?_) (fun c1 => ?_)
  · skip
    refine lv_iconst (v := 0) hx hb dX5_isStep_88 (by decide) ?_
    exact W.zret (v := 0) hx hb hr rfl (fun t ht hW => ⟨0, rfl, (Or.inl ⟨c1, rfl⟩), ht⟩) (fun q hq => absurd hq List.not_mem_nil) dX5_isStep_89
  · skip
    refine lv_iload_n hx hb dX5_isStep_78 rfl (lv_at hl 2 rfl) ?_
    refine lv_bipush (v := 12) hx hb dX5_isStep_79 (by decide) ?_
    refine lv_icmp_gt (tgt := 88) hx hb dX5_isStep_81 (by decide) (fun c2 => ?_) (fun c2 => ?_)
    · skip
      refine lv_iconst (v := 0) hx hb dX5_isStep_88 (by decide) ?_
      exact W.zret (v := 0) hx hb hr rfl (fun t ht hW => ⟨0, rfl, (Or.inr (Or.inl ⟨c1, c2, rfl⟩)), ht⟩) (fun q hq => absurd hq List.not_mem_nil) dX5_isStep_89
    · skip
      refine lv_iconst (v := 1) hx hb dX5_isStep_84 (by decide) ?_
      refine lv_goto (tgt := 89) hx hb dX5_isStep_85 (by decide) ?_
      exact W.zret (v := 1) hx hb hr rfl (fun t ht hW => ⟨1, rfl, (Or.inr (Or.inr ⟨c1, c2, rfl⟩)), ht⟩) (fun q hq => absurd hq List.not_mem_nil) dX5_isStep_89

set_option maxHeartbeats 4000000 in
set_option maxRecDepth 100000 in
theorem k_X2_append_2 (l : Launch) (D : va_G) (κ ε : Nat → Nat) (h0 h1 h2 h3 : Nat) (sz : Nat) (p0 : Int32) : Met l yX2_append wsX2_append ({ frames := 0, cells := 0, slots := 0, locals := 0 }) (va_Pc [.ref h0, .int 3, .int p0] (Pre2 D κ ε [(h0, .inr (4, [.ref h1, .ref h2, .ref h3, .int 0])), (h1, .inl (κ 0, 12, .inl (fun _ => 0))), (h2, .inl (κ 0, 12, .inl (fun _ => 0)))] sz)) (va_Qi (fun r (u : Unit) => (r = 0)) (fun u t => va_P D vwCl [(h0, .inr (4, [.ref h1, .ref h2, .ref h3, .int 1])), (h1, .inl (κ 0, 12, .inl (upd (fun _ => 0) 0 3))), (h2, .inl (κ 0, 12, .inl (upd (fun _ => 0) 0 p0)))] t.heap ∧ va_D (va_A [(h0, .inr (4, [.ref h1, .ref h2, .ref h3, .int 0])), (h1, .inl (κ 0, 12, .inl (fun _ => 0))), (h2, .inl (κ 0, 12, .inl (fun _ => 0)))] sz) [(h0, .inr (4, [.ref h1, .ref h2, .ref h3, .int 1])), (h1, .inl (κ 0, 12, .inl (upd (fun _ => 0) 0 3))), (h2, .inl (κ 0, 12, .inl (upd (fun _ => 0) 0 p0)))]) (va_A [(h0, .inr (4, [.ref h1, .ref h2, .ref h3, .int 0])), (h1, .inl (κ 0, 12, .inl (fun _ => 0))), (h2, .inl (κ 0, 12, .inl (fun _ => 0)))] sz)) 0 0 (va_A [(h0, .inr (4, [.ref h1, .ref h2, .ref h3, .int 0])), (h1, .inl (κ 0, 12, .inl (fun _ => 0))), (h2, .inl (κ 0, 12, .inl (fun _ => 0)))] sz) := by
  refine Met.ofW (cc := cX2_append) (maxL := 3) (ret := (some .int)) (by decide) rfl ?_
  intro p e s m args below meth c s₁ B hml hv
  obtain ⟨rfl, hsz, hP, hK, hD0, hE9⟩ := hv
  have hx := B.exec
  have hb := B.bytes
  have hr := B.returns
  have hts := atoms_spec (ws := wsX2_append) B.pre
  have hown : s.vm.findClass RX2 = some m.cls := findClass_of_methodNamed B.named
  have hlocks := B.notSynchronized
  subst hsz
  have hD := hD0.self (sz := s.heap.size)
  generalize hAe : va_A [(h0, .inr (4, [.ref h1, .ref h2, .ref h3, .int 0])), (h1, .inl (κ 0, 12, .inl (fun _ => 0))), (h2, .inl (κ 0, 12, .inl (fun _ => 0)))] s.heap.size = A at hD hE9 ⊢
  have hE := hE9.1
  have hDc := hE9.2
  have hA : ∀ q : Nat, s.heap.size ≤ q → A q := fun q h => by rw [← hAe]; exact Or.inr h
  have hS : va_S A s.heap s.heap [] := va_S.rf
  have hP : va_P D vwCl [(h0, .inr (4, [.ref h1, .ref h2, .ref h3, .int 0])), (h1, .inl (κ 0, 12, .inl (fun _ => 0))), (h2, .inl (κ 0, 12, .inl (fun _ => 0)))] s.heap := hP
  have hl := lv_entry [.ref h0, .int 3, .int p0] (n := 3) (Nat.le_of_ble_eq_true rfl)
  rw [lg_entry_eq]
  generalize (lg_sl [.ref h0, .int 3, .int p0] ++ List.replicate (3 - (lg_sl [.ref h0, .int 3, .int p0]).length) Slot.unset).toArray = ls at hl ⊢
  have hl : lv_has ls 3 [(0, .ref h0), (1, .int 3), (2, .int p0)] := hl
  refine lv_aload_n hx hb dX2_append_0 rfl (lv_at hl 0 rfl) ?_
  refine va_get (D := D) (ci := 4) (v := .int 0) (C := RX2) (T := TX2) (N := 4) hx hb hts wi_X2_append_RX2 hown hK hP 0 rfl rfl 3 (by decide) (hts _ wd364_X2_append) (fun _ h9 => h9) rfl dX2_append_1 ?_
  refine lv_bipush (v := 12) hx hb dX2_append_4 (by decide) ?_
  refine lv_icmp_ge (tgt := 39) hx hb dX2_append_6 (by decide) (fun h => absurd h (by decide)) (fun _ => ?_)
  refine lv_aload_n hx hb dX2_append_9 rfl (lv_at hl 0 rfl) ?_
  refine va_get (D := D) (ci := 4) (v := .ref h1) (C := RX2) (T := TX2) (N := 4) hx hb hts wi_X2_append_RX2 hown hK hP 0 rfl rfl 0 (by decide) (hts _ wd365_X2_append) (fun _ h9 => h9) rfl dX2_append_10 ?_
  refine lv_aload_n hx hb dX2_append_13 rfl (lv_at hl 0 rfl) ?_
  refine va_get (D := D) (ci := 4) (v := .int 0) (C := RX2) (T := TX2) (N := 4) hx hb hts wi_X2_append_RX2 hown hK hP 0 rfl rfl 3 (by decide) (hts _ wd364_X2_append) (fun _ h9 => h9) rfl dX2_append_14 ?_
  refine lv_iload_n hx hb dX2_append_17 rfl (lv_at hl 1 rfl) ?_
  refine va_iast (cA := κ 0) (n := 12) (f := (fun _ => 0)) hx hb hK hP hD hS 1 0 rfl rfl (vpl (by decide)) dX2_append_18 (fun H locs hP hD hS => ?_)
  have hP : va_P D vwCl [(h0, .inr (4, [.ref h1, .ref h2, .ref h3, .int 0])), (h1, .inl (κ 0, 12, .inl (upd (fun _ => 0) 0 3))), (h2, .inl (κ 0, 12, .inl (fun _ => 0)))] H := hP
  have hD : va_D A [(h0, .inr (4, [.ref h1, .ref h2, .ref h3, .int 0])), (h1, .inl (κ 0, 12, .inl (upd (fun _ => 0) 0 3))), (h2, .inl (κ 0, 12, .inl (fun _ => 0)))] := hD
  refine lv_aload_n hx hb dX2_append_19 rfl (lv_at hl 0 rfl) ?_
  refine va_get (D := D) (ci := 4) (v := .ref h2) (C := RX2) (T := TX2) (N := 4) hx hb hts wi_X2_append_RX2 hown hK hP 0 rfl rfl 1 (by decide) (hts _ wd366_X2_append) (fun _ h9 => h9) rfl dX2_append_20 ?_
  refine lv_aload_n hx hb dX2_append_23 rfl (lv_at hl 0 rfl) ?_
  refine va_get (D := D) (ci := 4) (v := .int 0) (C := RX2) (T := TX2) (N := 4) hx hb hts wi_X2_append_RX2 hown hK hP 0 rfl rfl 3 (by decide) (hts _ wd364_X2_append) (fun _ h9 => h9) rfl dX2_append_24 ?_
  refine lv_iload_n hx hb dX2_append_27 rfl (lv_at hl 2 rfl) ?_
  refine va_iast (cA := κ 0) (n := 12) (f := (fun _ => 0)) hx hb hK hP hD hS 2 0 rfl rfl (vpl (by decide)) dX2_append_28 (fun H locs hP hD hS => ?_)
  have hP : va_P D vwCl [(h0, .inr (4, [.ref h1, .ref h2, .ref h3, .int 0])), (h1, .inl (κ 0, 12, .inl (upd (fun _ => 0) 0 3))), (h2, .inl (κ 0, 12, .inl (upd (fun _ => 0) 0 p0)))] H := hP
  have hD : va_D A [(h0, .inr (4, [.ref h1, .ref h2, .ref h3, .int 0])), (h1, .inl (κ 0, 12, .inl (upd (fun _ => 0) 0 3))), (h2, .inl (κ 0, 12, .inl (upd (fun _ => 0) 0 p0)))] := hD
  refine lv_aload_n hx hb dX2_append_29 rfl (lv_at hl 0 rfl) ?_
  refine lv_dup hx hb dX2_append_30 rfl ?_
  refine va_get (D := D) (ci := 4) (v := .int 0) (C := RX2) (T := TX2) (N := 4) hx hb hts wi_X2_append_RX2 hown hK hP 0 rfl rfl 3 (by decide) (hts _ wd364_X2_append) (fun _ h9 => h9) rfl dX2_append_31 ?_
  refine lv_iconst (v := 1) hx hb dX2_append_34 (by decide) ?_
  refine lv_iadd hx hb dX2_append_35 ?_
  refine tpi (v := 1) (by decide) ?_
  refine va_put (D := D) (ci := 4) (v := .int 1) (ty := .int) (C := RX2) (T := TX2) (N := 4) hx hb hts wi_X2_append_RX2 tyX2 tyX2_ok nmX2 hown hK hP hD hS 0 rfl rfl 3 (by decide) (hts _ wd364_X2_append) (fun _ h9 => h9) rfl (by decide +kernel) rfl rfl (Nat.le_of_ble_eq_true rfl) dX2_append_36 (fun H locs hP hD hS => ?_)
  have hP : va_P D vwCl [(h0, .inr (4, [.ref h1, .ref h2, .ref h3, .int 1])), (h1, .inl (κ 0, 12, .inl (upd (fun _ => 0) 0 3))), (h2, .inl (κ 0, 12, .inl (upd (fun _ => 0) 0 p0)))] H := hP
  have hD : va_D A [(h0, .inr (4, [.ref h1, .ref h2, .ref h3, .int 1])), (h1, .inl (κ 0, 12, .inl (upd (fun _ => 0) 0 3))), (h2, .inl (κ 0, 12, .inl (upd (fun _ => 0) 0 p0)))] := hD
  refine lv_aload_n hx hb dX2_append_39 rfl (lv_at hl 0 rfl) ?_
  refine va_get (D := D) (ci := 4) (v := .int 1) (C := RX2) (T := TX2) (N := 4) hx hb hts wi_X2_append_RX2 hown hK hP 0 rfl rfl 3 (by decide) (hts _ wd364_X2_append) (fun _ h9 => h9) rfl dX2_append_40 ?_
  refine lv_iconst (v := 1) hx hb dX2_append_43 (by decide) ?_
  refine lv_isub hx hb dX2_append_44 ?_
  refine tpi (v := 0) (by decide) ?_
  have hP9 := hP
  have hD9 := hD
  exact W.iret (v := 0) hx hb hr (fun t ht hW => ⟨⟨0, (), rfl, rfl, by rw [ht]; exact hP9, hD9⟩, hS.F ht⟩) hS.2.2 dX2_append_45

set_option maxHeartbeats 4000000 in
set_option maxRecDepth 100000 in
theorem k_X5_addStep_3 (l : Launch) (hst : l.stackTraces = false) (D : va_G) (κ ε : Nat → Nat) (h0 h1 h2 h3 h4 h5 h6 h7 h8 h9 : Nat) (sz : Nat) (p0 : Int32) : vx_Met l yX5_addStep wsX5_addStep ({ frames := 6, cells := 1, slots := 6, locals := 120 }) (va_Pc [.ref h0, .int 3, .int p0] (Pre2 D κ ε [(h0, .inr (7, [.ref h1, .ref h2, .ref h3, .ref h4, .ref h5, .ref h6, .int 0, .int 0, .int 0, .int 0])), (h4, .inr (4, [.ref h7, .ref h8, .ref h9, .int 0])), (h7, .inl (κ 0, 12, .inl (fun _ => 0))), (h8, .inl (κ 0, 12, .inl (fun _ => 0)))] sz)) (va_Qi (fun r (u : Unit) => (¬ p0 < 1) ∧ (¬ 12 < p0) ∧ (r = 0)) (fun _ _ => True) (va_A [(h0, .inr (7, [.ref h1, .ref h2, .ref h3, .ref h4, .ref h5, .ref h6, .int 0, .int 0, .int 0, .int 0])), (h4, .inr (4, [.ref h7, .ref h8, .ref h9, .int 0])), (h7, .inl (κ 0, 12, .inl (fun _ => 0))), (h8, .inl (κ 0, 12, .inl (fun _ => 0)))] sz)) (vx_X (fun _ : Unit => True) (fun E _ _ => ((p0 < 1) ∧ E = "java/lang/IllegalArgumentException") ∨ ((¬ p0 < 1) ∧ (12 < p0) ∧ E = "java/lang/IllegalArgumentException")) (va_A [(h0, .inr (7, [.ref h1, .ref h2, .ref h3, .ref h4, .ref h5, .ref h6, .int 0, .int 0, .int 0, .int 0])), (h4, .inr (4, [.ref h7, .ref h8, .ref h9, .int 0])), (h7, .inl (κ 0, 12, .inl (fun _ => 0))), (h8, .inl (κ 0, 12, .inl (fun _ => 0)))] sz)) 1 6 (va_A [(h0, .inr (7, [.ref h1, .ref h2, .ref h3, .ref h4, .ref h5, .ref h6, .int 0, .int 0, .int 0, .int 0])), (h4, .inr (4, [.ref h7, .ref h8, .ref h9, .int 0])), (h7, .inl (κ 0, 12, .inl (fun _ => 0))), (h8, .inl (κ 0, 12, .inl (fun _ => 0)))] sz) := by
  refine vx_ofW (cc := cX5_addStep) (maxL := 3) (ret := (some .int)) (by decide) rfl ?_
  intro p e s m args below meth c s₁ B hml hnx hv
  obtain ⟨rfl, hsz, hP, hK, hD0, hE9⟩ := hv
  have hx := B.exec
  have hb := B.bytes
  have hr := B.returns
  have hts := atoms_spec (ws := wsX5_addStep) B.pre
  have hown : s.vm.findClass RX5 = some m.cls := findClass_of_methodNamed B.named
  have hlocks := B.notSynchronized
  subst hsz
  have hD := hD0.self (sz := s.heap.size)
  generalize hAe : va_A [(h0, .inr (7, [.ref h1, .ref h2, .ref h3, .ref h4, .ref h5, .ref h6, .int 0, .int 0, .int 0, .int 0])), (h4, .inr (4, [.ref h7, .ref h8, .ref h9, .int 0])), (h7, .inl (κ 0, 12, .inl (fun _ => 0))), (h8, .inl (κ 0, 12, .inl (fun _ => 0)))] s.heap.size = A at hD hE9 ⊢
  have hE := hE9.1
  have hDc := hE9.2
  have hA : ∀ q : Nat, s.heap.size ≤ q → A q := fun q h => by rw [← hAe]; exact Or.inr h
  have hS : va_S A s.heap s.heap [] := va_S.rf
  have hP : va_P D vwCl [(h0, .inr (7, [.ref h1, .ref h2, .ref h3, .ref h4, .ref h5, .ref h6, .int 0, .int 0, .int 0, .int 0])), (h4, .inr (4, [.ref h7, .ref h8, .ref h9, .int 0])), (h7, .inl (κ 0, 12, .inl (fun _ => 0))), (h8, .inl (κ 0, 12, .inl (fun _ => 0)))] s.heap := hP
  have hl := lv_entry [.ref h0, .int 3, .int p0] (n := 3) (Nat.le_of_ble_eq_true rfl)
  rw [lg_entry_eq]
  generalize (lg_sl [.ref h0, .int 3, .int p0] ++ List.replicate (3 - (lg_sl [.ref h0, .int 3, .int p0]).length) Slot.unset).toArray = ls at hl ⊢
  have hl : lv_has ls 3 [(0, .ref h0), (1, .int 3), (2, .int p0)] := hl
  refine lv_aload_n hx hb dX5_addStep_0 rfl (lv_at hl 0 rfl) ?_
  refine lv_iload_n hx hb dX5_addStep_1 rfl (lv_at hl 1 rfl) ?_
  refine lv_iload_n hx hb dX5_addStep_2 rfl (lv_at hl 2 rfl) ?_
  refine vp_callSi (W.runV (As := [.int 3, .int p0]) (rest := []) ⟨hx, hb, hml, hown, hts⟩ (k_X5_isStep_3 l D κ ε h0 (p0)) (cwV 2 hts gX5_addStep_X5_isStep rfl rfl rfl (by decide +kernel) ⟨(Nat.le_of_ble_eq_true rfl), (Nat.le_of_ble_eq_true rfl)⟩) (pre0_V (q0 := 0) (ci := 7) (wc := []) hP hK [] rfl rfl rfl) rfl rfl hl.1 rfl (lv_room (Nat.le_of_ble_eq_true rfl)) dX5_addStep_3 ⟨(Nat.le_of_ble_eq_true rfl), (Nat.le_of_ble_eq_true rfl)⟩) (fun r hw => ?_)
  rcases hw with ⟨c1, rfl⟩ | ⟨c2, c3, rfl⟩ | ⟨c4, c5, rfl⟩
  · skip
    refine lv_if_ne (tgt := 19) hx hb dX5_addStep_6 (by decide) (fun h => absurd (by decide) h) (fun _ => ?_)
    exact vx_throwS (names := ["java/lang/RuntimeException", "java/lang/Exception"]) (sa := ε 30) hx hb hst hown (by decide +kernel) (by decide +kernel) (hts _ wd384_X5_addStep) (hts _ wd385_X5_addStep) (hE.2.2.2.2.2.2.1 _ (List.mem_of_getElem? (i := 20) rfl)) (vx_hat (B := [.castable "java/lang/IllegalArgumentException" "java/lang/IllegalArgumentException", .declares (Bundle.initS "java/lang/RuntimeException"), .declares (Bundle.initS "java/lang/Exception"), .declares (Bundle.initS "java/lang/Throwable")]) (fun w hw => hts w (at1_X5_addStep_82 w hw)) at2_RX5_82 (vx_c (va_Nw.use rfl hE.2.2.2.2.2.2.2.2.2.2.2.2.2.2.1) (vx_c (va_Nw.use rfl hDc.1) (vx_c (va_Nw.use rfl hDc.2.1) (vx_c (va_Nw.use rfl hDc.2.2) vx_n))))) at2_RX5_82g hE.1 hE.2.1 hS (by rw [hml]; exact hl.1) dX5_addStep_9 dX5_addStep_12 dX5_addStep_13 dX5_addStep_15 dX5_addStep_18 (fun x hx => (hnx x hx).elim) (by decide) (by decide) (Nat.le_of_ble_eq_true rfl) (Nat.le_of_ble_eq_true rfl) hlocks (fun t _ h1 h2 => ⟨(), trivial, (Or.inl ⟨c1, rfl⟩), thF (H0 := s.heap) hS h1 h2⟩) hS.2.2 (Nat.le_of_ble_eq_true rfl) (Nat.le_of_ble_eq_true rfl)
  · skip
    refine lv_if_ne (tgt := 19) hx hb dX5_addStep_6 (by decide) (fun h => absurd (by decide) h) (fun _ => ?_)
    exact vx_throwS (names := ["java/lang/RuntimeException", "java/lang/Exception"]) (sa := ε 30) hx hb hst hown (by decide +kernel) (by decide +kernel) (hts _ wd384_X5_addStep) (hts _ wd385_X5_addStep) (hE.2.2.2.2.2.2.1 _ (List.mem_of_getElem? (i := 20) rfl)) (vx_hat (B := [.castable "java/lang/IllegalArgumentException" "java/lang/IllegalArgumentException", .declares (Bundle.initS "java/lang/RuntimeException"), .declares (Bundle.initS "java/lang/Exception"), .declares (Bundle.initS "java/lang/Throwable")]) (fun w hw => hts w (at1_X5_addStep_82 w hw)) at2_RX5_82 (vx_c (va_Nw.use rfl hE.2.2.2.2.2.2.2.2.2.2.2.2.2.2.1) (vx_c (va_Nw.use rfl hDc.1) (vx_c (va_Nw.use rfl hDc.2.1) (vx_c (va_Nw.use rfl hDc.2.2) vx_n))))) at2_RX5_82g hE.1 hE.2.1 hS (by rw [hml]; exact hl.1) dX5_addStep_9 dX5_addStep_12 dX5_addStep_13 dX5_addStep_15 dX5_addStep_18 (fun x hx => (hnx x hx).elim) (by decide) (by decide) (Nat.le_of_ble_eq_true rfl) (Nat.le_of_ble_eq_true rfl) hlocks (fun t _ h1 h2 => ⟨(), trivial, (Or.inr ⟨c2, c3, rfl⟩), thF (H0 := s.heap) hS h1 h2⟩) hS.2.2 (Nat.le_of_ble_eq_true rfl) (Nat.le_of_ble_eq_true rfl)
  · skip
    refine lv_if_ne (tgt := 19) hx hb dX5_addStep_6 (by decide) (fun _ => ?_) (fun h => absurd h (by decide))
    refine lv_aload_n hx hb dX5_addStep_19 rfl (lv_at hl 0 rfl) ?_
    refine va_get (D := D) (ci := 7) (v := .ref h4) (C := RX5) (T := TX5) (N := 10) hx hb hts wi_X5_addStep_RX5 hown hK hP 0 rfl rfl 3 (by decide) (hts _ wd367_X5_addStep) (fun _ h9 => h9) rfl dX5_addStep_20 ?_
    refine va_get (D := D) (ci := 4) (v := .int 0) (C := RX2) (T := TX2) (N := 4) hx hb hts wi_X5_addStep_RX2 hown hK hP 1 rfl rfl 3 (by decide) (hts _ wd368_X5_addStep) (fun _ h9 => h9) rfl dX5_addStep_23 ?_
    refine lv_bipush (v := 12) hx hb dX5_addStep_26 (by decide) ?_
    refine lv_icmp_lt (tgt := 41) hx hb dX5_addStep_28 (by decide) (fun _ => ?_) (fun h => absurd (by decide) h)
    refine lv_aload_n hx hb dX5_addStep_41 rfl (lv_at hl 0 rfl) ?_
    refine va_get (D := D) (ci := 7) (v := .ref h4) (C := RX5) (T := TX5) (N := 10) hx hb hts wi_X5_addStep_RX5 hown hK hP 0 rfl rfl 3 (by decide) (hts _ wd367_X5_addStep) (fun _ h9 => h9) rfl dX5_addStep_42 ?_
    refine lv_iload_n hx hb dX5_addStep_45 rfl (lv_at hl 1 rfl) ?_
    refine lv_iload_n hx hb dX5_addStep_46 rfl (lv_at hl 2 rfl) ?_
    have hF := va_free (wc := [(h4, .inr (4, [.ref h7, .ref h8, .ref h9, .int 0])), (h7, .inl (κ 0, 12, .inl (fun _ => 0))), (h8, .inl (κ 0, 12, .inl (fun _ => 0)))]) hD hS hA [1, 2, 3] rfl
    refine va_calli (va_runV (As := [.int 3, .int p0]) (rest := []) ⟨hx, hb, hml, hown, hts⟩ (k_X2_append_2 l D κ ε h4 h7 h8 h9 s.heap.size (p0)) (cwV 2 hts gX5_addStep_X2_append rfl rfl rfl (by decide +kernel) ⟨(Nat.le_of_ble_eq_true rfl), (Nat.le_of_ble_eq_true rfl)⟩) (pre2_V (q0 := 1) (ci := 4) (wc := [(h4, .inr (4, [.ref h7, .ref h8, .ref h9, .int 0])), (h7, .inl (κ 0, 12, .inl (fun _ => 0))), (h8, .inl (κ 0, 12, .inl (fun _ => 0)))]) hP hD hK hE9 hS hA [1, 2, 3] (by decide) rfl rfl rfl) rfl rfl hl.1 rfl (lv_room (Nat.le_of_ble_eq_true rfl)) dX5_addStep_47 ⟨(Nat.le_of_ble_eq_true rfl), (Nat.le_of_ble_eq_true rfl)⟩) hS (fun q _ h => hF q h) hF (fun r u6 t H locs ht hvm hw hB hz1 hk1 hS => ?_)
    try dsimp only at hw hB
    obtain ⟨hP1, hD1⟩ := hB
    rw [ht] at hP1
    obtain ⟨hP, hD⟩ := post_j (ws' := [(h0, .inr (7, [.ref h1, .ref h2, .ref h3, .ref h4, .ref h5, .ref h6, .int 0, .int 0, .int 0, .int 0])), (h4, .inr (4, [.ref h7, .ref h8, .ref h9, .int 1])), (h7, .inl (κ 0, 12, .inl (upd (fun _ => 0) 0 3))), (h8, .inl (κ 0, 12, .inl (upd (fun _ => 0) 0 p0)))]) (wr := [(h0, .inr (7, [.ref h1, .ref h2, .ref h3, .ref h4, .ref h5, .ref h6, .int 0, .int 0, .int 0, .int 0]))]) (w1 := [(h4, .inr (4, [.ref h7, .ref h8, .ref h9, .int 1])), (h7, .inl (κ 0, 12, .inl (upd (fun _ => 0) 0 3))), (h8, .inl (κ 0, 12, .inl (upd (fun _ => 0) 0 p0)))]) hP hD hF [1, 2, 3] rfl [0] rfl (by decide) (by decide) hk1 hP1 hD1 [0, 1, 2, 3] (by decide) rfl
    have hP : va_P D vwCl [(h0, .inr (7, [.ref h1, .ref h2, .ref h3, .ref h4, .ref h5, .ref h6, .int 0, .int 0, .int 0, .int 0])), (h4, .inr (4, [.ref h7, .ref h8, .ref h9, .int 1])), (h7, .inl (κ 0, 12, .inl (upd (fun _ => 0) 0 3))), (h8, .inl (κ 0, 12, .inl (upd (fun _ => 0) 0 p0)))] H := hP
    have hD : va_D A [(h0, .inr (7, [.ref h1, .ref h2, .ref h3, .ref h4, .ref h5, .ref h6, .int 0, .int 0, .int 0, .int 0])), (h4, .inr (4, [.ref h7, .ref h8, .ref h9, .int 1])), (h7, .inl (κ 0, 12, .inl (upd (fun _ => 0) 0 3))), (h8, .inl (κ 0, 12, .inl (upd (fun _ => 0) 0 p0)))] := hD
    rw [hw]
    refine W.widen (k := 1) (n := 6) (Nat.le_of_ble_eq_true rfl) (Nat.le_of_ble_eq_true rfl) ?_
    refine vx_ret ?_
    exact W.iret (v := 0) hx hb hr (fun t ht hW => ⟨⟨0, (), rfl, ⟨c4, c5, rfl⟩, trivial⟩, hS.F ht⟩) hS.2.2 dX5_addStep_50

set_option maxHeartbeats 4000000 in
set_option maxRecDepth 100000 in
theorem k_L_addStep_3 (l : Launch) (hst : l.stackTraces = false) (D : va_G) (κ ε : Nat → Nat) (h0 h1 h2 h3 h4 h5 h6 h7 h8 h9 h10 : Nat) (sz : Nat) (p0 : Int32) : Met l yL_addStep wsL_addStepx ({ frames := 7, cells := 1, slots := 6, locals := 142 }) (va_Pc [.ref h0, .int 3, .int p0, .ref h1] (Pre2 D κ ε [(h0, .inr (7, [.ref h2, .ref h3, .ref h4, .ref h5, .ref h6, .ref h7, .int 0, .int 0, .int 0, .int 0])), (h1, .inl (κ 2, 1, .inr (.inl (fun _ => 0)))), (h5, .inr (4, [.ref h8, .ref h9, .ref h10, .int 0])), (h8, .inl (κ 0, 12, .inl (fun _ => 0))), (h9, .inl (κ 0, 12, .inl (fun _ => 0)))] sz)) (va_Qi (fun r (u : Nat → Int64) => ((p0 < 1) ∧ (r = 1)) ∨ ((¬ p0 < 1) ∧ (12 < p0) ∧ (r = 1)) ∨ ((¬ p0 < 1) ∧ (¬ 12 < p0) ∧ (u 0 = 0) ∧ (r = 0))) (fun u t => va_P D vwCl [(h1, .inl (κ 2, 1, .inr (.inl u)))] t.heap ∧ va_D (va_A [(h0, .inr (7, [.ref h2, .ref h3, .ref h4, .ref h5, .ref h6, .ref h7, .int 0, .int 0, .int 0, .int 0])), (h1, .inl (κ 2, 1, .inr (.inl (fun _ => 0)))), (h5, .inr (4, [.ref h8, .ref h9, .ref h10, .int 0])), (h8, .inl (κ 0, 12, .inl (fun _ => 0))), (h9, .inl (κ 0, 12, .inl (fun _ => 0)))] sz) [(h1, .inl (κ 2, 1, .inr (.inl u)))]) (va_A [(h0, .inr (7, [.ref h2, .ref h3, .ref h4, .ref h5, .ref h6, .ref h7, .int 0, .int 0, .int 0, .int 0])), (h1, .inl (κ 2, 1, .inr (.inl (fun _ => 0)))), (h5, .inr (4, [.ref h8, .ref h9, .ref h10, .int 0])), (h8, .inl (κ 0, 12, .inl (fun _ => 0))), (h9, .inl (κ 0, 12, .inl (fun _ => 0)))] sz)) 1 6 (va_A [(h0, .inr (7, [.ref h2, .ref h3, .ref h4, .ref h5, .ref h6, .ref h7, .int 0, .int 0, .int 0, .int 0])), (h1, .inl (κ 2, 1, .inr (.inl (fun _ => 0)))), (h5, .inr (4, [.ref h8, .ref h9, .ref h10, .int 0])), (h8, .inl (κ 0, 12, .inl (fun _ => 0))), (h9, .inl (κ 0, 12, .inl (fun _ => 0)))] sz) := by
  refine va_MetW (cc := cL_addStep) (maxL := 5) (ret := (some .int)) (hh := [(0, 10, 13, 19), (0, 10, 17, 13)]) (by decide) rfl ?_
  intro p e s m args below meth c s₁ B hml hv
  obtain ⟨rfl, hsz, hP, hK, hD0, hE9⟩ := hv
  have hx := B.exec
  have hb := B.bytes
  have hr := B.returns
  have hts := atoms_spec (ws := wsL_addStepx) B.pre
  have hown : s.vm.findClass RL = some m.cls := findClass_of_methodNamed B.named
  have hlocks := B.notSynchronized
  have htab : c.exceptionTable.toList = tableOf [(0, 10, 13, 19), (0, 10, 17, 13)] := vx_table (x := yL_addStep) B (hts (.codeWith yL_addStep cL_addStep 5 (some .int) [(0, 10, 13, 19), (0, 10, 17, 13)]) List.mem_cons_self)
  subst hsz
  have hD := hD0.self (sz := s.heap.size)
  generalize hAe : va_A [(h0, .inr (7, [.ref h2, .ref h3, .ref h4, .ref h5, .ref h6, .ref h7, .int 0, .int 0, .int 0, .int 0])), (h1, .inl (κ 2, 1, .inr (.inl (fun _ => 0)))), (h5, .inr (4, [.ref h8, .ref h9, .ref h10, .int 0])), (h8, .inl (κ 0, 12, .inl (fun _ => 0))), (h9, .inl (κ 0, 12, .inl (fun _ => 0)))] s.heap.size = A at hD hE9 ⊢
  have hE := hE9.1
  have hDc := hE9.2
  have hA : ∀ q : Nat, s.heap.size ≤ q → A q := fun q h => by rw [← hAe]; exact Or.inr h
  have hS : va_S A s.heap s.heap [] := va_S.rf
  have hP : va_P D vwCl [(h0, .inr (7, [.ref h2, .ref h3, .ref h4, .ref h5, .ref h6, .ref h7, .int 0, .int 0, .int 0, .int 0])), (h1, .inl (κ 2, 1, .inr (.inl (fun _ => 0)))), (h5, .inr (4, [.ref h8, .ref h9, .ref h10, .int 0])), (h8, .inl (κ 0, 12, .inl (fun _ => 0))), (h9, .inl (κ 0, 12, .inl (fun _ => 0)))] s.heap := hP
  have hl := lv_entry [.ref h0, .int 3, .int p0, .ref h1] (n := 5) (Nat.le_of_ble_eq_true rfl)
  rw [lg_entry_eq]
  generalize (lg_sl [.ref h0, .int 3, .int p0, .ref h1] ++ List.replicate (5 - (lg_sl [.ref h0, .int 3, .int p0, .ref h1]).length) Slot.unset).toArray = ls at hl ⊢
  have hl : lv_has ls 5 [(0, .ref h0), (1, .int 3), (2, .int p0), (3, .ref h1)] := hl
  refine lv_aload_n hx hb dL_addStep_0 rfl (lv_at hl 3 rfl) ?_
  refine lv_iconst (v := 0) hx hb dL_addStep_1 (by decide) ?_
  refine lv_aload_n hx hb dL_addStep_2 rfl (lv_at hl 0 rfl) ?_
  refine lv_iload_n hx hb dL_addStep_3 rfl (lv_at hl 1 rfl) ?_
  refine lv_iload_n hx hb dL_addStep_4 rfl (lv_at hl 2 rfl) ?_
  have hF := va_free (wc := [(h0, .inr (7, [.ref h2, .ref h3, .ref h4, .ref h5, .ref h6, .ref h7, .int 0, .int 0, .int 0, .int 0])), (h5, .inr (4, [.ref h8, .ref h9, .ref h10, .int 0])), (h8, .inl (κ 0, 12, .inl (fun _ => 0))), (h9, .inl (κ 0, 12, .inl (fun _ => 0)))]) hD hS hA [0, 2, 3, 4] rfl
  refine vx_calli (vx_runV (As := [.int 3, .int p0]) (rest := [.int 0, .ref h1]) ⟨hx, hb, hml, hown, hts⟩ (k_X5_addStep_3 l hst D κ ε h0 h2 h3 h4 h5 h6 h7 h8 h9 h10 s.heap.size (p0)) (cwV 2 hts gL_addStep_X5_addStep_x rfl rfl rfl (by decide +kernel) ⟨(Nat.le_of_ble_eq_true rfl), (Nat.le_of_ble_eq_true rfl)⟩) (pre2_V (q0 := 0) (ci := 7) (wc := [(h0, .inr (7, [.ref h2, .ref h3, .ref h4, .ref h5, .ref h6, .ref h7, .int 0, .int 0, .int 0, .int 0])), (h5, .inr (4, [.ref h8, .ref h9, .ref h10, .int 0])), (h8, .inl (κ 0, 12, .inl (fun _ => 0))), (h9, .inl (κ 0, 12, .inl (fun _ => 0)))]) hP hD hK hE9 hS hA [0, 2, 3, 4] (by decide) rfl rfl rfl) rfl rfl hl.1 rfl (lv_room (Nat.le_of_ble_eq_true rfl)) dL_addStep_5 ⟨(Nat.le_of_ble_eq_true rfl), (Nat.le_of_ble_eq_true rfl)⟩) hS (fun q _ h => hF q h) hF (fun q _ h => hF q h) (fun E9 ce q9 u t H locs ht hvm hw hB hz1 hk1 hS hce hcv hcl => ?_) (fun r u t H locs ht hvm hw hB hz1 hk1 hS => ?_)
  · try dsimp only at hB
    have hP1 : va_P D vwCl [] H := P_nil
    obtain ⟨hP, hD⟩ := post_j (ws' := [(h1, .inl (κ 2, 1, .inr (.inl (fun _ => 0))))]) (wr := [(h1, .inl (κ 2, 1, .inr (.inl (fun _ => 0))))]) (w1 := []) hP hD hF [0, 2, 3, 4] rfl [1] rfl (by decide) (by decide) hk1 hP1 D_nil [0] (by decide) rfl
    have hP : va_P D vwCl [(h1, .inl (κ 2, 1, .inr (.inl (fun _ => 0))))] H := hP
    have hD : va_D A [(h1, .inl (κ 2, 1, .inr (.inl (fun _ => 0))))] := hD
    rcases hB with ⟨c2, rfl⟩ | ⟨c3, c4, rfl⟩
    · skip
      refine vx_catch (name := "java/lang/IllegalArgumentException") hown [] ⟨0, 10, 13, 19⟩ [⟨0, 10, 17, 13⟩] (htab.trans rfl) (fun z hz => nomatch hz) (by decide) (by decide) (hts _ wd386_L_addStep) (va_Nw.use rfl hE.2.2.2.2.2.2.2.2.2.2.2.2.2.2.1) hce hcv hcl ?_
      refine lv_astore (lv' := [(4, .ref q9), (0, .ref h0), (1, .int 3), (2, .int p0), (3, .ref h1)]) hx hb dL_addStep_13 hl (by decide) rfl (fun ls hl => ?_)
      refine lv_iconst (v := 1) hx hb dL_addStep_15 (by decide) ?_
      have hP9 := hP.sub (ws' := [(h1, .inl (κ 2, 1, .inr (.inl (fun _ => 0))))]) [0] rfl
      have hD9 := hD.sub (ws' := [(h1, .inl (κ 2, 1, .inr (.inl (fun _ => 0))))]) [0] (by decide) rfl
      refine W.widen (k := 1) (n := 6) (Nat.le_of_ble_eq_true rfl) (Nat.le_of_ble_eq_true rfl) ?_
      exact W.iret (v := 1) hx hb hr (fun t ht hW => ⟨⟨1, (fun _ => 0), rfl, (Or.inl ⟨c2, rfl⟩), by rw [ht]; exact hP9, hD9⟩, hS.F ht⟩) hS.2.2 dL_addStep_16
    · skip
      refine vx_catch (name := "java/lang/IllegalArgumentException") hown [] ⟨0, 10, 13, 19⟩ [⟨0, 10, 17, 13⟩] (htab.trans rfl) (fun z hz => nomatch hz) (by decide) (by decide) (hts _ wd386_L_addStep) (va_Nw.use rfl hE.2.2.2.2.2.2.2.2.2.2.2.2.2.2.1) hce hcv hcl ?_
      refine lv_astore (lv' := [(4, .ref q9), (0, .ref h0), (1, .int 3), (2, .int p0), (3, .ref h1)]) hx hb dL_addStep_13 hl (by decide) rfl (fun ls hl => ?_)
      refine lv_iconst (v := 1) hx hb dL_addStep_15 (by decide) ?_
      have hP9 := hP.sub (ws' := [(h1, .inl (κ 2, 1, .inr (.inl (fun _ => 0))))]) [0] rfl
      have hD9 := hD.sub (ws' := [(h1, .inl (κ 2, 1, .inr (.inl (fun _ => 0))))]) [0] (by decide) rfl
      refine W.widen (k := 1) (n := 6) (Nat.le_of_ble_eq_true rfl) (Nat.le_of_ble_eq_true rfl) ?_
      exact W.iret (v := 1) hx hb hr (fun t ht hW => ⟨⟨1, (fun _ => 0), rfl, (Or.inr (Or.inl ⟨c3, c4, rfl⟩)), by rw [ht]; exact hP9, hD9⟩, hS.F ht⟩) hS.2.2 dL_addStep_16
  · try dsimp only at hw hB
    have hP1 : va_P D vwCl [] H := P_nil
    obtain ⟨hP, hD⟩ := post_j (ws' := [(h1, .inl (κ 2, 1, .inr (.inl (fun _ => 0))))]) (wr := [(h1, .inl (κ 2, 1, .inr (.inl (fun _ => 0))))]) (w1 := []) hP hD hF [0, 2, 3, 4] rfl [1] rfl (by decide) (by decide) hk1 hP1 D_nil [0] (by decide) rfl
    have hP : va_P D vwCl [(h1, .inl (κ 2, 1, .inr (.inl (fun _ => 0))))] H := hP
    have hD : va_D A [(h1, .inl (κ 2, 1, .inr (.inl (fun _ => 0))))] := hD
    obtain ⟨c5, c6, rfl⟩ := hw
    refine lv_i2l (v := 0) hx hb dL_addStep_8 (by decide) ?_
    refine va_last (cA := κ 2) (n := 1) (f := (fun _ => 0)) hx hb hK hP hD hS 0 2 rfl rfl (vpl (by decide)) dL_addStep_9 (fun H locs hP hD hS => ?_)
    have hP : va_P D vwCl [(h1, .inl (κ 2, 1, .inr (.inl (vp_updL (fun _ => 0) 0 0))))] H := hP
    have hD : va_D A [(h1, .inl (κ 2, 1, .inr (.inl (vp_updL (fun _ => 0) 0 0))))] := hD
    refine lv_goto (tgt := 21) hx hb dL_addStep_10 (by decide) ?_
    refine lv_iconst (v := 0) hx hb dL_addStep_21 (by decide) ?_
    have hP9 := hP.sub (ws' := [(h1, .inl (κ 2, 1, .inr (.inl (vp_updL (fun _ => 0) 0 0))))]) [0] rfl
    have hD9 := hD.sub (ws' := [(h1, .inl (κ 2, 1, .inr (.inl (vp_updL (fun _ => 0) 0 0))))]) [0] (by decide) rfl
    refine W.widen (k := 1) (n := 6) (Nat.le_of_ble_eq_true rfl) (Nat.le_of_ble_eq_true rfl) ?_
    exact W.iret (v := 0) hx hb hr (fun t ht hW => ⟨⟨0, (vp_updL (fun _ => 0) 0 0), rfl, (Or.inr (Or.inr ⟨c5, c6, rfl, rfl⟩)), by rw [ht]; exact hP9, hD9⟩, hS.F ht⟩) hS.2.2 dL_addStep_22

set_option maxHeartbeats 4000000 in
set_option maxRecDepth 100000 in
theorem k_X6_isIn_42 (l : Launch) (D : va_G) (κ ε : Nat → Nat) : Met l yX6_isIn wsX6_isIn ({ frames := 0, cells := 0, slots := 0, locals := 0 }) (va_Pc [.int 3, .int 0, .int 5] (Pre0 D κ [])) (vp_Si (fun r => (r = 1))) 0 0 (fun _ => False) := by
  refine Met.ofW (cc := cX6_isIn) (maxL := 3) (ret := (some .boolean)) (by decide) rfl ?_
  intro p e s m args below meth c s₁ B hml hv
  obtain ⟨rfl, hP, hK⟩ := hv
  have hx := B.exec
  have hb := B.bytes
  have hr := B.returns
  have hts := atoms_spec (ws := wsX6_isIn) B.pre
  have hown : s.vm.findClass RX6 = some m.cls := findClass_of_methodNamed B.named
  have hlocks := B.notSynchronized
  have hP : va_P D vwCl [] s.heap := hP
  have hl := lv_entry [.int 3, .int 0, .int 5] (n := 3) (Nat.le_of_ble_eq_true rfl)
  rw [lg_entry_eq]
  generalize (lg_sl [.int 3, .int 0, .int 5] ++ List.replicate (3 - (lg_sl [.int 3, .int 0, .int 5]).length) Slot.unset).toArray = ls at hl ⊢
  have hl : lv_has ls 3 [(0, .int 3), (1, .int 0), (2, .int 5)] := hl
  refine lv_iload_n hx hb dX6_isIn_0 rfl (lv_at hl 0 rfl) ?_
  refine lv_iload_n hx hb dX6_isIn_1 rfl (lv_at hl 1 rfl) ?_
  refine lv_icmp_lt (tgt := 14) hx hb dX6_isIn_2 (by decide) (fun h => absurd h (by decide)) (fun _ => ?_)
  refine lv_iload_n hx hb dX6_isIn_5 rfl (lv_at hl 0 rfl) ?_
  refine lv_iload_n hx hb dX6_isIn_6 rfl (lv_at hl 2 rfl) ?_
  refine lv_icmp_gt (tgt := 14) hx hb dX6_isIn_7 (by decide) (fun h => absurd h (by decide)) (fun _ => ?_)
  refine lv_iconst (v := 1) hx hb dX6_isIn_10 (by decide) ?_
  refine lv_goto (tgt := 15) hx hb dX6_isIn_11 (by decide) ?_
  exact W.zret (v := 1) hx hb hr rfl (fun t ht hW => ⟨1, rfl, rfl, ht⟩) (fun q hq => absurd hq List.not_mem_nil) dX6_isIn_15

set_option maxHeartbeats 4000000 in
set_option maxRecDepth 100000 in
theorem k_X6_isIn_43 (l : Launch) (D : va_G) (κ ε : Nat → Nat) (p0 : Int32) (hf0 : p0 < 1) : Met l yX6_isIn wsX6_isIn ({ frames := 0, cells := 0, slots := 0, locals := 0 }) (va_Pc [.int p0, .int 1, .int 12] (Pre0 D κ [])) (vp_Si (fun r => (r = 0))) 0 0 (fun _ => False) := by
  refine Met.ofW (cc := cX6_isIn) (maxL := 3) (ret := (some .boolean)) (by decide) rfl ?_
  intro p e s m args below meth c s₁ B hml hv
  obtain ⟨rfl, hP, hK⟩ := hv
  have hx := B.exec
  have hb := B.bytes
  have hr := B.returns
  have hts := atoms_spec (ws := wsX6_isIn) B.pre
  have hown : s.vm.findClass RX6 = some m.cls := findClass_of_methodNamed B.named
  have hlocks := B.notSynchronized
  have hP : va_P D vwCl [] s.heap := hP
  have hl := lv_entry [.int p0, .int 1, .int 12] (n := 3) (Nat.le_of_ble_eq_true rfl)
  rw [lg_entry_eq]
  generalize (lg_sl [.int p0, .int 1, .int 12] ++ List.replicate (3 - (lg_sl [.int p0, .int 1, .int 12]).length) Slot.unset).toArray = ls at hl ⊢
  have hl : lv_has ls 3 [(0, .int p0), (1, .int 1), (2, .int 12)] := hl
  refine lv_iload_n hx hb dX6_isIn_0 rfl (lv_at hl 0 rfl) ?_
  refine lv_iload_n hx hb dX6_isIn_1 rfl (lv_at hl 1 rfl) ?_
  refine lv_icmp_lt (tgt := 14) hx hb dX6_isIn_2 (by decide) (fun _ => ?_) (fun h => absurd hf0 h)
  refine lv_iconst (v := 0) hx hb dX6_isIn_14 (by decide) ?_
  exact W.zret (v := 0) hx hb hr rfl (fun t ht hW => ⟨0, rfl, rfl, ht⟩) (fun q hq => absurd hq List.not_mem_nil) dX6_isIn_15

set_option maxHeartbeats 4000000 in
set_option maxRecDepth 100000 in
theorem k_X6_addStep_4 (l : Launch) (D : va_G) (κ ε : Nat → Nat) (h0 h1 h2 h3 : Nat) (sz : Nat) (p0 : Int32) (hf0 : p0 < 1) : Met l yX6_addStep wsX6_addStep ({ frames := 2, cells := 0, slots := 0, locals := 44 }) (va_Pc [.ref h0, .int 3, .int p0] (Pre2 D κ ε [(h0, .inr (8, [.int 0, .int 0, .int 2, .ref h1, .ref h2, .int 0, .int 500, .int 0, .int 0, .int 0, .ref h3]))] sz)) (va_Qi (fun r (u : List Value) => (u[0]? = some (.int 1)) ∧ (r = 0)) (fun u t => va_P D vwCl [(h0, .inr (8, u))] t.heap ∧ va_D (va_A [(h0, .inr (8, [.int 0, .int 0, .int 2, .ref h1, .ref h2, .int 0, .int 500, .int 0, .int 0, .int 0, .ref h3]))] sz) [(h0, .inr (8, u))]) (va_A [(h0, .inr (8, [.int 0, .int 0, .int 2, .ref h1, .ref h2, .int 0, .int 500, .int 0, .int 0, .int 0, .ref h3]))] sz)) 0 0 (va_A [(h0, .inr (8, [.int 0, .int 0, .int 2, .ref h1, .ref h2, .int 0, .int 500, .int 0, .int 0, .int 0, .ref h3]))] sz) := by
  refine Met.ofW (cc := cX6_addStep) (maxL := 3) (ret := (some .int)) (by decide) rfl ?_
  intro p e s m args below meth c s₁ B hml hv
  obtain ⟨rfl, hsz, hP, hK, hD0, hE9⟩ := hv
  have hx := B.exec
  have hb := B.bytes
  have hr := B.returns
  have hts := atoms_spec (ws := wsX6_addStep) B.pre
  have hown : s.vm.findClass RX6 = some m.cls := findClass_of_methodNamed B.named
  have hlocks := B.notSynchronized
  subst hsz
  have hD := hD0.self (sz := s.heap.size)
  generalize hAe : va_A [(h0, .inr (8, [.int 0, .int 0, .int 2, .ref h1, .ref h2, .int 0, .int 500, .int 0, .int 0, .int 0, .ref h3]))] s.heap.size = A at hD hE9 ⊢
  have hE := hE9.1
  have hDc := hE9.2
  have hA : ∀ q : Nat, s.heap.size ≤ q → A q := fun q h => by rw [← hAe]; exact Or.inr h
  have hS : va_S A s.heap s.heap [] := va_S.rf
  have hP : va_P D vwCl [(h0, .inr (8, [.int 0, .int 0, .int 2, .ref h1, .ref h2, .int 0, .int 500, .int 0, .int 0, .int 0, .ref h3]))] s.heap := hP
  have hl := lv_entry [.ref h0, .int 3, .int p0] (n := 3) (Nat.le_of_ble_eq_true rfl)
  rw [lg_entry_eq]
  generalize (lg_sl [.ref h0, .int 3, .int p0] ++ List.replicate (3 - (lg_sl [.ref h0, .int 3, .int p0]).length) Slot.unset).toArray = ls at hl ⊢
  have hl : lv_has ls 3 [(0, .ref h0), (1, .int 3), (2, .int p0)] := hl
  refine lv_aload_n hx hb dX6_addStep_0 rfl (lv_at hl 0 rfl) ?_
  refine lv_iload_n hx hb dX6_addStep_1 rfl (lv_at hl 1 rfl) ?_
  refine lv_iconst (v := 0) hx hb dX6_addStep_2 (by decide) ?_
  refine lv_iconst (v := 5) hx hb dX6_addStep_3 (by decide) ?_
  refine vp_callSi (W.runS (As := [.int 3, .int 0, .int 5]) (rest := [.ref h0]) ⟨hx, hb, hml, hown, hts⟩ (k_X6_isIn_42 l D κ ε) (va_cwS 3 hts gX6_addStep_X6_isIn rfl rfl rfl (by decide +kernel) ⟨(Nat.le_of_ble_eq_true rfl), (Nat.le_of_ble_eq_true rfl)⟩) (pre0_S (wc := []) hP hK [] rfl) rfl rfl hl.1 rfl (lv_room (Nat.le_of_ble_eq_true rfl)) dX6_addStep_4 ⟨(Nat.le_of_ble_eq_true rfl), (Nat.le_of_ble_eq_true rfl)⟩) (fun r hw => ?_)
  rw [hw]
  refine lv_if_eq (tgt := 66) hx hb dX6_addStep_7 (by decide) (fun h => absurd h (by decide)) (fun _ => ?_)
  refine lv_iload_n hx hb dX6_addStep_10 rfl (lv_at hl 1 rfl) ?_
  refine lv_iconst (v := 2) hx hb dX6_addStep_11 (by decide) ?_
  refine lv_icmp_ne (tgt := 29) hx hb dX6_addStep_12 (by decide) (fun _ => ?_) (fun h => absurd h (by decide))
  refine lv_iload_n hx hb dX6_addStep_29 rfl (lv_at hl 1 rfl) ?_
  refine lv_iconst (v := 4) hx hb dX6_addStep_30 (by decide) ?_
  refine lv_icmp_ne (tgt := 46) hx hb dX6_addStep_31 (by decide) (fun _ => ?_) (fun h => absurd h (by decide))
  refine lv_iload_n hx hb dX6_addStep_46 rfl (lv_at hl 1 rfl) ?_
  refine lv_iconst (v := 3) hx hb dX6_addStep_47 (by decide) ?_
  refine lv_icmp_eq (tgt := 56) hx hb dX6_addStep_48 (by decide) (fun _ => ?_) (fun h => absurd (by decide) h)
  refine lv_iload_n hx hb dX6_addStep_56 rfl (lv_at hl 2 rfl) ?_
  refine lv_iconst (v := 1) hx hb dX6_addStep_57 (by decide) ?_
  refine lv_bipush (v := 12) hx hb dX6_addStep_58 (by decide) ?_
  refine vp_callSi (W.runS (As := [.int p0, .int 1, .int 12]) (rest := [.ref h0]) ⟨hx, hb, hml, hown, hts⟩ (k_X6_isIn_43 l D κ ε (p0) hf0) (va_cwS 3 hts gX6_addStep_X6_isIn rfl rfl rfl (by decide +kernel) ⟨(Nat.le_of_ble_eq_true rfl), (Nat.le_of_ble_eq_true rfl)⟩) (pre0_S (wc := []) hP hK [] rfl) rfl rfl hl.1 rfl (lv_room (Nat.le_of_ble_eq_true rfl)) dX6_addStep_60 ⟨(Nat.le_of_ble_eq_true rfl), (Nat.le_of_ble_eq_true rfl)⟩) (fun r hw => ?_)
  rw [hw]
  refine lv_if_ne (tgt := 70) hx hb dX6_addStep_63 (by decide) (fun h => absurd (by decide) h) (fun _ => ?_)
  refine lv_iconst (v := 1) hx hb dX6_addStep_66 (by decide) ?_
  refine lv_goto (tgt := 71) hx hb dX6_addStep_67 (by decide) ?_
  refine lv_iconst (v := 1) hx hb dX6_addStep_71 (by decide) ?_
  have hF := va_free (wc := [(h0, .inr (8, [.int 0, .int 0, .int 2, .ref h1, .ref h2, .int 0, .int 500, .int 0, .int 0, .int 0, .ref h3]))]) hD hS hA [0] rfl
  refine va_calli (va_runV (As := [.int 1, .int 1]) (rest := []) ⟨hx, hb, hml, hown, hts⟩ (k_X6_start_1 l D κ ε h0 h1 h2 h3 s.heap.size (0) (2) (0) (500) (0) (0)) (cwV 2 hts gX6_addStep_X6_start rfl rfl rfl (by decide +kernel) ⟨(Nat.le_of_ble_eq_true rfl), (Nat.le_of_ble_eq_true rfl)⟩) (pre2_V (q0 := 0) (ci := 8) (wc := [(h0, .inr (8, [.int 0, .int 0, .int 2, .ref h1, .ref h2, .int 0, .int 500, .int 0, .int 0, .int 0, .ref h3]))]) hP hD hK hE9 hS hA [0] (by decide) rfl rfl rfl) rfl rfl hl.1 rfl (lv_room (Nat.le_of_ble_eq_true rfl)) dX6_addStep_72 ⟨(Nat.le_of_ble_eq_true rfl), (Nat.le_of_ble_eq_true rfl)⟩) hS (fun q _ h => hF q h) hF (fun r u1 t H locs ht hvm hw hB hz1 hk1 hS => ?_)
  try dsimp only at hw hB
  obtain ⟨hP1, hD1⟩ := hB
  rw [ht] at hP1
  obtain ⟨hP, hD⟩ := post_j (ws' := [(h0, .inr (8, [.int 1, .int 0, .int 2, .ref h1, .ref h2, .int 0, .int 500, .int 0, .int 0, .int 0, .ref h3]))]) (wr := []) (w1 := [(h0, .inr (8, [.int 1, .int 0, .int 2, .ref h1, .ref h2, .int 0, .int 500, .int 0, .int 0, .int 0, .ref h3]))]) hP hD hF [0] rfl [] rfl (by decide) (by decide) hk1 hP1 hD1 [0] (by decide) rfl
  have hP : va_P D vwCl [(h0, .inr (8, [.int 1, .int 0, .int 2, .ref h1, .ref h2, .int 0, .int 500, .int 0, .int 0, .int 0, .ref h3]))] H := hP
  have hD : va_D A [(h0, .inr (8, [.int 1, .int 0, .int 2, .ref h1, .ref h2, .int 0, .int 500, .int 0, .int 0, .int 0, .ref h3]))] := hD
  rw [hw]
  refine lv_if_eq (tgt := 80) hx hb dX6_addStep_75 (by decide) (fun h => absurd h (by decide)) (fun _ => ?_)
  refine lv_iconst (v := 0) hx hb dX6_addStep_78 (by decide) ?_
  have hP9 := hP.sub (ws' := [(h0, .inr (8, [.int 1, .int 0, .int 2, .ref h1, .ref h2, .int 0, .int 500, .int 0, .int 0, .int 0, .ref h3]))]) [0] rfl
  have hD9 := hD.sub (ws' := [(h0, .inr (8, [.int 1, .int 0, .int 2, .ref h1, .ref h2, .int 0, .int 500, .int 0, .int 0, .int 0, .ref h3]))]) [0] (by decide) rfl
  exact W.iret (v := 0) hx hb hr (fun t ht hW => ⟨⟨0, [.int 1, .int 0, .int 2, .ref h1, .ref h2, .int 0, .int 500, .int 0, .int 0, .int 0, .ref h3], rfl, ⟨rfl, rfl⟩, by rw [ht]; exact hP9, hD9⟩, hS.F ht⟩) hS.2.2 dX6_addStep_79

set_option maxHeartbeats 4000000 in
set_option maxRecDepth 100000 in
theorem k_X6_isIn_44 (l : Launch) (D : va_G) (κ ε : Nat → Nat) (p0 : Int32) (hf0 : ¬ p0 < 1) (hf1 : 12 < p0) : Met l yX6_isIn wsX6_isIn ({ frames := 0, cells := 0, slots := 0, locals := 0 }) (va_Pc [.int p0, .int 1, .int 12] (Pre0 D κ [])) (vp_Si (fun r => (r = 0))) 0 0 (fun _ => False) := by
  refine Met.ofW (cc := cX6_isIn) (maxL := 3) (ret := (some .boolean)) (by decide) rfl ?_
  intro p e s m args below meth c s₁ B hml hv
  obtain ⟨rfl, hP, hK⟩ := hv
  have hx := B.exec
  have hb := B.bytes
  have hr := B.returns
  have hts := atoms_spec (ws := wsX6_isIn) B.pre
  have hown : s.vm.findClass RX6 = some m.cls := findClass_of_methodNamed B.named
  have hlocks := B.notSynchronized
  have hP : va_P D vwCl [] s.heap := hP
  have hl := lv_entry [.int p0, .int 1, .int 12] (n := 3) (Nat.le_of_ble_eq_true rfl)
  rw [lg_entry_eq]
  generalize (lg_sl [.int p0, .int 1, .int 12] ++ List.replicate (3 - (lg_sl [.int p0, .int 1, .int 12]).length) Slot.unset).toArray = ls at hl ⊢
  have hl : lv_has ls 3 [(0, .int p0), (1, .int 1), (2, .int 12)] := hl
  refine lv_iload_n hx hb dX6_isIn_0 rfl (lv_at hl 0 rfl) ?_
  refine lv_iload_n hx hb dX6_isIn_1 rfl (lv_at hl 1 rfl) ?_
  refine lv_icmp_lt (tgt := 14) hx hb dX6_isIn_2 (by decide) (fun h => absurd h hf0) (fun _ => ?_)
  refine lv_iload_n hx hb dX6_isIn_5 rfl (lv_at hl 0 rfl) ?_
  refine lv_iload_n hx hb dX6_isIn_6 rfl (lv_at hl 2 rfl) ?_
  refine lv_icmp_gt (tgt := 14) hx hb dX6_isIn_7 (by decide) (fun _ => ?_) (fun h => absurd hf1 h)
  refine lv_iconst (v := 0) hx hb dX6_isIn_14 (by decide) ?_
  exact W.zret (v := 0) hx hb hr rfl (fun t ht hW => ⟨0, rfl, rfl, ht⟩) (fun q hq => absurd hq List.not_mem_nil) dX6_isIn_15

set_option maxHeartbeats 4000000 in
set_option maxRecDepth 100000 in
theorem k_X6_addStep_5 (l : Launch) (D : va_G) (κ ε : Nat → Nat) (h0 h1 h2 h3 : Nat) (sz : Nat) (p0 : Int32) (hf0 : ¬ p0 < 1) (hf1 : 12 < p0) : Met l yX6_addStep wsX6_addStep ({ frames := 2, cells := 0, slots := 0, locals := 44 }) (va_Pc [.ref h0, .int 3, .int p0] (Pre2 D κ ε [(h0, .inr (8, [.int 0, .int 0, .int 2, .ref h1, .ref h2, .int 0, .int 500, .int 0, .int 0, .int 0, .ref h3]))] sz)) (va_Qi (fun r (u : List Value) => (u[0]? = some (.int 1)) ∧ (r = 0)) (fun u t => va_P D vwCl [(h0, .inr (8, u))] t.heap ∧ va_D (va_A [(h0, .inr (8, [.int 0, .int 0, .int 2, .ref h1, .ref h2, .int 0, .int 500, .int 0, .int 0, .int 0, .ref h3]))] sz) [(h0, .inr (8, u))]) (va_A [(h0, .inr (8, [.int 0, .int 0, .int 2, .ref h1, .ref h2, .int 0, .int 500, .int 0, .int 0, .int 0, .ref h3]))] sz)) 0 0 (va_A [(h0, .inr (8, [.int 0, .int 0, .int 2, .ref h1, .ref h2, .int 0, .int 500, .int 0, .int 0, .int 0, .ref h3]))] sz) := by
  refine Met.ofW (cc := cX6_addStep) (maxL := 3) (ret := (some .int)) (by decide) rfl ?_
  intro p e s m args below meth c s₁ B hml hv
  obtain ⟨rfl, hsz, hP, hK, hD0, hE9⟩ := hv
  have hx := B.exec
  have hb := B.bytes
  have hr := B.returns
  have hts := atoms_spec (ws := wsX6_addStep) B.pre
  have hown : s.vm.findClass RX6 = some m.cls := findClass_of_methodNamed B.named
  have hlocks := B.notSynchronized
  subst hsz
  have hD := hD0.self (sz := s.heap.size)
  generalize hAe : va_A [(h0, .inr (8, [.int 0, .int 0, .int 2, .ref h1, .ref h2, .int 0, .int 500, .int 0, .int 0, .int 0, .ref h3]))] s.heap.size = A at hD hE9 ⊢
  have hE := hE9.1
  have hDc := hE9.2
  have hA : ∀ q : Nat, s.heap.size ≤ q → A q := fun q h => by rw [← hAe]; exact Or.inr h
  have hS : va_S A s.heap s.heap [] := va_S.rf
  have hP : va_P D vwCl [(h0, .inr (8, [.int 0, .int 0, .int 2, .ref h1, .ref h2, .int 0, .int 500, .int 0, .int 0, .int 0, .ref h3]))] s.heap := hP
  have hl := lv_entry [.ref h0, .int 3, .int p0] (n := 3) (Nat.le_of_ble_eq_true rfl)
  rw [lg_entry_eq]
  generalize (lg_sl [.ref h0, .int 3, .int p0] ++ List.replicate (3 - (lg_sl [.ref h0, .int 3, .int p0]).length) Slot.unset).toArray = ls at hl ⊢
  have hl : lv_has ls 3 [(0, .ref h0), (1, .int 3), (2, .int p0)] := hl
  refine lv_aload_n hx hb dX6_addStep_0 rfl (lv_at hl 0 rfl) ?_
  refine lv_iload_n hx hb dX6_addStep_1 rfl (lv_at hl 1 rfl) ?_
  refine lv_iconst (v := 0) hx hb dX6_addStep_2 (by decide) ?_
  refine lv_iconst (v := 5) hx hb dX6_addStep_3 (by decide) ?_
  refine vp_callSi (W.runS (As := [.int 3, .int 0, .int 5]) (rest := [.ref h0]) ⟨hx, hb, hml, hown, hts⟩ (k_X6_isIn_42 l D κ ε) (va_cwS 3 hts gX6_addStep_X6_isIn rfl rfl rfl (by decide +kernel) ⟨(Nat.le_of_ble_eq_true rfl), (Nat.le_of_ble_eq_true rfl)⟩) (pre0_S (wc := []) hP hK [] rfl) rfl rfl hl.1 rfl (lv_room (Nat.le_of_ble_eq_true rfl)) dX6_addStep_4 ⟨(Nat.le_of_ble_eq_true rfl), (Nat.le_of_ble_eq_true rfl)⟩) (fun r hw => ?_)
  rw [hw]
  refine lv_if_eq (tgt := 66) hx hb dX6_addStep_7 (by decide) (fun h => absurd h (by decide)) (fun _ => ?_)
  refine lv_iload_n hx hb dX6_addStep_10 rfl (lv_at hl 1 rfl) ?_
  refine lv_iconst (v := 2) hx hb dX6_addStep_11 (by decide) ?_
  refine lv_icmp_ne (tgt := 29) hx hb dX6_addStep_12 (by decide) (fun _ => ?_) (fun h => absurd h (by decide))
  refine lv_iload_n hx hb dX6_addStep_29 rfl (lv_at hl 1 rfl) ?_
  refine lv_iconst (v := 4) hx hb dX6_addStep_30 (by decide) ?_
  refine lv_icmp_ne (tgt := 46) hx hb dX6_addStep_31 (by decide) (fun _ => ?_) (fun h => absurd h (by decide))
  refine lv_iload_n hx hb dX6_addStep_46 rfl (lv_at hl 1 rfl) ?_
  refine lv_iconst (v := 3) hx hb dX6_addStep_47 (by decide) ?_
  refine lv_icmp_eq (tgt := 56) hx hb dX6_addStep_48 (by decide) (fun _ => ?_) (fun h => absurd (by decide) h)
  refine lv_iload_n hx hb dX6_addStep_56 rfl (lv_at hl 2 rfl) ?_
  refine lv_iconst (v := 1) hx hb dX6_addStep_57 (by decide) ?_
  refine lv_bipush (v := 12) hx hb dX6_addStep_58 (by decide) ?_
  refine vp_callSi (W.runS (As := [.int p0, .int 1, .int 12]) (rest := [.ref h0]) ⟨hx, hb, hml, hown, hts⟩ (k_X6_isIn_44 l D κ ε (p0) hf0 hf1) (va_cwS 3 hts gX6_addStep_X6_isIn rfl rfl rfl (by decide +kernel) ⟨(Nat.le_of_ble_eq_true rfl), (Nat.le_of_ble_eq_true rfl)⟩) (pre0_S (wc := []) hP hK [] rfl) rfl rfl hl.1 rfl (lv_room (Nat.le_of_ble_eq_true rfl)) dX6_addStep_60 ⟨(Nat.le_of_ble_eq_true rfl), (Nat.le_of_ble_eq_true rfl)⟩) (fun r hw => ?_)
  rw [hw]
  refine lv_if_ne (tgt := 70) hx hb dX6_addStep_63 (by decide) (fun h => absurd (by decide) h) (fun _ => ?_)
  refine lv_iconst (v := 1) hx hb dX6_addStep_66 (by decide) ?_
  refine lv_goto (tgt := 71) hx hb dX6_addStep_67 (by decide) ?_
  refine lv_iconst (v := 1) hx hb dX6_addStep_71 (by decide) ?_
  have hF := va_free (wc := [(h0, .inr (8, [.int 0, .int 0, .int 2, .ref h1, .ref h2, .int 0, .int 500, .int 0, .int 0, .int 0, .ref h3]))]) hD hS hA [0] rfl
  refine va_calli (va_runV (As := [.int 1, .int 1]) (rest := []) ⟨hx, hb, hml, hown, hts⟩ (k_X6_start_1 l D κ ε h0 h1 h2 h3 s.heap.size (0) (2) (0) (500) (0) (0)) (cwV 2 hts gX6_addStep_X6_start rfl rfl rfl (by decide +kernel) ⟨(Nat.le_of_ble_eq_true rfl), (Nat.le_of_ble_eq_true rfl)⟩) (pre2_V (q0 := 0) (ci := 8) (wc := [(h0, .inr (8, [.int 0, .int 0, .int 2, .ref h1, .ref h2, .int 0, .int 500, .int 0, .int 0, .int 0, .ref h3]))]) hP hD hK hE9 hS hA [0] (by decide) rfl rfl rfl) rfl rfl hl.1 rfl (lv_room (Nat.le_of_ble_eq_true rfl)) dX6_addStep_72 ⟨(Nat.le_of_ble_eq_true rfl), (Nat.le_of_ble_eq_true rfl)⟩) hS (fun q _ h => hF q h) hF (fun r u1 t H locs ht hvm hw hB hz1 hk1 hS => ?_)
  try dsimp only at hw hB
  obtain ⟨hP1, hD1⟩ := hB
  rw [ht] at hP1
  obtain ⟨hP, hD⟩ := post_j (ws' := [(h0, .inr (8, [.int 1, .int 0, .int 2, .ref h1, .ref h2, .int 0, .int 500, .int 0, .int 0, .int 0, .ref h3]))]) (wr := []) (w1 := [(h0, .inr (8, [.int 1, .int 0, .int 2, .ref h1, .ref h2, .int 0, .int 500, .int 0, .int 0, .int 0, .ref h3]))]) hP hD hF [0] rfl [] rfl (by decide) (by decide) hk1 hP1 hD1 [0] (by decide) rfl
  have hP : va_P D vwCl [(h0, .inr (8, [.int 1, .int 0, .int 2, .ref h1, .ref h2, .int 0, .int 500, .int 0, .int 0, .int 0, .ref h3]))] H := hP
  have hD : va_D A [(h0, .inr (8, [.int 1, .int 0, .int 2, .ref h1, .ref h2, .int 0, .int 500, .int 0, .int 0, .int 0, .ref h3]))] := hD
  rw [hw]
  refine lv_if_eq (tgt := 80) hx hb dX6_addStep_75 (by decide) (fun h => absurd h (by decide)) (fun _ => ?_)
  refine lv_iconst (v := 0) hx hb dX6_addStep_78 (by decide) ?_
  have hP9 := hP.sub (ws' := [(h0, .inr (8, [.int 1, .int 0, .int 2, .ref h1, .ref h2, .int 0, .int 500, .int 0, .int 0, .int 0, .ref h3]))]) [0] rfl
  have hD9 := hD.sub (ws' := [(h0, .inr (8, [.int 1, .int 0, .int 2, .ref h1, .ref h2, .int 0, .int 500, .int 0, .int 0, .int 0, .ref h3]))]) [0] (by decide) rfl
  exact W.iret (v := 0) hx hb hr (fun t ht hW => ⟨⟨0, [.int 1, .int 0, .int 2, .ref h1, .ref h2, .int 0, .int 500, .int 0, .int 0, .int 0, .ref h3], rfl, ⟨rfl, rfl⟩, by rw [ht]; exact hP9, hD9⟩, hS.F ht⟩) hS.2.2 dX6_addStep_79

set_option maxHeartbeats 4000000 in
set_option maxRecDepth 100000 in
theorem k_X6_isIn_45 (l : Launch) (D : va_G) (κ ε : Nat → Nat) (p0 : Int32) (hf0 : ¬ p0 < 1) (hf1 : ¬ 12 < p0) : Met l yX6_isIn wsX6_isIn ({ frames := 0, cells := 0, slots := 0, locals := 0 }) (va_Pc [.int p0, .int 1, .int 12] (Pre0 D κ [])) (vp_Si (fun r => (r = 1))) 0 0 (fun _ => False) := by
  refine Met.ofW (cc := cX6_isIn) (maxL := 3) (ret := (some .boolean)) (by decide) rfl ?_
  intro p e s m args below meth c s₁ B hml hv
  obtain ⟨rfl, hP, hK⟩ := hv
  have hx := B.exec
  have hb := B.bytes
  have hr := B.returns
  have hts := atoms_spec (ws := wsX6_isIn) B.pre
  have hown : s.vm.findClass RX6 = some m.cls := findClass_of_methodNamed B.named
  have hlocks := B.notSynchronized
  have hP : va_P D vwCl [] s.heap := hP
  have hl := lv_entry [.int p0, .int 1, .int 12] (n := 3) (Nat.le_of_ble_eq_true rfl)
  rw [lg_entry_eq]
  generalize (lg_sl [.int p0, .int 1, .int 12] ++ List.replicate (3 - (lg_sl [.int p0, .int 1, .int 12]).length) Slot.unset).toArray = ls at hl ⊢
  have hl : lv_has ls 3 [(0, .int p0), (1, .int 1), (2, .int 12)] := hl
  refine lv_iload_n hx hb dX6_isIn_0 rfl (lv_at hl 0 rfl) ?_
  refine lv_iload_n hx hb dX6_isIn_1 rfl (lv_at hl 1 rfl) ?_
  refine lv_icmp_lt (tgt := 14) hx hb dX6_isIn_2 (by decide) (fun h => absurd h hf0) (fun _ => ?_)
  refine lv_iload_n hx hb dX6_isIn_5 rfl (lv_at hl 0 rfl) ?_
  refine lv_iload_n hx hb dX6_isIn_6 rfl (lv_at hl 2 rfl) ?_
  refine lv_icmp_gt (tgt := 14) hx hb dX6_isIn_7 (by decide) (fun h => absurd h hf1) (fun _ => ?_)
  refine lv_iconst (v := 1) hx hb dX6_isIn_10 (by decide) ?_
  refine lv_goto (tgt := 15) hx hb dX6_isIn_11 (by decide) ?_
  exact W.zret (v := 1) hx hb hr rfl (fun t ht hW => ⟨1, rfl, rfl, ht⟩) (fun q hq => absurd hq List.not_mem_nil) dX6_isIn_15

set_option maxHeartbeats 4000000 in
set_option maxRecDepth 100000 in
theorem k_Jx4a65c_add_72be8_2 (l : Launch) (D : va_G) (κ ε : Nat → Nat) (h0 h1 : Nat) (sz : Nat) (p0 : Int32) (p1 : Int32) : Met l yJx4a65c_add_72be8 wsJx4a65c_add_72be8 ({ frames := 3, cells := 1, slots := 10, locals := 60 }) (va_Pc [.ref h0, .ref h1, .ref (ε 1), .int 0] (Pre2 D κ ε [(h0, .inr (1, [.int p0, .ref (ε 1), .int 0])), (h1, .inl (κ 0, 2, .inl (upd (upd (fun _ => 0) 0 3) 1 p1)))] sz)) (va_Qv (fun u : Nat → Nat => True) (fun u t => va_P D vwCl [(h0, .inr (1, [.int p0, .ref (u 0), .int 1])), (h1, .inl (κ 0, 2, .inl (upd (upd (fun _ => 0) 0 3) 1 p1))), ((u 0), .inl (κ 5, 10, .inr (.inr (.inr (.inr (va_up (fun _ => none) 0 (some h1)))))))] t.heap ∧ va_D (va_A [(h0, .inr (1, [.int p0, .ref (ε 1), .int 0])), (h1, .inl (κ 0, 2, .inl (upd (upd (fun _ => 0) 0 3) 1 p1)))] sz) [(h0, .inr (1, [.int p0, .ref (u 0), .int 1])), (h1, .inl (κ 0, 2, .inl (upd (upd (fun _ => 0) 0 3) 1 p1))), ((u 0), .inl (κ 5, 10, .inr (.inr (.inr (.inr (va_up (fun _ => none) 0 (some h1)))))))]) (va_A [(h0, .inr (1, [.int p0, .ref (ε 1), .int 0])), (h1, .inl (κ 0, 2, .inl (upd (upd (fun _ => 0) 0 3) 1 p1)))] sz)) 1 10 (va_A [(h0, .inr (1, [.int p0, .ref (ε 1), .int 0])), (h1, .inl (κ 0, 2, .inl (upd (upd (fun _ => 0) 0 3) 1 p1)))] sz) := by
  refine Met.ofW (cc := cJx4a65c_add_72be8) (maxL := 4) (ret := none) (by decide) rfl ?_
  intro p e s m args below meth c s₁ B hml hv
  obtain ⟨rfl, hsz, hP, hK, hD0, hE9⟩ := hv
  have hx := B.exec
  have hb := B.bytes
  have hr := B.returns
  have hts := atoms_spec (ws := wsJx4a65c_add_72be8) B.pre
  have hown : s.vm.findClass RJx4a65c = some m.cls := findClass_of_methodNamed B.named
  have hlocks := B.notSynchronized
  subst hsz
  have hD := hD0.self (sz := s.heap.size)
  generalize hAe : va_A [(h0, .inr (1, [.int p0, .ref (ε 1), .int 0])), (h1, .inl (κ 0, 2, .inl (upd (upd (fun _ => 0) 0 3) 1 p1)))] s.heap.size = A at hD hE9 ⊢
  have hE := hE9.1
  have hDc := hE9.2
  have hA : ∀ q : Nat, s.heap.size ≤ q → A q := fun q h => by rw [← hAe]; exact Or.inr h
  have hS : va_S A s.heap s.heap [] := va_S.rf
  have hP : va_P D vwCl [(h0, .inr (1, [.int p0, .ref (ε 1), .int 0])), (h1, .inl (κ 0, 2, .inl (upd (upd (fun _ => 0) 0 3) 1 p1)))] s.heap := hP
  have hl := lv_entry [.ref h0, .ref h1, .ref (ε 1), .int 0] (n := 4) (Nat.le_of_ble_eq_true rfl)
  rw [lg_entry_eq]
  generalize (lg_sl [.ref h0, .ref h1, .ref (ε 1), .int 0] ++ List.replicate (4 - (lg_sl [.ref h0, .ref h1, .ref (ε 1), .int 0]).length) Slot.unset).toArray = ls at hl ⊢
  have hl : lv_has ls 4 [(0, .ref h0), (1, .ref h1), (2, .ref (ε 1)), (3, .int 0)] := hl
  refine lv_iload_n hx hb dJx4a65c_add_72be8_0 rfl (lv_at hl 3 rfl) ?_
  refine lv_aload_n hx hb dJx4a65c_add_72be8_1 rfl (lv_at hl 2 rfl) ?_
  refine va_tlen (v := 0) hx hb hE.2.2.2.2.2.1 hS (by decide) dJx4a65c_add_72be8_2 ?_
  refine lv_icmp_ne (tgt := 11) hx hb dJx4a65c_add_72be8_3 (by decide) (fun h => absurd (by decide) h) (fun _ => ?_)
  refine lv_aload_n hx hb dJx4a65c_add_72be8_6 rfl (lv_at hl 0 rfl) ?_
  have hF := va_free (wc := [(h0, .inr (1, [.int p0, .ref (ε 1), .int 0]))]) hD hS hA [0] rfl
  refine va_callr (va_runV (As := []) (rest := []) ⟨hx, hb, hml, hown, hts⟩ (k_Jx4a65c_grow_d5877_0 l D κ ε h0 s.heap.size (p0)) (cwV 0 hts gJx4a65c_add_72be8_Jx4a65c_grow_d5877 rfl rfl rfl (by decide +kernel) ⟨(Nat.le_of_ble_eq_true rfl), (Nat.le_of_ble_eq_true rfl)⟩) (pre2_V (q0 := 0) (ci := 1) (wc := [(h0, .inr (1, [.int p0, .ref (ε 1), .int 0]))]) hP hD hK hE9 hS hA [0] (by decide) rfl rfl rfl) rfl rfl hl.1 rfl (lv_room (Nat.le_of_ble_eq_true rfl)) dJx4a65c_add_72be8_7 ⟨(Nat.le_of_ble_eq_true rfl), (Nat.le_of_ble_eq_true rfl)⟩) hS (fun q _ h => hF q h) hF (fun u1 ra t H locs ht hvm hw hB hz1 hk1 hS => ?_)
  try dsimp only at hw hB
  obtain ⟨rfl, hB⟩ := hB
  obtain ⟨hP1, hD1⟩ := hB
  rw [ht] at hP1
  obtain ⟨hP, hD⟩ := post_j (ws' := [(h0, .inr (1, [.int p0, .ref (u1 0), .int 0])), (h1, .inl (κ 0, 2, .inl (upd (upd (fun _ => 0) 0 3) 1 p1))), ((u1 0), .inl (κ 5, 10, .inr (.inr (.inr (.inr (fun _ => none))))))]) (wr := [(h1, .inl (κ 0, 2, .inl (upd (upd (fun _ => 0) 0 3) 1 p1)))]) (w1 := [(h0, .inr (1, [.int p0, .ref (u1 0), .int 0])), ((u1 0), .inl (κ 5, 10, .inr (.inr (.inr (.inr (fun _ => none))))))]) hP hD hF [0] rfl [1] rfl (by decide) (by decide) hk1 hP1 hD1 [1, 0, 2] (by decide) rfl
  have hP : va_P D vwCl [(h0, .inr (1, [.int p0, .ref (u1 0), .int 0])), (h1, .inl (κ 0, 2, .inl (upd (upd (fun _ => 0) 0 3) 1 p1))), ((u1 0), .inl (κ 5, 10, .inr (.inr (.inr (.inr (fun _ => none))))))] H := hP
  have hD : va_D A [(h0, .inr (1, [.int p0, .ref (u1 0), .int 0])), (h1, .inl (κ 0, 2, .inl (upd (upd (fun _ => 0) 0 3) 1 p1))), ((u1 0), .inl (κ 5, 10, .inr (.inr (.inr (.inr (fun _ => none))))))] := hD
  refine lv_astore_n (lv' := [(2, .ref (u1 0)), (0, .ref h0), (1, .ref h1), (3, .int 0)]) hx hb dJx4a65c_add_72be8_10 rfl hl (by decide) rfl (fun ls hl => ?_)
  refine lv_aload_n hx hb dJx4a65c_add_72be8_11 rfl (lv_at hl 0 rfl) ?_
  refine lv_iload_n hx hb dJx4a65c_add_72be8_12 rfl (lv_at hl 3 rfl) ?_
  refine lv_aload_n hx hb dJx4a65c_add_72be8_13 rfl (lv_at hl 2 rfl) ?_
  refine va_astqM (cA := κ 5) (n := 10) (f := (fun _ => none)) hx hb hK hP hD hS 2 5 rfl rfl (any_arr hK hE hP 1 rfl) (vpl (by decide)) dJx4a65c_add_72be8_14 (fun H locs hP hD hS => ?_)
  have hP : va_P D vwCl [(h0, .inr (1, [.int p0, .ref (u1 0), .int 0])), (h1, .inl (κ 0, 2, .inl (upd (upd (fun _ => 0) 0 3) 1 p1))), ((u1 0), .inl (κ 5, 10, .inr (.inr (.inr (.inr (va_up (fun _ => none) 0 (some h1)))))))] H := hP
  have hD : va_D A [(h0, .inr (1, [.int p0, .ref (u1 0), .int 0])), (h1, .inl (κ 0, 2, .inl (upd (upd (fun _ => 0) 0 3) 1 p1))), ((u1 0), .inl (κ 5, 10, .inr (.inr (.inr (.inr (va_up (fun _ => none) 0 (some h1)))))))] := hD
  refine lv_aload_n hx hb dJx4a65c_add_72be8_15 rfl (lv_at hl 1 rfl) ?_
  refine lv_iload_n hx hb dJx4a65c_add_72be8_16 rfl (lv_at hl 3 rfl) ?_
  refine lv_iconst (v := 1) hx hb dJx4a65c_add_72be8_17 (by decide) ?_
  refine lv_iadd hx hb dJx4a65c_add_72be8_18 ?_
  refine tpi (v := 1) (by decide) ?_
  refine va_put (D := D) (ci := 1) (v := .int 1) (ty := .int) (C := RJx4a65c) (T := TJx4a65c) (N := 3) hx hb hts wi_Jx4a65c_add_72be8_RJx4a65c tyJx4a65c tyJx4a65c_ok nmJx4a65c hown hK hP hD hS 0 rfl rfl 2 (by decide) (hts _ wd377_Jx4a65c_add_72be8) (fun _ h9 => h9) rfl (by decide +kernel) rfl rfl (Nat.le_of_ble_eq_true rfl) dJx4a65c_add_72be8_19 (fun H locs hP hD hS => ?_)
  have hP : va_P D vwCl [(h0, .inr (1, [.int p0, .ref (u1 0), .int 1])), (h1, .inl (κ 0, 2, .inl (upd (upd (fun _ => 0) 0 3) 1 p1))), ((u1 0), .inl (κ 5, 10, .inr (.inr (.inr (.inr (va_up (fun _ => none) 0 (some h1)))))))] H := hP
  have hD : va_D A [(h0, .inr (1, [.int p0, .ref (u1 0), .int 1])), (h1, .inl (κ 0, 2, .inl (upd (upd (fun _ => 0) 0 3) 1 p1))), ((u1 0), .inl (κ 5, 10, .inr (.inr (.inr (.inr (va_up (fun _ => none) 0 (some h1)))))))] := hD
  have hP9 := hP
  have hD9 := hD
  refine W.widen (k := 1) (n := 10) (Nat.le_of_ble_eq_true rfl) (Nat.le_of_ble_eq_true rfl) ?_
  exact W.vret hx hb hr (fun t ht hW => ⟨⟨(fun i => [(u1 0)].getD i 0), rfl, trivial, by rw [ht]; exact hP9, hD9⟩, hS.F ht⟩) hS.2.2 dJx4a65c_add_72be8_22

set_option maxHeartbeats 4000000 in
set_option maxRecDepth 100000 in
theorem k_Jx4a65c_add_9ea2d_2 (l : Launch) (D : va_G) (κ ε : Nat → Nat) (h0 h1 : Nat) (sz : Nat) (p0 : Int32) : Met l yJx4a65c_add_9ea2d wsJx4a65c_add_9ea2d ({ frames := 4, cells := 1, slots := 10, locals := 83 }) (va_Pc [.ref h0, .ref h1] (Pre2 D κ ε [(h0, .inr (1, [.int 0, .ref (ε 1), .int 0])), (h1, .inl (κ 0, 2, .inl (upd (upd (fun _ => 0) 0 3) 1 p0)))] sz)) (va_Qi (fun r (u : Nat → Nat) => (r = 1)) (fun u t => va_P D vwCl [(h0, .inr (1, [.int 1, .ref (u 0), .int 1])), (h1, .inl (κ 0, 2, .inl (upd (upd (fun _ => 0) 0 3) 1 p0))), ((u 0), .inl (κ 5, 10, .inr (.inr (.inr (.inr (va_up (fun _ => none) 0 (some h1)))))))] t.heap ∧ va_D (va_A [(h0, .inr (1, [.int 0, .ref (ε 1), .int 0])), (h1, .inl (κ 0, 2, .inl (upd (upd (fun _ => 0) 0 3) 1 p0)))] sz) [(h0, .inr (1, [.int 1, .ref (u 0), .int 1])), (h1, .inl (κ 0, 2, .inl (upd (upd (fun _ => 0) 0 3) 1 p0))), ((u 0), .inl (κ 5, 10, .inr (.inr (.inr (.inr (va_up (fun _ => none) 0 (some h1)))))))]) (va_A [(h0, .inr (1, [.int 0, .ref (ε 1), .int 0])), (h1, .inl (κ 0, 2, .inl (upd (upd (fun _ => 0) 0 3) 1 p0)))] sz)) 1 10 (va_A [(h0, .inr (1, [.int 0, .ref (ε 1), .int 0])), (h1, .inl (κ 0, 2, .inl (upd (upd (fun _ => 0) 0 3) 1 p0)))] sz) := by
  refine Met.ofW (cc := cJx4a65c_add_9ea2d) (maxL := 2) (ret := (some .boolean)) (by decide) rfl ?_
  intro p e s m args below meth c s₁ B hml hv
  obtain ⟨rfl, hsz, hP, hK, hD0, hE9⟩ := hv
  have hx := B.exec
  have hb := B.bytes
  have hr := B.returns
  have hts := atoms_spec (ws := wsJx4a65c_add_9ea2d) B.pre
  have hown : s.vm.findClass RJx4a65c = some m.cls := findClass_of_methodNamed B.named
  have hlocks := B.notSynchronized
  subst hsz
  have hD := hD0.self (sz := s.heap.size)
  generalize hAe : va_A [(h0, .inr (1, [.int 0, .ref (ε 1), .int 0])), (h1, .inl (κ 0, 2, .inl (upd (upd (fun _ => 0) 0 3) 1 p0)))] s.heap.size = A at hD hE9 ⊢
  have hE := hE9.1
  have hDc := hE9.2
  have hA : ∀ q : Nat, s.heap.size ≤ q → A q := fun q h => by rw [← hAe]; exact Or.inr h
  have hS : va_S A s.heap s.heap [] := va_S.rf
  have hP : va_P D vwCl [(h0, .inr (1, [.int 0, .ref (ε 1), .int 0])), (h1, .inl (κ 0, 2, .inl (upd (upd (fun _ => 0) 0 3) 1 p0)))] s.heap := hP
  have hl := lv_entry [.ref h0, .ref h1] (n := 2) (Nat.le_of_ble_eq_true rfl)
  rw [lg_entry_eq]
  generalize (lg_sl [.ref h0, .ref h1] ++ List.replicate (2 - (lg_sl [.ref h0, .ref h1]).length) Slot.unset).toArray = ls at hl ⊢
  have hl : lv_has ls 2 [(0, .ref h0), (1, .ref h1)] := hl
  refine lv_aload_n hx hb dJx4a65c_add_9ea2d_0 rfl (lv_at hl 0 rfl) ?_
  refine lv_dup hx hb dJx4a65c_add_9ea2d_1 rfl ?_
  refine va_get (D := D) (ci := 1) (v := .int 0) (C := RJx4a65c) (T := TJx4a65c) (N := 3) hx hb hts wi_Jx4a65c_add_9ea2d_RJx4a65c hown hK hP 0 rfl rfl 0 (by decide) (hts _ wd379_Jx4a65c_add_9ea2d) (fun x9 h9 => u_same (hts _ wd378_Jx4a65c_add_9ea2d) x9 h9) rfl dJx4a65c_add_9ea2d_2 ?_
  refine lv_iconst (v := 1) hx hb dJx4a65c_add_9ea2d_5 (by decide) ?_
  refine lv_iadd hx hb dJx4a65c_add_9ea2d_6 ?_
  refine tpi (v := 1) (by decide) ?_
  refine va_put (D := D) (ci := 1) (v := .int 1) (ty := .int) (C := RJx4a65c) (T := TJx4a65c) (N := 3) hx hb hts wi_Jx4a65c_add_9ea2d_RJx4a65c tyJx4a65c tyJx4a65c_ok nmJx4a65c hown hK hP hD hS 0 rfl rfl 0 (by decide) (hts _ wd379_Jx4a65c_add_9ea2d) (fun x9 h9 => u_same (hts _ wd378_Jx4a65c_add_9ea2d) x9 h9) rfl (by decide +kernel) rfl rfl (Nat.le_of_ble_eq_true rfl) dJx4a65c_add_9ea2d_7 (fun H locs hP hD hS => ?_)
  have hP : va_P D vwCl [(h0, .inr (1, [.int 1, .ref (ε 1), .int 0])), (h1, .inl (κ 0, 2, .inl (upd (upd (fun _ => 0) 0 3) 1 p0)))] H := hP
  have hD : va_D A [(h0, .inr (1, [.int 1, .ref (ε 1), .int 0])), (h1, .inl (κ 0, 2, .inl (upd (upd (fun _ => 0) 0 3) 1 p0)))] := hD
  refine lv_aload_n hx hb dJx4a65c_add_9ea2d_10 rfl (lv_at hl 0 rfl) ?_
  refine lv_aload_n hx hb dJx4a65c_add_9ea2d_11 rfl (lv_at hl 1 rfl) ?_
  refine lv_aload_n hx hb dJx4a65c_add_9ea2d_12 rfl (lv_at hl 0 rfl) ?_
  refine va_get (D := D) (ci := 1) (v := .ref (ε 1)) (C := RJx4a65c) (T := TJx4a65c) (N := 3) hx hb hts wi_Jx4a65c_add_9ea2d_RJx4a65c hown hK hP 0 rfl rfl 1 (by decide) (hts _ wd380_Jx4a65c_add_9ea2d) (fun _ h9 => h9) rfl dJx4a65c_add_9ea2d_13 ?_
  refine lv_aload_n hx hb dJx4a65c_add_9ea2d_16 rfl (lv_at hl 0 rfl) ?_
  refine va_get (D := D) (ci := 1) (v := .int 0) (C := RJx4a65c) (T := TJx4a65c) (N := 3) hx hb hts wi_Jx4a65c_add_9ea2d_RJx4a65c hown hK hP 0 rfl rfl 2 (by decide) (hts _ wd381_Jx4a65c_add_9ea2d) (fun _ h9 => h9) rfl dJx4a65c_add_9ea2d_17 ?_
  have hF := va_free (wc := [(h0, .inr (1, [.int 1, .ref (ε 1), .int 0])), (h1, .inl (κ 0, 2, .inl (upd (upd (fun _ => 0) 0 3) 1 p0)))]) hD hS hA [0, 1] rfl
  refine va_callv (va_runV (As := [.ref h1, .ref (ε 1), .int 0]) (rest := []) ⟨hx, hb, hml, hown, hts⟩ (k_Jx4a65c_add_72be8_2 l D κ ε h0 h1 H.size (1) (p0)) (cwV 3 hts gJx4a65c_add_9ea2d_Jx4a65c_add_72be8 rfl rfl rfl (by decide +kernel) ⟨(Nat.le_of_ble_eq_true rfl), (Nat.le_of_ble_eq_true rfl)⟩) (pre2_V (q0 := 0) (ci := 1) (wc := [(h0, .inr (1, [.int 1, .ref (ε 1), .int 0])), (h1, .inl (κ 0, 2, .inl (upd (upd (fun _ => 0) 0 3) 1 p0)))]) hP hD hK hE9 hS hA [0, 1] (by decide) rfl rfl rfl) rfl rfl hl.1 rfl (lv_room (Nat.le_of_ble_eq_true rfl)) dJx4a65c_add_9ea2d_20 ⟨(Nat.le_of_ble_eq_true rfl), (Nat.le_of_ble_eq_true rfl)⟩) hS (fun q _ h => hF q h) hF (fun u1 t H locs ht hvm hw hB hz1 hk1 hS => ?_)
  try dsimp only at hw hB
  obtain ⟨hP1, hD1⟩ := hB
  rw [ht] at hP1
  obtain ⟨hP, hD⟩ := post_j (ws' := [(h0, .inr (1, [.int 1, .ref (u1 0), .int 1])), (h1, .inl (κ 0, 2, .inl (upd (upd (fun _ => 0) 0 3) 1 p0))), ((u1 0), .inl (κ 5, 10, .inr (.inr (.inr (.inr (va_up (fun _ => none) 0 (some h1)))))))]) (wr := []) (w1 := [(h0, .inr (1, [.int 1, .ref (u1 0), .int 1])), (h1, .inl (κ 0, 2, .inl (upd (upd (fun _ => 0) 0 3) 1 p0))), ((u1 0), .inl (κ 5, 10, .inr (.inr (.inr (.inr (va_up (fun _ => none) 0 (some h1)))))))]) hP hD hF [0, 1] rfl [] rfl (by decide) (by decide) hk1 hP1 hD1 [0, 1, 2] (by decide) rfl
  have hP : va_P D vwCl [(h0, .inr (1, [.int 1, .ref (u1 0), .int 1])), (h1, .inl (κ 0, 2, .inl (upd (upd (fun _ => 0) 0 3) 1 p0))), ((u1 0), .inl (κ 5, 10, .inr (.inr (.inr (.inr (va_up (fun _ => none) 0 (some h1)))))))] H := hP
  have hD : va_D A [(h0, .inr (1, [.int 1, .ref (u1 0), .int 1])), (h1, .inl (κ 0, 2, .inl (upd (upd (fun _ => 0) 0 3) 1 p0))), ((u1 0), .inl (κ 5, 10, .inr (.inr (.inr (.inr (va_up (fun _ => none) 0 (some h1)))))))] := hD
  refine lv_iconst (v := 1) hx hb dJx4a65c_add_9ea2d_23 (by decide) ?_
  have hP9 := hP
  have hD9 := hD
  refine W.widen (k := 1) (n := 10) (Nat.le_of_ble_eq_true rfl) (Nat.le_of_ble_eq_true rfl) ?_
  exact W.zret (v := 1) hx hb hr rfl (fun t ht hW => ⟨⟨1, (fun i => [(u1 0)].getD i 0), rfl, rfl, by rw [ht]; exact hP9, hD9⟩, hS.F ht⟩) hS.2.2 dJx4a65c_add_9ea2d_24

set_option maxHeartbeats 4000000 in
set_option maxRecDepth 100000 in
theorem k_X6_addStep_6 (l : Launch) (D : va_G) (κ ε : Nat → Nat) (h0 h1 h2 h3 : Nat) (sz : Nat) (p0 : Int32) (hf0 : ¬ p0 < 1) (hf1 : ¬ 12 < p0) : Met l yX6_addStep wsX6_addStep ({ frames := 5, cells := 2, slots := 12, locals := 104 }) (va_Pc [.ref h0, .int 3, .int p0] (Pre2 D κ ε [(h0, .inr (8, [.int 0, .int 0, .int 2, .ref h1, .ref h2, .int 0, .int 500, .int 0, .int 0, .int 0, .ref h3])), (h3, .inr (1, [.int 0, .ref (ε 1), .int 0]))] sz)) (va_Qi (fun r (u : List Value) => (u[0]? = some (.int 0)) ∧ (r = 0)) (fun u t => va_P D vwCl [(h0, .inr (8, u))] t.heap ∧ va_D (va_A [(h0, .inr (8, [.int 0, .int 0, .int 2, .ref h1, .ref h2, .int 0, .int 500, .int 0, .int 0, .int 0, .ref h3])), (h3, .inr (1, [.int 0, .ref (ε 1), .int 0]))] sz) [(h0, .inr (8, u))]) (va_A [(h0, .inr (8, [.int 0, .int 0, .int 2, .ref h1, .ref h2, .int 0, .int 500, .int 0, .int 0, .int 0, .ref h3])), (h3, .inr (1, [.int 0, .ref (ε 1), .int 0]))] sz)) 2 12 (va_A [(h0, .inr (8, [.int 0, .int 0, .int 2, .ref h1, .ref h2, .int 0, .int 500, .int 0, .int 0, .int 0, .ref h3])), (h3, .inr (1, [.int 0, .ref (ε 1), .int 0]))] sz) := by
  refine Met.ofW (cc := cX6_addStep) (maxL := 3) (ret := (some .int)) (by decide) rfl ?_
  intro p e s m args below meth c s₁ B hml hv
  obtain ⟨rfl, hsz, hP, hK, hD0, hE9⟩ := hv
  have hx := B.exec
  have hb := B.bytes
  have hr := B.returns
  have hts := atoms_spec (ws := wsX6_addStep) B.pre
  have hown : s.vm.findClass RX6 = some m.cls := findClass_of_methodNamed B.named
  have hlocks := B.notSynchronized
  subst hsz
  have hD := hD0.self (sz := s.heap.size)
  generalize hAe : va_A [(h0, .inr (8, [.int 0, .int 0, .int 2, .ref h1, .ref h2, .int 0, .int 500, .int 0, .int 0, .int 0, .ref h3])), (h3, .inr (1, [.int 0, .ref (ε 1), .int 0]))] s.heap.size = A at hD hE9 ⊢
  have hE := hE9.1
  have hDc := hE9.2
  have hA : ∀ q : Nat, s.heap.size ≤ q → A q := fun q h => by rw [← hAe]; exact Or.inr h
  have hS : va_S A s.heap s.heap [] := va_S.rf
  have hP : va_P D vwCl [(h0, .inr (8, [.int 0, .int 0, .int 2, .ref h1, .ref h2, .int 0, .int 500, .int 0, .int 0, .int 0, .ref h3])), (h3, .inr (1, [.int 0, .ref (ε 1), .int 0]))] s.heap := hP
  have hl := lv_entry [.ref h0, .int 3, .int p0] (n := 3) (Nat.le_of_ble_eq_true rfl)
  rw [lg_entry_eq]
  generalize (lg_sl [.ref h0, .int 3, .int p0] ++ List.replicate (3 - (lg_sl [.ref h0, .int 3, .int p0]).length) Slot.unset).toArray = ls at hl ⊢
  have hl : lv_has ls 3 [(0, .ref h0), (1, .int 3), (2, .int p0)] := hl
  refine lv_aload_n hx hb dX6_addStep_0 rfl (lv_at hl 0 rfl) ?_
  refine lv_iload_n hx hb dX6_addStep_1 rfl (lv_at hl 1 rfl) ?_
  refine lv_iconst (v := 0) hx hb dX6_addStep_2 (by decide) ?_
  refine lv_iconst (v := 5) hx hb dX6_addStep_3 (by decide) ?_
  refine vp_callSi (W.runS (As := [.int 3, .int 0, .int 5]) (rest := [.ref h0]) ⟨hx, hb, hml, hown, hts⟩ (k_X6_isIn_42 l D κ ε) (va_cwS 3 hts gX6_addStep_X6_isIn rfl rfl rfl (by decide +kernel) ⟨(Nat.le_of_ble_eq_true rfl), (Nat.le_of_ble_eq_true rfl)⟩) (pre0_S (wc := []) hP hK [] rfl) rfl rfl hl.1 rfl (lv_room (Nat.le_of_ble_eq_true rfl)) dX6_addStep_4 ⟨(Nat.le_of_ble_eq_true rfl), (Nat.le_of_ble_eq_true rfl)⟩) (fun r hw => ?_)
  rw [hw]
  refine lv_if_eq (tgt := 66) hx hb dX6_addStep_7 (by decide) (fun h => absurd h (by decide)) (fun _ => ?_)
  refine lv_iload_n hx hb dX6_addStep_10 rfl (lv_at hl 1 rfl) ?_
  refine lv_iconst (v := 2) hx hb dX6_addStep_11 (by decide) ?_
  refine lv_icmp_ne (tgt := 29) hx hb dX6_addStep_12 (by decide) (fun _ => ?_) (fun h => absurd h (by decide))
  refine lv_iload_n hx hb dX6_addStep_29 rfl (lv_at hl 1 rfl) ?_
  refine lv_iconst (v := 4) hx hb dX6_addStep_30 (by decide) ?_
  refine lv_icmp_ne (tgt := 46) hx hb dX6_addStep_31 (by decide) (fun _ => ?_) (fun h => absurd h (by decide))
  refine lv_iload_n hx hb dX6_addStep_46 rfl (lv_at hl 1 rfl) ?_
  refine lv_iconst (v := 3) hx hb dX6_addStep_47 (by decide) ?_
  refine lv_icmp_eq (tgt := 56) hx hb dX6_addStep_48 (by decide) (fun _ => ?_) (fun h => absurd (by decide) h)
  refine lv_iload_n hx hb dX6_addStep_56 rfl (lv_at hl 2 rfl) ?_
  refine lv_iconst (v := 1) hx hb dX6_addStep_57 (by decide) ?_
  refine lv_bipush (v := 12) hx hb dX6_addStep_58 (by decide) ?_
  refine vp_callSi (W.runS (As := [.int p0, .int 1, .int 12]) (rest := [.ref h0]) ⟨hx, hb, hml, hown, hts⟩ (k_X6_isIn_45 l D κ ε (p0) hf0 hf1) (va_cwS 3 hts gX6_addStep_X6_isIn rfl rfl rfl (by decide +kernel) ⟨(Nat.le_of_ble_eq_true rfl), (Nat.le_of_ble_eq_true rfl)⟩) (pre0_S (wc := []) hP hK [] rfl) rfl rfl hl.1 rfl (lv_room (Nat.le_of_ble_eq_true rfl)) dX6_addStep_60 ⟨(Nat.le_of_ble_eq_true rfl), (Nat.le_of_ble_eq_true rfl)⟩) (fun r hw => ?_)
  rw [hw]
  refine lv_if_ne (tgt := 70) hx hb dX6_addStep_63 (by decide) (fun _ => ?_) (fun h => absurd h (by decide))
  refine lv_iconst (v := 0) hx hb dX6_addStep_70 (by decide) ?_
  refine lv_iconst (v := 1) hx hb dX6_addStep_71 (by decide) ?_
  have hF := va_free (wc := [(h0, .inr (8, [.int 0, .int 0, .int 2, .ref h1, .ref h2, .int 0, .int 500, .int 0, .int 0, .int 0, .ref h3]))]) hD hS hA [0] rfl
  refine va_calli (va_runV (As := [.int 0, .int 1]) (rest := []) ⟨hx, hb, hml, hown, hts⟩ (k_X6_start_0 l D κ ε h0 h1 h2 h3 s.heap.size (0) (2) (0) (500) (0) (0)) (cwV 2 hts gX6_addStep_X6_start rfl rfl rfl (by decide +kernel) ⟨(Nat.le_of_ble_eq_true rfl), (Nat.le_of_ble_eq_true rfl)⟩) (pre2_V (q0 := 0) (ci := 8) (wc := [(h0, .inr (8, [.int 0, .int 0, .int 2, .ref h1, .ref h2, .int 0, .int 500, .int 0, .int 0, .int 0, .ref h3]))]) hP hD hK hE9 hS hA [0] (by decide) rfl rfl rfl) rfl rfl hl.1 rfl (lv_room (Nat.le_of_ble_eq_true rfl)) dX6_addStep_72 ⟨(Nat.le_of_ble_eq_true rfl), (Nat.le_of_ble_eq_true rfl)⟩) hS (fun q _ h => hF q h) hF (fun r u1 t H locs ht hvm hw hB hz1 hk1 hS => ?_)
  try dsimp only at hw hB
  obtain ⟨hP1, hD1⟩ := hB
  rw [ht] at hP1
  obtain ⟨hP, hD⟩ := post_j (ws' := [(h0, .inr (8, [.int 0, .int 0, .int 2, .ref h1, .ref h2, .int 0, .int 500, .int 0, .int 0, .int 0, .ref h3])), (h3, .inr (1, [.int 0, .ref (ε 1), .int 0]))]) (wr := [(h3, .inr (1, [.int 0, .ref (ε 1), .int 0]))]) (w1 := [(h0, .inr (8, [.int 0, .int 0, .int 2, .ref h1, .ref h2, .int 0, .int 500, .int 0, .int 0, .int 0, .ref h3]))]) hP hD hF [0] rfl [1] rfl (by decide) (by decide) hk1 hP1 hD1 [1, 0] (by decide) rfl
  have hP : va_P D vwCl [(h0, .inr (8, [.int 0, .int 0, .int 2, .ref h1, .ref h2, .int 0, .int 500, .int 0, .int 0, .int 0, .ref h3])), (h3, .inr (1, [.int 0, .ref (ε 1), .int 0]))] H := hP
  have hD : va_D A [(h0, .inr (8, [.int 0, .int 0, .int 2, .ref h1, .ref h2, .int 0, .int 500, .int 0, .int 0, .int 0, .ref h3])), (h3, .inr (1, [.int 0, .ref (ε 1), .int 0]))] := hD
  rw [hw]
  refine lv_if_eq (tgt := 80) hx hb dX6_addStep_75 (by decide) (fun _ => ?_) (fun h => absurd (by decide) h)
  refine lv_aload_n hx hb dX6_addStep_80 rfl (lv_at hl 0 rfl) ?_
  refine lv_aload_n hx hb dX6_addStep_81 rfl (lv_at hl 0 rfl) ?_
  refine va_get (D := D) (ci := 8) (v := .ref h3) (C := RX6) (T := TX6) (N := 11) hx hb hts wi_X6_addStep_RX6 hown hK hP 0 rfl rfl 10 (by decide) (hts _ wd382_X6_addStep) (fun _ h9 => h9) rfl dX6_addStep_82 ?_
  refine vp_callSi (W.runV (As := []) (rest := [.ref h0]) ⟨hx, hb, hml, hown, hts⟩ (k_Jx4a65c_size_8abf5_0 l D κ ε h3 (0)) (cwV 0 hts gX6_addStep_Jx4a65c_size_8abf5 rfl rfl rfl (by decide +kernel) ⟨(Nat.le_of_ble_eq_true rfl), (Nat.le_of_ble_eq_true rfl)⟩) (pre0_V (q0 := 1) (ci := 1) (wc := [(h3, .inr (1, [.int 0, .ref (ε 1), .int 0]))]) hP hK [1] rfl rfl rfl) rfl rfl hl.1 rfl (lv_room (Nat.le_of_ble_eq_true rfl)) dX6_addStep_85 ⟨(Nat.le_of_ble_eq_true rfl), (Nat.le_of_ble_eq_true rfl)⟩) (fun r hw => ?_)
  rw [hw]
  refine lv_bipush (v := 12) hx hb dX6_addStep_88 (by decide) ?_
  refine lv_icmp_ne (tgt := 97) hx hb dX6_addStep_90 (by decide) (fun _ => ?_) (fun h => absurd h (by decide))
  refine lv_iconst (v := 0) hx hb dX6_addStep_97 (by decide) ?_
  refine lv_iconst (v := 2) hx hb dX6_addStep_98 (by decide) ?_
  refine vp_callSi (W.runV (As := [.int 0, .int 2]) (rest := []) ⟨hx, hb, hml, hown, hts⟩ (k_X6_refuse_3 l D κ ε h0 h1 h2 h3 (0) (2) (0) (500) (0) (0)) (cwV 2 hts gX6_addStep_X6_refuse rfl rfl rfl (by decide +kernel) ⟨(Nat.le_of_ble_eq_true rfl), (Nat.le_of_ble_eq_true rfl)⟩) (pre0_V (q0 := 0) (ci := 8) (wc := [(h0, .inr (8, [.int 0, .int 0, .int 2, .ref h1, .ref h2, .int 0, .int 500, .int 0, .int 0, .int 0, .ref h3]))]) hP hK [0] rfl rfl rfl) rfl rfl hl.1 rfl (lv_room (Nat.le_of_ble_eq_true rfl)) dX6_addStep_99 ⟨(Nat.le_of_ble_eq_true rfl), (Nat.le_of_ble_eq_true rfl)⟩) (fun r hw => ?_)
  rw [hw]
  refine lv_if_eq (tgt := 107) hx hb dX6_addStep_102 (by decide) (fun _ => ?_) (fun h => absurd (by decide) h)
  refine lv_aload_n hx hb dX6_addStep_107 rfl (lv_at hl 0 rfl) ?_
  refine va_get (D := D) (ci := 8) (v := .ref h3) (C := RX6) (T := TX6) (N := 11) hx hb hts wi_X6_addStep_RX6 hown hK hP 0 rfl rfl 10 (by decide) (hts _ wd382_X6_addStep) (fun _ h9 => h9) rfl dX6_addStep_108 ?_
  refine lv_iconst (v := 2) hx hb dX6_addStep_111 (by decide) ?_
  refine va_newa (atype := .int) (a0 := (2, .inl (fun _ => 0))) hx hb (hts _ wd383_X6_addStep) rfl hK hP hD hS hA (fun _ => rfl) (by decide) (by decide) (by decide) (Nat.le_of_ble_eq_true rfl) (Nat.le_of_ble_eq_true rfl) dX6_addStep_112 (fun q2 cy H hKn hP hD hS => ?_)
  obtain rfl : cy = κ 0 := K_one (i := 0) hKn rfl
  have hP : va_P D vwCl [(h0, .inr (8, [.int 0, .int 0, .int 2, .ref h1, .ref h2, .int 0, .int 500, .int 0, .int 0, .int 0, .ref h3])), (h3, .inr (1, [.int 0, .ref (ε 1), .int 0])), (q2, .inl (κ 0, 2, .inl (fun _ => 0)))] H := hP
  have hD : va_D A [(h0, .inr (8, [.int 0, .int 0, .int 2, .ref h1, .ref h2, .int 0, .int 500, .int 0, .int 0, .int 0, .ref h3])), (h3, .inr (1, [.int 0, .ref (ε 1), .int 0])), (q2, .inl (κ 0, 2, .inl (fun _ => 0)))] := hD
  refine lv_dup hx hb dX6_addStep_114 rfl ?_
  refine lv_iconst (v := 0) hx hb dX6_addStep_115 (by decide) ?_
  refine lv_iload_n hx hb dX6_addStep_116 rfl (lv_at hl 1 rfl) ?_
  refine va_iast (cA := κ 0) (n := 2) (f := (fun _ => 0)) hx hb hK hP hD hS 2 0 rfl rfl (vpl (by decide)) dX6_addStep_117 (fun H locs hP hD hS => ?_)
  have hP : va_P D vwCl [(h0, .inr (8, [.int 0, .int 0, .int 2, .ref h1, .ref h2, .int 0, .int 500, .int 0, .int 0, .int 0, .ref h3])), (h3, .inr (1, [.int 0, .ref (ε 1), .int 0])), (q2, .inl (κ 0, 2, .inl (upd (fun _ => 0) 0 3)))] H := hP
  have hD : va_D A [(h0, .inr (8, [.int 0, .int 0, .int 2, .ref h1, .ref h2, .int 0, .int 500, .int 0, .int 0, .int 0, .ref h3])), (h3, .inr (1, [.int 0, .ref (ε 1), .int 0])), (q2, .inl (κ 0, 2, .inl (upd (fun _ => 0) 0 3)))] := hD
  refine lv_dup hx hb dX6_addStep_118 rfl ?_
  refine lv_iconst (v := 1) hx hb dX6_addStep_119 (by decide) ?_
  refine lv_iload_n hx hb dX6_addStep_120 rfl (lv_at hl 2 rfl) ?_
  refine va_iast (cA := κ 0) (n := 2) (f := (upd (fun _ => 0) 0 3)) hx hb hK hP hD hS 2 0 rfl rfl (vpl (by decide)) dX6_addStep_121 (fun H locs hP hD hS => ?_)
  have hP : va_P D vwCl [(h0, .inr (8, [.int 0, .int 0, .int 2, .ref h1, .ref h2, .int 0, .int 500, .int 0, .int 0, .int 0, .ref h3])), (h3, .inr (1, [.int 0, .ref (ε 1), .int 0])), (q2, .inl (κ 0, 2, .inl (upd (upd (fun _ => 0) 0 3) 1 p0)))] H := hP
  have hD : va_D A [(h0, .inr (8, [.int 0, .int 0, .int 2, .ref h1, .ref h2, .int 0, .int 500, .int 0, .int 0, .int 0, .ref h3])), (h3, .inr (1, [.int 0, .ref (ε 1), .int 0])), (q2, .inl (κ 0, 2, .inl (upd (upd (fun _ => 0) 0 3) 1 p0)))] := hD
  have hF := va_free (wc := [(h3, .inr (1, [.int 0, .ref (ε 1), .int 0])), (q2, .inl (κ 0, 2, .inl (upd (upd (fun _ => 0) 0 3) 1 p0)))]) hD hS hA [1, 2] rfl
  refine va_calli (va_runV (As := [.ref q2]) (rest := []) ⟨hx, hb, hml, hown, hts⟩ (k_Jx4a65c_add_9ea2d_2 l D κ ε h3 q2 H.size (p0)) (cwV 1 hts gX6_addStep_Jx4a65c_add_9ea2d rfl rfl rfl (by decide +kernel) ⟨(Nat.le_of_ble_eq_true rfl), (Nat.le_of_ble_eq_true rfl)⟩) (pre2_V (q0 := 1) (ci := 1) (wc := [(h3, .inr (1, [.int 0, .ref (ε 1), .int 0])), (q2, .inl (κ 0, 2, .inl (upd (upd (fun _ => 0) 0 3) 1 p0)))]) hP hD hK hE9 hS hA [1, 2] (by decide) rfl rfl rfl) rfl rfl hl.1 rfl (lv_room (Nat.le_of_ble_eq_true rfl)) dX6_addStep_122 ⟨(Nat.le_of_ble_eq_true rfl), (Nat.le_of_ble_eq_true rfl)⟩) hS (fun q _ h => hF q h) hF (fun r u3 t H locs ht hvm hw hB hz1 hk1 hS => ?_)
  try dsimp only at hw hB
  obtain ⟨hP1, hD1⟩ := hB
  rw [ht] at hP1
  obtain ⟨hP, hD⟩ := post_j (ws' := [(h0, .inr (8, [.int 0, .int 0, .int 2, .ref h1, .ref h2, .int 0, .int 500, .int 0, .int 0, .int 0, .ref h3])), (h3, .inr (1, [.int 1, .ref (u3 0), .int 1])), (q2, .inl (κ 0, 2, .inl (upd (upd (fun _ => 0) 0 3) 1 p0))), ((u3 0), .inl (κ 5, 10, .inr (.inr (.inr (.inr (va_up (fun _ => none) 0 (some q2)))))))]) (wr := [(h0, .inr (8, [.int 0, .int 0, .int 2, .ref h1, .ref h2, .int 0, .int 500, .int 0, .int 0, .int 0, .ref h3]))]) (w1 := [(h3, .inr (1, [.int 1, .ref (u3 0), .int 1])), (q2, .inl (κ 0, 2, .inl (upd (upd (fun _ => 0) 0 3) 1 p0))), ((u3 0), .inl (κ 5, 10, .inr (.inr (.inr (.inr (va_up (fun _ => none) 0 (some q2)))))))]) hP hD hF [1, 2] rfl [0] rfl (by decide) (by decide) hk1 hP1 hD1 [0, 1, 2, 3] (by decide) rfl
  have hP : va_P D vwCl [(h0, .inr (8, [.int 0, .int 0, .int 2, .ref h1, .ref h2, .int 0, .int 500, .int 0, .int 0, .int 0, .ref h3])), (h3, .inr (1, [.int 1, .ref (u3 0), .int 1])), (q2, .inl (κ 0, 2, .inl (upd (upd (fun _ => 0) 0 3) 1 p0))), ((u3 0), .inl (κ 5, 10, .inr (.inr (.inr (.inr (va_up (fun _ => none) 0 (some q2)))))))] H := hP
  have hD : va_D A [(h0, .inr (8, [.int 0, .int 0, .int 2, .ref h1, .ref h2, .int 0, .int 500, .int 0, .int 0, .int 0, .ref h3])), (h3, .inr (1, [.int 1, .ref (u3 0), .int 1])), (q2, .inl (κ 0, 2, .inl (upd (upd (fun _ => 0) 0 3) 1 p0))), ((u3 0), .inl (κ 5, 10, .inr (.inr (.inr (.inr (va_up (fun _ => none) 0 (some q2)))))))] := hD
  rw [hw]
  refine lv_pop hx hb dX6_addStep_125 rfl ?_
  refine lv_aload_n hx hb dX6_addStep_126 rfl (lv_at hl 0 rfl) ?_
  refine va_get (D := D) (ci := 8) (v := .ref h3) (C := RX6) (T := TX6) (N := 11) hx hb hts wi_X6_addStep_RX6 hown hK hP 0 rfl rfl 10 (by decide) (hts _ wd382_X6_addStep) (fun _ h9 => h9) rfl dX6_addStep_127 ?_
  refine vp_callSi (W.runV (As := []) (rest := []) ⟨hx, hb, hml, hown, hts⟩ (k_Jx4a65c_size_8abf5_1 l D κ ε h3 (u3 0) (1)) (cwV 0 hts gX6_addStep_Jx4a65c_size_8abf5 rfl rfl rfl (by decide +kernel) ⟨(Nat.le_of_ble_eq_true rfl), (Nat.le_of_ble_eq_true rfl)⟩) (pre0_V (q0 := 1) (ci := 1) (wc := [(h3, .inr (1, [.int 1, .ref (u3 0), .int 1]))]) hP hK [1] rfl rfl rfl) rfl rfl hl.1 rfl (lv_room (Nat.le_of_ble_eq_true rfl)) dX6_addStep_130 ⟨(Nat.le_of_ble_eq_true rfl), (Nat.le_of_ble_eq_true rfl)⟩) (fun r hw => ?_)
  rw [hw]
  refine lv_iconst (v := 1) hx hb dX6_addStep_133 (by decide) ?_
  refine lv_isub hx hb dX6_addStep_134 ?_
  refine tpi (v := 0) (by decide) ?_
  have hP9 := hP.sub (ws' := [(h0, .inr (8, [.int 0, .int 0, .int 2, .ref h1, .ref h2, .int 0, .int 500, .int 0, .int 0, .int 0, .ref h3]))]) [0] rfl
  have hD9 := hD.sub (ws' := [(h0, .inr (8, [.int 0, .int 0, .int 2, .ref h1, .ref h2, .int 0, .int 500, .int 0, .int 0, .int 0, .ref h3]))]) [0] (by decide) rfl
  refine W.widen (k := 2) (n := 12) (Nat.le_of_ble_eq_true rfl) (Nat.le_of_ble_eq_true rfl) ?_
  exact W.iret (v := 0) hx hb hr (fun t ht hW => ⟨⟨0, [.int 0, .int 0, .int 2, .ref h1, .ref h2, .int 0, .int 500, .int 0, .int 0, .int 0, .ref h3], rfl, ⟨rfl, rfl⟩, by rw [ht]; exact hP9, hD9⟩, hS.F ht⟩) hS.2.2 dX6_addStep_135

theorem iv312 (x : Int32) (h0 : x < 0) : ¬ x = 0 := by
  have e0 : (0 : Int32).toInt = 0 := by decide
  simp only [Int32.lt_iff_toInt_lt, Int32.le_iff_toInt_le, ← Int32.toInt_inj, e0] at *
  omega

theorem wi_X5_isStep_RX5 : ∀ w ∈ u_ws RX5 TX5 10, w ∈ wsX5_isStep := by decide +kernel

theorem wd388_X5_isStep : (.fieldLink RX5 10 "Canticle" "ledger" "LCanticle$Ledger;" : Cond) ∈ wsX5_isStep := by decide +kernel

theorem wi_X5_isStep_RX0 : ∀ w ∈ u_ws RX0 TX0 4, w ∈ wsX5_isStep := by decide +kernel

theorem wd389_X5_isStep : (.fieldLink RX5 65 "Canticle$Ledger" "words" "I" : Cond) ∈ wsX5_isStep := by decide +kernel

set_option maxHeartbeats 4000000 in
set_option maxRecDepth 100000 in
theorem k_X5_isStep_4 (l : Launch) (D : va_G) (κ ε : Nat → Nat) (h0 h1 h2 h3 h4 h5 h6 h7 h8 : Nat) (p0 : Int32) (p1 : Int32) (p2 : Int32) (p3 : Int32) (p4 : Int32) : Met l yX5_isStep wsX5_isStep ({ frames := 1, cells := 0, slots := 0, locals := 21 }) (va_Pc [.ref h0, .int 4, .int p0] (Pre0 D κ [(h0, .inr (7, [.ref h1, .ref h2, .ref h3, .ref h4, .ref h5, .ref h6, .int p1, .int p2, .int p3, .int 0])), (h1, .inr (2, [.int 0, .int p4, .ref h7, .ref h8]))])) (vp_Si (fun r => ((p0 < 0) ∧ (r = 0)) ∨ ((¬ p0 < 0) ∧ (¬ p0 = 0) ∧ (r = 0)) ∨ ((¬ p0 < 0) ∧ (p0 = 0) ∧ (r = 1)))) 0 0 (fun _ => False) := by
  refine Met.ofW (cc := cX5_isStep) (maxL := 3) (ret := (some .boolean)) (by decide) rfl ?_
  intro p e s m args below meth c s₁ B hml hv
  obtain ⟨rfl, hP, hK⟩ := hv
  have hx := B.exec
  have hb := B.bytes
  have hr := B.returns
  have hts := atoms_spec (ws := wsX5_isStep) B.pre
  have hown : s.vm.findClass RX5 = some m.cls := findClass_of_methodNamed B.named
  have hlocks := B.notSynchronized
  have hP : va_P D vwCl [(h0, .inr (7, [.ref h1, .ref h2, .ref h3, .ref h4, .ref h5, .ref h6, .int p1, .int p2, .int p3, .int 0])), (h1, .inr (2, [.int 0, .int p4, .ref h7, .ref h8]))] s.heap := hP
  have hl := lv_entry [.ref h0, .int 4, .int p0] (n := 3) (Nat.le_of_ble_eq_true rfl)
  rw [lg_entry_eq]
  generalize (lg_sl [.ref h0, .int 4, .int p0] ++ List.replicate (3 - (lg_sl [.ref h0, .int 4, .int p0]).length) Slot.unset).toArray = ls at hl ⊢
  have hl : lv_has ls 3 [(0, .ref h0), (1, .int 4), (2, .int p0)] := hl
  refine lv_iload_n hx hb dX5_isStep_0 rfl (lv_at hl 1 rfl) ?_
  refine lv_tableIn (tgt := 48) (off := 47) hx hb dX5_isStep_1 (by decide) (by decide) (by decide) (by decide) ?_
  refine lv_aload_n hx hb dX5_isStep_48 rfl (lv_at hl 0 rfl) ?_
  refine lv_iload_n hx hb dX5_isStep_49 rfl (lv_at hl 2 rfl) ?_
  refine vp_callSi (W.runV (As := [.int p0]) (rest := []) ⟨hx, hb, hml, hown, hts⟩ (k_X5_isWord_0 l D κ ε h0 h1 h2 h3 h4 h5 h6 h7 h8 (p0) (p1) (p2) (p3) (p4)) (cwV 1 hts gX5_isStep_X5_isWord rfl rfl rfl (by decide +kernel) ⟨(Nat.le_of_ble_eq_true rfl), (Nat.le_of_ble_eq_true rfl)⟩) (pre0_V (q0 := 0) (ci := 7) (wc := [(h0, .inr (7, [.ref h1, .ref h2, .ref h3, .ref h4, .ref h5, .ref h6, .int p1, .int p2, .int p3, .int 0])), (h1, .inr (2, [.int 0, .int p4, .ref h7, .ref h8]))]) hP hK [0, 1] rfl rfl rfl) rfl rfl hl.1 rfl (lv_room (Nat.le_of_ble_eq_true rfl)) dX5_isStep_50 ⟨(Nat.le_of_ble_eq_true rfl), (Nat.le_of_ble_eq_true rfl)⟩) (fun r hw => ?_)
  rcases hw with ⟨c1, rfl⟩ | ⟨c2, rfl⟩
  · skip
    refine lv_if_ne (tgt := 67) hx hb dX5_isStep_53 (by decide) (fun h => absurd (by decide) h) (fun _ => ?_)
    refine lv_iload_n hx hb dX5_isStep_56 rfl (lv_at hl 2 rfl) ?_
    refine lv_aload_n hx hb dX5_isStep_57 rfl (lv_at hl 0 rfl) ?_
    refine va_get (D := D) (ci := 7) (v := .ref h1) (C := RX5) (T := TX5) (N := 10) hx hb hts wi_X5_isStep_RX5 hown hK hP 0 rfl rfl 0 (by decide) (hts _ wd388_X5_isStep) (fun _ h9 => h9) rfl dX5_isStep_58 ?_
    refine va_get (D := D) (ci := 2) (v := .int 0) (C := RX0) (T := TX0) (N := 4) hx hb hts wi_X5_isStep_RX0 hown hK hP 1 rfl rfl 0 (by decide) (hts _ wd389_X5_isStep) (fun _ h9 => h9) rfl dX5_isStep_61 ?_
    refine lv_icmp_ne (tgt := 71) hx hb dX5_isStep_64 (by decide) (fun _ => ?_) (fun h => absurd h (iv312 _ c1))
    refine lv_iconst (v := 0) hx hb dX5_isStep_71 (by decide) ?_
    exact W.zret (v := 0) hx hb hr rfl (fun t ht hW => ⟨0, rfl, (Or.inl ⟨c1, rfl⟩), ht⟩) (fun q hq => absurd hq List.not_mem_nil) dX5_isStep_72
  · skip
    refine lv_if_ne (tgt := 67) hx hb dX5_isStep_53 (by decide) (fun h => absurd (by decide) h) (fun _ => ?_)
    refine lv_iload_n hx hb dX5_isStep_56 rfl (lv_at hl 2 rfl) ?_
    refine lv_aload_n hx hb dX5_isStep_57 rfl (lv_at hl 0 rfl) ?_
    refine va_get (D := D) (ci := 7) (v := .ref h1) (C := RX5) (T := TX5) (N := 10) hx hb hts wi_X5_isStep_RX5 hown hK hP 0 rfl rfl 0 (by decide) (hts _ wd388_X5_isStep) (fun _ h9 => h9) rfl dX5_isStep_58 ?_
    refine va_get (D := D) (ci := 2) (v := .int 0) (C := RX0) (T := TX0) (N := 4) hx hb hts wi_X5_isStep_RX0 hown hK hP 1 rfl rfl 0 (by decide) (hts _ wd389_X5_isStep) (fun _ h9 => h9) rfl dX5_isStep_61 ?_
    refine lv_icmp_ne (tgt := 71) hx hb dX5_isStep_64 (by decide) (fun c3 => ?_) (fun c3 => ?_)
    · skip
      refine lv_iconst (v := 0) hx hb dX5_isStep_71 (by decide) ?_
      exact W.zret (v := 0) hx hb hr rfl (fun t ht hW => ⟨0, rfl, (Or.inr (Or.inl ⟨c2, c3, rfl⟩)), ht⟩) (fun q hq => absurd hq List.not_mem_nil) dX5_isStep_72
    · skip
      refine lv_iconst (v := 1) hx hb dX5_isStep_67 (by decide) ?_
      refine lv_goto (tgt := 72) hx hb dX5_isStep_68 (by decide) ?_
      exact W.zret (v := 1) hx hb hr rfl (fun t ht hW => ⟨1, rfl, (Or.inr (Or.inr ⟨c2, c3, rfl⟩)), ht⟩) (fun q hq => absurd hq List.not_mem_nil) dX5_isStep_72

set_option maxHeartbeats 4000000 in
set_option maxRecDepth 100000 in
theorem k_X2_append_3 (l : Launch) (D : va_G) (κ ε : Nat → Nat) (h0 h1 h2 h3 : Nat) (sz : Nat) (p0 : Int32) : Met l yX2_append wsX2_append ({ frames := 0, cells := 0, slots := 0, locals := 0 }) (va_Pc [.ref h0, .int 4, .int p0] (Pre2 D κ ε [(h0, .inr (4, [.ref h1, .ref h2, .ref h3, .int 0])), (h1, .inl (κ 0, 12, .inl (fun _ => 0))), (h2, .inl (κ 0, 12, .inl (fun _ => 0)))] sz)) (va_Qi (fun r (u : Unit) => (r = 0)) (fun u t => va_P D vwCl [(h0, .inr (4, [.ref h1, .ref h2, .ref h3, .int 1])), (h1, .inl (κ 0, 12, .inl (upd (fun _ => 0) 0 4))), (h2, .inl (κ 0, 12, .inl (upd (fun _ => 0) 0 p0)))] t.heap ∧ va_D (va_A [(h0, .inr (4, [.ref h1, .ref h2, .ref h3, .int 0])), (h1, .inl (κ 0, 12, .inl (fun _ => 0))), (h2, .inl (κ 0, 12, .inl (fun _ => 0)))] sz) [(h0, .inr (4, [.ref h1, .ref h2, .ref h3, .int 1])), (h1, .inl (κ 0, 12, .inl (upd (fun _ => 0) 0 4))), (h2, .inl (κ 0, 12, .inl (upd (fun _ => 0) 0 p0)))]) (va_A [(h0, .inr (4, [.ref h1, .ref h2, .ref h3, .int 0])), (h1, .inl (κ 0, 12, .inl (fun _ => 0))), (h2, .inl (κ 0, 12, .inl (fun _ => 0)))] sz)) 0 0 (va_A [(h0, .inr (4, [.ref h1, .ref h2, .ref h3, .int 0])), (h1, .inl (κ 0, 12, .inl (fun _ => 0))), (h2, .inl (κ 0, 12, .inl (fun _ => 0)))] sz) := by
  refine Met.ofW (cc := cX2_append) (maxL := 3) (ret := (some .int)) (by decide) rfl ?_
  intro p e s m args below meth c s₁ B hml hv
  obtain ⟨rfl, hsz, hP, hK, hD0, hE9⟩ := hv
  have hx := B.exec
  have hb := B.bytes
  have hr := B.returns
  have hts := atoms_spec (ws := wsX2_append) B.pre
  have hown : s.vm.findClass RX2 = some m.cls := findClass_of_methodNamed B.named
  have hlocks := B.notSynchronized
  subst hsz
  have hD := hD0.self (sz := s.heap.size)
  generalize hAe : va_A [(h0, .inr (4, [.ref h1, .ref h2, .ref h3, .int 0])), (h1, .inl (κ 0, 12, .inl (fun _ => 0))), (h2, .inl (κ 0, 12, .inl (fun _ => 0)))] s.heap.size = A at hD hE9 ⊢
  have hE := hE9.1
  have hDc := hE9.2
  have hA : ∀ q : Nat, s.heap.size ≤ q → A q := fun q h => by rw [← hAe]; exact Or.inr h
  have hS : va_S A s.heap s.heap [] := va_S.rf
  have hP : va_P D vwCl [(h0, .inr (4, [.ref h1, .ref h2, .ref h3, .int 0])), (h1, .inl (κ 0, 12, .inl (fun _ => 0))), (h2, .inl (κ 0, 12, .inl (fun _ => 0)))] s.heap := hP
  have hl := lv_entry [.ref h0, .int 4, .int p0] (n := 3) (Nat.le_of_ble_eq_true rfl)
  rw [lg_entry_eq]
  generalize (lg_sl [.ref h0, .int 4, .int p0] ++ List.replicate (3 - (lg_sl [.ref h0, .int 4, .int p0]).length) Slot.unset).toArray = ls at hl ⊢
  have hl : lv_has ls 3 [(0, .ref h0), (1, .int 4), (2, .int p0)] := hl
  refine lv_aload_n hx hb dX2_append_0 rfl (lv_at hl 0 rfl) ?_
  refine va_get (D := D) (ci := 4) (v := .int 0) (C := RX2) (T := TX2) (N := 4) hx hb hts wi_X2_append_RX2 hown hK hP 0 rfl rfl 3 (by decide) (hts _ wd364_X2_append) (fun _ h9 => h9) rfl dX2_append_1 ?_
  refine lv_bipush (v := 12) hx hb dX2_append_4 (by decide) ?_
  refine lv_icmp_ge (tgt := 39) hx hb dX2_append_6 (by decide) (fun h => absurd h (by decide)) (fun _ => ?_)
  refine lv_aload_n hx hb dX2_append_9 rfl (lv_at hl 0 rfl) ?_
  refine va_get (D := D) (ci := 4) (v := .ref h1) (C := RX2) (T := TX2) (N := 4) hx hb hts wi_X2_append_RX2 hown hK hP 0 rfl rfl 0 (by decide) (hts _ wd365_X2_append) (fun _ h9 => h9) rfl dX2_append_10 ?_
  refine lv_aload_n hx hb dX2_append_13 rfl (lv_at hl 0 rfl) ?_
  refine va_get (D := D) (ci := 4) (v := .int 0) (C := RX2) (T := TX2) (N := 4) hx hb hts wi_X2_append_RX2 hown hK hP 0 rfl rfl 3 (by decide) (hts _ wd364_X2_append) (fun _ h9 => h9) rfl dX2_append_14 ?_
  refine lv_iload_n hx hb dX2_append_17 rfl (lv_at hl 1 rfl) ?_
  refine va_iast (cA := κ 0) (n := 12) (f := (fun _ => 0)) hx hb hK hP hD hS 1 0 rfl rfl (vpl (by decide)) dX2_append_18 (fun H locs hP hD hS => ?_)
  have hP : va_P D vwCl [(h0, .inr (4, [.ref h1, .ref h2, .ref h3, .int 0])), (h1, .inl (κ 0, 12, .inl (upd (fun _ => 0) 0 4))), (h2, .inl (κ 0, 12, .inl (fun _ => 0)))] H := hP
  have hD : va_D A [(h0, .inr (4, [.ref h1, .ref h2, .ref h3, .int 0])), (h1, .inl (κ 0, 12, .inl (upd (fun _ => 0) 0 4))), (h2, .inl (κ 0, 12, .inl (fun _ => 0)))] := hD
  refine lv_aload_n hx hb dX2_append_19 rfl (lv_at hl 0 rfl) ?_
  refine va_get (D := D) (ci := 4) (v := .ref h2) (C := RX2) (T := TX2) (N := 4) hx hb hts wi_X2_append_RX2 hown hK hP 0 rfl rfl 1 (by decide) (hts _ wd366_X2_append) (fun _ h9 => h9) rfl dX2_append_20 ?_
  refine lv_aload_n hx hb dX2_append_23 rfl (lv_at hl 0 rfl) ?_
  refine va_get (D := D) (ci := 4) (v := .int 0) (C := RX2) (T := TX2) (N := 4) hx hb hts wi_X2_append_RX2 hown hK hP 0 rfl rfl 3 (by decide) (hts _ wd364_X2_append) (fun _ h9 => h9) rfl dX2_append_24 ?_
  refine lv_iload_n hx hb dX2_append_27 rfl (lv_at hl 2 rfl) ?_
  refine va_iast (cA := κ 0) (n := 12) (f := (fun _ => 0)) hx hb hK hP hD hS 2 0 rfl rfl (vpl (by decide)) dX2_append_28 (fun H locs hP hD hS => ?_)
  have hP : va_P D vwCl [(h0, .inr (4, [.ref h1, .ref h2, .ref h3, .int 0])), (h1, .inl (κ 0, 12, .inl (upd (fun _ => 0) 0 4))), (h2, .inl (κ 0, 12, .inl (upd (fun _ => 0) 0 p0)))] H := hP
  have hD : va_D A [(h0, .inr (4, [.ref h1, .ref h2, .ref h3, .int 0])), (h1, .inl (κ 0, 12, .inl (upd (fun _ => 0) 0 4))), (h2, .inl (κ 0, 12, .inl (upd (fun _ => 0) 0 p0)))] := hD
  refine lv_aload_n hx hb dX2_append_29 rfl (lv_at hl 0 rfl) ?_
  refine lv_dup hx hb dX2_append_30 rfl ?_
  refine va_get (D := D) (ci := 4) (v := .int 0) (C := RX2) (T := TX2) (N := 4) hx hb hts wi_X2_append_RX2 hown hK hP 0 rfl rfl 3 (by decide) (hts _ wd364_X2_append) (fun _ h9 => h9) rfl dX2_append_31 ?_
  refine lv_iconst (v := 1) hx hb dX2_append_34 (by decide) ?_
  refine lv_iadd hx hb dX2_append_35 ?_
  refine tpi (v := 1) (by decide) ?_
  refine va_put (D := D) (ci := 4) (v := .int 1) (ty := .int) (C := RX2) (T := TX2) (N := 4) hx hb hts wi_X2_append_RX2 tyX2 tyX2_ok nmX2 hown hK hP hD hS 0 rfl rfl 3 (by decide) (hts _ wd364_X2_append) (fun _ h9 => h9) rfl (by decide +kernel) rfl rfl (Nat.le_of_ble_eq_true rfl) dX2_append_36 (fun H locs hP hD hS => ?_)
  have hP : va_P D vwCl [(h0, .inr (4, [.ref h1, .ref h2, .ref h3, .int 1])), (h1, .inl (κ 0, 12, .inl (upd (fun _ => 0) 0 4))), (h2, .inl (κ 0, 12, .inl (upd (fun _ => 0) 0 p0)))] H := hP
  have hD : va_D A [(h0, .inr (4, [.ref h1, .ref h2, .ref h3, .int 1])), (h1, .inl (κ 0, 12, .inl (upd (fun _ => 0) 0 4))), (h2, .inl (κ 0, 12, .inl (upd (fun _ => 0) 0 p0)))] := hD
  refine lv_aload_n hx hb dX2_append_39 rfl (lv_at hl 0 rfl) ?_
  refine va_get (D := D) (ci := 4) (v := .int 1) (C := RX2) (T := TX2) (N := 4) hx hb hts wi_X2_append_RX2 hown hK hP 0 rfl rfl 3 (by decide) (hts _ wd364_X2_append) (fun _ h9 => h9) rfl dX2_append_40 ?_
  refine lv_iconst (v := 1) hx hb dX2_append_43 (by decide) ?_
  refine lv_isub hx hb dX2_append_44 ?_
  refine tpi (v := 0) (by decide) ?_
  have hP9 := hP
  have hD9 := hD
  exact W.iret (v := 0) hx hb hr (fun t ht hW => ⟨⟨0, (), rfl, rfl, by rw [ht]; exact hP9, hD9⟩, hS.F ht⟩) hS.2.2 dX2_append_45

set_option maxHeartbeats 4000000 in
set_option maxRecDepth 100000 in
theorem k_X5_addStep_4 (l : Launch) (hst : l.stackTraces = false) (D : va_G) (κ ε : Nat → Nat) (h0 h1 h2 h3 h4 h5 h6 h7 h8 h9 h10 h11 : Nat) (sz : Nat) (p0 : Int32) : vx_Met l yX5_addStep wsX5_addStep ({ frames := 6, cells := 1, slots := 6, locals := 120 }) (va_Pc [.ref h0, .int 4, .int p0] (Pre2 D κ ε [(h0, .inr (7, [.ref h1, .ref h2, .ref h3, .ref h4, .ref h5, .ref h6, .int 0, .int 0, .int 0, .int 0])), (h1, .inr (2, [.int 0, .int 2, .ref h7, .ref h8])), (h4, .inr (4, [.ref h9, .ref h10, .ref h11, .int 0])), (h9, .inl (κ 0, 12, .inl (fun _ => 0))), (h10, .inl (κ 0, 12, .inl (fun _ => 0)))] sz)) (va_Qi (fun r (u : Unit) => (¬ p0 < 0) ∧ (p0 = 0) ∧ (r = 0)) (fun _ _ => True) (va_A [(h0, .inr (7, [.ref h1, .ref h2, .ref h3, .ref h4, .ref h5, .ref h6, .int 0, .int 0, .int 0, .int 0])), (h1, .inr (2, [.int 0, .int 2, .ref h7, .ref h8])), (h4, .inr (4, [.ref h9, .ref h10, .ref h11, .int 0])), (h9, .inl (κ 0, 12, .inl (fun _ => 0))), (h10, .inl (κ 0, 12, .inl (fun _ => 0)))] sz)) (vx_X (fun _ : Unit => True) (fun E _ _ => ((p0 < 0) ∧ E = "java/lang/IllegalArgumentException") ∨ ((¬ p0 < 0) ∧ (¬ p0 = 0) ∧ E = "java/lang/IllegalArgumentException")) (va_A [(h0, .inr (7, [.ref h1, .ref h2, .ref h3, .ref h4, .ref h5, .ref h6, .int 0, .int 0, .int 0, .int 0])), (h1, .inr (2, [.int 0, .int 2, .ref h7, .ref h8])), (h4, .inr (4, [.ref h9, .ref h10, .ref h11, .int 0])), (h9, .inl (κ 0, 12, .inl (fun _ => 0))), (h10, .inl (κ 0, 12, .inl (fun _ => 0)))] sz)) 1 6 (va_A [(h0, .inr (7, [.ref h1, .ref h2, .ref h3, .ref h4, .ref h5, .ref h6, .int 0, .int 0, .int 0, .int 0])), (h1, .inr (2, [.int 0, .int 2, .ref h7, .ref h8])), (h4, .inr (4, [.ref h9, .ref h10, .ref h11, .int 0])), (h9, .inl (κ 0, 12, .inl (fun _ => 0))), (h10, .inl (κ 0, 12, .inl (fun _ => 0)))] sz) := by
  refine vx_ofW (cc := cX5_addStep) (maxL := 3) (ret := (some .int)) (by decide) rfl ?_
  intro p e s m args below meth c s₁ B hml hnx hv
  obtain ⟨rfl, hsz, hP, hK, hD0, hE9⟩ := hv
  have hx := B.exec
  have hb := B.bytes
  have hr := B.returns
  have hts := atoms_spec (ws := wsX5_addStep) B.pre
  have hown : s.vm.findClass RX5 = some m.cls := findClass_of_methodNamed B.named
  have hlocks := B.notSynchronized
  subst hsz
  have hD := hD0.self (sz := s.heap.size)
  generalize hAe : va_A [(h0, .inr (7, [.ref h1, .ref h2, .ref h3, .ref h4, .ref h5, .ref h6, .int 0, .int 0, .int 0, .int 0])), (h1, .inr (2, [.int 0, .int 2, .ref h7, .ref h8])), (h4, .inr (4, [.ref h9, .ref h10, .ref h11, .int 0])), (h9, .inl (κ 0, 12, .inl (fun _ => 0))), (h10, .inl (κ 0, 12, .inl (fun _ => 0)))] s.heap.size = A at hD hE9 ⊢
  have hE := hE9.1
  have hDc := hE9.2
  have hA : ∀ q : Nat, s.heap.size ≤ q → A q := fun q h => by rw [← hAe]; exact Or.inr h
  have hS : va_S A s.heap s.heap [] := va_S.rf
  have hP : va_P D vwCl [(h0, .inr (7, [.ref h1, .ref h2, .ref h3, .ref h4, .ref h5, .ref h6, .int 0, .int 0, .int 0, .int 0])), (h1, .inr (2, [.int 0, .int 2, .ref h7, .ref h8])), (h4, .inr (4, [.ref h9, .ref h10, .ref h11, .int 0])), (h9, .inl (κ 0, 12, .inl (fun _ => 0))), (h10, .inl (κ 0, 12, .inl (fun _ => 0)))] s.heap := hP
  have hl := lv_entry [.ref h0, .int 4, .int p0] (n := 3) (Nat.le_of_ble_eq_true rfl)
  rw [lg_entry_eq]
  generalize (lg_sl [.ref h0, .int 4, .int p0] ++ List.replicate (3 - (lg_sl [.ref h0, .int 4, .int p0]).length) Slot.unset).toArray = ls at hl ⊢
  have hl : lv_has ls 3 [(0, .ref h0), (1, .int 4), (2, .int p0)] := hl
  refine lv_aload_n hx hb dX5_addStep_0 rfl (lv_at hl 0 rfl) ?_
  refine lv_iload_n hx hb dX5_addStep_1 rfl (lv_at hl 1 rfl) ?_
  refine lv_iload_n hx hb dX5_addStep_2 rfl (lv_at hl 2 rfl) ?_
  refine vp_callSi (W.runV (As := [.int 4, .int p0]) (rest := []) ⟨hx, hb, hml, hown, hts⟩ (k_X5_isStep_4 l D κ ε h0 h1 h2 h3 h4 h5 h6 h7 h8 (p0) (0) (0) (0) (2)) (cwV 2 hts gX5_addStep_X5_isStep rfl rfl rfl (by decide +kernel) ⟨(Nat.le_of_ble_eq_true rfl), (Nat.le_of_ble_eq_true rfl)⟩) (pre0_V (q0 := 0) (ci := 7) (wc := [(h0, .inr (7, [.ref h1, .ref h2, .ref h3, .ref h4, .ref h5, .ref h6, .int 0, .int 0, .int 0, .int 0])), (h1, .inr (2, [.int 0, .int 2, .ref h7, .ref h8]))]) hP hK [0, 1] rfl rfl rfl) rfl rfl hl.1 rfl (lv_room (Nat.le_of_ble_eq_true rfl)) dX5_addStep_3 ⟨(Nat.le_of_ble_eq_true rfl), (Nat.le_of_ble_eq_true rfl)⟩) (fun r hw => ?_)
  rcases hw with ⟨c1, rfl⟩ | ⟨c2, c3, rfl⟩ | ⟨c4, c5, rfl⟩
  · skip
    refine lv_if_ne (tgt := 19) hx hb dX5_addStep_6 (by decide) (fun h => absurd (by decide) h) (fun _ => ?_)
    exact vx_throwS (names := ["java/lang/RuntimeException", "java/lang/Exception"]) (sa := ε 30) hx hb hst hown (by decide +kernel) (by decide +kernel) (hts _ wd384_X5_addStep) (hts _ wd385_X5_addStep) (hE.2.2.2.2.2.2.1 _ (List.mem_of_getElem? (i := 20) rfl)) (vx_hat (B := [.castable "java/lang/IllegalArgumentException" "java/lang/IllegalArgumentException", .declares (Bundle.initS "java/lang/RuntimeException"), .declares (Bundle.initS "java/lang/Exception"), .declares (Bundle.initS "java/lang/Throwable")]) (fun w hw => hts w (at1_X5_addStep_82 w hw)) at2_RX5_82 (vx_c (va_Nw.use rfl hE.2.2.2.2.2.2.2.2.2.2.2.2.2.2.1) (vx_c (va_Nw.use rfl hDc.1) (vx_c (va_Nw.use rfl hDc.2.1) (vx_c (va_Nw.use rfl hDc.2.2) vx_n))))) at2_RX5_82g hE.1 hE.2.1 hS (by rw [hml]; exact hl.1) dX5_addStep_9 dX5_addStep_12 dX5_addStep_13 dX5_addStep_15 dX5_addStep_18 (fun x hx => (hnx x hx).elim) (by decide) (by decide) (Nat.le_of_ble_eq_true rfl) (Nat.le_of_ble_eq_true rfl) hlocks (fun t _ h1 h2 => ⟨(), trivial, (Or.inl ⟨c1, rfl⟩), thF (H0 := s.heap) hS h1 h2⟩) hS.2.2 (Nat.le_of_ble_eq_true rfl) (Nat.le_of_ble_eq_true rfl)
  · skip
    refine lv_if_ne (tgt := 19) hx hb dX5_addStep_6 (by decide) (fun h => absurd (by decide) h) (fun _ => ?_)
    exact vx_throwS (names := ["java/lang/RuntimeException", "java/lang/Exception"]) (sa := ε 30) hx hb hst hown (by decide +kernel) (by decide +kernel) (hts _ wd384_X5_addStep) (hts _ wd385_X5_addStep) (hE.2.2.2.2.2.2.1 _ (List.mem_of_getElem? (i := 20) rfl)) (vx_hat (B := [.castable "java/lang/IllegalArgumentException" "java/lang/IllegalArgumentException", .declares (Bundle.initS "java/lang/RuntimeException"), .declares (Bundle.initS "java/lang/Exception"), .declares (Bundle.initS "java/lang/Throwable")]) (fun w hw => hts w (at1_X5_addStep_82 w hw)) at2_RX5_82 (vx_c (va_Nw.use rfl hE.2.2.2.2.2.2.2.2.2.2.2.2.2.2.1) (vx_c (va_Nw.use rfl hDc.1) (vx_c (va_Nw.use rfl hDc.2.1) (vx_c (va_Nw.use rfl hDc.2.2) vx_n))))) at2_RX5_82g hE.1 hE.2.1 hS (by rw [hml]; exact hl.1) dX5_addStep_9 dX5_addStep_12 dX5_addStep_13 dX5_addStep_15 dX5_addStep_18 (fun x hx => (hnx x hx).elim) (by decide) (by decide) (Nat.le_of_ble_eq_true rfl) (Nat.le_of_ble_eq_true rfl) hlocks (fun t _ h1 h2 => ⟨(), trivial, (Or.inr ⟨c2, c3, rfl⟩), thF (H0 := s.heap) hS h1 h2⟩) hS.2.2 (Nat.le_of_ble_eq_true rfl) (Nat.le_of_ble_eq_true rfl)
  · skip
    refine lv_if_ne (tgt := 19) hx hb dX5_addStep_6 (by decide) (fun _ => ?_) (fun h => absurd h (by decide))
    refine lv_aload_n hx hb dX5_addStep_19 rfl (lv_at hl 0 rfl) ?_
    refine va_get (D := D) (ci := 7) (v := .ref h4) (C := RX5) (T := TX5) (N := 10) hx hb hts wi_X5_addStep_RX5 hown hK hP 0 rfl rfl 3 (by decide) (hts _ wd367_X5_addStep) (fun _ h9 => h9) rfl dX5_addStep_20 ?_
    refine va_get (D := D) (ci := 4) (v := .int 0) (C := RX2) (T := TX2) (N := 4) hx hb hts wi_X5_addStep_RX2 hown hK hP 2 rfl rfl 3 (by decide) (hts _ wd368_X5_addStep) (fun _ h9 => h9) rfl dX5_addStep_23 ?_
    refine lv_bipush (v := 12) hx hb dX5_addStep_26 (by decide) ?_
    refine lv_icmp_lt (tgt := 41) hx hb dX5_addStep_28 (by decide) (fun _ => ?_) (fun h => absurd (by decide) h)
    refine lv_aload_n hx hb dX5_addStep_41 rfl (lv_at hl 0 rfl) ?_
    refine va_get (D := D) (ci := 7) (v := .ref h4) (C := RX5) (T := TX5) (N := 10) hx hb hts wi_X5_addStep_RX5 hown hK hP 0 rfl rfl 3 (by decide) (hts _ wd367_X5_addStep) (fun _ h9 => h9) rfl dX5_addStep_42 ?_
    refine lv_iload_n hx hb dX5_addStep_45 rfl (lv_at hl 1 rfl) ?_
    refine lv_iload_n hx hb dX5_addStep_46 rfl (lv_at hl 2 rfl) ?_
    have hF := va_free (wc := [(h4, .inr (4, [.ref h9, .ref h10, .ref h11, .int 0])), (h9, .inl (κ 0, 12, .inl (fun _ => 0))), (h10, .inl (κ 0, 12, .inl (fun _ => 0)))]) hD hS hA [2, 3, 4] rfl
    refine va_calli (va_runV (As := [.int 4, .int p0]) (rest := []) ⟨hx, hb, hml, hown, hts⟩ (k_X2_append_3 l D κ ε h4 h9 h10 h11 s.heap.size (p0)) (cwV 2 hts gX5_addStep_X2_append rfl rfl rfl (by decide +kernel) ⟨(Nat.le_of_ble_eq_true rfl), (Nat.le_of_ble_eq_true rfl)⟩) (pre2_V (q0 := 2) (ci := 4) (wc := [(h4, .inr (4, [.ref h9, .ref h10, .ref h11, .int 0])), (h9, .inl (κ 0, 12, .inl (fun _ => 0))), (h10, .inl (κ 0, 12, .inl (fun _ => 0)))]) hP hD hK hE9 hS hA [2, 3, 4] (by decide) rfl rfl rfl) rfl rfl hl.1 rfl (lv_room (Nat.le_of_ble_eq_true rfl)) dX5_addStep_47 ⟨(Nat.le_of_ble_eq_true rfl), (Nat.le_of_ble_eq_true rfl)⟩) hS (fun q _ h => hF q h) hF (fun r u6 t H locs ht hvm hw hB hz1 hk1 hS => ?_)
    try dsimp only at hw hB
    obtain ⟨hP1, hD1⟩ := hB
    rw [ht] at hP1
    obtain ⟨hP, hD⟩ := post_j (ws' := [(h0, .inr (7, [.ref h1, .ref h2, .ref h3, .ref h4, .ref h5, .ref h6, .int 0, .int 0, .int 0, .int 0])), (h1, .inr (2, [.int 0, .int 2, .ref h7, .ref h8])), (h4, .inr (4, [.ref h9, .ref h10, .ref h11, .int 1])), (h9, .inl (κ 0, 12, .inl (upd (fun _ => 0) 0 4))), (h10, .inl (κ 0, 12, .inl (upd (fun _ => 0) 0 p0)))]) (wr := [(h0, .inr (7, [.ref h1, .ref h2, .ref h3, .ref h4, .ref h5, .ref h6, .int 0, .int 0, .int 0, .int 0])), (h1, .inr (2, [.int 0, .int 2, .ref h7, .ref h8]))]) (w1 := [(h4, .inr (4, [.ref h9, .ref h10, .ref h11, .int 1])), (h9, .inl (κ 0, 12, .inl (upd (fun _ => 0) 0 4))), (h10, .inl (κ 0, 12, .inl (upd (fun _ => 0) 0 p0)))]) hP hD hF [2, 3, 4] rfl [0, 1] rfl (by decide) (by decide) hk1 hP1 hD1 [0, 1, 2, 3, 4] (by decide) rfl
    have hP : va_P D vwCl [(h0, .inr (7, [.ref h1, .ref h2, .ref h3, .ref h4, .ref h5, .ref h6, .int 0, .int 0, .int 0, .int 0])), (h1, .inr (2, [.int 0, .int 2, .ref h7, .ref h8])), (h4, .inr (4, [.ref h9, .ref h10, .ref h11, .int 1])), (h9, .inl (κ 0, 12, .inl (upd (fun _ => 0) 0 4))), (h10, .inl (κ 0, 12, .inl (upd (fun _ => 0) 0 p0)))] H := hP
    have hD : va_D A [(h0, .inr (7, [.ref h1, .ref h2, .ref h3, .ref h4, .ref h5, .ref h6, .int 0, .int 0, .int 0, .int 0])), (h1, .inr (2, [.int 0, .int 2, .ref h7, .ref h8])), (h4, .inr (4, [.ref h9, .ref h10, .ref h11, .int 1])), (h9, .inl (κ 0, 12, .inl (upd (fun _ => 0) 0 4))), (h10, .inl (κ 0, 12, .inl (upd (fun _ => 0) 0 p0)))] := hD
    rw [hw]
    refine W.widen (k := 1) (n := 6) (Nat.le_of_ble_eq_true rfl) (Nat.le_of_ble_eq_true rfl) ?_
    refine vx_ret ?_
    exact W.iret (v := 0) hx hb hr (fun t ht hW => ⟨⟨0, (), rfl, ⟨c4, c5, rfl⟩, trivial⟩, hS.F ht⟩) hS.2.2 dX5_addStep_50

set_option maxHeartbeats 4000000 in
set_option maxRecDepth 100000 in
theorem k_L_addStep_4 (l : Launch) (hst : l.stackTraces = false) (D : va_G) (κ ε : Nat → Nat) (h0 h1 h2 h3 h4 h5 h6 h7 h8 h9 h10 h11 h12 : Nat) (sz : Nat) (p0 : Int32) : Met l yL_addStep wsL_addStepx ({ frames := 7, cells := 1, slots := 6, locals := 142 }) (va_Pc [.ref h0, .int 4, .int p0, .ref h1] (Pre2 D κ ε [(h0, .inr (7, [.ref h2, .ref h3, .ref h4, .ref h5, .ref h6, .ref h7, .int 0, .int 0, .int 0, .int 0])), (h1, .inl (κ 2, 1, .inr (.inl (fun _ => 0)))), (h2, .inr (2, [.int 0, .int 2, .ref h8, .ref h9])), (h5, .inr (4, [.ref h10, .ref h11, .ref h12, .int 0])), (h10, .inl (κ 0, 12, .inl (fun _ => 0))), (h11, .inl (κ 0, 12, .inl (fun _ => 0)))] sz)) (va_Qi (fun r (u : Nat → Int64) => ((p0 < 0) ∧ (r = 1)) ∨ ((¬ p0 < 0) ∧ (¬ p0 = 0) ∧ (r = 1)) ∨ ((¬ p0 < 0) ∧ (p0 = 0) ∧ (u 0 = 0) ∧ (r = 0))) (fun u t => va_P D vwCl [(h1, .inl (κ 2, 1, .inr (.inl u)))] t.heap ∧ va_D (va_A [(h0, .inr (7, [.ref h2, .ref h3, .ref h4, .ref h5, .ref h6, .ref h7, .int 0, .int 0, .int 0, .int 0])), (h1, .inl (κ 2, 1, .inr (.inl (fun _ => 0)))), (h2, .inr (2, [.int 0, .int 2, .ref h8, .ref h9])), (h5, .inr (4, [.ref h10, .ref h11, .ref h12, .int 0])), (h10, .inl (κ 0, 12, .inl (fun _ => 0))), (h11, .inl (κ 0, 12, .inl (fun _ => 0)))] sz) [(h1, .inl (κ 2, 1, .inr (.inl u)))]) (va_A [(h0, .inr (7, [.ref h2, .ref h3, .ref h4, .ref h5, .ref h6, .ref h7, .int 0, .int 0, .int 0, .int 0])), (h1, .inl (κ 2, 1, .inr (.inl (fun _ => 0)))), (h2, .inr (2, [.int 0, .int 2, .ref h8, .ref h9])), (h5, .inr (4, [.ref h10, .ref h11, .ref h12, .int 0])), (h10, .inl (κ 0, 12, .inl (fun _ => 0))), (h11, .inl (κ 0, 12, .inl (fun _ => 0)))] sz)) 1 6 (va_A [(h0, .inr (7, [.ref h2, .ref h3, .ref h4, .ref h5, .ref h6, .ref h7, .int 0, .int 0, .int 0, .int 0])), (h1, .inl (κ 2, 1, .inr (.inl (fun _ => 0)))), (h2, .inr (2, [.int 0, .int 2, .ref h8, .ref h9])), (h5, .inr (4, [.ref h10, .ref h11, .ref h12, .int 0])), (h10, .inl (κ 0, 12, .inl (fun _ => 0))), (h11, .inl (κ 0, 12, .inl (fun _ => 0)))] sz) := by
  refine va_MetW (cc := cL_addStep) (maxL := 5) (ret := (some .int)) (hh := [(0, 10, 13, 19), (0, 10, 17, 13)]) (by decide) rfl ?_
  intro p e s m args below meth c s₁ B hml hv
  obtain ⟨rfl, hsz, hP, hK, hD0, hE9⟩ := hv
  have hx := B.exec
  have hb := B.bytes
  have hr := B.returns
  have hts := atoms_spec (ws := wsL_addStepx) B.pre
  have hown : s.vm.findClass RL = some m.cls := findClass_of_methodNamed B.named
  have hlocks := B.notSynchronized
  have htab : c.exceptionTable.toList = tableOf [(0, 10, 13, 19), (0, 10, 17, 13)] := vx_table (x := yL_addStep) B (hts (.codeWith yL_addStep cL_addStep 5 (some .int) [(0, 10, 13, 19), (0, 10, 17, 13)]) List.mem_cons_self)
  subst hsz
  have hD := hD0.self (sz := s.heap.size)
  generalize hAe : va_A [(h0, .inr (7, [.ref h2, .ref h3, .ref h4, .ref h5, .ref h6, .ref h7, .int 0, .int 0, .int 0, .int 0])), (h1, .inl (κ 2, 1, .inr (.inl (fun _ => 0)))), (h2, .inr (2, [.int 0, .int 2, .ref h8, .ref h9])), (h5, .inr (4, [.ref h10, .ref h11, .ref h12, .int 0])), (h10, .inl (κ 0, 12, .inl (fun _ => 0))), (h11, .inl (κ 0, 12, .inl (fun _ => 0)))] s.heap.size = A at hD hE9 ⊢
  have hE := hE9.1
  have hDc := hE9.2
  have hA : ∀ q : Nat, s.heap.size ≤ q → A q := fun q h => by rw [← hAe]; exact Or.inr h
  have hS : va_S A s.heap s.heap [] := va_S.rf
  have hP : va_P D vwCl [(h0, .inr (7, [.ref h2, .ref h3, .ref h4, .ref h5, .ref h6, .ref h7, .int 0, .int 0, .int 0, .int 0])), (h1, .inl (κ 2, 1, .inr (.inl (fun _ => 0)))), (h2, .inr (2, [.int 0, .int 2, .ref h8, .ref h9])), (h5, .inr (4, [.ref h10, .ref h11, .ref h12, .int 0])), (h10, .inl (κ 0, 12, .inl (fun _ => 0))), (h11, .inl (κ 0, 12, .inl (fun _ => 0)))] s.heap := hP
  have hl := lv_entry [.ref h0, .int 4, .int p0, .ref h1] (n := 5) (Nat.le_of_ble_eq_true rfl)
  rw [lg_entry_eq]
  generalize (lg_sl [.ref h0, .int 4, .int p0, .ref h1] ++ List.replicate (5 - (lg_sl [.ref h0, .int 4, .int p0, .ref h1]).length) Slot.unset).toArray = ls at hl ⊢
  have hl : lv_has ls 5 [(0, .ref h0), (1, .int 4), (2, .int p0), (3, .ref h1)] := hl
  refine lv_aload_n hx hb dL_addStep_0 rfl (lv_at hl 3 rfl) ?_
  refine lv_iconst (v := 0) hx hb dL_addStep_1 (by decide) ?_
  refine lv_aload_n hx hb dL_addStep_2 rfl (lv_at hl 0 rfl) ?_
  refine lv_iload_n hx hb dL_addStep_3 rfl (lv_at hl 1 rfl) ?_
  refine lv_iload_n hx hb dL_addStep_4 rfl (lv_at hl 2 rfl) ?_
  have hF := va_free (wc := [(h0, .inr (7, [.ref h2, .ref h3, .ref h4, .ref h5, .ref h6, .ref h7, .int 0, .int 0, .int 0, .int 0])), (h2, .inr (2, [.int 0, .int 2, .ref h8, .ref h9])), (h5, .inr (4, [.ref h10, .ref h11, .ref h12, .int 0])), (h10, .inl (κ 0, 12, .inl (fun _ => 0))), (h11, .inl (κ 0, 12, .inl (fun _ => 0)))]) hD hS hA [0, 2, 3, 4, 5] rfl
  refine vx_calli (vx_runV (As := [.int 4, .int p0]) (rest := [.int 0, .ref h1]) ⟨hx, hb, hml, hown, hts⟩ (k_X5_addStep_4 l hst D κ ε h0 h2 h3 h4 h5 h6 h7 h8 h9 h10 h11 h12 s.heap.size (p0)) (cwV 2 hts gL_addStep_X5_addStep_x rfl rfl rfl (by decide +kernel) ⟨(Nat.le_of_ble_eq_true rfl), (Nat.le_of_ble_eq_true rfl)⟩) (pre2_V (q0 := 0) (ci := 7) (wc := [(h0, .inr (7, [.ref h2, .ref h3, .ref h4, .ref h5, .ref h6, .ref h7, .int 0, .int 0, .int 0, .int 0])), (h2, .inr (2, [.int 0, .int 2, .ref h8, .ref h9])), (h5, .inr (4, [.ref h10, .ref h11, .ref h12, .int 0])), (h10, .inl (κ 0, 12, .inl (fun _ => 0))), (h11, .inl (κ 0, 12, .inl (fun _ => 0)))]) hP hD hK hE9 hS hA [0, 2, 3, 4, 5] (by decide) rfl rfl rfl) rfl rfl hl.1 rfl (lv_room (Nat.le_of_ble_eq_true rfl)) dL_addStep_5 ⟨(Nat.le_of_ble_eq_true rfl), (Nat.le_of_ble_eq_true rfl)⟩) hS (fun q _ h => hF q h) hF (fun q _ h => hF q h) (fun E9 ce q9 u t H locs ht hvm hw hB hz1 hk1 hS hce hcv hcl => ?_) (fun r u t H locs ht hvm hw hB hz1 hk1 hS => ?_)
  · try dsimp only at hB
    have hP1 : va_P D vwCl [] H := P_nil
    obtain ⟨hP, hD⟩ := post_j (ws' := [(h1, .inl (κ 2, 1, .inr (.inl (fun _ => 0))))]) (wr := [(h1, .inl (κ 2, 1, .inr (.inl (fun _ => 0))))]) (w1 := []) hP hD hF [0, 2, 3, 4, 5] rfl [1] rfl (by decide) (by decide) hk1 hP1 D_nil [0] (by decide) rfl
    have hP : va_P D vwCl [(h1, .inl (κ 2, 1, .inr (.inl (fun _ => 0))))] H := hP
    have hD : va_D A [(h1, .inl (κ 2, 1, .inr (.inl (fun _ => 0))))] := hD
    rcases hB with ⟨c2, rfl⟩ | ⟨c3, c4, rfl⟩
    · skip
      refine vx_catch (name := "java/lang/IllegalArgumentException") hown [] ⟨0, 10, 13, 19⟩ [⟨0, 10, 17, 13⟩] (htab.trans rfl) (fun z hz => nomatch hz) (by decide) (by decide) (hts _ wd386_L_addStep) (va_Nw.use rfl hE.2.2.2.2.2.2.2.2.2.2.2.2.2.2.1) hce hcv hcl ?_
      refine lv_astore (lv' := [(4, .ref q9), (0, .ref h0), (1, .int 4), (2, .int p0), (3, .ref h1)]) hx hb dL_addStep_13 hl (by decide) rfl (fun ls hl => ?_)
      refine lv_iconst (v := 1) hx hb dL_addStep_15 (by decide) ?_
      have hP9 := hP.sub (ws' := [(h1, .inl (κ 2, 1, .inr (.inl (fun _ => 0))))]) [0] rfl
      have hD9 := hD.sub (ws' := [(h1, .inl (κ 2, 1, .inr (.inl (fun _ => 0))))]) [0] (by decide) rfl
      refine W.widen (k := 1) (n := 6) (Nat.le_of_ble_eq_true rfl) (Nat.le_of_ble_eq_true rfl) ?_
      exact W.iret (v := 1) hx hb hr (fun t ht hW => ⟨⟨1, (fun _ => 0), rfl, (Or.inl ⟨c2, rfl⟩), by rw [ht]; exact hP9, hD9⟩, hS.F ht⟩) hS.2.2 dL_addStep_16
    · skip
      refine vx_catch (name := "java/lang/IllegalArgumentException") hown [] ⟨0, 10, 13, 19⟩ [⟨0, 10, 17, 13⟩] (htab.trans rfl) (fun z hz => nomatch hz) (by decide) (by decide) (hts _ wd386_L_addStep) (va_Nw.use rfl hE.2.2.2.2.2.2.2.2.2.2.2.2.2.2.1) hce hcv hcl ?_
      refine lv_astore (lv' := [(4, .ref q9), (0, .ref h0), (1, .int 4), (2, .int p0), (3, .ref h1)]) hx hb dL_addStep_13 hl (by decide) rfl (fun ls hl => ?_)
      refine lv_iconst (v := 1) hx hb dL_addStep_15 (by decide) ?_
      have hP9 := hP.sub (ws' := [(h1, .inl (κ 2, 1, .inr (.inl (fun _ => 0))))]) [0] rfl
      have hD9 := hD.sub (ws' := [(h1, .inl (κ 2, 1, .inr (.inl (fun _ => 0))))]) [0] (by decide) rfl
      refine W.widen (k := 1) (n := 6) (Nat.le_of_ble_eq_true rfl) (Nat.le_of_ble_eq_true rfl) ?_
      exact W.iret (v := 1) hx hb hr (fun t ht hW => ⟨⟨1, (fun _ => 0), rfl, (Or.inr (Or.inl ⟨c3, c4, rfl⟩)), by rw [ht]; exact hP9, hD9⟩, hS.F ht⟩) hS.2.2 dL_addStep_16
  · try dsimp only at hw hB
    have hP1 : va_P D vwCl [] H := P_nil
    obtain ⟨hP, hD⟩ := post_j (ws' := [(h1, .inl (κ 2, 1, .inr (.inl (fun _ => 0))))]) (wr := [(h1, .inl (κ 2, 1, .inr (.inl (fun _ => 0))))]) (w1 := []) hP hD hF [0, 2, 3, 4, 5] rfl [1] rfl (by decide) (by decide) hk1 hP1 D_nil [0] (by decide) rfl
    have hP : va_P D vwCl [(h1, .inl (κ 2, 1, .inr (.inl (fun _ => 0))))] H := hP
    have hD : va_D A [(h1, .inl (κ 2, 1, .inr (.inl (fun _ => 0))))] := hD
    obtain ⟨c5, c6, rfl⟩ := hw
    refine lv_i2l (v := 0) hx hb dL_addStep_8 (by decide) ?_
    refine va_last (cA := κ 2) (n := 1) (f := (fun _ => 0)) hx hb hK hP hD hS 0 2 rfl rfl (vpl (by decide)) dL_addStep_9 (fun H locs hP hD hS => ?_)
    have hP : va_P D vwCl [(h1, .inl (κ 2, 1, .inr (.inl (vp_updL (fun _ => 0) 0 0))))] H := hP
    have hD : va_D A [(h1, .inl (κ 2, 1, .inr (.inl (vp_updL (fun _ => 0) 0 0))))] := hD
    refine lv_goto (tgt := 21) hx hb dL_addStep_10 (by decide) ?_
    refine lv_iconst (v := 0) hx hb dL_addStep_21 (by decide) ?_
    have hP9 := hP.sub (ws' := [(h1, .inl (κ 2, 1, .inr (.inl (vp_updL (fun _ => 0) 0 0))))]) [0] rfl
    have hD9 := hD.sub (ws' := [(h1, .inl (κ 2, 1, .inr (.inl (vp_updL (fun _ => 0) 0 0))))]) [0] (by decide) rfl
    refine W.widen (k := 1) (n := 6) (Nat.le_of_ble_eq_true rfl) (Nat.le_of_ble_eq_true rfl) ?_
    exact W.iret (v := 0) hx hb hr (fun t ht hW => ⟨⟨0, (vp_updL (fun _ => 0) 0 0), rfl, (Or.inr (Or.inr ⟨c5, c6, rfl, rfl⟩)), by rw [ht]; exact hP9, hD9⟩, hS.F ht⟩) hS.2.2 dL_addStep_22

set_option maxHeartbeats 4000000 in
set_option maxRecDepth 100000 in
theorem k_X6_isIn_46 (l : Launch) (D : va_G) (κ ε : Nat → Nat) : Met l yX6_isIn wsX6_isIn ({ frames := 0, cells := 0, slots := 0, locals := 0 }) (va_Pc [.int 4, .int 0, .int 5] (Pre0 D κ [])) (vp_Si (fun r => (r = 1))) 0 0 (fun _ => False) := by
  refine Met.ofW (cc := cX6_isIn) (maxL := 3) (ret := (some .boolean)) (by decide) rfl ?_
  intro p e s m args below meth c s₁ B hml hv
  obtain ⟨rfl, hP, hK⟩ := hv
  have hx := B.exec
  have hb := B.bytes
  have hr := B.returns
  have hts := atoms_spec (ws := wsX6_isIn) B.pre
  have hown : s.vm.findClass RX6 = some m.cls := findClass_of_methodNamed B.named
  have hlocks := B.notSynchronized
  have hP : va_P D vwCl [] s.heap := hP
  have hl := lv_entry [.int 4, .int 0, .int 5] (n := 3) (Nat.le_of_ble_eq_true rfl)
  rw [lg_entry_eq]
  generalize (lg_sl [.int 4, .int 0, .int 5] ++ List.replicate (3 - (lg_sl [.int 4, .int 0, .int 5]).length) Slot.unset).toArray = ls at hl ⊢
  have hl : lv_has ls 3 [(0, .int 4), (1, .int 0), (2, .int 5)] := hl
  refine lv_iload_n hx hb dX6_isIn_0 rfl (lv_at hl 0 rfl) ?_
  refine lv_iload_n hx hb dX6_isIn_1 rfl (lv_at hl 1 rfl) ?_
  refine lv_icmp_lt (tgt := 14) hx hb dX6_isIn_2 (by decide) (fun h => absurd h (by decide)) (fun _ => ?_)
  refine lv_iload_n hx hb dX6_isIn_5 rfl (lv_at hl 0 rfl) ?_
  refine lv_iload_n hx hb dX6_isIn_6 rfl (lv_at hl 2 rfl) ?_
  refine lv_icmp_gt (tgt := 14) hx hb dX6_isIn_7 (by decide) (fun h => absurd h (by decide)) (fun _ => ?_)
  refine lv_iconst (v := 1) hx hb dX6_isIn_10 (by decide) ?_
  refine lv_goto (tgt := 15) hx hb dX6_isIn_11 (by decide) ?_
  exact W.zret (v := 1) hx hb hr rfl (fun t ht hW => ⟨1, rfl, rfl, ht⟩) (fun q hq => absurd hq List.not_mem_nil) dX6_isIn_15

set_option maxHeartbeats 4000000 in
set_option maxRecDepth 100000 in
theorem k_X6_addStep_7 (l : Launch) (D : va_G) (κ ε : Nat → Nat) (h0 h1 h2 h3 : Nat) (sz : Nat) (p0 : Int32) (hf0 : p0 < 0) : Met l yX6_addStep wsX6_addStep ({ frames := 2, cells := 0, slots := 0, locals := 44 }) (va_Pc [.ref h0, .int 4, .int p0] (Pre2 D κ ε [(h0, .inr (8, [.int 0, .int 0, .int 2, .ref h1, .ref h2, .int 0, .int 500, .int 0, .int 0, .int 0, .ref h3]))] sz)) (va_Qi (fun r (u : List Value) => (u[0]? = some (.int 1)) ∧ (r = 0)) (fun u t => va_P D vwCl [(h0, .inr (8, u))] t.heap ∧ va_D (va_A [(h0, .inr (8, [.int 0, .int 0, .int 2, .ref h1, .ref h2, .int 0, .int 500, .int 0, .int 0, .int 0, .ref h3]))] sz) [(h0, .inr (8, u))]) (va_A [(h0, .inr (8, [.int 0, .int 0, .int 2, .ref h1, .ref h2, .int 0, .int 500, .int 0, .int 0, .int 0, .ref h3]))] sz)) 0 0 (va_A [(h0, .inr (8, [.int 0, .int 0, .int 2, .ref h1, .ref h2, .int 0, .int 500, .int 0, .int 0, .int 0, .ref h3]))] sz) := by
  refine Met.ofW (cc := cX6_addStep) (maxL := 3) (ret := (some .int)) (by decide) rfl ?_
  intro p e s m args below meth c s₁ B hml hv
  obtain ⟨rfl, hsz, hP, hK, hD0, hE9⟩ := hv
  have hx := B.exec
  have hb := B.bytes
  have hr := B.returns
  have hts := atoms_spec (ws := wsX6_addStep) B.pre
  have hown : s.vm.findClass RX6 = some m.cls := findClass_of_methodNamed B.named
  have hlocks := B.notSynchronized
  subst hsz
  have hD := hD0.self (sz := s.heap.size)
  generalize hAe : va_A [(h0, .inr (8, [.int 0, .int 0, .int 2, .ref h1, .ref h2, .int 0, .int 500, .int 0, .int 0, .int 0, .ref h3]))] s.heap.size = A at hD hE9 ⊢
  have hE := hE9.1
  have hDc := hE9.2
  have hA : ∀ q : Nat, s.heap.size ≤ q → A q := fun q h => by rw [← hAe]; exact Or.inr h
  have hS : va_S A s.heap s.heap [] := va_S.rf
  have hP : va_P D vwCl [(h0, .inr (8, [.int 0, .int 0, .int 2, .ref h1, .ref h2, .int 0, .int 500, .int 0, .int 0, .int 0, .ref h3]))] s.heap := hP
  have hl := lv_entry [.ref h0, .int 4, .int p0] (n := 3) (Nat.le_of_ble_eq_true rfl)
  rw [lg_entry_eq]
  generalize (lg_sl [.ref h0, .int 4, .int p0] ++ List.replicate (3 - (lg_sl [.ref h0, .int 4, .int p0]).length) Slot.unset).toArray = ls at hl ⊢
  have hl : lv_has ls 3 [(0, .ref h0), (1, .int 4), (2, .int p0)] := hl
  refine lv_aload_n hx hb dX6_addStep_0 rfl (lv_at hl 0 rfl) ?_
  refine lv_iload_n hx hb dX6_addStep_1 rfl (lv_at hl 1 rfl) ?_
  refine lv_iconst (v := 0) hx hb dX6_addStep_2 (by decide) ?_
  refine lv_iconst (v := 5) hx hb dX6_addStep_3 (by decide) ?_
  refine vp_callSi (W.runS (As := [.int 4, .int 0, .int 5]) (rest := [.ref h0]) ⟨hx, hb, hml, hown, hts⟩ (k_X6_isIn_46 l D κ ε) (va_cwS 3 hts gX6_addStep_X6_isIn rfl rfl rfl (by decide +kernel) ⟨(Nat.le_of_ble_eq_true rfl), (Nat.le_of_ble_eq_true rfl)⟩) (pre0_S (wc := []) hP hK [] rfl) rfl rfl hl.1 rfl (lv_room (Nat.le_of_ble_eq_true rfl)) dX6_addStep_4 ⟨(Nat.le_of_ble_eq_true rfl), (Nat.le_of_ble_eq_true rfl)⟩) (fun r hw => ?_)
  rw [hw]
  refine lv_if_eq (tgt := 66) hx hb dX6_addStep_7 (by decide) (fun h => absurd h (by decide)) (fun _ => ?_)
  refine lv_iload_n hx hb dX6_addStep_10 rfl (lv_at hl 1 rfl) ?_
  refine lv_iconst (v := 2) hx hb dX6_addStep_11 (by decide) ?_
  refine lv_icmp_ne (tgt := 29) hx hb dX6_addStep_12 (by decide) (fun _ => ?_) (fun h => absurd h (by decide))
  refine lv_iload_n hx hb dX6_addStep_29 rfl (lv_at hl 1 rfl) ?_
  refine lv_iconst (v := 4) hx hb dX6_addStep_30 (by decide) ?_
  refine lv_icmp_ne (tgt := 46) hx hb dX6_addStep_31 (by decide) (fun h => absurd (by decide) h) (fun _ => ?_)
  refine lv_iload_n hx hb dX6_addStep_34 rfl (lv_at hl 2 rfl) ?_
  refine lv_iconst (v := 0) hx hb dX6_addStep_35 (by decide) ?_
  refine lv_aload_n hx hb dX6_addStep_36 rfl (lv_at hl 0 rfl) ?_
  refine va_get (D := D) (ci := 8) (v := .int 0) (C := RX6) (T := TX6) (N := 11) hx hb hts wi_X6_addStep_RX6 hown hK hP 0 rfl rfl 1 (by decide) (hts _ wd387_X6_addStep) (fun _ h9 => h9) rfl dX6_addStep_37 ?_
  refine vp_callSi (W.runS (As := [.int p0, .int 0, .int 0]) (rest := [.ref h0]) ⟨hx, hb, hml, hown, hts⟩ (k_X6_isIn_31 l D κ ε (p0) hf0) (va_cwS 3 hts gX6_addStep_X6_isIn rfl rfl rfl (by decide +kernel) ⟨(Nat.le_of_ble_eq_true rfl), (Nat.le_of_ble_eq_true rfl)⟩) (pre0_S (wc := []) hP hK [] rfl) rfl rfl hl.1 rfl (lv_room (Nat.le_of_ble_eq_true rfl)) dX6_addStep_40 ⟨(Nat.le_of_ble_eq_true rfl), (Nat.le_of_ble_eq_true rfl)⟩) (fun r hw => ?_)
  rw [hw]
  refine lv_if_eq (tgt := 66) hx hb dX6_addStep_43 (by decide) (fun _ => ?_) (fun h => absurd (by decide) h)
  refine lv_iconst (v := 1) hx hb dX6_addStep_66 (by decide) ?_
  refine lv_goto (tgt := 71) hx hb dX6_addStep_67 (by decide) ?_
  refine lv_iconst (v := 1) hx hb dX6_addStep_71 (by decide) ?_
  have hF := va_free (wc := [(h0, .inr (8, [.int 0, .int 0, .int 2, .ref h1, .ref h2, .int 0, .int 500, .int 0, .int 0, .int 0, .ref h3]))]) hD hS hA [0] rfl
  refine va_calli (va_runV (As := [.int 1, .int 1]) (rest := []) ⟨hx, hb, hml, hown, hts⟩ (k_X6_start_1 l D κ ε h0 h1 h2 h3 s.heap.size (0) (2) (0) (500) (0) (0)) (cwV 2 hts gX6_addStep_X6_start rfl rfl rfl (by decide +kernel) ⟨(Nat.le_of_ble_eq_true rfl), (Nat.le_of_ble_eq_true rfl)⟩) (pre2_V (q0 := 0) (ci := 8) (wc := [(h0, .inr (8, [.int 0, .int 0, .int 2, .ref h1, .ref h2, .int 0, .int 500, .int 0, .int 0, .int 0, .ref h3]))]) hP hD hK hE9 hS hA [0] (by decide) rfl rfl rfl) rfl rfl hl.1 rfl (lv_room (Nat.le_of_ble_eq_true rfl)) dX6_addStep_72 ⟨(Nat.le_of_ble_eq_true rfl), (Nat.le_of_ble_eq_true rfl)⟩) hS (fun q _ h => hF q h) hF (fun r u1 t H locs ht hvm hw hB hz1 hk1 hS => ?_)
  try dsimp only at hw hB
  obtain ⟨hP1, hD1⟩ := hB
  rw [ht] at hP1
  obtain ⟨hP, hD⟩ := post_j (ws' := [(h0, .inr (8, [.int 1, .int 0, .int 2, .ref h1, .ref h2, .int 0, .int 500, .int 0, .int 0, .int 0, .ref h3]))]) (wr := []) (w1 := [(h0, .inr (8, [.int 1, .int 0, .int 2, .ref h1, .ref h2, .int 0, .int 500, .int 0, .int 0, .int 0, .ref h3]))]) hP hD hF [0] rfl [] rfl (by decide) (by decide) hk1 hP1 hD1 [0] (by decide) rfl
  have hP : va_P D vwCl [(h0, .inr (8, [.int 1, .int 0, .int 2, .ref h1, .ref h2, .int 0, .int 500, .int 0, .int 0, .int 0, .ref h3]))] H := hP
  have hD : va_D A [(h0, .inr (8, [.int 1, .int 0, .int 2, .ref h1, .ref h2, .int 0, .int 500, .int 0, .int 0, .int 0, .ref h3]))] := hD
  rw [hw]
  refine lv_if_eq (tgt := 80) hx hb dX6_addStep_75 (by decide) (fun h => absurd h (by decide)) (fun _ => ?_)
  refine lv_iconst (v := 0) hx hb dX6_addStep_78 (by decide) ?_
  have hP9 := hP.sub (ws' := [(h0, .inr (8, [.int 1, .int 0, .int 2, .ref h1, .ref h2, .int 0, .int 500, .int 0, .int 0, .int 0, .ref h3]))]) [0] rfl
  have hD9 := hD.sub (ws' := [(h0, .inr (8, [.int 1, .int 0, .int 2, .ref h1, .ref h2, .int 0, .int 500, .int 0, .int 0, .int 0, .ref h3]))]) [0] (by decide) rfl
  exact W.iret (v := 0) hx hb hr (fun t ht hW => ⟨⟨0, [.int 1, .int 0, .int 2, .ref h1, .ref h2, .int 0, .int 500, .int 0, .int 0, .int 0, .ref h3], rfl, ⟨rfl, rfl⟩, by rw [ht]; exact hP9, hD9⟩, hS.F ht⟩) hS.2.2 dX6_addStep_79

theorem iv313 (x : Int32) (h0 : ¬ x < 0) (h1 : ¬ x = 0) : 0 < x := by
  have e0 : (0 : Int32).toInt = 0 := by decide
  simp only [Int32.lt_iff_toInt_lt, Int32.le_iff_toInt_le, ← Int32.toInt_inj, e0] at *
  omega

set_option maxHeartbeats 4000000 in
set_option maxRecDepth 100000 in
theorem k_X6_isIn_47 (l : Launch) (D : va_G) (κ ε : Nat → Nat) (p0 : Int32) (hf0 : ¬ p0 < 0) (hf1 : ¬ p0 = 0) : Met l yX6_isIn wsX6_isIn ({ frames := 0, cells := 0, slots := 0, locals := 0 }) (va_Pc [.int p0, .int 0, .int 0] (Pre0 D κ [])) (vp_Si (fun r => (r = 0))) 0 0 (fun _ => False) := by
  refine Met.ofW (cc := cX6_isIn) (maxL := 3) (ret := (some .boolean)) (by decide) rfl ?_
  intro p e s m args below meth c s₁ B hml hv
  obtain ⟨rfl, hP, hK⟩ := hv
  have hx := B.exec
  have hb := B.bytes
  have hr := B.returns
  have hts := atoms_spec (ws := wsX6_isIn) B.pre
  have hown : s.vm.findClass RX6 = some m.cls := findClass_of_methodNamed B.named
  have hlocks := B.notSynchronized
  have hP : va_P D vwCl [] s.heap := hP
  have hl := lv_entry [.int p0, .int 0, .int 0] (n := 3) (Nat.le_of_ble_eq_true rfl)
  rw [lg_entry_eq]
  generalize (lg_sl [.int p0, .int 0, .int 0] ++ List.replicate (3 - (lg_sl [.int p0, .int 0, .int 0]).length) Slot.unset).toArray = ls at hl ⊢
  have hl : lv_has ls 3 [(0, .int p0), (1, .int 0), (2, .int 0)] := hl
  refine lv_iload_n hx hb dX6_isIn_0 rfl (lv_at hl 0 rfl) ?_
  refine lv_iload_n hx hb dX6_isIn_1 rfl (lv_at hl 1 rfl) ?_
  refine lv_icmp_lt (tgt := 14) hx hb dX6_isIn_2 (by decide) (fun h => absurd h hf0) (fun _ => ?_)
  refine lv_iload_n hx hb dX6_isIn_5 rfl (lv_at hl 0 rfl) ?_
  refine lv_iload_n hx hb dX6_isIn_6 rfl (lv_at hl 2 rfl) ?_
  refine lv_icmp_gt (tgt := 14) hx hb dX6_isIn_7 (by decide) (fun _ => ?_) (fun h => absurd (iv313 _ hf0 hf1) h)
  refine lv_iconst (v := 0) hx hb dX6_isIn_14 (by decide) ?_
  exact W.zret (v := 0) hx hb hr rfl (fun t ht hW => ⟨0, rfl, rfl, ht⟩) (fun q hq => absurd hq List.not_mem_nil) dX6_isIn_15

set_option maxHeartbeats 4000000 in
set_option maxRecDepth 100000 in
theorem k_X6_addStep_8 (l : Launch) (D : va_G) (κ ε : Nat → Nat) (h0 h1 h2 h3 : Nat) (sz : Nat) (p0 : Int32) (hf0 : ¬ p0 < 0) (hf1 : ¬ p0 = 0) : Met l yX6_addStep wsX6_addStep ({ frames := 2, cells := 0, slots := 0, locals := 44 }) (va_Pc [.ref h0, .int 4, .int p0] (Pre2 D κ ε [(h0, .inr (8, [.int 0, .int 0, .int 2, .ref h1, .ref h2, .int 0, .int 500, .int 0, .int 0, .int 0, .ref h3]))] sz)) (va_Qi (fun r (u : List Value) => (u[0]? = some (.int 1)) ∧ (r = 0)) (fun u t => va_P D vwCl [(h0, .inr (8, u))] t.heap ∧ va_D (va_A [(h0, .inr (8, [.int 0, .int 0, .int 2, .ref h1, .ref h2, .int 0, .int 500, .int 0, .int 0, .int 0, .ref h3]))] sz) [(h0, .inr (8, u))]) (va_A [(h0, .inr (8, [.int 0, .int 0, .int 2, .ref h1, .ref h2, .int 0, .int 500, .int 0, .int 0, .int 0, .ref h3]))] sz)) 0 0 (va_A [(h0, .inr (8, [.int 0, .int 0, .int 2, .ref h1, .ref h2, .int 0, .int 500, .int 0, .int 0, .int 0, .ref h3]))] sz) := by
  refine Met.ofW (cc := cX6_addStep) (maxL := 3) (ret := (some .int)) (by decide) rfl ?_
  intro p e s m args below meth c s₁ B hml hv
  obtain ⟨rfl, hsz, hP, hK, hD0, hE9⟩ := hv
  have hx := B.exec
  have hb := B.bytes
  have hr := B.returns
  have hts := atoms_spec (ws := wsX6_addStep) B.pre
  have hown : s.vm.findClass RX6 = some m.cls := findClass_of_methodNamed B.named
  have hlocks := B.notSynchronized
  subst hsz
  have hD := hD0.self (sz := s.heap.size)
  generalize hAe : va_A [(h0, .inr (8, [.int 0, .int 0, .int 2, .ref h1, .ref h2, .int 0, .int 500, .int 0, .int 0, .int 0, .ref h3]))] s.heap.size = A at hD hE9 ⊢
  have hE := hE9.1
  have hDc := hE9.2
  have hA : ∀ q : Nat, s.heap.size ≤ q → A q := fun q h => by rw [← hAe]; exact Or.inr h
  have hS : va_S A s.heap s.heap [] := va_S.rf
  have hP : va_P D vwCl [(h0, .inr (8, [.int 0, .int 0, .int 2, .ref h1, .ref h2, .int 0, .int 500, .int 0, .int 0, .int 0, .ref h3]))] s.heap := hP
  have hl := lv_entry [.ref h0, .int 4, .int p0] (n := 3) (Nat.le_of_ble_eq_true rfl)
  rw [lg_entry_eq]
  generalize (lg_sl [.ref h0, .int 4, .int p0] ++ List.replicate (3 - (lg_sl [.ref h0, .int 4, .int p0]).length) Slot.unset).toArray = ls at hl ⊢
  have hl : lv_has ls 3 [(0, .ref h0), (1, .int 4), (2, .int p0)] := hl
  refine lv_aload_n hx hb dX6_addStep_0 rfl (lv_at hl 0 rfl) ?_
  refine lv_iload_n hx hb dX6_addStep_1 rfl (lv_at hl 1 rfl) ?_
  refine lv_iconst (v := 0) hx hb dX6_addStep_2 (by decide) ?_
  refine lv_iconst (v := 5) hx hb dX6_addStep_3 (by decide) ?_
  refine vp_callSi (W.runS (As := [.int 4, .int 0, .int 5]) (rest := [.ref h0]) ⟨hx, hb, hml, hown, hts⟩ (k_X6_isIn_46 l D κ ε) (va_cwS 3 hts gX6_addStep_X6_isIn rfl rfl rfl (by decide +kernel) ⟨(Nat.le_of_ble_eq_true rfl), (Nat.le_of_ble_eq_true rfl)⟩) (pre0_S (wc := []) hP hK [] rfl) rfl rfl hl.1 rfl (lv_room (Nat.le_of_ble_eq_true rfl)) dX6_addStep_4 ⟨(Nat.le_of_ble_eq_true rfl), (Nat.le_of_ble_eq_true rfl)⟩) (fun r hw => ?_)
  rw [hw]
  refine lv_if_eq (tgt := 66) hx hb dX6_addStep_7 (by decide) (fun h => absurd h (by decide)) (fun _ => ?_)
  refine lv_iload_n hx hb dX6_addStep_10 rfl (lv_at hl 1 rfl) ?_
  refine lv_iconst (v := 2) hx hb dX6_addStep_11 (by decide) ?_
  refine lv_icmp_ne (tgt := 29) hx hb dX6_addStep_12 (by decide) (fun _ => ?_) (fun h => absurd h (by decide))
  refine lv_iload_n hx hb dX6_addStep_29 rfl (lv_at hl 1 rfl) ?_
  refine lv_iconst (v := 4) hx hb dX6_addStep_30 (by decide) ?_
  refine lv_icmp_ne (tgt := 46) hx hb dX6_addStep_31 (by decide) (fun h => absurd (by decide) h) (fun _ => ?_)
  refine lv_iload_n hx hb dX6_addStep_34 rfl (lv_at hl 2 rfl) ?_
  refine lv_iconst (v := 0) hx hb dX6_addStep_35 (by decide) ?_
  refine lv_aload_n hx hb dX6_addStep_36 rfl (lv_at hl 0 rfl) ?_
  refine va_get (D := D) (ci := 8) (v := .int 0) (C := RX6) (T := TX6) (N := 11) hx hb hts wi_X6_addStep_RX6 hown hK hP 0 rfl rfl 1 (by decide) (hts _ wd387_X6_addStep) (fun _ h9 => h9) rfl dX6_addStep_37 ?_
  refine vp_callSi (W.runS (As := [.int p0, .int 0, .int 0]) (rest := [.ref h0]) ⟨hx, hb, hml, hown, hts⟩ (k_X6_isIn_47 l D κ ε (p0) hf0 hf1) (va_cwS 3 hts gX6_addStep_X6_isIn rfl rfl rfl (by decide +kernel) ⟨(Nat.le_of_ble_eq_true rfl), (Nat.le_of_ble_eq_true rfl)⟩) (pre0_S (wc := []) hP hK [] rfl) rfl rfl hl.1 rfl (lv_room (Nat.le_of_ble_eq_true rfl)) dX6_addStep_40 ⟨(Nat.le_of_ble_eq_true rfl), (Nat.le_of_ble_eq_true rfl)⟩) (fun r hw => ?_)
  rw [hw]
  refine lv_if_eq (tgt := 66) hx hb dX6_addStep_43 (by decide) (fun _ => ?_) (fun h => absurd (by decide) h)
  refine lv_iconst (v := 1) hx hb dX6_addStep_66 (by decide) ?_
  refine lv_goto (tgt := 71) hx hb dX6_addStep_67 (by decide) ?_
  refine lv_iconst (v := 1) hx hb dX6_addStep_71 (by decide) ?_
  have hF := va_free (wc := [(h0, .inr (8, [.int 0, .int 0, .int 2, .ref h1, .ref h2, .int 0, .int 500, .int 0, .int 0, .int 0, .ref h3]))]) hD hS hA [0] rfl
  refine va_calli (va_runV (As := [.int 1, .int 1]) (rest := []) ⟨hx, hb, hml, hown, hts⟩ (k_X6_start_1 l D κ ε h0 h1 h2 h3 s.heap.size (0) (2) (0) (500) (0) (0)) (cwV 2 hts gX6_addStep_X6_start rfl rfl rfl (by decide +kernel) ⟨(Nat.le_of_ble_eq_true rfl), (Nat.le_of_ble_eq_true rfl)⟩) (pre2_V (q0 := 0) (ci := 8) (wc := [(h0, .inr (8, [.int 0, .int 0, .int 2, .ref h1, .ref h2, .int 0, .int 500, .int 0, .int 0, .int 0, .ref h3]))]) hP hD hK hE9 hS hA [0] (by decide) rfl rfl rfl) rfl rfl hl.1 rfl (lv_room (Nat.le_of_ble_eq_true rfl)) dX6_addStep_72 ⟨(Nat.le_of_ble_eq_true rfl), (Nat.le_of_ble_eq_true rfl)⟩) hS (fun q _ h => hF q h) hF (fun r u1 t H locs ht hvm hw hB hz1 hk1 hS => ?_)
  try dsimp only at hw hB
  obtain ⟨hP1, hD1⟩ := hB
  rw [ht] at hP1
  obtain ⟨hP, hD⟩ := post_j (ws' := [(h0, .inr (8, [.int 1, .int 0, .int 2, .ref h1, .ref h2, .int 0, .int 500, .int 0, .int 0, .int 0, .ref h3]))]) (wr := []) (w1 := [(h0, .inr (8, [.int 1, .int 0, .int 2, .ref h1, .ref h2, .int 0, .int 500, .int 0, .int 0, .int 0, .ref h3]))]) hP hD hF [0] rfl [] rfl (by decide) (by decide) hk1 hP1 hD1 [0] (by decide) rfl
  have hP : va_P D vwCl [(h0, .inr (8, [.int 1, .int 0, .int 2, .ref h1, .ref h2, .int 0, .int 500, .int 0, .int 0, .int 0, .ref h3]))] H := hP
  have hD : va_D A [(h0, .inr (8, [.int 1, .int 0, .int 2, .ref h1, .ref h2, .int 0, .int 500, .int 0, .int 0, .int 0, .ref h3]))] := hD
  rw [hw]
  refine lv_if_eq (tgt := 80) hx hb dX6_addStep_75 (by decide) (fun h => absurd h (by decide)) (fun _ => ?_)
  refine lv_iconst (v := 0) hx hb dX6_addStep_78 (by decide) ?_
  have hP9 := hP.sub (ws' := [(h0, .inr (8, [.int 1, .int 0, .int 2, .ref h1, .ref h2, .int 0, .int 500, .int 0, .int 0, .int 0, .ref h3]))]) [0] rfl
  have hD9 := hD.sub (ws' := [(h0, .inr (8, [.int 1, .int 0, .int 2, .ref h1, .ref h2, .int 0, .int 500, .int 0, .int 0, .int 0, .ref h3]))]) [0] (by decide) rfl
  exact W.iret (v := 0) hx hb hr (fun t ht hW => ⟨⟨0, [.int 1, .int 0, .int 2, .ref h1, .ref h2, .int 0, .int 500, .int 0, .int 0, .int 0, .ref h3], rfl, ⟨rfl, rfl⟩, by rw [ht]; exact hP9, hD9⟩, hS.F ht⟩) hS.2.2 dX6_addStep_79

set_option maxHeartbeats 4000000 in
set_option maxRecDepth 100000 in
theorem k_Jx4a65c_add_72be8_3 (l : Launch) (D : va_G) (κ ε : Nat → Nat) (h0 h1 : Nat) (sz : Nat) (p0 : Int32) : Met l yJx4a65c_add_72be8 wsJx4a65c_add_72be8 ({ frames := 3, cells := 1, slots := 10, locals := 60 }) (va_Pc [.ref h0, .ref h1, .ref (ε 1), .int 0] (Pre2 D κ ε [(h0, .inr (1, [.int p0, .ref (ε 1), .int 0])), (h1, .inl (κ 0, 2, .inl (upd (upd (fun _ => 0) 0 4) 1 0)))] sz)) (va_Qv (fun u : Nat → Nat => True) (fun u t => va_P D vwCl [(h0, .inr (1, [.int p0, .ref (u 0), .int 1])), (h1, .inl (κ 0, 2, .inl (upd (upd (fun _ => 0) 0 4) 1 0))), ((u 0), .inl (κ 5, 10, .inr (.inr (.inr (.inr (va_up (fun _ => none) 0 (some h1)))))))] t.heap ∧ va_D (va_A [(h0, .inr (1, [.int p0, .ref (ε 1), .int 0])), (h1, .inl (κ 0, 2, .inl (upd (upd (fun _ => 0) 0 4) 1 0)))] sz) [(h0, .inr (1, [.int p0, .ref (u 0), .int 1])), (h1, .inl (κ 0, 2, .inl (upd (upd (fun _ => 0) 0 4) 1 0))), ((u 0), .inl (κ 5, 10, .inr (.inr (.inr (.inr (va_up (fun _ => none) 0 (some h1)))))))]) (va_A [(h0, .inr (1, [.int p0, .ref (ε 1), .int 0])), (h1, .inl (κ 0, 2, .inl (upd (upd (fun _ => 0) 0 4) 1 0)))] sz)) 1 10 (va_A [(h0, .inr (1, [.int p0, .ref (ε 1), .int 0])), (h1, .inl (κ 0, 2, .inl (upd (upd (fun _ => 0) 0 4) 1 0)))] sz) := by
  refine Met.ofW (cc := cJx4a65c_add_72be8) (maxL := 4) (ret := none) (by decide) rfl ?_
  intro p e s m args below meth c s₁ B hml hv
  obtain ⟨rfl, hsz, hP, hK, hD0, hE9⟩ := hv
  have hx := B.exec
  have hb := B.bytes
  have hr := B.returns
  have hts := atoms_spec (ws := wsJx4a65c_add_72be8) B.pre
  have hown : s.vm.findClass RJx4a65c = some m.cls := findClass_of_methodNamed B.named
  have hlocks := B.notSynchronized
  subst hsz
  have hD := hD0.self (sz := s.heap.size)
  generalize hAe : va_A [(h0, .inr (1, [.int p0, .ref (ε 1), .int 0])), (h1, .inl (κ 0, 2, .inl (upd (upd (fun _ => 0) 0 4) 1 0)))] s.heap.size = A at hD hE9 ⊢
  have hE := hE9.1
  have hDc := hE9.2
  have hA : ∀ q : Nat, s.heap.size ≤ q → A q := fun q h => by rw [← hAe]; exact Or.inr h
  have hS : va_S A s.heap s.heap [] := va_S.rf
  have hP : va_P D vwCl [(h0, .inr (1, [.int p0, .ref (ε 1), .int 0])), (h1, .inl (κ 0, 2, .inl (upd (upd (fun _ => 0) 0 4) 1 0)))] s.heap := hP
  have hl := lv_entry [.ref h0, .ref h1, .ref (ε 1), .int 0] (n := 4) (Nat.le_of_ble_eq_true rfl)
  rw [lg_entry_eq]
  generalize (lg_sl [.ref h0, .ref h1, .ref (ε 1), .int 0] ++ List.replicate (4 - (lg_sl [.ref h0, .ref h1, .ref (ε 1), .int 0]).length) Slot.unset).toArray = ls at hl ⊢
  have hl : lv_has ls 4 [(0, .ref h0), (1, .ref h1), (2, .ref (ε 1)), (3, .int 0)] := hl
  refine lv_iload_n hx hb dJx4a65c_add_72be8_0 rfl (lv_at hl 3 rfl) ?_
  refine lv_aload_n hx hb dJx4a65c_add_72be8_1 rfl (lv_at hl 2 rfl) ?_
  refine va_tlen (v := 0) hx hb hE.2.2.2.2.2.1 hS (by decide) dJx4a65c_add_72be8_2 ?_
  refine lv_icmp_ne (tgt := 11) hx hb dJx4a65c_add_72be8_3 (by decide) (fun h => absurd (by decide) h) (fun _ => ?_)
  refine lv_aload_n hx hb dJx4a65c_add_72be8_6 rfl (lv_at hl 0 rfl) ?_
  have hF := va_free (wc := [(h0, .inr (1, [.int p0, .ref (ε 1), .int 0]))]) hD hS hA [0] rfl
  refine va_callr (va_runV (As := []) (rest := []) ⟨hx, hb, hml, hown, hts⟩ (k_Jx4a65c_grow_d5877_0 l D κ ε h0 s.heap.size (p0)) (cwV 0 hts gJx4a65c_add_72be8_Jx4a65c_grow_d5877 rfl rfl rfl (by decide +kernel) ⟨(Nat.le_of_ble_eq_true rfl), (Nat.le_of_ble_eq_true rfl)⟩) (pre2_V (q0 := 0) (ci := 1) (wc := [(h0, .inr (1, [.int p0, .ref (ε 1), .int 0]))]) hP hD hK hE9 hS hA [0] (by decide) rfl rfl rfl) rfl rfl hl.1 rfl (lv_room (Nat.le_of_ble_eq_true rfl)) dJx4a65c_add_72be8_7 ⟨(Nat.le_of_ble_eq_true rfl), (Nat.le_of_ble_eq_true rfl)⟩) hS (fun q _ h => hF q h) hF (fun u1 ra t H locs ht hvm hw hB hz1 hk1 hS => ?_)
  try dsimp only at hw hB
  obtain ⟨rfl, hB⟩ := hB
  obtain ⟨hP1, hD1⟩ := hB
  rw [ht] at hP1
  obtain ⟨hP, hD⟩ := post_j (ws' := [(h0, .inr (1, [.int p0, .ref (u1 0), .int 0])), (h1, .inl (κ 0, 2, .inl (upd (upd (fun _ => 0) 0 4) 1 0))), ((u1 0), .inl (κ 5, 10, .inr (.inr (.inr (.inr (fun _ => none))))))]) (wr := [(h1, .inl (κ 0, 2, .inl (upd (upd (fun _ => 0) 0 4) 1 0)))]) (w1 := [(h0, .inr (1, [.int p0, .ref (u1 0), .int 0])), ((u1 0), .inl (κ 5, 10, .inr (.inr (.inr (.inr (fun _ => none))))))]) hP hD hF [0] rfl [1] rfl (by decide) (by decide) hk1 hP1 hD1 [1, 0, 2] (by decide) rfl
  have hP : va_P D vwCl [(h0, .inr (1, [.int p0, .ref (u1 0), .int 0])), (h1, .inl (κ 0, 2, .inl (upd (upd (fun _ => 0) 0 4) 1 0))), ((u1 0), .inl (κ 5, 10, .inr (.inr (.inr (.inr (fun _ => none))))))] H := hP
  have hD : va_D A [(h0, .inr (1, [.int p0, .ref (u1 0), .int 0])), (h1, .inl (κ 0, 2, .inl (upd (upd (fun _ => 0) 0 4) 1 0))), ((u1 0), .inl (κ 5, 10, .inr (.inr (.inr (.inr (fun _ => none))))))] := hD
  refine lv_astore_n (lv' := [(2, .ref (u1 0)), (0, .ref h0), (1, .ref h1), (3, .int 0)]) hx hb dJx4a65c_add_72be8_10 rfl hl (by decide) rfl (fun ls hl => ?_)
  refine lv_aload_n hx hb dJx4a65c_add_72be8_11 rfl (lv_at hl 0 rfl) ?_
  refine lv_iload_n hx hb dJx4a65c_add_72be8_12 rfl (lv_at hl 3 rfl) ?_
  refine lv_aload_n hx hb dJx4a65c_add_72be8_13 rfl (lv_at hl 2 rfl) ?_
  refine va_astqM (cA := κ 5) (n := 10) (f := (fun _ => none)) hx hb hK hP hD hS 2 5 rfl rfl (any_arr hK hE hP 1 rfl) (vpl (by decide)) dJx4a65c_add_72be8_14 (fun H locs hP hD hS => ?_)
  have hP : va_P D vwCl [(h0, .inr (1, [.int p0, .ref (u1 0), .int 0])), (h1, .inl (κ 0, 2, .inl (upd (upd (fun _ => 0) 0 4) 1 0))), ((u1 0), .inl (κ 5, 10, .inr (.inr (.inr (.inr (va_up (fun _ => none) 0 (some h1)))))))] H := hP
  have hD : va_D A [(h0, .inr (1, [.int p0, .ref (u1 0), .int 0])), (h1, .inl (κ 0, 2, .inl (upd (upd (fun _ => 0) 0 4) 1 0))), ((u1 0), .inl (κ 5, 10, .inr (.inr (.inr (.inr (va_up (fun _ => none) 0 (some h1)))))))] := hD
  refine lv_aload_n hx hb dJx4a65c_add_72be8_15 rfl (lv_at hl 1 rfl) ?_
  refine lv_iload_n hx hb dJx4a65c_add_72be8_16 rfl (lv_at hl 3 rfl) ?_
  refine lv_iconst (v := 1) hx hb dJx4a65c_add_72be8_17 (by decide) ?_
  refine lv_iadd hx hb dJx4a65c_add_72be8_18 ?_
  refine tpi (v := 1) (by decide) ?_
  refine va_put (D := D) (ci := 1) (v := .int 1) (ty := .int) (C := RJx4a65c) (T := TJx4a65c) (N := 3) hx hb hts wi_Jx4a65c_add_72be8_RJx4a65c tyJx4a65c tyJx4a65c_ok nmJx4a65c hown hK hP hD hS 0 rfl rfl 2 (by decide) (hts _ wd377_Jx4a65c_add_72be8) (fun _ h9 => h9) rfl (by decide +kernel) rfl rfl (Nat.le_of_ble_eq_true rfl) dJx4a65c_add_72be8_19 (fun H locs hP hD hS => ?_)
  have hP : va_P D vwCl [(h0, .inr (1, [.int p0, .ref (u1 0), .int 1])), (h1, .inl (κ 0, 2, .inl (upd (upd (fun _ => 0) 0 4) 1 0))), ((u1 0), .inl (κ 5, 10, .inr (.inr (.inr (.inr (va_up (fun _ => none) 0 (some h1)))))))] H := hP
  have hD : va_D A [(h0, .inr (1, [.int p0, .ref (u1 0), .int 1])), (h1, .inl (κ 0, 2, .inl (upd (upd (fun _ => 0) 0 4) 1 0))), ((u1 0), .inl (κ 5, 10, .inr (.inr (.inr (.inr (va_up (fun _ => none) 0 (some h1)))))))] := hD
  have hP9 := hP
  have hD9 := hD
  refine W.widen (k := 1) (n := 10) (Nat.le_of_ble_eq_true rfl) (Nat.le_of_ble_eq_true rfl) ?_
  exact W.vret hx hb hr (fun t ht hW => ⟨⟨(fun i => [(u1 0)].getD i 0), rfl, trivial, by rw [ht]; exact hP9, hD9⟩, hS.F ht⟩) hS.2.2 dJx4a65c_add_72be8_22

set_option maxHeartbeats 4000000 in
set_option maxRecDepth 100000 in
theorem k_Jx4a65c_add_9ea2d_3 (l : Launch) (D : va_G) (κ ε : Nat → Nat) (h0 h1 : Nat) (sz : Nat) : Met l yJx4a65c_add_9ea2d wsJx4a65c_add_9ea2d ({ frames := 4, cells := 1, slots := 10, locals := 83 }) (va_Pc [.ref h0, .ref h1] (Pre2 D κ ε [(h0, .inr (1, [.int 0, .ref (ε 1), .int 0])), (h1, .inl (κ 0, 2, .inl (upd (upd (fun _ => 0) 0 4) 1 0)))] sz)) (va_Qi (fun r (u : Nat → Nat) => (r = 1)) (fun u t => va_P D vwCl [(h0, .inr (1, [.int 1, .ref (u 0), .int 1])), (h1, .inl (κ 0, 2, .inl (upd (upd (fun _ => 0) 0 4) 1 0))), ((u 0), .inl (κ 5, 10, .inr (.inr (.inr (.inr (va_up (fun _ => none) 0 (some h1)))))))] t.heap ∧ va_D (va_A [(h0, .inr (1, [.int 0, .ref (ε 1), .int 0])), (h1, .inl (κ 0, 2, .inl (upd (upd (fun _ => 0) 0 4) 1 0)))] sz) [(h0, .inr (1, [.int 1, .ref (u 0), .int 1])), (h1, .inl (κ 0, 2, .inl (upd (upd (fun _ => 0) 0 4) 1 0))), ((u 0), .inl (κ 5, 10, .inr (.inr (.inr (.inr (va_up (fun _ => none) 0 (some h1)))))))]) (va_A [(h0, .inr (1, [.int 0, .ref (ε 1), .int 0])), (h1, .inl (κ 0, 2, .inl (upd (upd (fun _ => 0) 0 4) 1 0)))] sz)) 1 10 (va_A [(h0, .inr (1, [.int 0, .ref (ε 1), .int 0])), (h1, .inl (κ 0, 2, .inl (upd (upd (fun _ => 0) 0 4) 1 0)))] sz) := by
  refine Met.ofW (cc := cJx4a65c_add_9ea2d) (maxL := 2) (ret := (some .boolean)) (by decide) rfl ?_
  intro p e s m args below meth c s₁ B hml hv
  obtain ⟨rfl, hsz, hP, hK, hD0, hE9⟩ := hv
  have hx := B.exec
  have hb := B.bytes
  have hr := B.returns
  have hts := atoms_spec (ws := wsJx4a65c_add_9ea2d) B.pre
  have hown : s.vm.findClass RJx4a65c = some m.cls := findClass_of_methodNamed B.named
  have hlocks := B.notSynchronized
  subst hsz
  have hD := hD0.self (sz := s.heap.size)
  generalize hAe : va_A [(h0, .inr (1, [.int 0, .ref (ε 1), .int 0])), (h1, .inl (κ 0, 2, .inl (upd (upd (fun _ => 0) 0 4) 1 0)))] s.heap.size = A at hD hE9 ⊢
  have hE := hE9.1
  have hDc := hE9.2
  have hA : ∀ q : Nat, s.heap.size ≤ q → A q := fun q h => by rw [← hAe]; exact Or.inr h
  have hS : va_S A s.heap s.heap [] := va_S.rf
  have hP : va_P D vwCl [(h0, .inr (1, [.int 0, .ref (ε 1), .int 0])), (h1, .inl (κ 0, 2, .inl (upd (upd (fun _ => 0) 0 4) 1 0)))] s.heap := hP
  have hl := lv_entry [.ref h0, .ref h1] (n := 2) (Nat.le_of_ble_eq_true rfl)
  rw [lg_entry_eq]
  generalize (lg_sl [.ref h0, .ref h1] ++ List.replicate (2 - (lg_sl [.ref h0, .ref h1]).length) Slot.unset).toArray = ls at hl ⊢
  have hl : lv_has ls 2 [(0, .ref h0), (1, .ref h1)] := hl
  refine lv_aload_n hx hb dJx4a65c_add_9ea2d_0 rfl (lv_at hl 0 rfl) ?_
  refine lv_dup hx hb dJx4a65c_add_9ea2d_1 rfl ?_
  refine va_get (D := D) (ci := 1) (v := .int 0) (C := RJx4a65c) (T := TJx4a65c) (N := 3) hx hb hts wi_Jx4a65c_add_9ea2d_RJx4a65c hown hK hP 0 rfl rfl 0 (by decide) (hts _ wd379_Jx4a65c_add_9ea2d) (fun x9 h9 => u_same (hts _ wd378_Jx4a65c_add_9ea2d) x9 h9) rfl dJx4a65c_add_9ea2d_2 ?_
  refine lv_iconst (v := 1) hx hb dJx4a65c_add_9ea2d_5 (by decide) ?_
  refine lv_iadd hx hb dJx4a65c_add_9ea2d_6 ?_
  refine tpi (v := 1) (by decide) ?_
  refine va_put (D := D) (ci := 1) (v := .int 1) (ty := .int) (C := RJx4a65c) (T := TJx4a65c) (N := 3) hx hb hts wi_Jx4a65c_add_9ea2d_RJx4a65c tyJx4a65c tyJx4a65c_ok nmJx4a65c hown hK hP hD hS 0 rfl rfl 0 (by decide) (hts _ wd379_Jx4a65c_add_9ea2d) (fun x9 h9 => u_same (hts _ wd378_Jx4a65c_add_9ea2d) x9 h9) rfl (by decide +kernel) rfl rfl (Nat.le_of_ble_eq_true rfl) dJx4a65c_add_9ea2d_7 (fun H locs hP hD hS => ?_)
  have hP : va_P D vwCl [(h0, .inr (1, [.int 1, .ref (ε 1), .int 0])), (h1, .inl (κ 0, 2, .inl (upd (upd (fun _ => 0) 0 4) 1 0)))] H := hP
  have hD : va_D A [(h0, .inr (1, [.int 1, .ref (ε 1), .int 0])), (h1, .inl (κ 0, 2, .inl (upd (upd (fun _ => 0) 0 4) 1 0)))] := hD
  refine lv_aload_n hx hb dJx4a65c_add_9ea2d_10 rfl (lv_at hl 0 rfl) ?_
  refine lv_aload_n hx hb dJx4a65c_add_9ea2d_11 rfl (lv_at hl 1 rfl) ?_
  refine lv_aload_n hx hb dJx4a65c_add_9ea2d_12 rfl (lv_at hl 0 rfl) ?_
  refine va_get (D := D) (ci := 1) (v := .ref (ε 1)) (C := RJx4a65c) (T := TJx4a65c) (N := 3) hx hb hts wi_Jx4a65c_add_9ea2d_RJx4a65c hown hK hP 0 rfl rfl 1 (by decide) (hts _ wd380_Jx4a65c_add_9ea2d) (fun _ h9 => h9) rfl dJx4a65c_add_9ea2d_13 ?_
  refine lv_aload_n hx hb dJx4a65c_add_9ea2d_16 rfl (lv_at hl 0 rfl) ?_
  refine va_get (D := D) (ci := 1) (v := .int 0) (C := RJx4a65c) (T := TJx4a65c) (N := 3) hx hb hts wi_Jx4a65c_add_9ea2d_RJx4a65c hown hK hP 0 rfl rfl 2 (by decide) (hts _ wd381_Jx4a65c_add_9ea2d) (fun _ h9 => h9) rfl dJx4a65c_add_9ea2d_17 ?_
  have hF := va_free (wc := [(h0, .inr (1, [.int 1, .ref (ε 1), .int 0])), (h1, .inl (κ 0, 2, .inl (upd (upd (fun _ => 0) 0 4) 1 0)))]) hD hS hA [0, 1] rfl
  refine va_callv (va_runV (As := [.ref h1, .ref (ε 1), .int 0]) (rest := []) ⟨hx, hb, hml, hown, hts⟩ (k_Jx4a65c_add_72be8_3 l D κ ε h0 h1 H.size (1)) (cwV 3 hts gJx4a65c_add_9ea2d_Jx4a65c_add_72be8 rfl rfl rfl (by decide +kernel) ⟨(Nat.le_of_ble_eq_true rfl), (Nat.le_of_ble_eq_true rfl)⟩) (pre2_V (q0 := 0) (ci := 1) (wc := [(h0, .inr (1, [.int 1, .ref (ε 1), .int 0])), (h1, .inl (κ 0, 2, .inl (upd (upd (fun _ => 0) 0 4) 1 0)))]) hP hD hK hE9 hS hA [0, 1] (by decide) rfl rfl rfl) rfl rfl hl.1 rfl (lv_room (Nat.le_of_ble_eq_true rfl)) dJx4a65c_add_9ea2d_20 ⟨(Nat.le_of_ble_eq_true rfl), (Nat.le_of_ble_eq_true rfl)⟩) hS (fun q _ h => hF q h) hF (fun u1 t H locs ht hvm hw hB hz1 hk1 hS => ?_)
  try dsimp only at hw hB
  obtain ⟨hP1, hD1⟩ := hB
  rw [ht] at hP1
  obtain ⟨hP, hD⟩ := post_j (ws' := [(h0, .inr (1, [.int 1, .ref (u1 0), .int 1])), (h1, .inl (κ 0, 2, .inl (upd (upd (fun _ => 0) 0 4) 1 0))), ((u1 0), .inl (κ 5, 10, .inr (.inr (.inr (.inr (va_up (fun _ => none) 0 (some h1)))))))]) (wr := []) (w1 := [(h0, .inr (1, [.int 1, .ref (u1 0), .int 1])), (h1, .inl (κ 0, 2, .inl (upd (upd (fun _ => 0) 0 4) 1 0))), ((u1 0), .inl (κ 5, 10, .inr (.inr (.inr (.inr (va_up (fun _ => none) 0 (some h1)))))))]) hP hD hF [0, 1] rfl [] rfl (by decide) (by decide) hk1 hP1 hD1 [0, 1, 2] (by decide) rfl
  have hP : va_P D vwCl [(h0, .inr (1, [.int 1, .ref (u1 0), .int 1])), (h1, .inl (κ 0, 2, .inl (upd (upd (fun _ => 0) 0 4) 1 0))), ((u1 0), .inl (κ 5, 10, .inr (.inr (.inr (.inr (va_up (fun _ => none) 0 (some h1)))))))] H := hP
  have hD : va_D A [(h0, .inr (1, [.int 1, .ref (u1 0), .int 1])), (h1, .inl (κ 0, 2, .inl (upd (upd (fun _ => 0) 0 4) 1 0))), ((u1 0), .inl (κ 5, 10, .inr (.inr (.inr (.inr (va_up (fun _ => none) 0 (some h1)))))))] := hD
  refine lv_iconst (v := 1) hx hb dJx4a65c_add_9ea2d_23 (by decide) ?_
  have hP9 := hP
  have hD9 := hD
  refine W.widen (k := 1) (n := 10) (Nat.le_of_ble_eq_true rfl) (Nat.le_of_ble_eq_true rfl) ?_
  exact W.zret (v := 1) hx hb hr rfl (fun t ht hW => ⟨⟨1, (fun i => [(u1 0)].getD i 0), rfl, rfl, by rw [ht]; exact hP9, hD9⟩, hS.F ht⟩) hS.2.2 dJx4a65c_add_9ea2d_24

set_option maxHeartbeats 4000000 in
set_option maxRecDepth 100000 in
theorem k_X6_addStep_9 (l : Launch) (D : va_G) (κ ε : Nat → Nat) (h0 h1 h2 h3 : Nat) (sz : Nat) : Met l yX6_addStep wsX6_addStep ({ frames := 5, cells := 2, slots := 12, locals := 104 }) (va_Pc [.ref h0, .int 4, .int 0] (Pre2 D κ ε [(h0, .inr (8, [.int 0, .int 0, .int 2, .ref h1, .ref h2, .int 0, .int 500, .int 0, .int 0, .int 0, .ref h3])), (h3, .inr (1, [.int 0, .ref (ε 1), .int 0]))] sz)) (va_Qi (fun r (u : List Value) => (u[0]? = some (.int 0)) ∧ (r = 0)) (fun u t => va_P D vwCl [(h0, .inr (8, u))] t.heap ∧ va_D (va_A [(h0, .inr (8, [.int 0, .int 0, .int 2, .ref h1, .ref h2, .int 0, .int 500, .int 0, .int 0, .int 0, .ref h3])), (h3, .inr (1, [.int 0, .ref (ε 1), .int 0]))] sz) [(h0, .inr (8, u))]) (va_A [(h0, .inr (8, [.int 0, .int 0, .int 2, .ref h1, .ref h2, .int 0, .int 500, .int 0, .int 0, .int 0, .ref h3])), (h3, .inr (1, [.int 0, .ref (ε 1), .int 0]))] sz)) 2 12 (va_A [(h0, .inr (8, [.int 0, .int 0, .int 2, .ref h1, .ref h2, .int 0, .int 500, .int 0, .int 0, .int 0, .ref h3])), (h3, .inr (1, [.int 0, .ref (ε 1), .int 0]))] sz) := by
  refine Met.ofW (cc := cX6_addStep) (maxL := 3) (ret := (some .int)) (by decide) rfl ?_
  intro p e s m args below meth c s₁ B hml hv
  obtain ⟨rfl, hsz, hP, hK, hD0, hE9⟩ := hv
  have hx := B.exec
  have hb := B.bytes
  have hr := B.returns
  have hts := atoms_spec (ws := wsX6_addStep) B.pre
  have hown : s.vm.findClass RX6 = some m.cls := findClass_of_methodNamed B.named
  have hlocks := B.notSynchronized
  subst hsz
  have hD := hD0.self (sz := s.heap.size)
  generalize hAe : va_A [(h0, .inr (8, [.int 0, .int 0, .int 2, .ref h1, .ref h2, .int 0, .int 500, .int 0, .int 0, .int 0, .ref h3])), (h3, .inr (1, [.int 0, .ref (ε 1), .int 0]))] s.heap.size = A at hD hE9 ⊢
  have hE := hE9.1
  have hDc := hE9.2
  have hA : ∀ q : Nat, s.heap.size ≤ q → A q := fun q h => by rw [← hAe]; exact Or.inr h
  have hS : va_S A s.heap s.heap [] := va_S.rf
  have hP : va_P D vwCl [(h0, .inr (8, [.int 0, .int 0, .int 2, .ref h1, .ref h2, .int 0, .int 500, .int 0, .int 0, .int 0, .ref h3])), (h3, .inr (1, [.int 0, .ref (ε 1), .int 0]))] s.heap := hP
  have hl := lv_entry [.ref h0, .int 4, .int 0] (n := 3) (Nat.le_of_ble_eq_true rfl)
  rw [lg_entry_eq]
  generalize (lg_sl [.ref h0, .int 4, .int 0] ++ List.replicate (3 - (lg_sl [.ref h0, .int 4, .int 0]).length) Slot.unset).toArray = ls at hl ⊢
  have hl : lv_has ls 3 [(0, .ref h0), (1, .int 4), (2, .int 0)] := hl
  refine lv_aload_n hx hb dX6_addStep_0 rfl (lv_at hl 0 rfl) ?_
  refine lv_iload_n hx hb dX6_addStep_1 rfl (lv_at hl 1 rfl) ?_
  refine lv_iconst (v := 0) hx hb dX6_addStep_2 (by decide) ?_
  refine lv_iconst (v := 5) hx hb dX6_addStep_3 (by decide) ?_
  refine vp_callSi (W.runS (As := [.int 4, .int 0, .int 5]) (rest := [.ref h0]) ⟨hx, hb, hml, hown, hts⟩ (k_X6_isIn_46 l D κ ε) (va_cwS 3 hts gX6_addStep_X6_isIn rfl rfl rfl (by decide +kernel) ⟨(Nat.le_of_ble_eq_true rfl), (Nat.le_of_ble_eq_true rfl)⟩) (pre0_S (wc := []) hP hK [] rfl) rfl rfl hl.1 rfl (lv_room (Nat.le_of_ble_eq_true rfl)) dX6_addStep_4 ⟨(Nat.le_of_ble_eq_true rfl), (Nat.le_of_ble_eq_true rfl)⟩) (fun r hw => ?_)
  rw [hw]
  refine lv_if_eq (tgt := 66) hx hb dX6_addStep_7 (by decide) (fun h => absurd h (by decide)) (fun _ => ?_)
  refine lv_iload_n hx hb dX6_addStep_10 rfl (lv_at hl 1 rfl) ?_
  refine lv_iconst (v := 2) hx hb dX6_addStep_11 (by decide) ?_
  refine lv_icmp_ne (tgt := 29) hx hb dX6_addStep_12 (by decide) (fun _ => ?_) (fun h => absurd h (by decide))
  refine lv_iload_n hx hb dX6_addStep_29 rfl (lv_at hl 1 rfl) ?_
  refine lv_iconst (v := 4) hx hb dX6_addStep_30 (by decide) ?_
  refine lv_icmp_ne (tgt := 46) hx hb dX6_addStep_31 (by decide) (fun h => absurd (by decide) h) (fun _ => ?_)
  refine lv_iload_n hx hb dX6_addStep_34 rfl (lv_at hl 2 rfl) ?_
  refine lv_iconst (v := 0) hx hb dX6_addStep_35 (by decide) ?_
  refine lv_aload_n hx hb dX6_addStep_36 rfl (lv_at hl 0 rfl) ?_
  refine va_get (D := D) (ci := 8) (v := .int 0) (C := RX6) (T := TX6) (N := 11) hx hb hts wi_X6_addStep_RX6 hown hK hP 0 rfl rfl 1 (by decide) (hts _ wd387_X6_addStep) (fun _ h9 => h9) rfl dX6_addStep_37 ?_
  refine vp_callSi (W.runS (As := [.int 0, .int 0, .int 0]) (rest := [.ref h0]) ⟨hx, hb, hml, hown, hts⟩ (k_X6_isIn_30 l D κ ε) (va_cwS 3 hts gX6_addStep_X6_isIn rfl rfl rfl (by decide +kernel) ⟨(Nat.le_of_ble_eq_true rfl), (Nat.le_of_ble_eq_true rfl)⟩) (pre0_S (wc := []) hP hK [] rfl) rfl rfl hl.1 rfl (lv_room (Nat.le_of_ble_eq_true rfl)) dX6_addStep_40 ⟨(Nat.le_of_ble_eq_true rfl), (Nat.le_of_ble_eq_true rfl)⟩) (fun r hw => ?_)
  rw [hw]
  refine lv_if_eq (tgt := 66) hx hb dX6_addStep_43 (by decide) (fun h => absurd h (by decide)) (fun _ => ?_)
  refine lv_iload_n hx hb dX6_addStep_46 rfl (lv_at hl 1 rfl) ?_
  refine lv_iconst (v := 3) hx hb dX6_addStep_47 (by decide) ?_
  refine lv_icmp_eq (tgt := 56) hx hb dX6_addStep_48 (by decide) (fun h => absurd h (by decide)) (fun _ => ?_)
  refine lv_iload_n hx hb dX6_addStep_51 rfl (lv_at hl 1 rfl) ?_
  refine lv_iconst (v := 5) hx hb dX6_addStep_52 (by decide) ?_
  refine lv_icmp_ne (tgt := 70) hx hb dX6_addStep_53 (by decide) (fun _ => ?_) (fun h => absurd h (by decide))
  refine lv_iconst (v := 0) hx hb dX6_addStep_70 (by decide) ?_
  refine lv_iconst (v := 1) hx hb dX6_addStep_71 (by decide) ?_
  have hF := va_free (wc := [(h0, .inr (8, [.int 0, .int 0, .int 2, .ref h1, .ref h2, .int 0, .int 500, .int 0, .int 0, .int 0, .ref h3]))]) hD hS hA [0] rfl
  refine va_calli (va_runV (As := [.int 0, .int 1]) (rest := []) ⟨hx, hb, hml, hown, hts⟩ (k_X6_start_0 l D κ ε h0 h1 h2 h3 s.heap.size (0) (2) (0) (500) (0) (0)) (cwV 2 hts gX6_addStep_X6_start rfl rfl rfl (by decide +kernel) ⟨(Nat.le_of_ble_eq_true rfl), (Nat.le_of_ble_eq_true rfl)⟩) (pre2_V (q0 := 0) (ci := 8) (wc := [(h0, .inr (8, [.int 0, .int 0, .int 2, .ref h1, .ref h2, .int 0, .int 500, .int 0, .int 0, .int 0, .ref h3]))]) hP hD hK hE9 hS hA [0] (by decide) rfl rfl rfl) rfl rfl hl.1 rfl (lv_room (Nat.le_of_ble_eq_true rfl)) dX6_addStep_72 ⟨(Nat.le_of_ble_eq_true rfl), (Nat.le_of_ble_eq_true rfl)⟩) hS (fun q _ h => hF q h) hF (fun r u1 t H locs ht hvm hw hB hz1 hk1 hS => ?_)
  try dsimp only at hw hB
  obtain ⟨hP1, hD1⟩ := hB
  rw [ht] at hP1
  obtain ⟨hP, hD⟩ := post_j (ws' := [(h0, .inr (8, [.int 0, .int 0, .int 2, .ref h1, .ref h2, .int 0, .int 500, .int 0, .int 0, .int 0, .ref h3])), (h3, .inr (1, [.int 0, .ref (ε 1), .int 0]))]) (wr := [(h3, .inr (1, [.int 0, .ref (ε 1), .int 0]))]) (w1 := [(h0, .inr (8, [.int 0, .int 0, .int 2, .ref h1, .ref h2, .int 0, .int 500, .int 0, .int 0, .int 0, .ref h3]))]) hP hD hF [0] rfl [1] rfl (by decide) (by decide) hk1 hP1 hD1 [1, 0] (by decide) rfl
  have hP : va_P D vwCl [(h0, .inr (8, [.int 0, .int 0, .int 2, .ref h1, .ref h2, .int 0, .int 500, .int 0, .int 0, .int 0, .ref h3])), (h3, .inr (1, [.int 0, .ref (ε 1), .int 0]))] H := hP
  have hD : va_D A [(h0, .inr (8, [.int 0, .int 0, .int 2, .ref h1, .ref h2, .int 0, .int 500, .int 0, .int 0, .int 0, .ref h3])), (h3, .inr (1, [.int 0, .ref (ε 1), .int 0]))] := hD
  rw [hw]
  refine lv_if_eq (tgt := 80) hx hb dX6_addStep_75 (by decide) (fun _ => ?_) (fun h => absurd (by decide) h)
  refine lv_aload_n hx hb dX6_addStep_80 rfl (lv_at hl 0 rfl) ?_
  refine lv_aload_n hx hb dX6_addStep_81 rfl (lv_at hl 0 rfl) ?_
  refine va_get (D := D) (ci := 8) (v := .ref h3) (C := RX6) (T := TX6) (N := 11) hx hb hts wi_X6_addStep_RX6 hown hK hP 0 rfl rfl 10 (by decide) (hts _ wd382_X6_addStep) (fun _ h9 => h9) rfl dX6_addStep_82 ?_
  refine vp_callSi (W.runV (As := []) (rest := [.ref h0]) ⟨hx, hb, hml, hown, hts⟩ (k_Jx4a65c_size_8abf5_0 l D κ ε h3 (0)) (cwV 0 hts gX6_addStep_Jx4a65c_size_8abf5 rfl rfl rfl (by decide +kernel) ⟨(Nat.le_of_ble_eq_true rfl), (Nat.le_of_ble_eq_true rfl)⟩) (pre0_V (q0 := 1) (ci := 1) (wc := [(h3, .inr (1, [.int 0, .ref (ε 1), .int 0]))]) hP hK [1] rfl rfl rfl) rfl rfl hl.1 rfl (lv_room (Nat.le_of_ble_eq_true rfl)) dX6_addStep_85 ⟨(Nat.le_of_ble_eq_true rfl), (Nat.le_of_ble_eq_true rfl)⟩) (fun r hw => ?_)
  rw [hw]
  refine lv_bipush (v := 12) hx hb dX6_addStep_88 (by decide) ?_
  refine lv_icmp_ne (tgt := 97) hx hb dX6_addStep_90 (by decide) (fun _ => ?_) (fun h => absurd h (by decide))
  refine lv_iconst (v := 0) hx hb dX6_addStep_97 (by decide) ?_
  refine lv_iconst (v := 2) hx hb dX6_addStep_98 (by decide) ?_
  refine vp_callSi (W.runV (As := [.int 0, .int 2]) (rest := []) ⟨hx, hb, hml, hown, hts⟩ (k_X6_refuse_3 l D κ ε h0 h1 h2 h3 (0) (2) (0) (500) (0) (0)) (cwV 2 hts gX6_addStep_X6_refuse rfl rfl rfl (by decide +kernel) ⟨(Nat.le_of_ble_eq_true rfl), (Nat.le_of_ble_eq_true rfl)⟩) (pre0_V (q0 := 0) (ci := 8) (wc := [(h0, .inr (8, [.int 0, .int 0, .int 2, .ref h1, .ref h2, .int 0, .int 500, .int 0, .int 0, .int 0, .ref h3]))]) hP hK [0] rfl rfl rfl) rfl rfl hl.1 rfl (lv_room (Nat.le_of_ble_eq_true rfl)) dX6_addStep_99 ⟨(Nat.le_of_ble_eq_true rfl), (Nat.le_of_ble_eq_true rfl)⟩) (fun r hw => ?_)
  rw [hw]
  refine lv_if_eq (tgt := 107) hx hb dX6_addStep_102 (by decide) (fun _ => ?_) (fun h => absurd (by decide) h)
  refine lv_aload_n hx hb dX6_addStep_107 rfl (lv_at hl 0 rfl) ?_
  refine va_get (D := D) (ci := 8) (v := .ref h3) (C := RX6) (T := TX6) (N := 11) hx hb hts wi_X6_addStep_RX6 hown hK hP 0 rfl rfl 10 (by decide) (hts _ wd382_X6_addStep) (fun _ h9 => h9) rfl dX6_addStep_108 ?_
  refine lv_iconst (v := 2) hx hb dX6_addStep_111 (by decide) ?_
  refine va_newa (atype := .int) (a0 := (2, .inl (fun _ => 0))) hx hb (hts _ wd383_X6_addStep) rfl hK hP hD hS hA (fun _ => rfl) (by decide) (by decide) (by decide) (Nat.le_of_ble_eq_true rfl) (Nat.le_of_ble_eq_true rfl) dX6_addStep_112 (fun q2 cy H hKn hP hD hS => ?_)
  obtain rfl : cy = κ 0 := K_one (i := 0) hKn rfl
  have hP : va_P D vwCl [(h0, .inr (8, [.int 0, .int 0, .int 2, .ref h1, .ref h2, .int 0, .int 500, .int 0, .int 0, .int 0, .ref h3])), (h3, .inr (1, [.int 0, .ref (ε 1), .int 0])), (q2, .inl (κ 0, 2, .inl (fun _ => 0)))] H := hP
  have hD : va_D A [(h0, .inr (8, [.int 0, .int 0, .int 2, .ref h1, .ref h2, .int 0, .int 500, .int 0, .int 0, .int 0, .ref h3])), (h3, .inr (1, [.int 0, .ref (ε 1), .int 0])), (q2, .inl (κ 0, 2, .inl (fun _ => 0)))] := hD
  refine lv_dup hx hb dX6_addStep_114 rfl ?_
  refine lv_iconst (v := 0) hx hb dX6_addStep_115 (by decide) ?_
  refine lv_iload_n hx hb dX6_addStep_116 rfl (lv_at hl 1 rfl) ?_
  refine va_iast (cA := κ 0) (n := 2) (f := (fun _ => 0)) hx hb hK hP hD hS 2 0 rfl rfl (vpl (by decide)) dX6_addStep_117 (fun H locs hP hD hS => ?_)
  have hP : va_P D vwCl [(h0, .inr (8, [.int 0, .int 0, .int 2, .ref h1, .ref h2, .int 0, .int 500, .int 0, .int 0, .int 0, .ref h3])), (h3, .inr (1, [.int 0, .ref (ε 1), .int 0])), (q2, .inl (κ 0, 2, .inl (upd (fun _ => 0) 0 4)))] H := hP
  have hD : va_D A [(h0, .inr (8, [.int 0, .int 0, .int 2, .ref h1, .ref h2, .int 0, .int 500, .int 0, .int 0, .int 0, .ref h3])), (h3, .inr (1, [.int 0, .ref (ε 1), .int 0])), (q2, .inl (κ 0, 2, .inl (upd (fun _ => 0) 0 4)))] := hD
  refine lv_dup hx hb dX6_addStep_118 rfl ?_
  refine lv_iconst (v := 1) hx hb dX6_addStep_119 (by decide) ?_
  refine lv_iload_n hx hb dX6_addStep_120 rfl (lv_at hl 2 rfl) ?_
  refine va_iast (cA := κ 0) (n := 2) (f := (upd (fun _ => 0) 0 4)) hx hb hK hP hD hS 2 0 rfl rfl (vpl (by decide)) dX6_addStep_121 (fun H locs hP hD hS => ?_)
  have hP : va_P D vwCl [(h0, .inr (8, [.int 0, .int 0, .int 2, .ref h1, .ref h2, .int 0, .int 500, .int 0, .int 0, .int 0, .ref h3])), (h3, .inr (1, [.int 0, .ref (ε 1), .int 0])), (q2, .inl (κ 0, 2, .inl (upd (upd (fun _ => 0) 0 4) 1 0)))] H := hP
  have hD : va_D A [(h0, .inr (8, [.int 0, .int 0, .int 2, .ref h1, .ref h2, .int 0, .int 500, .int 0, .int 0, .int 0, .ref h3])), (h3, .inr (1, [.int 0, .ref (ε 1), .int 0])), (q2, .inl (κ 0, 2, .inl (upd (upd (fun _ => 0) 0 4) 1 0)))] := hD
  have hF := va_free (wc := [(h3, .inr (1, [.int 0, .ref (ε 1), .int 0])), (q2, .inl (κ 0, 2, .inl (upd (upd (fun _ => 0) 0 4) 1 0)))]) hD hS hA [1, 2] rfl
  refine va_calli (va_runV (As := [.ref q2]) (rest := []) ⟨hx, hb, hml, hown, hts⟩ (k_Jx4a65c_add_9ea2d_3 l D κ ε h3 q2 H.size) (cwV 1 hts gX6_addStep_Jx4a65c_add_9ea2d rfl rfl rfl (by decide +kernel) ⟨(Nat.le_of_ble_eq_true rfl), (Nat.le_of_ble_eq_true rfl)⟩) (pre2_V (q0 := 1) (ci := 1) (wc := [(h3, .inr (1, [.int 0, .ref (ε 1), .int 0])), (q2, .inl (κ 0, 2, .inl (upd (upd (fun _ => 0) 0 4) 1 0)))]) hP hD hK hE9 hS hA [1, 2] (by decide) rfl rfl rfl) rfl rfl hl.1 rfl (lv_room (Nat.le_of_ble_eq_true rfl)) dX6_addStep_122 ⟨(Nat.le_of_ble_eq_true rfl), (Nat.le_of_ble_eq_true rfl)⟩) hS (fun q _ h => hF q h) hF (fun r u3 t H locs ht hvm hw hB hz1 hk1 hS => ?_)
  try dsimp only at hw hB
  obtain ⟨hP1, hD1⟩ := hB
  rw [ht] at hP1
  obtain ⟨hP, hD⟩ := post_j (ws' := [(h0, .inr (8, [.int 0, .int 0, .int 2, .ref h1, .ref h2, .int 0, .int 500, .int 0, .int 0, .int 0, .ref h3])), (h3, .inr (1, [.int 1, .ref (u3 0), .int 1])), (q2, .inl (κ 0, 2, .inl (upd (upd (fun _ => 0) 0 4) 1 0))), ((u3 0), .inl (κ 5, 10, .inr (.inr (.inr (.inr (va_up (fun _ => none) 0 (some q2)))))))]) (wr := [(h0, .inr (8, [.int 0, .int 0, .int 2, .ref h1, .ref h2, .int 0, .int 500, .int 0, .int 0, .int 0, .ref h3]))]) (w1 := [(h3, .inr (1, [.int 1, .ref (u3 0), .int 1])), (q2, .inl (κ 0, 2, .inl (upd (upd (fun _ => 0) 0 4) 1 0))), ((u3 0), .inl (κ 5, 10, .inr (.inr (.inr (.inr (va_up (fun _ => none) 0 (some q2)))))))]) hP hD hF [1, 2] rfl [0] rfl (by decide) (by decide) hk1 hP1 hD1 [0, 1, 2, 3] (by decide) rfl
  have hP : va_P D vwCl [(h0, .inr (8, [.int 0, .int 0, .int 2, .ref h1, .ref h2, .int 0, .int 500, .int 0, .int 0, .int 0, .ref h3])), (h3, .inr (1, [.int 1, .ref (u3 0), .int 1])), (q2, .inl (κ 0, 2, .inl (upd (upd (fun _ => 0) 0 4) 1 0))), ((u3 0), .inl (κ 5, 10, .inr (.inr (.inr (.inr (va_up (fun _ => none) 0 (some q2)))))))] H := hP
  have hD : va_D A [(h0, .inr (8, [.int 0, .int 0, .int 2, .ref h1, .ref h2, .int 0, .int 500, .int 0, .int 0, .int 0, .ref h3])), (h3, .inr (1, [.int 1, .ref (u3 0), .int 1])), (q2, .inl (κ 0, 2, .inl (upd (upd (fun _ => 0) 0 4) 1 0))), ((u3 0), .inl (κ 5, 10, .inr (.inr (.inr (.inr (va_up (fun _ => none) 0 (some q2)))))))] := hD
  rw [hw]
  refine lv_pop hx hb dX6_addStep_125 rfl ?_
  refine lv_aload_n hx hb dX6_addStep_126 rfl (lv_at hl 0 rfl) ?_
  refine va_get (D := D) (ci := 8) (v := .ref h3) (C := RX6) (T := TX6) (N := 11) hx hb hts wi_X6_addStep_RX6 hown hK hP 0 rfl rfl 10 (by decide) (hts _ wd382_X6_addStep) (fun _ h9 => h9) rfl dX6_addStep_127 ?_
  refine vp_callSi (W.runV (As := []) (rest := []) ⟨hx, hb, hml, hown, hts⟩ (k_Jx4a65c_size_8abf5_1 l D κ ε h3 (u3 0) (1)) (cwV 0 hts gX6_addStep_Jx4a65c_size_8abf5 rfl rfl rfl (by decide +kernel) ⟨(Nat.le_of_ble_eq_true rfl), (Nat.le_of_ble_eq_true rfl)⟩) (pre0_V (q0 := 1) (ci := 1) (wc := [(h3, .inr (1, [.int 1, .ref (u3 0), .int 1]))]) hP hK [1] rfl rfl rfl) rfl rfl hl.1 rfl (lv_room (Nat.le_of_ble_eq_true rfl)) dX6_addStep_130 ⟨(Nat.le_of_ble_eq_true rfl), (Nat.le_of_ble_eq_true rfl)⟩) (fun r hw => ?_)
  rw [hw]
  refine lv_iconst (v := 1) hx hb dX6_addStep_133 (by decide) ?_
  refine lv_isub hx hb dX6_addStep_134 ?_
  refine tpi (v := 0) (by decide) ?_
  have hP9 := hP.sub (ws' := [(h0, .inr (8, [.int 0, .int 0, .int 2, .ref h1, .ref h2, .int 0, .int 500, .int 0, .int 0, .int 0, .ref h3]))]) [0] rfl
  have hD9 := hD.sub (ws' := [(h0, .inr (8, [.int 0, .int 0, .int 2, .ref h1, .ref h2, .int 0, .int 500, .int 0, .int 0, .int 0, .ref h3]))]) [0] (by decide) rfl
  refine W.widen (k := 2) (n := 12) (Nat.le_of_ble_eq_true rfl) (Nat.le_of_ble_eq_true rfl) ?_
  exact W.iret (v := 0) hx hb hr (fun t ht hW => ⟨⟨0, [.int 0, .int 0, .int 2, .ref h1, .ref h2, .int 0, .int 500, .int 0, .int 0, .int 0, .ref h3], rfl, ⟨rfl, rfl⟩, by rw [ht]; exact hP9, hD9⟩, hS.F ht⟩) hS.2.2 dX6_addStep_135

set_option maxHeartbeats 4000000 in
set_option maxRecDepth 100000 in
theorem k_X5_isStep_5 (l : Launch) (D : va_G) (κ ε : Nat → Nat) (h0 : Nat) (p0 : Int32) : Met l yX5_isStep wsX5_isStep ({ frames := 0, cells := 0, slots := 0, locals := 0 }) (va_Pc [.ref h0, .int 5, .int p0] (Pre0 D κ [])) (vp_Si (fun r => ((p0 < 1) ∧ (r = 0)) ∨ ((¬ p0 < 1) ∧ (12 < p0) ∧ (r = 0)) ∨ ((¬ p0 < 1) ∧ (¬ 12 < p0) ∧ (r = 1)))) 0 0 (fun _ => False) := by
  refine Met.ofW (cc := cX5_isStep) (maxL := 3) (ret := (some .boolean)) (by decide) rfl ?_
  intro p e s m args below meth c s₁ B hml hv
  obtain ⟨rfl, hP, hK⟩ := hv
  have hx := B.exec
  have hb := B.bytes
  have hr := B.returns
  have hts := atoms_spec (ws := wsX5_isStep) B.pre
  have hown : s.vm.findClass RX5 = some m.cls := findClass_of_methodNamed B.named
  have hlocks := B.notSynchronized
  have hP : va_P D vwCl [] s.heap := hP
  have hl := lv_entry [.ref h0, .int 5, .int p0] (n := 3) (Nat.le_of_ble_eq_true rfl)
  rw [lg_entry_eq]
  generalize (lg_sl [.ref h0, .int 5, .int p0] ++ List.replicate (3 - (lg_sl [.ref h0, .int 5, .int p0]).length) Slot.unset).toArray = ls at hl ⊢
  have hl : lv_has ls 3 [(0, .ref h0), (1, .int 5), (2, .int p0)] := hl
  refine lv_iload_n hx hb dX5_isStep_0 rfl (lv_at hl 1 rfl) ?_
  refine lv_tableIn (tgt := 73) (off := 72) hx hb dX5_isStep_1 (by decide) (by decide) (by decide) (by decide) ?_
  refine lv_iload_n hx hb dX5_isStep_73 rfl (lv_at hl 2 rfl) ?_
  refine lv_iconst (v := 1) hx hb dX5_isStep_74 (by decide) ?_
  refine lv_icmp_lt (tgt := 88) hx hb dX5_isStep_75 (by decide) (fun c1 => ?_) (fun c1 => ?_)
  · skip
    refine lv_iconst (v := 0) hx hb dX5_isStep_88 (by decide) ?_
    exact W.zret (v := 0) hx hb hr rfl (fun t ht hW => ⟨0, rfl, (Or.inl ⟨c1, rfl⟩), ht⟩) (fun q hq => absurd hq List.not_mem_nil) dX5_isStep_89
  · skip
    refine lv_iload_n hx hb dX5_isStep_78 rfl (lv_at hl 2 rfl) ?_
    refine lv_bipush (v := 12) hx hb dX5_isStep_79 (by decide) ?_
    refine lv_icmp_gt (tgt := 88) hx hb dX5_isStep_81 (by decide) (fun c2 => ?_) (fun c2 => ?_)
    · skip
      refine lv_iconst (v := 0) hx hb dX5_isStep_88 (by decide) ?_
      exact W.zret (v := 0) hx hb hr rfl (fun t ht hW => ⟨0, rfl, (Or.inr (Or.inl ⟨c1, c2, rfl⟩)), ht⟩) (fun q hq => absurd hq List.not_mem_nil) dX5_isStep_89
    · skip
      refine lv_iconst (v := 1) hx hb dX5_isStep_84 (by decide) ?_
      refine lv_goto (tgt := 89) hx hb dX5_isStep_85 (by decide) ?_
      exact W.zret (v := 1) hx hb hr rfl (fun t ht hW => ⟨1, rfl, (Or.inr (Or.inr ⟨c1, c2, rfl⟩)), ht⟩) (fun q hq => absurd hq List.not_mem_nil) dX5_isStep_89

set_option maxHeartbeats 4000000 in
set_option maxRecDepth 100000 in
theorem k_X2_append_4 (l : Launch) (D : va_G) (κ ε : Nat → Nat) (h0 h1 h2 h3 : Nat) (sz : Nat) (p0 : Int32) : Met l yX2_append wsX2_append ({ frames := 0, cells := 0, slots := 0, locals := 0 }) (va_Pc [.ref h0, .int 5, .int p0] (Pre2 D κ ε [(h0, .inr (4, [.ref h1, .ref h2, .ref h3, .int 0])), (h1, .inl (κ 0, 12, .inl (fun _ => 0))), (h2, .inl (κ 0, 12, .inl (fun _ => 0)))] sz)) (va_Qi (fun r (u : Unit) => (r = 0)) (fun u t => va_P D vwCl [(h0, .inr (4, [.ref h1, .ref h2, .ref h3, .int 1])), (h1, .inl (κ 0, 12, .inl (upd (fun _ => 0) 0 5))), (h2, .inl (κ 0, 12, .inl (upd (fun _ => 0) 0 p0)))] t.heap ∧ va_D (va_A [(h0, .inr (4, [.ref h1, .ref h2, .ref h3, .int 0])), (h1, .inl (κ 0, 12, .inl (fun _ => 0))), (h2, .inl (κ 0, 12, .inl (fun _ => 0)))] sz) [(h0, .inr (4, [.ref h1, .ref h2, .ref h3, .int 1])), (h1, .inl (κ 0, 12, .inl (upd (fun _ => 0) 0 5))), (h2, .inl (κ 0, 12, .inl (upd (fun _ => 0) 0 p0)))]) (va_A [(h0, .inr (4, [.ref h1, .ref h2, .ref h3, .int 0])), (h1, .inl (κ 0, 12, .inl (fun _ => 0))), (h2, .inl (κ 0, 12, .inl (fun _ => 0)))] sz)) 0 0 (va_A [(h0, .inr (4, [.ref h1, .ref h2, .ref h3, .int 0])), (h1, .inl (κ 0, 12, .inl (fun _ => 0))), (h2, .inl (κ 0, 12, .inl (fun _ => 0)))] sz) := by
  refine Met.ofW (cc := cX2_append) (maxL := 3) (ret := (some .int)) (by decide) rfl ?_
  intro p e s m args below meth c s₁ B hml hv
  obtain ⟨rfl, hsz, hP, hK, hD0, hE9⟩ := hv
  have hx := B.exec
  have hb := B.bytes
  have hr := B.returns
  have hts := atoms_spec (ws := wsX2_append) B.pre
  have hown : s.vm.findClass RX2 = some m.cls := findClass_of_methodNamed B.named
  have hlocks := B.notSynchronized
  subst hsz
  have hD := hD0.self (sz := s.heap.size)
  generalize hAe : va_A [(h0, .inr (4, [.ref h1, .ref h2, .ref h3, .int 0])), (h1, .inl (κ 0, 12, .inl (fun _ => 0))), (h2, .inl (κ 0, 12, .inl (fun _ => 0)))] s.heap.size = A at hD hE9 ⊢
  have hE := hE9.1
  have hDc := hE9.2
  have hA : ∀ q : Nat, s.heap.size ≤ q → A q := fun q h => by rw [← hAe]; exact Or.inr h
  have hS : va_S A s.heap s.heap [] := va_S.rf
  have hP : va_P D vwCl [(h0, .inr (4, [.ref h1, .ref h2, .ref h3, .int 0])), (h1, .inl (κ 0, 12, .inl (fun _ => 0))), (h2, .inl (κ 0, 12, .inl (fun _ => 0)))] s.heap := hP
  have hl := lv_entry [.ref h0, .int 5, .int p0] (n := 3) (Nat.le_of_ble_eq_true rfl)
  rw [lg_entry_eq]
  generalize (lg_sl [.ref h0, .int 5, .int p0] ++ List.replicate (3 - (lg_sl [.ref h0, .int 5, .int p0]).length) Slot.unset).toArray = ls at hl ⊢
  have hl : lv_has ls 3 [(0, .ref h0), (1, .int 5), (2, .int p0)] := hl
  refine lv_aload_n hx hb dX2_append_0 rfl (lv_at hl 0 rfl) ?_
  refine va_get (D := D) (ci := 4) (v := .int 0) (C := RX2) (T := TX2) (N := 4) hx hb hts wi_X2_append_RX2 hown hK hP 0 rfl rfl 3 (by decide) (hts _ wd364_X2_append) (fun _ h9 => h9) rfl dX2_append_1 ?_
  refine lv_bipush (v := 12) hx hb dX2_append_4 (by decide) ?_
  refine lv_icmp_ge (tgt := 39) hx hb dX2_append_6 (by decide) (fun h => absurd h (by decide)) (fun _ => ?_)
  refine lv_aload_n hx hb dX2_append_9 rfl (lv_at hl 0 rfl) ?_
  refine va_get (D := D) (ci := 4) (v := .ref h1) (C := RX2) (T := TX2) (N := 4) hx hb hts wi_X2_append_RX2 hown hK hP 0 rfl rfl 0 (by decide) (hts _ wd365_X2_append) (fun _ h9 => h9) rfl dX2_append_10 ?_
  refine lv_aload_n hx hb dX2_append_13 rfl (lv_at hl 0 rfl) ?_
  refine va_get (D := D) (ci := 4) (v := .int 0) (C := RX2) (T := TX2) (N := 4) hx hb hts wi_X2_append_RX2 hown hK hP 0 rfl rfl 3 (by decide) (hts _ wd364_X2_append) (fun _ h9 => h9) rfl dX2_append_14 ?_
  refine lv_iload_n hx hb dX2_append_17 rfl (lv_at hl 1 rfl) ?_
  refine va_iast (cA := κ 0) (n := 12) (f := (fun _ => 0)) hx hb hK hP hD hS 1 0 rfl rfl (vpl (by decide)) dX2_append_18 (fun H locs hP hD hS => ?_)
  have hP : va_P D vwCl [(h0, .inr (4, [.ref h1, .ref h2, .ref h3, .int 0])), (h1, .inl (κ 0, 12, .inl (upd (fun _ => 0) 0 5))), (h2, .inl (κ 0, 12, .inl (fun _ => 0)))] H := hP
  have hD : va_D A [(h0, .inr (4, [.ref h1, .ref h2, .ref h3, .int 0])), (h1, .inl (κ 0, 12, .inl (upd (fun _ => 0) 0 5))), (h2, .inl (κ 0, 12, .inl (fun _ => 0)))] := hD
  refine lv_aload_n hx hb dX2_append_19 rfl (lv_at hl 0 rfl) ?_
  refine va_get (D := D) (ci := 4) (v := .ref h2) (C := RX2) (T := TX2) (N := 4) hx hb hts wi_X2_append_RX2 hown hK hP 0 rfl rfl 1 (by decide) (hts _ wd366_X2_append) (fun _ h9 => h9) rfl dX2_append_20 ?_
  refine lv_aload_n hx hb dX2_append_23 rfl (lv_at hl 0 rfl) ?_
  refine va_get (D := D) (ci := 4) (v := .int 0) (C := RX2) (T := TX2) (N := 4) hx hb hts wi_X2_append_RX2 hown hK hP 0 rfl rfl 3 (by decide) (hts _ wd364_X2_append) (fun _ h9 => h9) rfl dX2_append_24 ?_
  refine lv_iload_n hx hb dX2_append_27 rfl (lv_at hl 2 rfl) ?_
  refine va_iast (cA := κ 0) (n := 12) (f := (fun _ => 0)) hx hb hK hP hD hS 2 0 rfl rfl (vpl (by decide)) dX2_append_28 (fun H locs hP hD hS => ?_)
  have hP : va_P D vwCl [(h0, .inr (4, [.ref h1, .ref h2, .ref h3, .int 0])), (h1, .inl (κ 0, 12, .inl (upd (fun _ => 0) 0 5))), (h2, .inl (κ 0, 12, .inl (upd (fun _ => 0) 0 p0)))] H := hP
  have hD : va_D A [(h0, .inr (4, [.ref h1, .ref h2, .ref h3, .int 0])), (h1, .inl (κ 0, 12, .inl (upd (fun _ => 0) 0 5))), (h2, .inl (κ 0, 12, .inl (upd (fun _ => 0) 0 p0)))] := hD
  refine lv_aload_n hx hb dX2_append_29 rfl (lv_at hl 0 rfl) ?_
  refine lv_dup hx hb dX2_append_30 rfl ?_
  refine va_get (D := D) (ci := 4) (v := .int 0) (C := RX2) (T := TX2) (N := 4) hx hb hts wi_X2_append_RX2 hown hK hP 0 rfl rfl 3 (by decide) (hts _ wd364_X2_append) (fun _ h9 => h9) rfl dX2_append_31 ?_
  refine lv_iconst (v := 1) hx hb dX2_append_34 (by decide) ?_
  refine lv_iadd hx hb dX2_append_35 ?_
  refine tpi (v := 1) (by decide) ?_
  refine va_put (D := D) (ci := 4) (v := .int 1) (ty := .int) (C := RX2) (T := TX2) (N := 4) hx hb hts wi_X2_append_RX2 tyX2 tyX2_ok nmX2 hown hK hP hD hS 0 rfl rfl 3 (by decide) (hts _ wd364_X2_append) (fun _ h9 => h9) rfl (by decide +kernel) rfl rfl (Nat.le_of_ble_eq_true rfl) dX2_append_36 (fun H locs hP hD hS => ?_)
  have hP : va_P D vwCl [(h0, .inr (4, [.ref h1, .ref h2, .ref h3, .int 1])), (h1, .inl (κ 0, 12, .inl (upd (fun _ => 0) 0 5))), (h2, .inl (κ 0, 12, .inl (upd (fun _ => 0) 0 p0)))] H := hP
  have hD : va_D A [(h0, .inr (4, [.ref h1, .ref h2, .ref h3, .int 1])), (h1, .inl (κ 0, 12, .inl (upd (fun _ => 0) 0 5))), (h2, .inl (κ 0, 12, .inl (upd (fun _ => 0) 0 p0)))] := hD
  refine lv_aload_n hx hb dX2_append_39 rfl (lv_at hl 0 rfl) ?_
  refine va_get (D := D) (ci := 4) (v := .int 1) (C := RX2) (T := TX2) (N := 4) hx hb hts wi_X2_append_RX2 hown hK hP 0 rfl rfl 3 (by decide) (hts _ wd364_X2_append) (fun _ h9 => h9) rfl dX2_append_40 ?_
  refine lv_iconst (v := 1) hx hb dX2_append_43 (by decide) ?_
  refine lv_isub hx hb dX2_append_44 ?_
  refine tpi (v := 0) (by decide) ?_
  have hP9 := hP
  have hD9 := hD
  exact W.iret (v := 0) hx hb hr (fun t ht hW => ⟨⟨0, (), rfl, rfl, by rw [ht]; exact hP9, hD9⟩, hS.F ht⟩) hS.2.2 dX2_append_45

set_option maxHeartbeats 4000000 in
set_option maxRecDepth 100000 in
theorem k_X5_addStep_5 (l : Launch) (hst : l.stackTraces = false) (D : va_G) (κ ε : Nat → Nat) (h0 h1 h2 h3 h4 h5 h6 h7 h8 h9 : Nat) (sz : Nat) (p0 : Int32) : vx_Met l yX5_addStep wsX5_addStep ({ frames := 6, cells := 1, slots := 6, locals := 120 }) (va_Pc [.ref h0, .int 5, .int p0] (Pre2 D κ ε [(h0, .inr (7, [.ref h1, .ref h2, .ref h3, .ref h4, .ref h5, .ref h6, .int 0, .int 0, .int 0, .int 0])), (h4, .inr (4, [.ref h7, .ref h8, .ref h9, .int 0])), (h7, .inl (κ 0, 12, .inl (fun _ => 0))), (h8, .inl (κ 0, 12, .inl (fun _ => 0)))] sz)) (va_Qi (fun r (u : Unit) => (¬ p0 < 1) ∧ (¬ 12 < p0) ∧ (r = 0)) (fun _ _ => True) (va_A [(h0, .inr (7, [.ref h1, .ref h2, .ref h3, .ref h4, .ref h5, .ref h6, .int 0, .int 0, .int 0, .int 0])), (h4, .inr (4, [.ref h7, .ref h8, .ref h9, .int 0])), (h7, .inl (κ 0, 12, .inl (fun _ => 0))), (h8, .inl (κ 0, 12, .inl (fun _ => 0)))] sz)) (vx_X (fun _ : Unit => True) (fun E _ _ => ((p0 < 1) ∧ E = "java/lang/IllegalArgumentException") ∨ ((¬ p0 < 1) ∧ (12 < p0) ∧ E = "java/lang/IllegalArgumentException")) (va_A [(h0, .inr (7, [.ref h1, .ref h2, .ref h3, .ref h4, .ref h5, .ref h6, .int 0, .int 0, .int 0, .int 0])), (h4, .inr (4, [.ref h7, .ref h8, .ref h9, .int 0])), (h7, .inl (κ 0, 12, .inl (fun _ => 0))), (h8, .inl (κ 0, 12, .inl (fun _ => 0)))] sz)) 1 6 (va_A [(h0, .inr (7, [.ref h1, .ref h2, .ref h3, .ref h4, .ref h5, .ref h6, .int 0, .int 0, .int 0, .int 0])), (h4, .inr (4, [.ref h7, .ref h8, .ref h9, .int 0])), (h7, .inl (κ 0, 12, .inl (fun _ => 0))), (h8, .inl (κ 0, 12, .inl (fun _ => 0)))] sz) := by
  refine vx_ofW (cc := cX5_addStep) (maxL := 3) (ret := (some .int)) (by decide) rfl ?_
  intro p e s m args below meth c s₁ B hml hnx hv
  obtain ⟨rfl, hsz, hP, hK, hD0, hE9⟩ := hv
  have hx := B.exec
  have hb := B.bytes
  have hr := B.returns
  have hts := atoms_spec (ws := wsX5_addStep) B.pre
  have hown : s.vm.findClass RX5 = some m.cls := findClass_of_methodNamed B.named
  have hlocks := B.notSynchronized
  subst hsz
  have hD := hD0.self (sz := s.heap.size)
  generalize hAe : va_A [(h0, .inr (7, [.ref h1, .ref h2, .ref h3, .ref h4, .ref h5, .ref h6, .int 0, .int 0, .int 0, .int 0])), (h4, .inr (4, [.ref h7, .ref h8, .ref h9, .int 0])), (h7, .inl (κ 0, 12, .inl (fun _ => 0))), (h8, .inl (κ 0, 12, .inl (fun _ => 0)))] s.heap.size = A at hD hE9 ⊢
  have hE := hE9.1
  have hDc := hE9.2
  have hA : ∀ q : Nat, s.heap.size ≤ q → A q := fun q h => by rw [← hAe]; exact Or.inr h
  have hS : va_S A s.heap s.heap [] := va_S.rf
  have hP : va_P D vwCl [(h0, .inr (7, [.ref h1, .ref h2, .ref h3, .ref h4, .ref h5, .ref h6, .int 0, .int 0, .int 0, .int 0])), (h4, .inr (4, [.ref h7, .ref h8, .ref h9, .int 0])), (h7, .inl (κ 0, 12, .inl (fun _ => 0))), (h8, .inl (κ 0, 12, .inl (fun _ => 0)))] s.heap := hP
  have hl := lv_entry [.ref h0, .int 5, .int p0] (n := 3) (Nat.le_of_ble_eq_true rfl)
  rw [lg_entry_eq]
  generalize (lg_sl [.ref h0, .int 5, .int p0] ++ List.replicate (3 - (lg_sl [.ref h0, .int 5, .int p0]).length) Slot.unset).toArray = ls at hl ⊢
  have hl : lv_has ls 3 [(0, .ref h0), (1, .int 5), (2, .int p0)] := hl
  refine lv_aload_n hx hb dX5_addStep_0 rfl (lv_at hl 0 rfl) ?_
  refine lv_iload_n hx hb dX5_addStep_1 rfl (lv_at hl 1 rfl) ?_
  refine lv_iload_n hx hb dX5_addStep_2 rfl (lv_at hl 2 rfl) ?_
  refine vp_callSi (W.runV (As := [.int 5, .int p0]) (rest := []) ⟨hx, hb, hml, hown, hts⟩ (k_X5_isStep_5 l D κ ε h0 (p0)) (cwV 2 hts gX5_addStep_X5_isStep rfl rfl rfl (by decide +kernel) ⟨(Nat.le_of_ble_eq_true rfl), (Nat.le_of_ble_eq_true rfl)⟩) (pre0_V (q0 := 0) (ci := 7) (wc := []) hP hK [] rfl rfl rfl) rfl rfl hl.1 rfl (lv_room (Nat.le_of_ble_eq_true rfl)) dX5_addStep_3 ⟨(Nat.le_of_ble_eq_true rfl), (Nat.le_of_ble_eq_true rfl)⟩) (fun r hw => ?_)
  rcases hw with ⟨c1, rfl⟩ | ⟨c2, c3, rfl⟩ | ⟨c4, c5, rfl⟩
  · skip
    refine lv_if_ne (tgt := 19) hx hb dX5_addStep_6 (by decide) (fun h => absurd (by decide) h) (fun _ => ?_)
    exact vx_throwS (names := ["java/lang/RuntimeException", "java/lang/Exception"]) (sa := ε 30) hx hb hst hown (by decide +kernel) (by decide +kernel) (hts _ wd384_X5_addStep) (hts _ wd385_X5_addStep) (hE.2.2.2.2.2.2.1 _ (List.mem_of_getElem? (i := 20) rfl)) (vx_hat (B := [.castable "java/lang/IllegalArgumentException" "java/lang/IllegalArgumentException", .declares (Bundle.initS "java/lang/RuntimeException"), .declares (Bundle.initS "java/lang/Exception"), .declares (Bundle.initS "java/lang/Throwable")]) (fun w hw => hts w (at1_X5_addStep_82 w hw)) at2_RX5_82 (vx_c (va_Nw.use rfl hE.2.2.2.2.2.2.2.2.2.2.2.2.2.2.1) (vx_c (va_Nw.use rfl hDc.1) (vx_c (va_Nw.use rfl hDc.2.1) (vx_c (va_Nw.use rfl hDc.2.2) vx_n))))) at2_RX5_82g hE.1 hE.2.1 hS (by rw [hml]; exact hl.1) dX5_addStep_9 dX5_addStep_12 dX5_addStep_13 dX5_addStep_15 dX5_addStep_18 (fun x hx => (hnx x hx).elim) (by decide) (by decide) (Nat.le_of_ble_eq_true rfl) (Nat.le_of_ble_eq_true rfl) hlocks (fun t _ h1 h2 => ⟨(), trivial, (Or.inl ⟨c1, rfl⟩), thF (H0 := s.heap) hS h1 h2⟩) hS.2.2 (Nat.le_of_ble_eq_true rfl) (Nat.le_of_ble_eq_true rfl)
  · skip
    refine lv_if_ne (tgt := 19) hx hb dX5_addStep_6 (by decide) (fun h => absurd (by decide) h) (fun _ => ?_)
    exact vx_throwS (names := ["java/lang/RuntimeException", "java/lang/Exception"]) (sa := ε 30) hx hb hst hown (by decide +kernel) (by decide +kernel) (hts _ wd384_X5_addStep) (hts _ wd385_X5_addStep) (hE.2.2.2.2.2.2.1 _ (List.mem_of_getElem? (i := 20) rfl)) (vx_hat (B := [.castable "java/lang/IllegalArgumentException" "java/lang/IllegalArgumentException", .declares (Bundle.initS "java/lang/RuntimeException"), .declares (Bundle.initS "java/lang/Exception"), .declares (Bundle.initS "java/lang/Throwable")]) (fun w hw => hts w (at1_X5_addStep_82 w hw)) at2_RX5_82 (vx_c (va_Nw.use rfl hE.2.2.2.2.2.2.2.2.2.2.2.2.2.2.1) (vx_c (va_Nw.use rfl hDc.1) (vx_c (va_Nw.use rfl hDc.2.1) (vx_c (va_Nw.use rfl hDc.2.2) vx_n))))) at2_RX5_82g hE.1 hE.2.1 hS (by rw [hml]; exact hl.1) dX5_addStep_9 dX5_addStep_12 dX5_addStep_13 dX5_addStep_15 dX5_addStep_18 (fun x hx => (hnx x hx).elim) (by decide) (by decide) (Nat.le_of_ble_eq_true rfl) (Nat.le_of_ble_eq_true rfl) hlocks (fun t _ h1 h2 => ⟨(), trivial, (Or.inr ⟨c2, c3, rfl⟩), thF (H0 := s.heap) hS h1 h2⟩) hS.2.2 (Nat.le_of_ble_eq_true rfl) (Nat.le_of_ble_eq_true rfl)
  · skip
    refine lv_if_ne (tgt := 19) hx hb dX5_addStep_6 (by decide) (fun _ => ?_) (fun h => absurd h (by decide))
    refine lv_aload_n hx hb dX5_addStep_19 rfl (lv_at hl 0 rfl) ?_
    refine va_get (D := D) (ci := 7) (v := .ref h4) (C := RX5) (T := TX5) (N := 10) hx hb hts wi_X5_addStep_RX5 hown hK hP 0 rfl rfl 3 (by decide) (hts _ wd367_X5_addStep) (fun _ h9 => h9) rfl dX5_addStep_20 ?_
    refine va_get (D := D) (ci := 4) (v := .int 0) (C := RX2) (T := TX2) (N := 4) hx hb hts wi_X5_addStep_RX2 hown hK hP 1 rfl rfl 3 (by decide) (hts _ wd368_X5_addStep) (fun _ h9 => h9) rfl dX5_addStep_23 ?_
    refine lv_bipush (v := 12) hx hb dX5_addStep_26 (by decide) ?_
    refine lv_icmp_lt (tgt := 41) hx hb dX5_addStep_28 (by decide) (fun _ => ?_) (fun h => absurd (by decide) h)
    refine lv_aload_n hx hb dX5_addStep_41 rfl (lv_at hl 0 rfl) ?_
    refine va_get (D := D) (ci := 7) (v := .ref h4) (C := RX5) (T := TX5) (N := 10) hx hb hts wi_X5_addStep_RX5 hown hK hP 0 rfl rfl 3 (by decide) (hts _ wd367_X5_addStep) (fun _ h9 => h9) rfl dX5_addStep_42 ?_
    refine lv_iload_n hx hb dX5_addStep_45 rfl (lv_at hl 1 rfl) ?_
    refine lv_iload_n hx hb dX5_addStep_46 rfl (lv_at hl 2 rfl) ?_
    have hF := va_free (wc := [(h4, .inr (4, [.ref h7, .ref h8, .ref h9, .int 0])), (h7, .inl (κ 0, 12, .inl (fun _ => 0))), (h8, .inl (κ 0, 12, .inl (fun _ => 0)))]) hD hS hA [1, 2, 3] rfl
    refine va_calli (va_runV (As := [.int 5, .int p0]) (rest := []) ⟨hx, hb, hml, hown, hts⟩ (k_X2_append_4 l D κ ε h4 h7 h8 h9 s.heap.size (p0)) (cwV 2 hts gX5_addStep_X2_append rfl rfl rfl (by decide +kernel) ⟨(Nat.le_of_ble_eq_true rfl), (Nat.le_of_ble_eq_true rfl)⟩) (pre2_V (q0 := 1) (ci := 4) (wc := [(h4, .inr (4, [.ref h7, .ref h8, .ref h9, .int 0])), (h7, .inl (κ 0, 12, .inl (fun _ => 0))), (h8, .inl (κ 0, 12, .inl (fun _ => 0)))]) hP hD hK hE9 hS hA [1, 2, 3] (by decide) rfl rfl rfl) rfl rfl hl.1 rfl (lv_room (Nat.le_of_ble_eq_true rfl)) dX5_addStep_47 ⟨(Nat.le_of_ble_eq_true rfl), (Nat.le_of_ble_eq_true rfl)⟩) hS (fun q _ h => hF q h) hF (fun r u6 t H locs ht hvm hw hB hz1 hk1 hS => ?_)
    try dsimp only at hw hB
    obtain ⟨hP1, hD1⟩ := hB
    rw [ht] at hP1
    obtain ⟨hP, hD⟩ := post_j (ws' := [(h0, .inr (7, [.ref h1, .ref h2, .ref h3, .ref h4, .ref h5, .ref h6, .int 0, .int 0, .int 0, .int 0])), (h4, .inr (4, [.ref h7, .ref h8, .ref h9, .int 1])), (h7, .inl (κ 0, 12, .inl (upd (fun _ => 0) 0 5))), (h8, .inl (κ 0, 12, .inl (upd (fun _ => 0) 0 p0)))]) (wr := [(h0, .inr (7, [.ref h1, .ref h2, .ref h3, .ref h4, .ref h5, .ref h6, .int 0, .int 0, .int 0, .int 0]))]) (w1 := [(h4, .inr (4, [.ref h7, .ref h8, .ref h9, .int 1])), (h7, .inl (κ 0, 12, .inl (upd (fun _ => 0) 0 5))), (h8, .inl (κ 0, 12, .inl (upd (fun _ => 0) 0 p0)))]) hP hD hF [1, 2, 3] rfl [0] rfl (by decide) (by decide) hk1 hP1 hD1 [0, 1, 2, 3] (by decide) rfl
    have hP : va_P D vwCl [(h0, .inr (7, [.ref h1, .ref h2, .ref h3, .ref h4, .ref h5, .ref h6, .int 0, .int 0, .int 0, .int 0])), (h4, .inr (4, [.ref h7, .ref h8, .ref h9, .int 1])), (h7, .inl (κ 0, 12, .inl (upd (fun _ => 0) 0 5))), (h8, .inl (κ 0, 12, .inl (upd (fun _ => 0) 0 p0)))] H := hP
    have hD : va_D A [(h0, .inr (7, [.ref h1, .ref h2, .ref h3, .ref h4, .ref h5, .ref h6, .int 0, .int 0, .int 0, .int 0])), (h4, .inr (4, [.ref h7, .ref h8, .ref h9, .int 1])), (h7, .inl (κ 0, 12, .inl (upd (fun _ => 0) 0 5))), (h8, .inl (κ 0, 12, .inl (upd (fun _ => 0) 0 p0)))] := hD
    rw [hw]
    refine W.widen (k := 1) (n := 6) (Nat.le_of_ble_eq_true rfl) (Nat.le_of_ble_eq_true rfl) ?_
    refine vx_ret ?_
    exact W.iret (v := 0) hx hb hr (fun t ht hW => ⟨⟨0, (), rfl, ⟨c4, c5, rfl⟩, trivial⟩, hS.F ht⟩) hS.2.2 dX5_addStep_50

set_option maxHeartbeats 4000000 in
set_option maxRecDepth 100000 in
theorem k_L_addStep_5 (l : Launch) (hst : l.stackTraces = false) (D : va_G) (κ ε : Nat → Nat) (h0 h1 h2 h3 h4 h5 h6 h7 h8 h9 h10 : Nat) (sz : Nat) (p0 : Int32) : Met l yL_addStep wsL_addStepx ({ frames := 7, cells := 1, slots := 6, locals := 142 }) (va_Pc [.ref h0, .int 5, .int p0, .ref h1] (Pre2 D κ ε [(h0, .inr (7, [.ref h2, .ref h3, .ref h4, .ref h5, .ref h6, .ref h7, .int 0, .int 0, .int 0, .int 0])), (h1, .inl (κ 2, 1, .inr (.inl (fun _ => 0)))), (h5, .inr (4, [.ref h8, .ref h9, .ref h10, .int 0])), (h8, .inl (κ 0, 12, .inl (fun _ => 0))), (h9, .inl (κ 0, 12, .inl (fun _ => 0)))] sz)) (va_Qi (fun r (u : Nat → Int64) => ((p0 < 1) ∧ (r = 1)) ∨ ((¬ p0 < 1) ∧ (12 < p0) ∧ (r = 1)) ∨ ((¬ p0 < 1) ∧ (¬ 12 < p0) ∧ (u 0 = 0) ∧ (r = 0))) (fun u t => va_P D vwCl [(h1, .inl (κ 2, 1, .inr (.inl u)))] t.heap ∧ va_D (va_A [(h0, .inr (7, [.ref h2, .ref h3, .ref h4, .ref h5, .ref h6, .ref h7, .int 0, .int 0, .int 0, .int 0])), (h1, .inl (κ 2, 1, .inr (.inl (fun _ => 0)))), (h5, .inr (4, [.ref h8, .ref h9, .ref h10, .int 0])), (h8, .inl (κ 0, 12, .inl (fun _ => 0))), (h9, .inl (κ 0, 12, .inl (fun _ => 0)))] sz) [(h1, .inl (κ 2, 1, .inr (.inl u)))]) (va_A [(h0, .inr (7, [.ref h2, .ref h3, .ref h4, .ref h5, .ref h6, .ref h7, .int 0, .int 0, .int 0, .int 0])), (h1, .inl (κ 2, 1, .inr (.inl (fun _ => 0)))), (h5, .inr (4, [.ref h8, .ref h9, .ref h10, .int 0])), (h8, .inl (κ 0, 12, .inl (fun _ => 0))), (h9, .inl (κ 0, 12, .inl (fun _ => 0)))] sz)) 1 6 (va_A [(h0, .inr (7, [.ref h2, .ref h3, .ref h4, .ref h5, .ref h6, .ref h7, .int 0, .int 0, .int 0, .int 0])), (h1, .inl (κ 2, 1, .inr (.inl (fun _ => 0)))), (h5, .inr (4, [.ref h8, .ref h9, .ref h10, .int 0])), (h8, .inl (κ 0, 12, .inl (fun _ => 0))), (h9, .inl (κ 0, 12, .inl (fun _ => 0)))] sz) := by
  refine va_MetW (cc := cL_addStep) (maxL := 5) (ret := (some .int)) (hh := [(0, 10, 13, 19), (0, 10, 17, 13)]) (by decide) rfl ?_
  intro p e s m args below meth c s₁ B hml hv
  obtain ⟨rfl, hsz, hP, hK, hD0, hE9⟩ := hv
  have hx := B.exec
  have hb := B.bytes
  have hr := B.returns
  have hts := atoms_spec (ws := wsL_addStepx) B.pre
  have hown : s.vm.findClass RL = some m.cls := findClass_of_methodNamed B.named
  have hlocks := B.notSynchronized
  have htab : c.exceptionTable.toList = tableOf [(0, 10, 13, 19), (0, 10, 17, 13)] := vx_table (x := yL_addStep) B (hts (.codeWith yL_addStep cL_addStep 5 (some .int) [(0, 10, 13, 19), (0, 10, 17, 13)]) List.mem_cons_self)
  subst hsz
  have hD := hD0.self (sz := s.heap.size)
  generalize hAe : va_A [(h0, .inr (7, [.ref h2, .ref h3, .ref h4, .ref h5, .ref h6, .ref h7, .int 0, .int 0, .int 0, .int 0])), (h1, .inl (κ 2, 1, .inr (.inl (fun _ => 0)))), (h5, .inr (4, [.ref h8, .ref h9, .ref h10, .int 0])), (h8, .inl (κ 0, 12, .inl (fun _ => 0))), (h9, .inl (κ 0, 12, .inl (fun _ => 0)))] s.heap.size = A at hD hE9 ⊢
  have hE := hE9.1
  have hDc := hE9.2
  have hA : ∀ q : Nat, s.heap.size ≤ q → A q := fun q h => by rw [← hAe]; exact Or.inr h
  have hS : va_S A s.heap s.heap [] := va_S.rf
  have hP : va_P D vwCl [(h0, .inr (7, [.ref h2, .ref h3, .ref h4, .ref h5, .ref h6, .ref h7, .int 0, .int 0, .int 0, .int 0])), (h1, .inl (κ 2, 1, .inr (.inl (fun _ => 0)))), (h5, .inr (4, [.ref h8, .ref h9, .ref h10, .int 0])), (h8, .inl (κ 0, 12, .inl (fun _ => 0))), (h9, .inl (κ 0, 12, .inl (fun _ => 0)))] s.heap := hP
  have hl := lv_entry [.ref h0, .int 5, .int p0, .ref h1] (n := 5) (Nat.le_of_ble_eq_true rfl)
  rw [lg_entry_eq]
  generalize (lg_sl [.ref h0, .int 5, .int p0, .ref h1] ++ List.replicate (5 - (lg_sl [.ref h0, .int 5, .int p0, .ref h1]).length) Slot.unset).toArray = ls at hl ⊢
  have hl : lv_has ls 5 [(0, .ref h0), (1, .int 5), (2, .int p0), (3, .ref h1)] := hl
  refine lv_aload_n hx hb dL_addStep_0 rfl (lv_at hl 3 rfl) ?_
  refine lv_iconst (v := 0) hx hb dL_addStep_1 (by decide) ?_
  refine lv_aload_n hx hb dL_addStep_2 rfl (lv_at hl 0 rfl) ?_
  refine lv_iload_n hx hb dL_addStep_3 rfl (lv_at hl 1 rfl) ?_
  refine lv_iload_n hx hb dL_addStep_4 rfl (lv_at hl 2 rfl) ?_
  have hF := va_free (wc := [(h0, .inr (7, [.ref h2, .ref h3, .ref h4, .ref h5, .ref h6, .ref h7, .int 0, .int 0, .int 0, .int 0])), (h5, .inr (4, [.ref h8, .ref h9, .ref h10, .int 0])), (h8, .inl (κ 0, 12, .inl (fun _ => 0))), (h9, .inl (κ 0, 12, .inl (fun _ => 0)))]) hD hS hA [0, 2, 3, 4] rfl
  refine vx_calli (vx_runV (As := [.int 5, .int p0]) (rest := [.int 0, .ref h1]) ⟨hx, hb, hml, hown, hts⟩ (k_X5_addStep_5 l hst D κ ε h0 h2 h3 h4 h5 h6 h7 h8 h9 h10 s.heap.size (p0)) (cwV 2 hts gL_addStep_X5_addStep_x rfl rfl rfl (by decide +kernel) ⟨(Nat.le_of_ble_eq_true rfl), (Nat.le_of_ble_eq_true rfl)⟩) (pre2_V (q0 := 0) (ci := 7) (wc := [(h0, .inr (7, [.ref h2, .ref h3, .ref h4, .ref h5, .ref h6, .ref h7, .int 0, .int 0, .int 0, .int 0])), (h5, .inr (4, [.ref h8, .ref h9, .ref h10, .int 0])), (h8, .inl (κ 0, 12, .inl (fun _ => 0))), (h9, .inl (κ 0, 12, .inl (fun _ => 0)))]) hP hD hK hE9 hS hA [0, 2, 3, 4] (by decide) rfl rfl rfl) rfl rfl hl.1 rfl (lv_room (Nat.le_of_ble_eq_true rfl)) dL_addStep_5 ⟨(Nat.le_of_ble_eq_true rfl), (Nat.le_of_ble_eq_true rfl)⟩) hS (fun q _ h => hF q h) hF (fun q _ h => hF q h) (fun E9 ce q9 u t H locs ht hvm hw hB hz1 hk1 hS hce hcv hcl => ?_) (fun r u t H locs ht hvm hw hB hz1 hk1 hS => ?_)
  · try dsimp only at hB
    have hP1 : va_P D vwCl [] H := P_nil
    obtain ⟨hP, hD⟩ := post_j (ws' := [(h1, .inl (κ 2, 1, .inr (.inl (fun _ => 0))))]) (wr := [(h1, .inl (κ 2, 1, .inr (.inl (fun _ => 0))))]) (w1 := []) hP hD hF [0, 2, 3, 4] rfl [1] rfl (by decide) (by decide) hk1 hP1 D_nil [0] (by decide) rfl
    have hP : va_P D vwCl [(h1, .inl (κ 2, 1, .inr (.inl (fun _ => 0))))] H := hP
    have hD : va_D A [(h1, .inl (κ 2, 1, .inr (.inl (fun _ => 0))))] := hD
    rcases hB with ⟨c2, rfl⟩ | ⟨c3, c4, rfl⟩
    · skip
      refine vx_catch (name := "java/lang/IllegalArgumentException") hown [] ⟨0, 10, 13, 19⟩ [⟨0, 10, 17, 13⟩] (htab.trans rfl) (fun z hz => nomatch hz) (by decide) (by decide) (hts _ wd386_L_addStep) (va_Nw.use rfl hE.2.2.2.2.2.2.2.2.2.2.2.2.2.2.1) hce hcv hcl ?_
      refine lv_astore (lv' := [(4, .ref q9), (0, .ref h0), (1, .int 5), (2, .int p0), (3, .ref h1)]) hx hb dL_addStep_13 hl (by decide) rfl (fun ls hl => ?_)
      refine lv_iconst (v := 1) hx hb dL_addStep_15 (by decide) ?_
      have hP9 := hP.sub (ws' := [(h1, .inl (κ 2, 1, .inr (.inl (fun _ => 0))))]) [0] rfl
      have hD9 := hD.sub (ws' := [(h1, .inl (κ 2, 1, .inr (.inl (fun _ => 0))))]) [0] (by decide) rfl
      refine W.widen (k := 1) (n := 6) (Nat.le_of_ble_eq_true rfl) (Nat.le_of_ble_eq_true rfl) ?_
      exact W.iret (v := 1) hx hb hr (fun t ht hW => ⟨⟨1, (fun _ => 0), rfl, (Or.inl ⟨c2, rfl⟩), by rw [ht]; exact hP9, hD9⟩, hS.F ht⟩) hS.2.2 dL_addStep_16
    · skip
      refine vx_catch (name := "java/lang/IllegalArgumentException") hown [] ⟨0, 10, 13, 19⟩ [⟨0, 10, 17, 13⟩] (htab.trans rfl) (fun z hz => nomatch hz) (by decide) (by decide) (hts _ wd386_L_addStep) (va_Nw.use rfl hE.2.2.2.2.2.2.2.2.2.2.2.2.2.2.1) hce hcv hcl ?_
      refine lv_astore (lv' := [(4, .ref q9), (0, .ref h0), (1, .int 5), (2, .int p0), (3, .ref h1)]) hx hb dL_addStep_13 hl (by decide) rfl (fun ls hl => ?_)
      refine lv_iconst (v := 1) hx hb dL_addStep_15 (by decide) ?_
      have hP9 := hP.sub (ws' := [(h1, .inl (κ 2, 1, .inr (.inl (fun _ => 0))))]) [0] rfl
      have hD9 := hD.sub (ws' := [(h1, .inl (κ 2, 1, .inr (.inl (fun _ => 0))))]) [0] (by decide) rfl
      refine W.widen (k := 1) (n := 6) (Nat.le_of_ble_eq_true rfl) (Nat.le_of_ble_eq_true rfl) ?_
      exact W.iret (v := 1) hx hb hr (fun t ht hW => ⟨⟨1, (fun _ => 0), rfl, (Or.inr (Or.inl ⟨c3, c4, rfl⟩)), by rw [ht]; exact hP9, hD9⟩, hS.F ht⟩) hS.2.2 dL_addStep_16
  · try dsimp only at hw hB
    have hP1 : va_P D vwCl [] H := P_nil
    obtain ⟨hP, hD⟩ := post_j (ws' := [(h1, .inl (κ 2, 1, .inr (.inl (fun _ => 0))))]) (wr := [(h1, .inl (κ 2, 1, .inr (.inl (fun _ => 0))))]) (w1 := []) hP hD hF [0, 2, 3, 4] rfl [1] rfl (by decide) (by decide) hk1 hP1 D_nil [0] (by decide) rfl
    have hP : va_P D vwCl [(h1, .inl (κ 2, 1, .inr (.inl (fun _ => 0))))] H := hP
    have hD : va_D A [(h1, .inl (κ 2, 1, .inr (.inl (fun _ => 0))))] := hD
    obtain ⟨c5, c6, rfl⟩ := hw
    refine lv_i2l (v := 0) hx hb dL_addStep_8 (by decide) ?_
    refine va_last (cA := κ 2) (n := 1) (f := (fun _ => 0)) hx hb hK hP hD hS 0 2 rfl rfl (vpl (by decide)) dL_addStep_9 (fun H locs hP hD hS => ?_)
    have hP : va_P D vwCl [(h1, .inl (κ 2, 1, .inr (.inl (vp_updL (fun _ => 0) 0 0))))] H := hP
    have hD : va_D A [(h1, .inl (κ 2, 1, .inr (.inl (vp_updL (fun _ => 0) 0 0))))] := hD
    refine lv_goto (tgt := 21) hx hb dL_addStep_10 (by decide) ?_
    refine lv_iconst (v := 0) hx hb dL_addStep_21 (by decide) ?_
    have hP9 := hP.sub (ws' := [(h1, .inl (κ 2, 1, .inr (.inl (vp_updL (fun _ => 0) 0 0))))]) [0] rfl
    have hD9 := hD.sub (ws' := [(h1, .inl (κ 2, 1, .inr (.inl (vp_updL (fun _ => 0) 0 0))))]) [0] (by decide) rfl
    refine W.widen (k := 1) (n := 6) (Nat.le_of_ble_eq_true rfl) (Nat.le_of_ble_eq_true rfl) ?_
    exact W.iret (v := 0) hx hb hr (fun t ht hW => ⟨⟨0, (vp_updL (fun _ => 0) 0 0), rfl, (Or.inr (Or.inr ⟨c5, c6, rfl, rfl⟩)), by rw [ht]; exact hP9, hD9⟩, hS.F ht⟩) hS.2.2 dL_addStep_22

set_option maxHeartbeats 4000000 in
set_option maxRecDepth 100000 in
theorem k_X6_isIn_48 (l : Launch) (D : va_G) (κ ε : Nat → Nat) : Met l yX6_isIn wsX6_isIn ({ frames := 0, cells := 0, slots := 0, locals := 0 }) (va_Pc [.int 5, .int 0, .int 5] (Pre0 D κ [])) (vp_Si (fun r => (r = 1))) 0 0 (fun _ => False) := by
  refine Met.ofW (cc := cX6_isIn) (maxL := 3) (ret := (some .boolean)) (by decide) rfl ?_
  intro p e s m args below meth c s₁ B hml hv
  obtain ⟨rfl, hP, hK⟩ := hv
  have hx := B.exec
  have hb := B.bytes
  have hr := B.returns
  have hts := atoms_spec (ws := wsX6_isIn) B.pre
  have hown : s.vm.findClass RX6 = some m.cls := findClass_of_methodNamed B.named
  have hlocks := B.notSynchronized
  have hP : va_P D vwCl [] s.heap := hP
  have hl := lv_entry [.int 5, .int 0, .int 5] (n := 3) (Nat.le_of_ble_eq_true rfl)
  rw [lg_entry_eq]
  generalize (lg_sl [.int 5, .int 0, .int 5] ++ List.replicate (3 - (lg_sl [.int 5, .int 0, .int 5]).length) Slot.unset).toArray = ls at hl ⊢
  have hl : lv_has ls 3 [(0, .int 5), (1, .int 0), (2, .int 5)] := hl
  refine lv_iload_n hx hb dX6_isIn_0 rfl (lv_at hl 0 rfl) ?_
  refine lv_iload_n hx hb dX6_isIn_1 rfl (lv_at hl 1 rfl) ?_
  refine lv_icmp_lt (tgt := 14) hx hb dX6_isIn_2 (by decide) (fun h => absurd h (by decide)) (fun _ => ?_)
  refine lv_iload_n hx hb dX6_isIn_5 rfl (lv_at hl 0 rfl) ?_
  refine lv_iload_n hx hb dX6_isIn_6 rfl (lv_at hl 2 rfl) ?_
  refine lv_icmp_gt (tgt := 14) hx hb dX6_isIn_7 (by decide) (fun h => absurd h (by decide)) (fun _ => ?_)
  refine lv_iconst (v := 1) hx hb dX6_isIn_10 (by decide) ?_
  refine lv_goto (tgt := 15) hx hb dX6_isIn_11 (by decide) ?_
  exact W.zret (v := 1) hx hb hr rfl (fun t ht hW => ⟨1, rfl, rfl, ht⟩) (fun q hq => absurd hq List.not_mem_nil) dX6_isIn_15

set_option maxHeartbeats 4000000 in
set_option maxRecDepth 100000 in
theorem k_X6_addStep_10 (l : Launch) (D : va_G) (κ ε : Nat → Nat) (h0 h1 h2 h3 : Nat) (sz : Nat) (p0 : Int32) (hf0 : p0 < 1) : Met l yX6_addStep wsX6_addStep ({ frames := 2, cells := 0, slots := 0, locals := 44 }) (va_Pc [.ref h0, .int 5, .int p0] (Pre2 D κ ε [(h0, .inr (8, [.int 0, .int 0, .int 2, .ref h1, .ref h2, .int 0, .int 500, .int 0, .int 0, .int 0, .ref h3]))] sz)) (va_Qi (fun r (u : List Value) => (u[0]? = some (.int 1)) ∧ (r = 0)) (fun u t => va_P D vwCl [(h0, .inr (8, u))] t.heap ∧ va_D (va_A [(h0, .inr (8, [.int 0, .int 0, .int 2, .ref h1, .ref h2, .int 0, .int 500, .int 0, .int 0, .int 0, .ref h3]))] sz) [(h0, .inr (8, u))]) (va_A [(h0, .inr (8, [.int 0, .int 0, .int 2, .ref h1, .ref h2, .int 0, .int 500, .int 0, .int 0, .int 0, .ref h3]))] sz)) 0 0 (va_A [(h0, .inr (8, [.int 0, .int 0, .int 2, .ref h1, .ref h2, .int 0, .int 500, .int 0, .int 0, .int 0, .ref h3]))] sz) := by
  refine Met.ofW (cc := cX6_addStep) (maxL := 3) (ret := (some .int)) (by decide) rfl ?_
  intro p e s m args below meth c s₁ B hml hv
  obtain ⟨rfl, hsz, hP, hK, hD0, hE9⟩ := hv
  have hx := B.exec
  have hb := B.bytes
  have hr := B.returns
  have hts := atoms_spec (ws := wsX6_addStep) B.pre
  have hown : s.vm.findClass RX6 = some m.cls := findClass_of_methodNamed B.named
  have hlocks := B.notSynchronized
  subst hsz
  have hD := hD0.self (sz := s.heap.size)
  generalize hAe : va_A [(h0, .inr (8, [.int 0, .int 0, .int 2, .ref h1, .ref h2, .int 0, .int 500, .int 0, .int 0, .int 0, .ref h3]))] s.heap.size = A at hD hE9 ⊢
  have hE := hE9.1
  have hDc := hE9.2
  have hA : ∀ q : Nat, s.heap.size ≤ q → A q := fun q h => by rw [← hAe]; exact Or.inr h
  have hS : va_S A s.heap s.heap [] := va_S.rf
  have hP : va_P D vwCl [(h0, .inr (8, [.int 0, .int 0, .int 2, .ref h1, .ref h2, .int 0, .int 500, .int 0, .int 0, .int 0, .ref h3]))] s.heap := hP
  have hl := lv_entry [.ref h0, .int 5, .int p0] (n := 3) (Nat.le_of_ble_eq_true rfl)
  rw [lg_entry_eq]
  generalize (lg_sl [.ref h0, .int 5, .int p0] ++ List.replicate (3 - (lg_sl [.ref h0, .int 5, .int p0]).length) Slot.unset).toArray = ls at hl ⊢
  have hl : lv_has ls 3 [(0, .ref h0), (1, .int 5), (2, .int p0)] := hl
  refine lv_aload_n hx hb dX6_addStep_0 rfl (lv_at hl 0 rfl) ?_
  refine lv_iload_n hx hb dX6_addStep_1 rfl (lv_at hl 1 rfl) ?_
  refine lv_iconst (v := 0) hx hb dX6_addStep_2 (by decide) ?_
  refine lv_iconst (v := 5) hx hb dX6_addStep_3 (by decide) ?_
  refine vp_callSi (W.runS (As := [.int 5, .int 0, .int 5]) (rest := [.ref h0]) ⟨hx, hb, hml, hown, hts⟩ (k_X6_isIn_48 l D κ ε) (va_cwS 3 hts gX6_addStep_X6_isIn rfl rfl rfl (by decide +kernel) ⟨(Nat.le_of_ble_eq_true rfl), (Nat.le_of_ble_eq_true rfl)⟩) (pre0_S (wc := []) hP hK [] rfl) rfl rfl hl.1 rfl (lv_room (Nat.le_of_ble_eq_true rfl)) dX6_addStep_4 ⟨(Nat.le_of_ble_eq_true rfl), (Nat.le_of_ble_eq_true rfl)⟩) (fun r hw => ?_)
  rw [hw]
  refine lv_if_eq (tgt := 66) hx hb dX6_addStep_7 (by decide) (fun h => absurd h (by decide)) (fun _ => ?_)
  refine lv_iload_n hx hb dX6_addStep_10 rfl (lv_at hl 1 rfl) ?_
  refine lv_iconst (v := 2) hx hb dX6_addStep_11 (by decide) ?_
  refine lv_icmp_ne (tgt := 29) hx hb dX6_addStep_12 (by decide) (fun _ => ?_) (fun h => absurd h (by decide))
  refine lv_iload_n hx hb dX6_addStep_29 rfl (lv_at hl 1 rfl) ?_
  refine lv_iconst (v := 4) hx hb dX6_addStep_30 (by decide) ?_
  refine lv_icmp_ne (tgt := 46) hx hb dX6_addStep_31 (by decide) (fun _ => ?_) (fun h => absurd h (by decide))
  refine lv_iload_n hx hb dX6_addStep_46 rfl (lv_at hl 1 rfl) ?_
  refine lv_iconst (v := 3) hx hb dX6_addStep_47 (by decide) ?_
  refine lv_icmp_eq (tgt := 56) hx hb dX6_addStep_48 (by decide) (fun h => absurd h (by decide)) (fun _ => ?_)
  refine lv_iload_n hx hb dX6_addStep_51 rfl (lv_at hl 1 rfl) ?_
  refine lv_iconst (v := 5) hx hb dX6_addStep_52 (by decide) ?_
  refine lv_icmp_ne (tgt := 70) hx hb dX6_addStep_53 (by decide) (fun h => absurd (by decide) h) (fun _ => ?_)
  refine lv_iload_n hx hb dX6_addStep_56 rfl (lv_at hl 2 rfl) ?_
  refine lv_iconst (v := 1) hx hb dX6_addStep_57 (by decide) ?_
  refine lv_bipush (v := 12) hx hb dX6_addStep_58 (by decide) ?_
  refine vp_callSi (W.runS (As := [.int p0, .int 1, .int 12]) (rest := [.ref h0]) ⟨hx, hb, hml, hown, hts⟩ (k_X6_isIn_43 l D κ ε (p0) hf0) (va_cwS 3 hts gX6_addStep_X6_isIn rfl rfl rfl (by decide +kernel) ⟨(Nat.le_of_ble_eq_true rfl), (Nat.le_of_ble_eq_true rfl)⟩) (pre0_S (wc := []) hP hK [] rfl) rfl rfl hl.1 rfl (lv_room (Nat.le_of_ble_eq_true rfl)) dX6_addStep_60 ⟨(Nat.le_of_ble_eq_true rfl), (Nat.le_of_ble_eq_true rfl)⟩) (fun r hw => ?_)
  rw [hw]
  refine lv_if_ne (tgt := 70) hx hb dX6_addStep_63 (by decide) (fun h => absurd (by decide) h) (fun _ => ?_)
  refine lv_iconst (v := 1) hx hb dX6_addStep_66 (by decide) ?_
  refine lv_goto (tgt := 71) hx hb dX6_addStep_67 (by decide) ?_
  refine lv_iconst (v := 1) hx hb dX6_addStep_71 (by decide) ?_
  have hF := va_free (wc := [(h0, .inr (8, [.int 0, .int 0, .int 2, .ref h1, .ref h2, .int 0, .int 500, .int 0, .int 0, .int 0, .ref h3]))]) hD hS hA [0] rfl
  refine va_calli (va_runV (As := [.int 1, .int 1]) (rest := []) ⟨hx, hb, hml, hown, hts⟩ (k_X6_start_1 l D κ ε h0 h1 h2 h3 s.heap.size (0) (2) (0) (500) (0) (0)) (cwV 2 hts gX6_addStep_X6_start rfl rfl rfl (by decide +kernel) ⟨(Nat.le_of_ble_eq_true rfl), (Nat.le_of_ble_eq_true rfl)⟩) (pre2_V (q0 := 0) (ci := 8) (wc := [(h0, .inr (8, [.int 0, .int 0, .int 2, .ref h1, .ref h2, .int 0, .int 500, .int 0, .int 0, .int 0, .ref h3]))]) hP hD hK hE9 hS hA [0] (by decide) rfl rfl rfl) rfl rfl hl.1 rfl (lv_room (Nat.le_of_ble_eq_true rfl)) dX6_addStep_72 ⟨(Nat.le_of_ble_eq_true rfl), (Nat.le_of_ble_eq_true rfl)⟩) hS (fun q _ h => hF q h) hF (fun r u1 t H locs ht hvm hw hB hz1 hk1 hS => ?_)
  try dsimp only at hw hB
  obtain ⟨hP1, hD1⟩ := hB
  rw [ht] at hP1
  obtain ⟨hP, hD⟩ := post_j (ws' := [(h0, .inr (8, [.int 1, .int 0, .int 2, .ref h1, .ref h2, .int 0, .int 500, .int 0, .int 0, .int 0, .ref h3]))]) (wr := []) (w1 := [(h0, .inr (8, [.int 1, .int 0, .int 2, .ref h1, .ref h2, .int 0, .int 500, .int 0, .int 0, .int 0, .ref h3]))]) hP hD hF [0] rfl [] rfl (by decide) (by decide) hk1 hP1 hD1 [0] (by decide) rfl
  have hP : va_P D vwCl [(h0, .inr (8, [.int 1, .int 0, .int 2, .ref h1, .ref h2, .int 0, .int 500, .int 0, .int 0, .int 0, .ref h3]))] H := hP
  have hD : va_D A [(h0, .inr (8, [.int 1, .int 0, .int 2, .ref h1, .ref h2, .int 0, .int 500, .int 0, .int 0, .int 0, .ref h3]))] := hD
  rw [hw]
  refine lv_if_eq (tgt := 80) hx hb dX6_addStep_75 (by decide) (fun h => absurd h (by decide)) (fun _ => ?_)
  refine lv_iconst (v := 0) hx hb dX6_addStep_78 (by decide) ?_
  have hP9 := hP.sub (ws' := [(h0, .inr (8, [.int 1, .int 0, .int 2, .ref h1, .ref h2, .int 0, .int 500, .int 0, .int 0, .int 0, .ref h3]))]) [0] rfl
  have hD9 := hD.sub (ws' := [(h0, .inr (8, [.int 1, .int 0, .int 2, .ref h1, .ref h2, .int 0, .int 500, .int 0, .int 0, .int 0, .ref h3]))]) [0] (by decide) rfl
  exact W.iret (v := 0) hx hb hr (fun t ht hW => ⟨⟨0, [.int 1, .int 0, .int 2, .ref h1, .ref h2, .int 0, .int 500, .int 0, .int 0, .int 0, .ref h3], rfl, ⟨rfl, rfl⟩, by rw [ht]; exact hP9, hD9⟩, hS.F ht⟩) hS.2.2 dX6_addStep_79

set_option maxHeartbeats 4000000 in
set_option maxRecDepth 100000 in
theorem k_X6_addStep_11 (l : Launch) (D : va_G) (κ ε : Nat → Nat) (h0 h1 h2 h3 : Nat) (sz : Nat) (p0 : Int32) (hf0 : ¬ p0 < 1) (hf1 : 12 < p0) : Met l yX6_addStep wsX6_addStep ({ frames := 2, cells := 0, slots := 0, locals := 44 }) (va_Pc [.ref h0, .int 5, .int p0] (Pre2 D κ ε [(h0, .inr (8, [.int 0, .int 0, .int 2, .ref h1, .ref h2, .int 0, .int 500, .int 0, .int 0, .int 0, .ref h3]))] sz)) (va_Qi (fun r (u : List Value) => (u[0]? = some (.int 1)) ∧ (r = 0)) (fun u t => va_P D vwCl [(h0, .inr (8, u))] t.heap ∧ va_D (va_A [(h0, .inr (8, [.int 0, .int 0, .int 2, .ref h1, .ref h2, .int 0, .int 500, .int 0, .int 0, .int 0, .ref h3]))] sz) [(h0, .inr (8, u))]) (va_A [(h0, .inr (8, [.int 0, .int 0, .int 2, .ref h1, .ref h2, .int 0, .int 500, .int 0, .int 0, .int 0, .ref h3]))] sz)) 0 0 (va_A [(h0, .inr (8, [.int 0, .int 0, .int 2, .ref h1, .ref h2, .int 0, .int 500, .int 0, .int 0, .int 0, .ref h3]))] sz) := by
  refine Met.ofW (cc := cX6_addStep) (maxL := 3) (ret := (some .int)) (by decide) rfl ?_
  intro p e s m args below meth c s₁ B hml hv
  obtain ⟨rfl, hsz, hP, hK, hD0, hE9⟩ := hv
  have hx := B.exec
  have hb := B.bytes
  have hr := B.returns
  have hts := atoms_spec (ws := wsX6_addStep) B.pre
  have hown : s.vm.findClass RX6 = some m.cls := findClass_of_methodNamed B.named
  have hlocks := B.notSynchronized
  subst hsz
  have hD := hD0.self (sz := s.heap.size)
  generalize hAe : va_A [(h0, .inr (8, [.int 0, .int 0, .int 2, .ref h1, .ref h2, .int 0, .int 500, .int 0, .int 0, .int 0, .ref h3]))] s.heap.size = A at hD hE9 ⊢
  have hE := hE9.1
  have hDc := hE9.2
  have hA : ∀ q : Nat, s.heap.size ≤ q → A q := fun q h => by rw [← hAe]; exact Or.inr h
  have hS : va_S A s.heap s.heap [] := va_S.rf
  have hP : va_P D vwCl [(h0, .inr (8, [.int 0, .int 0, .int 2, .ref h1, .ref h2, .int 0, .int 500, .int 0, .int 0, .int 0, .ref h3]))] s.heap := hP
  have hl := lv_entry [.ref h0, .int 5, .int p0] (n := 3) (Nat.le_of_ble_eq_true rfl)
  rw [lg_entry_eq]
  generalize (lg_sl [.ref h0, .int 5, .int p0] ++ List.replicate (3 - (lg_sl [.ref h0, .int 5, .int p0]).length) Slot.unset).toArray = ls at hl ⊢
  have hl : lv_has ls 3 [(0, .ref h0), (1, .int 5), (2, .int p0)] := hl
  refine lv_aload_n hx hb dX6_addStep_0 rfl (lv_at hl 0 rfl) ?_
  refine lv_iload_n hx hb dX6_addStep_1 rfl (lv_at hl 1 rfl) ?_
  refine lv_iconst (v := 0) hx hb dX6_addStep_2 (by decide) ?_
  refine lv_iconst (v := 5) hx hb dX6_addStep_3 (by decide) ?_
  refine vp_callSi (W.runS (As := [.int 5, .int 0, .int 5]) (rest := [.ref h0]) ⟨hx, hb, hml, hown, hts⟩ (k_X6_isIn_48 l D κ ε) (va_cwS 3 hts gX6_addStep_X6_isIn rfl rfl rfl (by decide +kernel) ⟨(Nat.le_of_ble_eq_true rfl), (Nat.le_of_ble_eq_true rfl)⟩) (pre0_S (wc := []) hP hK [] rfl) rfl rfl hl.1 rfl (lv_room (Nat.le_of_ble_eq_true rfl)) dX6_addStep_4 ⟨(Nat.le_of_ble_eq_true rfl), (Nat.le_of_ble_eq_true rfl)⟩) (fun r hw => ?_)
  rw [hw]
  refine lv_if_eq (tgt := 66) hx hb dX6_addStep_7 (by decide) (fun h => absurd h (by decide)) (fun _ => ?_)
  refine lv_iload_n hx hb dX6_addStep_10 rfl (lv_at hl 1 rfl) ?_
  refine lv_iconst (v := 2) hx hb dX6_addStep_11 (by decide) ?_
  refine lv_icmp_ne (tgt := 29) hx hb dX6_addStep_12 (by decide) (fun _ => ?_) (fun h => absurd h (by decide))
  refine lv_iload_n hx hb dX6_addStep_29 rfl (lv_at hl 1 rfl) ?_
  refine lv_iconst (v := 4) hx hb dX6_addStep_30 (by decide) ?_
  refine lv_icmp_ne (tgt := 46) hx hb dX6_addStep_31 (by decide) (fun _ => ?_) (fun h => absurd h (by decide))
  refine lv_iload_n hx hb dX6_addStep_46 rfl (lv_at hl 1 rfl) ?_
  refine lv_iconst (v := 3) hx hb dX6_addStep_47 (by decide) ?_
  refine lv_icmp_eq (tgt := 56) hx hb dX6_addStep_48 (by decide) (fun h => absurd h (by decide)) (fun _ => ?_)
  refine lv_iload_n hx hb dX6_addStep_51 rfl (lv_at hl 1 rfl) ?_
  refine lv_iconst (v := 5) hx hb dX6_addStep_52 (by decide) ?_
  refine lv_icmp_ne (tgt := 70) hx hb dX6_addStep_53 (by decide) (fun h => absurd (by decide) h) (fun _ => ?_)
  refine lv_iload_n hx hb dX6_addStep_56 rfl (lv_at hl 2 rfl) ?_
  refine lv_iconst (v := 1) hx hb dX6_addStep_57 (by decide) ?_
  refine lv_bipush (v := 12) hx hb dX6_addStep_58 (by decide) ?_
  refine vp_callSi (W.runS (As := [.int p0, .int 1, .int 12]) (rest := [.ref h0]) ⟨hx, hb, hml, hown, hts⟩ (k_X6_isIn_44 l D κ ε (p0) hf0 hf1) (va_cwS 3 hts gX6_addStep_X6_isIn rfl rfl rfl (by decide +kernel) ⟨(Nat.le_of_ble_eq_true rfl), (Nat.le_of_ble_eq_true rfl)⟩) (pre0_S (wc := []) hP hK [] rfl) rfl rfl hl.1 rfl (lv_room (Nat.le_of_ble_eq_true rfl)) dX6_addStep_60 ⟨(Nat.le_of_ble_eq_true rfl), (Nat.le_of_ble_eq_true rfl)⟩) (fun r hw => ?_)
  rw [hw]
  refine lv_if_ne (tgt := 70) hx hb dX6_addStep_63 (by decide) (fun h => absurd (by decide) h) (fun _ => ?_)
  refine lv_iconst (v := 1) hx hb dX6_addStep_66 (by decide) ?_
  refine lv_goto (tgt := 71) hx hb dX6_addStep_67 (by decide) ?_
  refine lv_iconst (v := 1) hx hb dX6_addStep_71 (by decide) ?_
  have hF := va_free (wc := [(h0, .inr (8, [.int 0, .int 0, .int 2, .ref h1, .ref h2, .int 0, .int 500, .int 0, .int 0, .int 0, .ref h3]))]) hD hS hA [0] rfl
  refine va_calli (va_runV (As := [.int 1, .int 1]) (rest := []) ⟨hx, hb, hml, hown, hts⟩ (k_X6_start_1 l D κ ε h0 h1 h2 h3 s.heap.size (0) (2) (0) (500) (0) (0)) (cwV 2 hts gX6_addStep_X6_start rfl rfl rfl (by decide +kernel) ⟨(Nat.le_of_ble_eq_true rfl), (Nat.le_of_ble_eq_true rfl)⟩) (pre2_V (q0 := 0) (ci := 8) (wc := [(h0, .inr (8, [.int 0, .int 0, .int 2, .ref h1, .ref h2, .int 0, .int 500, .int 0, .int 0, .int 0, .ref h3]))]) hP hD hK hE9 hS hA [0] (by decide) rfl rfl rfl) rfl rfl hl.1 rfl (lv_room (Nat.le_of_ble_eq_true rfl)) dX6_addStep_72 ⟨(Nat.le_of_ble_eq_true rfl), (Nat.le_of_ble_eq_true rfl)⟩) hS (fun q _ h => hF q h) hF (fun r u1 t H locs ht hvm hw hB hz1 hk1 hS => ?_)
  try dsimp only at hw hB
  obtain ⟨hP1, hD1⟩ := hB
  rw [ht] at hP1
  obtain ⟨hP, hD⟩ := post_j (ws' := [(h0, .inr (8, [.int 1, .int 0, .int 2, .ref h1, .ref h2, .int 0, .int 500, .int 0, .int 0, .int 0, .ref h3]))]) (wr := []) (w1 := [(h0, .inr (8, [.int 1, .int 0, .int 2, .ref h1, .ref h2, .int 0, .int 500, .int 0, .int 0, .int 0, .ref h3]))]) hP hD hF [0] rfl [] rfl (by decide) (by decide) hk1 hP1 hD1 [0] (by decide) rfl
  have hP : va_P D vwCl [(h0, .inr (8, [.int 1, .int 0, .int 2, .ref h1, .ref h2, .int 0, .int 500, .int 0, .int 0, .int 0, .ref h3]))] H := hP
  have hD : va_D A [(h0, .inr (8, [.int 1, .int 0, .int 2, .ref h1, .ref h2, .int 0, .int 500, .int 0, .int 0, .int 0, .ref h3]))] := hD
  rw [hw]
  refine lv_if_eq (tgt := 80) hx hb dX6_addStep_75 (by decide) (fun h => absurd h (by decide)) (fun _ => ?_)
  refine lv_iconst (v := 0) hx hb dX6_addStep_78 (by decide) ?_
  have hP9 := hP.sub (ws' := [(h0, .inr (8, [.int 1, .int 0, .int 2, .ref h1, .ref h2, .int 0, .int 500, .int 0, .int 0, .int 0, .ref h3]))]) [0] rfl
  have hD9 := hD.sub (ws' := [(h0, .inr (8, [.int 1, .int 0, .int 2, .ref h1, .ref h2, .int 0, .int 500, .int 0, .int 0, .int 0, .ref h3]))]) [0] (by decide) rfl
  exact W.iret (v := 0) hx hb hr (fun t ht hW => ⟨⟨0, [.int 1, .int 0, .int 2, .ref h1, .ref h2, .int 0, .int 500, .int 0, .int 0, .int 0, .ref h3], rfl, ⟨rfl, rfl⟩, by rw [ht]; exact hP9, hD9⟩, hS.F ht⟩) hS.2.2 dX6_addStep_79

set_option maxHeartbeats 4000000 in
set_option maxRecDepth 100000 in
theorem k_Jx4a65c_add_72be8_4 (l : Launch) (D : va_G) (κ ε : Nat → Nat) (h0 h1 : Nat) (sz : Nat) (p0 : Int32) (p1 : Int32) : Met l yJx4a65c_add_72be8 wsJx4a65c_add_72be8 ({ frames := 3, cells := 1, slots := 10, locals := 60 }) (va_Pc [.ref h0, .ref h1, .ref (ε 1), .int 0] (Pre2 D κ ε [(h0, .inr (1, [.int p0, .ref (ε 1), .int 0])), (h1, .inl (κ 0, 2, .inl (upd (upd (fun _ => 0) 0 5) 1 p1)))] sz)) (va_Qv (fun u : Nat → Nat => True) (fun u t => va_P D vwCl [(h0, .inr (1, [.int p0, .ref (u 0), .int 1])), (h1, .inl (κ 0, 2, .inl (upd (upd (fun _ => 0) 0 5) 1 p1))), ((u 0), .inl (κ 5, 10, .inr (.inr (.inr (.inr (va_up (fun _ => none) 0 (some h1)))))))] t.heap ∧ va_D (va_A [(h0, .inr (1, [.int p0, .ref (ε 1), .int 0])), (h1, .inl (κ 0, 2, .inl (upd (upd (fun _ => 0) 0 5) 1 p1)))] sz) [(h0, .inr (1, [.int p0, .ref (u 0), .int 1])), (h1, .inl (κ 0, 2, .inl (upd (upd (fun _ => 0) 0 5) 1 p1))), ((u 0), .inl (κ 5, 10, .inr (.inr (.inr (.inr (va_up (fun _ => none) 0 (some h1)))))))]) (va_A [(h0, .inr (1, [.int p0, .ref (ε 1), .int 0])), (h1, .inl (κ 0, 2, .inl (upd (upd (fun _ => 0) 0 5) 1 p1)))] sz)) 1 10 (va_A [(h0, .inr (1, [.int p0, .ref (ε 1), .int 0])), (h1, .inl (κ 0, 2, .inl (upd (upd (fun _ => 0) 0 5) 1 p1)))] sz) := by
  refine Met.ofW (cc := cJx4a65c_add_72be8) (maxL := 4) (ret := none) (by decide) rfl ?_
  intro p e s m args below meth c s₁ B hml hv
  obtain ⟨rfl, hsz, hP, hK, hD0, hE9⟩ := hv
  have hx := B.exec
  have hb := B.bytes
  have hr := B.returns
  have hts := atoms_spec (ws := wsJx4a65c_add_72be8) B.pre
  have hown : s.vm.findClass RJx4a65c = some m.cls := findClass_of_methodNamed B.named
  have hlocks := B.notSynchronized
  subst hsz
  have hD := hD0.self (sz := s.heap.size)
  generalize hAe : va_A [(h0, .inr (1, [.int p0, .ref (ε 1), .int 0])), (h1, .inl (κ 0, 2, .inl (upd (upd (fun _ => 0) 0 5) 1 p1)))] s.heap.size = A at hD hE9 ⊢
  have hE := hE9.1
  have hDc := hE9.2
  have hA : ∀ q : Nat, s.heap.size ≤ q → A q := fun q h => by rw [← hAe]; exact Or.inr h
  have hS : va_S A s.heap s.heap [] := va_S.rf
  have hP : va_P D vwCl [(h0, .inr (1, [.int p0, .ref (ε 1), .int 0])), (h1, .inl (κ 0, 2, .inl (upd (upd (fun _ => 0) 0 5) 1 p1)))] s.heap := hP
  have hl := lv_entry [.ref h0, .ref h1, .ref (ε 1), .int 0] (n := 4) (Nat.le_of_ble_eq_true rfl)
  rw [lg_entry_eq]
  generalize (lg_sl [.ref h0, .ref h1, .ref (ε 1), .int 0] ++ List.replicate (4 - (lg_sl [.ref h0, .ref h1, .ref (ε 1), .int 0]).length) Slot.unset).toArray = ls at hl ⊢
  have hl : lv_has ls 4 [(0, .ref h0), (1, .ref h1), (2, .ref (ε 1)), (3, .int 0)] := hl
  refine lv_iload_n hx hb dJx4a65c_add_72be8_0 rfl (lv_at hl 3 rfl) ?_
  refine lv_aload_n hx hb dJx4a65c_add_72be8_1 rfl (lv_at hl 2 rfl) ?_
  refine va_tlen (v := 0) hx hb hE.2.2.2.2.2.1 hS (by decide) dJx4a65c_add_72be8_2 ?_
  refine lv_icmp_ne (tgt := 11) hx hb dJx4a65c_add_72be8_3 (by decide) (fun h => absurd (by decide) h) (fun _ => ?_)
  refine lv_aload_n hx hb dJx4a65c_add_72be8_6 rfl (lv_at hl 0 rfl) ?_
  have hF := va_free (wc := [(h0, .inr (1, [.int p0, .ref (ε 1), .int 0]))]) hD hS hA [0] rfl
  refine va_callr (va_runV (As := []) (rest := []) ⟨hx, hb, hml, hown, hts⟩ (k_Jx4a65c_grow_d5877_0 l D κ ε h0 s.heap.size (p0)) (cwV 0 hts gJx4a65c_add_72be8_Jx4a65c_grow_d5877 rfl rfl rfl (by decide +kernel) ⟨(Nat.le_of_ble_eq_true rfl), (Nat.le_of_ble_eq_true rfl)⟩) (pre2_V (q0 := 0) (ci := 1) (wc := [(h0, .inr (1, [.int p0, .ref (ε 1), .int 0]))]) hP hD hK hE9 hS hA [0] (by decide) rfl rfl rfl) rfl rfl hl.1 rfl (lv_room (Nat.le_of_ble_eq_true rfl)) dJx4a65c_add_72be8_7 ⟨(Nat.le_of_ble_eq_true rfl), (Nat.le_of_ble_eq_true rfl)⟩) hS (fun q _ h => hF q h) hF (fun u1 ra t H locs ht hvm hw hB hz1 hk1 hS => ?_)
  try dsimp only at hw hB
  obtain ⟨rfl, hB⟩ := hB
  obtain ⟨hP1, hD1⟩ := hB
  rw [ht] at hP1
  obtain ⟨hP, hD⟩ := post_j (ws' := [(h0, .inr (1, [.int p0, .ref (u1 0), .int 0])), (h1, .inl (κ 0, 2, .inl (upd (upd (fun _ => 0) 0 5) 1 p1))), ((u1 0), .inl (κ 5, 10, .inr (.inr (.inr (.inr (fun _ => none))))))]) (wr := [(h1, .inl (κ 0, 2, .inl (upd (upd (fun _ => 0) 0 5) 1 p1)))]) (w1 := [(h0, .inr (1, [.int p0, .ref (u1 0), .int 0])), ((u1 0), .inl (κ 5, 10, .inr (.inr (.inr (.inr (fun _ => none))))))]) hP hD hF [0] rfl [1] rfl (by decide) (by decide) hk1 hP1 hD1 [1, 0, 2] (by decide) rfl
  have hP : va_P D vwCl [(h0, .inr (1, [.int p0, .ref (u1 0), .int 0])), (h1, .inl (κ 0, 2, .inl (upd (upd (fun _ => 0) 0 5) 1 p1))), ((u1 0), .inl (κ 5, 10, .inr (.inr (.inr (.inr (fun _ => none))))))] H := hP
  have hD : va_D A [(h0, .inr (1, [.int p0, .ref (u1 0), .int 0])), (h1, .inl (κ 0, 2, .inl (upd (upd (fun _ => 0) 0 5) 1 p1))), ((u1 0), .inl (κ 5, 10, .inr (.inr (.inr (.inr (fun _ => none))))))] := hD
  refine lv_astore_n (lv' := [(2, .ref (u1 0)), (0, .ref h0), (1, .ref h1), (3, .int 0)]) hx hb dJx4a65c_add_72be8_10 rfl hl (by decide) rfl (fun ls hl => ?_)
  refine lv_aload_n hx hb dJx4a65c_add_72be8_11 rfl (lv_at hl 0 rfl) ?_
  refine lv_iload_n hx hb dJx4a65c_add_72be8_12 rfl (lv_at hl 3 rfl) ?_
  refine lv_aload_n hx hb dJx4a65c_add_72be8_13 rfl (lv_at hl 2 rfl) ?_
  refine va_astqM (cA := κ 5) (n := 10) (f := (fun _ => none)) hx hb hK hP hD hS 2 5 rfl rfl (any_arr hK hE hP 1 rfl) (vpl (by decide)) dJx4a65c_add_72be8_14 (fun H locs hP hD hS => ?_)
  have hP : va_P D vwCl [(h0, .inr (1, [.int p0, .ref (u1 0), .int 0])), (h1, .inl (κ 0, 2, .inl (upd (upd (fun _ => 0) 0 5) 1 p1))), ((u1 0), .inl (κ 5, 10, .inr (.inr (.inr (.inr (va_up (fun _ => none) 0 (some h1)))))))] H := hP
  have hD : va_D A [(h0, .inr (1, [.int p0, .ref (u1 0), .int 0])), (h1, .inl (κ 0, 2, .inl (upd (upd (fun _ => 0) 0 5) 1 p1))), ((u1 0), .inl (κ 5, 10, .inr (.inr (.inr (.inr (va_up (fun _ => none) 0 (some h1)))))))] := hD
  refine lv_aload_n hx hb dJx4a65c_add_72be8_15 rfl (lv_at hl 1 rfl) ?_
  refine lv_iload_n hx hb dJx4a65c_add_72be8_16 rfl (lv_at hl 3 rfl) ?_
  refine lv_iconst (v := 1) hx hb dJx4a65c_add_72be8_17 (by decide) ?_
  refine lv_iadd hx hb dJx4a65c_add_72be8_18 ?_
  refine tpi (v := 1) (by decide) ?_
  refine va_put (D := D) (ci := 1) (v := .int 1) (ty := .int) (C := RJx4a65c) (T := TJx4a65c) (N := 3) hx hb hts wi_Jx4a65c_add_72be8_RJx4a65c tyJx4a65c tyJx4a65c_ok nmJx4a65c hown hK hP hD hS 0 rfl rfl 2 (by decide) (hts _ wd377_Jx4a65c_add_72be8) (fun _ h9 => h9) rfl (by decide +kernel) rfl rfl (Nat.le_of_ble_eq_true rfl) dJx4a65c_add_72be8_19 (fun H locs hP hD hS => ?_)
  have hP : va_P D vwCl [(h0, .inr (1, [.int p0, .ref (u1 0), .int 1])), (h1, .inl (κ 0, 2, .inl (upd (upd (fun _ => 0) 0 5) 1 p1))), ((u1 0), .inl (κ 5, 10, .inr (.inr (.inr (.inr (va_up (fun _ => none) 0 (some h1)))))))] H := hP
  have hD : va_D A [(h0, .inr (1, [.int p0, .ref (u1 0), .int 1])), (h1, .inl (κ 0, 2, .inl (upd (upd (fun _ => 0) 0 5) 1 p1))), ((u1 0), .inl (κ 5, 10, .inr (.inr (.inr (.inr (va_up (fun _ => none) 0 (some h1)))))))] := hD
  have hP9 := hP
  have hD9 := hD
  refine W.widen (k := 1) (n := 10) (Nat.le_of_ble_eq_true rfl) (Nat.le_of_ble_eq_true rfl) ?_
  exact W.vret hx hb hr (fun t ht hW => ⟨⟨(fun i => [(u1 0)].getD i 0), rfl, trivial, by rw [ht]; exact hP9, hD9⟩, hS.F ht⟩) hS.2.2 dJx4a65c_add_72be8_22

set_option maxHeartbeats 4000000 in
set_option maxRecDepth 100000 in
theorem k_Jx4a65c_add_9ea2d_4 (l : Launch) (D : va_G) (κ ε : Nat → Nat) (h0 h1 : Nat) (sz : Nat) (p0 : Int32) : Met l yJx4a65c_add_9ea2d wsJx4a65c_add_9ea2d ({ frames := 4, cells := 1, slots := 10, locals := 83 }) (va_Pc [.ref h0, .ref h1] (Pre2 D κ ε [(h0, .inr (1, [.int 0, .ref (ε 1), .int 0])), (h1, .inl (κ 0, 2, .inl (upd (upd (fun _ => 0) 0 5) 1 p0)))] sz)) (va_Qi (fun r (u : Nat → Nat) => (r = 1)) (fun u t => va_P D vwCl [(h0, .inr (1, [.int 1, .ref (u 0), .int 1])), (h1, .inl (κ 0, 2, .inl (upd (upd (fun _ => 0) 0 5) 1 p0))), ((u 0), .inl (κ 5, 10, .inr (.inr (.inr (.inr (va_up (fun _ => none) 0 (some h1)))))))] t.heap ∧ va_D (va_A [(h0, .inr (1, [.int 0, .ref (ε 1), .int 0])), (h1, .inl (κ 0, 2, .inl (upd (upd (fun _ => 0) 0 5) 1 p0)))] sz) [(h0, .inr (1, [.int 1, .ref (u 0), .int 1])), (h1, .inl (κ 0, 2, .inl (upd (upd (fun _ => 0) 0 5) 1 p0))), ((u 0), .inl (κ 5, 10, .inr (.inr (.inr (.inr (va_up (fun _ => none) 0 (some h1)))))))]) (va_A [(h0, .inr (1, [.int 0, .ref (ε 1), .int 0])), (h1, .inl (κ 0, 2, .inl (upd (upd (fun _ => 0) 0 5) 1 p0)))] sz)) 1 10 (va_A [(h0, .inr (1, [.int 0, .ref (ε 1), .int 0])), (h1, .inl (κ 0, 2, .inl (upd (upd (fun _ => 0) 0 5) 1 p0)))] sz) := by
  refine Met.ofW (cc := cJx4a65c_add_9ea2d) (maxL := 2) (ret := (some .boolean)) (by decide) rfl ?_
  intro p e s m args below meth c s₁ B hml hv
  obtain ⟨rfl, hsz, hP, hK, hD0, hE9⟩ := hv
  have hx := B.exec
  have hb := B.bytes
  have hr := B.returns
  have hts := atoms_spec (ws := wsJx4a65c_add_9ea2d) B.pre
  have hown : s.vm.findClass RJx4a65c = some m.cls := findClass_of_methodNamed B.named
  have hlocks := B.notSynchronized
  subst hsz
  have hD := hD0.self (sz := s.heap.size)
  generalize hAe : va_A [(h0, .inr (1, [.int 0, .ref (ε 1), .int 0])), (h1, .inl (κ 0, 2, .inl (upd (upd (fun _ => 0) 0 5) 1 p0)))] s.heap.size = A at hD hE9 ⊢
  have hE := hE9.1
  have hDc := hE9.2
  have hA : ∀ q : Nat, s.heap.size ≤ q → A q := fun q h => by rw [← hAe]; exact Or.inr h
  have hS : va_S A s.heap s.heap [] := va_S.rf
  have hP : va_P D vwCl [(h0, .inr (1, [.int 0, .ref (ε 1), .int 0])), (h1, .inl (κ 0, 2, .inl (upd (upd (fun _ => 0) 0 5) 1 p0)))] s.heap := hP
  have hl := lv_entry [.ref h0, .ref h1] (n := 2) (Nat.le_of_ble_eq_true rfl)
  rw [lg_entry_eq]
  generalize (lg_sl [.ref h0, .ref h1] ++ List.replicate (2 - (lg_sl [.ref h0, .ref h1]).length) Slot.unset).toArray = ls at hl ⊢
  have hl : lv_has ls 2 [(0, .ref h0), (1, .ref h1)] := hl
  refine lv_aload_n hx hb dJx4a65c_add_9ea2d_0 rfl (lv_at hl 0 rfl) ?_
  refine lv_dup hx hb dJx4a65c_add_9ea2d_1 rfl ?_
  refine va_get (D := D) (ci := 1) (v := .int 0) (C := RJx4a65c) (T := TJx4a65c) (N := 3) hx hb hts wi_Jx4a65c_add_9ea2d_RJx4a65c hown hK hP 0 rfl rfl 0 (by decide) (hts _ wd379_Jx4a65c_add_9ea2d) (fun x9 h9 => u_same (hts _ wd378_Jx4a65c_add_9ea2d) x9 h9) rfl dJx4a65c_add_9ea2d_2 ?_
  refine lv_iconst (v := 1) hx hb dJx4a65c_add_9ea2d_5 (by decide) ?_
  refine lv_iadd hx hb dJx4a65c_add_9ea2d_6 ?_
  refine tpi (v := 1) (by decide) ?_
  refine va_put (D := D) (ci := 1) (v := .int 1) (ty := .int) (C := RJx4a65c) (T := TJx4a65c) (N := 3) hx hb hts wi_Jx4a65c_add_9ea2d_RJx4a65c tyJx4a65c tyJx4a65c_ok nmJx4a65c hown hK hP hD hS 0 rfl rfl 0 (by decide) (hts _ wd379_Jx4a65c_add_9ea2d) (fun x9 h9 => u_same (hts _ wd378_Jx4a65c_add_9ea2d) x9 h9) rfl (by decide +kernel) rfl rfl (Nat.le_of_ble_eq_true rfl) dJx4a65c_add_9ea2d_7 (fun H locs hP hD hS => ?_)
  have hP : va_P D vwCl [(h0, .inr (1, [.int 1, .ref (ε 1), .int 0])), (h1, .inl (κ 0, 2, .inl (upd (upd (fun _ => 0) 0 5) 1 p0)))] H := hP
  have hD : va_D A [(h0, .inr (1, [.int 1, .ref (ε 1), .int 0])), (h1, .inl (κ 0, 2, .inl (upd (upd (fun _ => 0) 0 5) 1 p0)))] := hD
  refine lv_aload_n hx hb dJx4a65c_add_9ea2d_10 rfl (lv_at hl 0 rfl) ?_
  refine lv_aload_n hx hb dJx4a65c_add_9ea2d_11 rfl (lv_at hl 1 rfl) ?_
  refine lv_aload_n hx hb dJx4a65c_add_9ea2d_12 rfl (lv_at hl 0 rfl) ?_
  refine va_get (D := D) (ci := 1) (v := .ref (ε 1)) (C := RJx4a65c) (T := TJx4a65c) (N := 3) hx hb hts wi_Jx4a65c_add_9ea2d_RJx4a65c hown hK hP 0 rfl rfl 1 (by decide) (hts _ wd380_Jx4a65c_add_9ea2d) (fun _ h9 => h9) rfl dJx4a65c_add_9ea2d_13 ?_
  refine lv_aload_n hx hb dJx4a65c_add_9ea2d_16 rfl (lv_at hl 0 rfl) ?_
  refine va_get (D := D) (ci := 1) (v := .int 0) (C := RJx4a65c) (T := TJx4a65c) (N := 3) hx hb hts wi_Jx4a65c_add_9ea2d_RJx4a65c hown hK hP 0 rfl rfl 2 (by decide) (hts _ wd381_Jx4a65c_add_9ea2d) (fun _ h9 => h9) rfl dJx4a65c_add_9ea2d_17 ?_
  have hF := va_free (wc := [(h0, .inr (1, [.int 1, .ref (ε 1), .int 0])), (h1, .inl (κ 0, 2, .inl (upd (upd (fun _ => 0) 0 5) 1 p0)))]) hD hS hA [0, 1] rfl
  refine va_callv (va_runV (As := [.ref h1, .ref (ε 1), .int 0]) (rest := []) ⟨hx, hb, hml, hown, hts⟩ (k_Jx4a65c_add_72be8_4 l D κ ε h0 h1 H.size (1) (p0)) (cwV 3 hts gJx4a65c_add_9ea2d_Jx4a65c_add_72be8 rfl rfl rfl (by decide +kernel) ⟨(Nat.le_of_ble_eq_true rfl), (Nat.le_of_ble_eq_true rfl)⟩) (pre2_V (q0 := 0) (ci := 1) (wc := [(h0, .inr (1, [.int 1, .ref (ε 1), .int 0])), (h1, .inl (κ 0, 2, .inl (upd (upd (fun _ => 0) 0 5) 1 p0)))]) hP hD hK hE9 hS hA [0, 1] (by decide) rfl rfl rfl) rfl rfl hl.1 rfl (lv_room (Nat.le_of_ble_eq_true rfl)) dJx4a65c_add_9ea2d_20 ⟨(Nat.le_of_ble_eq_true rfl), (Nat.le_of_ble_eq_true rfl)⟩) hS (fun q _ h => hF q h) hF (fun u1 t H locs ht hvm hw hB hz1 hk1 hS => ?_)
  try dsimp only at hw hB
  obtain ⟨hP1, hD1⟩ := hB
  rw [ht] at hP1
  obtain ⟨hP, hD⟩ := post_j (ws' := [(h0, .inr (1, [.int 1, .ref (u1 0), .int 1])), (h1, .inl (κ 0, 2, .inl (upd (upd (fun _ => 0) 0 5) 1 p0))), ((u1 0), .inl (κ 5, 10, .inr (.inr (.inr (.inr (va_up (fun _ => none) 0 (some h1)))))))]) (wr := []) (w1 := [(h0, .inr (1, [.int 1, .ref (u1 0), .int 1])), (h1, .inl (κ 0, 2, .inl (upd (upd (fun _ => 0) 0 5) 1 p0))), ((u1 0), .inl (κ 5, 10, .inr (.inr (.inr (.inr (va_up (fun _ => none) 0 (some h1)))))))]) hP hD hF [0, 1] rfl [] rfl (by decide) (by decide) hk1 hP1 hD1 [0, 1, 2] (by decide) rfl
  have hP : va_P D vwCl [(h0, .inr (1, [.int 1, .ref (u1 0), .int 1])), (h1, .inl (κ 0, 2, .inl (upd (upd (fun _ => 0) 0 5) 1 p0))), ((u1 0), .inl (κ 5, 10, .inr (.inr (.inr (.inr (va_up (fun _ => none) 0 (some h1)))))))] H := hP
  have hD : va_D A [(h0, .inr (1, [.int 1, .ref (u1 0), .int 1])), (h1, .inl (κ 0, 2, .inl (upd (upd (fun _ => 0) 0 5) 1 p0))), ((u1 0), .inl (κ 5, 10, .inr (.inr (.inr (.inr (va_up (fun _ => none) 0 (some h1)))))))] := hD
  refine lv_iconst (v := 1) hx hb dJx4a65c_add_9ea2d_23 (by decide) ?_
  have hP9 := hP
  have hD9 := hD
  refine W.widen (k := 1) (n := 10) (Nat.le_of_ble_eq_true rfl) (Nat.le_of_ble_eq_true rfl) ?_
  exact W.zret (v := 1) hx hb hr rfl (fun t ht hW => ⟨⟨1, (fun i => [(u1 0)].getD i 0), rfl, rfl, by rw [ht]; exact hP9, hD9⟩, hS.F ht⟩) hS.2.2 dJx4a65c_add_9ea2d_24

set_option maxHeartbeats 4000000 in
set_option maxRecDepth 100000 in
theorem k_X6_addStep_12 (l : Launch) (D : va_G) (κ ε : Nat → Nat) (h0 h1 h2 h3 : Nat) (sz : Nat) (p0 : Int32) (hf0 : ¬ p0 < 1) (hf1 : ¬ 12 < p0) : Met l yX6_addStep wsX6_addStep ({ frames := 5, cells := 2, slots := 12, locals := 104 }) (va_Pc [.ref h0, .int 5, .int p0] (Pre2 D κ ε [(h0, .inr (8, [.int 0, .int 0, .int 2, .ref h1, .ref h2, .int 0, .int 500, .int 0, .int 0, .int 0, .ref h3])), (h3, .inr (1, [.int 0, .ref (ε 1), .int 0]))] sz)) (va_Qi (fun r (u : List Value) => (u[0]? = some (.int 0)) ∧ (r = 0)) (fun u t => va_P D vwCl [(h0, .inr (8, u))] t.heap ∧ va_D (va_A [(h0, .inr (8, [.int 0, .int 0, .int 2, .ref h1, .ref h2, .int 0, .int 500, .int 0, .int 0, .int 0, .ref h3])), (h3, .inr (1, [.int 0, .ref (ε 1), .int 0]))] sz) [(h0, .inr (8, u))]) (va_A [(h0, .inr (8, [.int 0, .int 0, .int 2, .ref h1, .ref h2, .int 0, .int 500, .int 0, .int 0, .int 0, .ref h3])), (h3, .inr (1, [.int 0, .ref (ε 1), .int 0]))] sz)) 2 12 (va_A [(h0, .inr (8, [.int 0, .int 0, .int 2, .ref h1, .ref h2, .int 0, .int 500, .int 0, .int 0, .int 0, .ref h3])), (h3, .inr (1, [.int 0, .ref (ε 1), .int 0]))] sz) := by
  refine Met.ofW (cc := cX6_addStep) (maxL := 3) (ret := (some .int)) (by decide) rfl ?_
  intro p e s m args below meth c s₁ B hml hv
  obtain ⟨rfl, hsz, hP, hK, hD0, hE9⟩ := hv
  have hx := B.exec
  have hb := B.bytes
  have hr := B.returns
  have hts := atoms_spec (ws := wsX6_addStep) B.pre
  have hown : s.vm.findClass RX6 = some m.cls := findClass_of_methodNamed B.named
  have hlocks := B.notSynchronized
  subst hsz
  have hD := hD0.self (sz := s.heap.size)
  generalize hAe : va_A [(h0, .inr (8, [.int 0, .int 0, .int 2, .ref h1, .ref h2, .int 0, .int 500, .int 0, .int 0, .int 0, .ref h3])), (h3, .inr (1, [.int 0, .ref (ε 1), .int 0]))] s.heap.size = A at hD hE9 ⊢
  have hE := hE9.1
  have hDc := hE9.2
  have hA : ∀ q : Nat, s.heap.size ≤ q → A q := fun q h => by rw [← hAe]; exact Or.inr h
  have hS : va_S A s.heap s.heap [] := va_S.rf
  have hP : va_P D vwCl [(h0, .inr (8, [.int 0, .int 0, .int 2, .ref h1, .ref h2, .int 0, .int 500, .int 0, .int 0, .int 0, .ref h3])), (h3, .inr (1, [.int 0, .ref (ε 1), .int 0]))] s.heap := hP
  have hl := lv_entry [.ref h0, .int 5, .int p0] (n := 3) (Nat.le_of_ble_eq_true rfl)
  rw [lg_entry_eq]
  generalize (lg_sl [.ref h0, .int 5, .int p0] ++ List.replicate (3 - (lg_sl [.ref h0, .int 5, .int p0]).length) Slot.unset).toArray = ls at hl ⊢
  have hl : lv_has ls 3 [(0, .ref h0), (1, .int 5), (2, .int p0)] := hl
  refine lv_aload_n hx hb dX6_addStep_0 rfl (lv_at hl 0 rfl) ?_
  refine lv_iload_n hx hb dX6_addStep_1 rfl (lv_at hl 1 rfl) ?_
  refine lv_iconst (v := 0) hx hb dX6_addStep_2 (by decide) ?_
  refine lv_iconst (v := 5) hx hb dX6_addStep_3 (by decide) ?_
  refine vp_callSi (W.runS (As := [.int 5, .int 0, .int 5]) (rest := [.ref h0]) ⟨hx, hb, hml, hown, hts⟩ (k_X6_isIn_48 l D κ ε) (va_cwS 3 hts gX6_addStep_X6_isIn rfl rfl rfl (by decide +kernel) ⟨(Nat.le_of_ble_eq_true rfl), (Nat.le_of_ble_eq_true rfl)⟩) (pre0_S (wc := []) hP hK [] rfl) rfl rfl hl.1 rfl (lv_room (Nat.le_of_ble_eq_true rfl)) dX6_addStep_4 ⟨(Nat.le_of_ble_eq_true rfl), (Nat.le_of_ble_eq_true rfl)⟩) (fun r hw => ?_)
  rw [hw]
  refine lv_if_eq (tgt := 66) hx hb dX6_addStep_7 (by decide) (fun h => absurd h (by decide)) (fun _ => ?_)
  refine lv_iload_n hx hb dX6_addStep_10 rfl (lv_at hl 1 rfl) ?_
  refine lv_iconst (v := 2) hx hb dX6_addStep_11 (by decide) ?_
  refine lv_icmp_ne (tgt := 29) hx hb dX6_addStep_12 (by decide) (fun _ => ?_) (fun h => absurd h (by decide))
  refine lv_iload_n hx hb dX6_addStep_29 rfl (lv_at hl 1 rfl) ?_
  refine lv_iconst (v := 4) hx hb dX6_addStep_30 (by decide) ?_
  refine lv_icmp_ne (tgt := 46) hx hb dX6_addStep_31 (by decide) (fun _ => ?_) (fun h => absurd h (by decide))
  refine lv_iload_n hx hb dX6_addStep_46 rfl (lv_at hl 1 rfl) ?_
  refine lv_iconst (v := 3) hx hb dX6_addStep_47 (by decide) ?_
  refine lv_icmp_eq (tgt := 56) hx hb dX6_addStep_48 (by decide) (fun h => absurd h (by decide)) (fun _ => ?_)
  refine lv_iload_n hx hb dX6_addStep_51 rfl (lv_at hl 1 rfl) ?_
  refine lv_iconst (v := 5) hx hb dX6_addStep_52 (by decide) ?_
  refine lv_icmp_ne (tgt := 70) hx hb dX6_addStep_53 (by decide) (fun h => absurd (by decide) h) (fun _ => ?_)
  refine lv_iload_n hx hb dX6_addStep_56 rfl (lv_at hl 2 rfl) ?_
  refine lv_iconst (v := 1) hx hb dX6_addStep_57 (by decide) ?_
  refine lv_bipush (v := 12) hx hb dX6_addStep_58 (by decide) ?_
  refine vp_callSi (W.runS (As := [.int p0, .int 1, .int 12]) (rest := [.ref h0]) ⟨hx, hb, hml, hown, hts⟩ (k_X6_isIn_45 l D κ ε (p0) hf0 hf1) (va_cwS 3 hts gX6_addStep_X6_isIn rfl rfl rfl (by decide +kernel) ⟨(Nat.le_of_ble_eq_true rfl), (Nat.le_of_ble_eq_true rfl)⟩) (pre0_S (wc := []) hP hK [] rfl) rfl rfl hl.1 rfl (lv_room (Nat.le_of_ble_eq_true rfl)) dX6_addStep_60 ⟨(Nat.le_of_ble_eq_true rfl), (Nat.le_of_ble_eq_true rfl)⟩) (fun r hw => ?_)
  rw [hw]
  refine lv_if_ne (tgt := 70) hx hb dX6_addStep_63 (by decide) (fun _ => ?_) (fun h => absurd h (by decide))
  refine lv_iconst (v := 0) hx hb dX6_addStep_70 (by decide) ?_
  refine lv_iconst (v := 1) hx hb dX6_addStep_71 (by decide) ?_
  have hF := va_free (wc := [(h0, .inr (8, [.int 0, .int 0, .int 2, .ref h1, .ref h2, .int 0, .int 500, .int 0, .int 0, .int 0, .ref h3]))]) hD hS hA [0] rfl
  refine va_calli (va_runV (As := [.int 0, .int 1]) (rest := []) ⟨hx, hb, hml, hown, hts⟩ (k_X6_start_0 l D κ ε h0 h1 h2 h3 s.heap.size (0) (2) (0) (500) (0) (0)) (cwV 2 hts gX6_addStep_X6_start rfl rfl rfl (by decide +kernel) ⟨(Nat.le_of_ble_eq_true rfl), (Nat.le_of_ble_eq_true rfl)⟩) (pre2_V (q0 := 0) (ci := 8) (wc := [(h0, .inr (8, [.int 0, .int 0, .int 2, .ref h1, .ref h2, .int 0, .int 500, .int 0, .int 0, .int 0, .ref h3]))]) hP hD hK hE9 hS hA [0] (by decide) rfl rfl rfl) rfl rfl hl.1 rfl (lv_room (Nat.le_of_ble_eq_true rfl)) dX6_addStep_72 ⟨(Nat.le_of_ble_eq_true rfl), (Nat.le_of_ble_eq_true rfl)⟩) hS (fun q _ h => hF q h) hF (fun r u1 t H locs ht hvm hw hB hz1 hk1 hS => ?_)
  try dsimp only at hw hB
  obtain ⟨hP1, hD1⟩ := hB
  rw [ht] at hP1
  obtain ⟨hP, hD⟩ := post_j (ws' := [(h0, .inr (8, [.int 0, .int 0, .int 2, .ref h1, .ref h2, .int 0, .int 500, .int 0, .int 0, .int 0, .ref h3])), (h3, .inr (1, [.int 0, .ref (ε 1), .int 0]))]) (wr := [(h3, .inr (1, [.int 0, .ref (ε 1), .int 0]))]) (w1 := [(h0, .inr (8, [.int 0, .int 0, .int 2, .ref h1, .ref h2, .int 0, .int 500, .int 0, .int 0, .int 0, .ref h3]))]) hP hD hF [0] rfl [1] rfl (by decide) (by decide) hk1 hP1 hD1 [1, 0] (by decide) rfl
  have hP : va_P D vwCl [(h0, .inr (8, [.int 0, .int 0, .int 2, .ref h1, .ref h2, .int 0, .int 500, .int 0, .int 0, .int 0, .ref h3])), (h3, .inr (1, [.int 0, .ref (ε 1), .int 0]))] H := hP
  have hD : va_D A [(h0, .inr (8, [.int 0, .int 0, .int 2, .ref h1, .ref h2, .int 0, .int 500, .int 0, .int 0, .int 0, .ref h3])), (h3, .inr (1, [.int 0, .ref (ε 1), .int 0]))] := hD
  rw [hw]
  refine lv_if_eq (tgt := 80) hx hb dX6_addStep_75 (by decide) (fun _ => ?_) (fun h => absurd (by decide) h)
  refine lv_aload_n hx hb dX6_addStep_80 rfl (lv_at hl 0 rfl) ?_
  refine lv_aload_n hx hb dX6_addStep_81 rfl (lv_at hl 0 rfl) ?_
  refine va_get (D := D) (ci := 8) (v := .ref h3) (C := RX6) (T := TX6) (N := 11) hx hb hts wi_X6_addStep_RX6 hown hK hP 0 rfl rfl 10 (by decide) (hts _ wd382_X6_addStep) (fun _ h9 => h9) rfl dX6_addStep_82 ?_
  refine vp_callSi (W.runV (As := []) (rest := [.ref h0]) ⟨hx, hb, hml, hown, hts⟩ (k_Jx4a65c_size_8abf5_0 l D κ ε h3 (0)) (cwV 0 hts gX6_addStep_Jx4a65c_size_8abf5 rfl rfl rfl (by decide +kernel) ⟨(Nat.le_of_ble_eq_true rfl), (Nat.le_of_ble_eq_true rfl)⟩) (pre0_V (q0 := 1) (ci := 1) (wc := [(h3, .inr (1, [.int 0, .ref (ε 1), .int 0]))]) hP hK [1] rfl rfl rfl) rfl rfl hl.1 rfl (lv_room (Nat.le_of_ble_eq_true rfl)) dX6_addStep_85 ⟨(Nat.le_of_ble_eq_true rfl), (Nat.le_of_ble_eq_true rfl)⟩) (fun r hw => ?_)
  rw [hw]
  refine lv_bipush (v := 12) hx hb dX6_addStep_88 (by decide) ?_
  refine lv_icmp_ne (tgt := 97) hx hb dX6_addStep_90 (by decide) (fun _ => ?_) (fun h => absurd h (by decide))
  refine lv_iconst (v := 0) hx hb dX6_addStep_97 (by decide) ?_
  refine lv_iconst (v := 2) hx hb dX6_addStep_98 (by decide) ?_
  refine vp_callSi (W.runV (As := [.int 0, .int 2]) (rest := []) ⟨hx, hb, hml, hown, hts⟩ (k_X6_refuse_3 l D κ ε h0 h1 h2 h3 (0) (2) (0) (500) (0) (0)) (cwV 2 hts gX6_addStep_X6_refuse rfl rfl rfl (by decide +kernel) ⟨(Nat.le_of_ble_eq_true rfl), (Nat.le_of_ble_eq_true rfl)⟩) (pre0_V (q0 := 0) (ci := 8) (wc := [(h0, .inr (8, [.int 0, .int 0, .int 2, .ref h1, .ref h2, .int 0, .int 500, .int 0, .int 0, .int 0, .ref h3]))]) hP hK [0] rfl rfl rfl) rfl rfl hl.1 rfl (lv_room (Nat.le_of_ble_eq_true rfl)) dX6_addStep_99 ⟨(Nat.le_of_ble_eq_true rfl), (Nat.le_of_ble_eq_true rfl)⟩) (fun r hw => ?_)
  rw [hw]
  refine lv_if_eq (tgt := 107) hx hb dX6_addStep_102 (by decide) (fun _ => ?_) (fun h => absurd (by decide) h)
  refine lv_aload_n hx hb dX6_addStep_107 rfl (lv_at hl 0 rfl) ?_
  refine va_get (D := D) (ci := 8) (v := .ref h3) (C := RX6) (T := TX6) (N := 11) hx hb hts wi_X6_addStep_RX6 hown hK hP 0 rfl rfl 10 (by decide) (hts _ wd382_X6_addStep) (fun _ h9 => h9) rfl dX6_addStep_108 ?_
  refine lv_iconst (v := 2) hx hb dX6_addStep_111 (by decide) ?_
  refine va_newa (atype := .int) (a0 := (2, .inl (fun _ => 0))) hx hb (hts _ wd383_X6_addStep) rfl hK hP hD hS hA (fun _ => rfl) (by decide) (by decide) (by decide) (Nat.le_of_ble_eq_true rfl) (Nat.le_of_ble_eq_true rfl) dX6_addStep_112 (fun q2 cy H hKn hP hD hS => ?_)
  obtain rfl : cy = κ 0 := K_one (i := 0) hKn rfl
  have hP : va_P D vwCl [(h0, .inr (8, [.int 0, .int 0, .int 2, .ref h1, .ref h2, .int 0, .int 500, .int 0, .int 0, .int 0, .ref h3])), (h3, .inr (1, [.int 0, .ref (ε 1), .int 0])), (q2, .inl (κ 0, 2, .inl (fun _ => 0)))] H := hP
  have hD : va_D A [(h0, .inr (8, [.int 0, .int 0, .int 2, .ref h1, .ref h2, .int 0, .int 500, .int 0, .int 0, .int 0, .ref h3])), (h3, .inr (1, [.int 0, .ref (ε 1), .int 0])), (q2, .inl (κ 0, 2, .inl (fun _ => 0)))] := hD
  refine lv_dup hx hb dX6_addStep_114 rfl ?_
  refine lv_iconst (v := 0) hx hb dX6_addStep_115 (by decide) ?_
  refine lv_iload_n hx hb dX6_addStep_116 rfl (lv_at hl 1 rfl) ?_
  refine va_iast (cA := κ 0) (n := 2) (f := (fun _ => 0)) hx hb hK hP hD hS 2 0 rfl rfl (vpl (by decide)) dX6_addStep_117 (fun H locs hP hD hS => ?_)
  have hP : va_P D vwCl [(h0, .inr (8, [.int 0, .int 0, .int 2, .ref h1, .ref h2, .int 0, .int 500, .int 0, .int 0, .int 0, .ref h3])), (h3, .inr (1, [.int 0, .ref (ε 1), .int 0])), (q2, .inl (κ 0, 2, .inl (upd (fun _ => 0) 0 5)))] H := hP
  have hD : va_D A [(h0, .inr (8, [.int 0, .int 0, .int 2, .ref h1, .ref h2, .int 0, .int 500, .int 0, .int 0, .int 0, .ref h3])), (h3, .inr (1, [.int 0, .ref (ε 1), .int 0])), (q2, .inl (κ 0, 2, .inl (upd (fun _ => 0) 0 5)))] := hD
  refine lv_dup hx hb dX6_addStep_118 rfl ?_
  refine lv_iconst (v := 1) hx hb dX6_addStep_119 (by decide) ?_
  refine lv_iload_n hx hb dX6_addStep_120 rfl (lv_at hl 2 rfl) ?_
  refine va_iast (cA := κ 0) (n := 2) (f := (upd (fun _ => 0) 0 5)) hx hb hK hP hD hS 2 0 rfl rfl (vpl (by decide)) dX6_addStep_121 (fun H locs hP hD hS => ?_)
  have hP : va_P D vwCl [(h0, .inr (8, [.int 0, .int 0, .int 2, .ref h1, .ref h2, .int 0, .int 500, .int 0, .int 0, .int 0, .ref h3])), (h3, .inr (1, [.int 0, .ref (ε 1), .int 0])), (q2, .inl (κ 0, 2, .inl (upd (upd (fun _ => 0) 0 5) 1 p0)))] H := hP
  have hD : va_D A [(h0, .inr (8, [.int 0, .int 0, .int 2, .ref h1, .ref h2, .int 0, .int 500, .int 0, .int 0, .int 0, .ref h3])), (h3, .inr (1, [.int 0, .ref (ε 1), .int 0])), (q2, .inl (κ 0, 2, .inl (upd (upd (fun _ => 0) 0 5) 1 p0)))] := hD
  have hF := va_free (wc := [(h3, .inr (1, [.int 0, .ref (ε 1), .int 0])), (q2, .inl (κ 0, 2, .inl (upd (upd (fun _ => 0) 0 5) 1 p0)))]) hD hS hA [1, 2] rfl
  refine va_calli (va_runV (As := [.ref q2]) (rest := []) ⟨hx, hb, hml, hown, hts⟩ (k_Jx4a65c_add_9ea2d_4 l D κ ε h3 q2 H.size (p0)) (cwV 1 hts gX6_addStep_Jx4a65c_add_9ea2d rfl rfl rfl (by decide +kernel) ⟨(Nat.le_of_ble_eq_true rfl), (Nat.le_of_ble_eq_true rfl)⟩) (pre2_V (q0 := 1) (ci := 1) (wc := [(h3, .inr (1, [.int 0, .ref (ε 1), .int 0])), (q2, .inl (κ 0, 2, .inl (upd (upd (fun _ => 0) 0 5) 1 p0)))]) hP hD hK hE9 hS hA [1, 2] (by decide) rfl rfl rfl) rfl rfl hl.1 rfl (lv_room (Nat.le_of_ble_eq_true rfl)) dX6_addStep_122 ⟨(Nat.le_of_ble_eq_true rfl), (Nat.le_of_ble_eq_true rfl)⟩) hS (fun q _ h => hF q h) hF (fun r u3 t H locs ht hvm hw hB hz1 hk1 hS => ?_)
  try dsimp only at hw hB
  obtain ⟨hP1, hD1⟩ := hB
  rw [ht] at hP1
  obtain ⟨hP, hD⟩ := post_j (ws' := [(h0, .inr (8, [.int 0, .int 0, .int 2, .ref h1, .ref h2, .int 0, .int 500, .int 0, .int 0, .int 0, .ref h3])), (h3, .inr (1, [.int 1, .ref (u3 0), .int 1])), (q2, .inl (κ 0, 2, .inl (upd (upd (fun _ => 0) 0 5) 1 p0))), ((u3 0), .inl (κ 5, 10, .inr (.inr (.inr (.inr (va_up (fun _ => none) 0 (some q2)))))))]) (wr := [(h0, .inr (8, [.int 0, .int 0, .int 2, .ref h1, .ref h2, .int 0, .int 500, .int 0, .int 0, .int 0, .ref h3]))]) (w1 := [(h3, .inr (1, [.int 1, .ref (u3 0), .int 1])), (q2, .inl (κ 0, 2, .inl (upd (upd (fun _ => 0) 0 5) 1 p0))), ((u3 0), .inl (κ 5, 10, .inr (.inr (.inr (.inr (va_up (fun _ => none) 0 (some q2)))))))]) hP hD hF [1, 2] rfl [0] rfl (by decide) (by decide) hk1 hP1 hD1 [0, 1, 2, 3] (by decide) rfl
  have hP : va_P D vwCl [(h0, .inr (8, [.int 0, .int 0, .int 2, .ref h1, .ref h2, .int 0, .int 500, .int 0, .int 0, .int 0, .ref h3])), (h3, .inr (1, [.int 1, .ref (u3 0), .int 1])), (q2, .inl (κ 0, 2, .inl (upd (upd (fun _ => 0) 0 5) 1 p0))), ((u3 0), .inl (κ 5, 10, .inr (.inr (.inr (.inr (va_up (fun _ => none) 0 (some q2)))))))] H := hP
  have hD : va_D A [(h0, .inr (8, [.int 0, .int 0, .int 2, .ref h1, .ref h2, .int 0, .int 500, .int 0, .int 0, .int 0, .ref h3])), (h3, .inr (1, [.int 1, .ref (u3 0), .int 1])), (q2, .inl (κ 0, 2, .inl (upd (upd (fun _ => 0) 0 5) 1 p0))), ((u3 0), .inl (κ 5, 10, .inr (.inr (.inr (.inr (va_up (fun _ => none) 0 (some q2)))))))] := hD
  rw [hw]
  refine lv_pop hx hb dX6_addStep_125 rfl ?_
  refine lv_aload_n hx hb dX6_addStep_126 rfl (lv_at hl 0 rfl) ?_
  refine va_get (D := D) (ci := 8) (v := .ref h3) (C := RX6) (T := TX6) (N := 11) hx hb hts wi_X6_addStep_RX6 hown hK hP 0 rfl rfl 10 (by decide) (hts _ wd382_X6_addStep) (fun _ h9 => h9) rfl dX6_addStep_127 ?_
  refine vp_callSi (W.runV (As := []) (rest := []) ⟨hx, hb, hml, hown, hts⟩ (k_Jx4a65c_size_8abf5_1 l D κ ε h3 (u3 0) (1)) (cwV 0 hts gX6_addStep_Jx4a65c_size_8abf5 rfl rfl rfl (by decide +kernel) ⟨(Nat.le_of_ble_eq_true rfl), (Nat.le_of_ble_eq_true rfl)⟩) (pre0_V (q0 := 1) (ci := 1) (wc := [(h3, .inr (1, [.int 1, .ref (u3 0), .int 1]))]) hP hK [1] rfl rfl rfl) rfl rfl hl.1 rfl (lv_room (Nat.le_of_ble_eq_true rfl)) dX6_addStep_130 ⟨(Nat.le_of_ble_eq_true rfl), (Nat.le_of_ble_eq_true rfl)⟩) (fun r hw => ?_)
  rw [hw]
  refine lv_iconst (v := 1) hx hb dX6_addStep_133 (by decide) ?_
  refine lv_isub hx hb dX6_addStep_134 ?_
  refine tpi (v := 0) (by decide) ?_
  have hP9 := hP.sub (ws' := [(h0, .inr (8, [.int 0, .int 0, .int 2, .ref h1, .ref h2, .int 0, .int 500, .int 0, .int 0, .int 0, .ref h3]))]) [0] rfl
  have hD9 := hD.sub (ws' := [(h0, .inr (8, [.int 0, .int 0, .int 2, .ref h1, .ref h2, .int 0, .int 500, .int 0, .int 0, .int 0, .ref h3]))]) [0] (by decide) rfl
  refine W.widen (k := 2) (n := 12) (Nat.le_of_ble_eq_true rfl) (Nat.le_of_ble_eq_true rfl) ?_
  exact W.iret (v := 0) hx hb hr (fun t ht hW => ⟨⟨0, [.int 0, .int 0, .int 2, .ref h1, .ref h2, .int 0, .int 500, .int 0, .int 0, .int 0, .ref h3], rfl, ⟨rfl, rfl⟩, by rw [ht]; exact hP9, hD9⟩, hS.F ht⟩) hS.2.2 dX6_addStep_135

theorem iv314 (x : Int32) (h0 : ¬ x = 0) : ¬ x = 0 := by
  have e0 : (0 : Int32).toInt = 0 := by decide
  simp only [Int32.lt_iff_toInt_lt, Int32.le_iff_toInt_le, ← Int32.toInt_inj, e0] at *
  omega

theorem iv315 (x : Int32) (h0 : ¬ x = 1) : ¬ x = 1 := by
  have e0 : (1 : Int32).toInt = 1 := by decide
  simp only [Int32.lt_iff_toInt_lt, Int32.le_iff_toInt_le, ← Int32.toInt_inj, e0] at *
  omega

theorem iv316 (x : Int32) (h0 : ¬ x = 2) : ¬ x = 2 := by
  have e0 : (2 : Int32).toInt = 2 := by decide
  simp only [Int32.lt_iff_toInt_lt, Int32.le_iff_toInt_le, ← Int32.toInt_inj, e0] at *
  omega

theorem iv317 (x : Int32) (h0 : ¬ x = 3) : ¬ x = 3 := by
  have e0 : (3 : Int32).toInt = 3 := by decide
  simp only [Int32.lt_iff_toInt_lt, Int32.le_iff_toInt_le, ← Int32.toInt_inj, e0] at *
  omega

theorem iv318 (x : Int32) (h0 : ¬ x = 4) : ¬ x = 4 := by
  have e0 : (4 : Int32).toInt = 4 := by decide
  simp only [Int32.lt_iff_toInt_lt, Int32.le_iff_toInt_le, ← Int32.toInt_inj, e0] at *
  omega

theorem iv319 (x : Int32) (h0 : ¬ x = 5) : ¬ x = 5 := by
  have e0 : (5 : Int32).toInt = 5 := by decide
  simp only [Int32.lt_iff_toInt_lt, Int32.le_iff_toInt_le, ← Int32.toInt_inj, e0] at *
  omega

theorem iv320 (x : Int32) (h0 : ¬ x = 0) (h1 : ¬ x = 1) (h2 : ¬ x = 2) (h3 : ¬ x = 3) (h4 : ¬ x = 4) (h5 : ¬ x = 5) : x.toInt < 0 ∨ 5 < x.toInt := by
  have e0 : (0 : Int32).toInt = 0 := by decide
  have e1 : (1 : Int32).toInt = 1 := by decide
  have e2 : (2 : Int32).toInt = 2 := by decide
  have e3 : (3 : Int32).toInt = 3 := by decide
  have e4 : (4 : Int32).toInt = 4 := by decide
  have e5 : (5 : Int32).toInt = 5 := by decide
  simp only [Int32.lt_iff_toInt_lt, Int32.le_iff_toInt_le, ← Int32.toInt_inj, e0, e1, e2, e3, e4, e5] at *
  omega

set_option maxHeartbeats 4000000 in
set_option maxRecDepth 100000 in
theorem k_X5_isStep_6 (l : Launch) (D : va_G) (κ ε : Nat → Nat) (h0 : Nat) (p0 : Int32) (p1 : Int32) (hf0 : ¬ p0 = 0) (hf1 : ¬ p0 = 1) (hf2 : ¬ p0 = 2) (hf3 : ¬ p0 = 3) (hf4 : ¬ p0 = 4) (hf5 : ¬ p0 = 5) : Met l yX5_isStep wsX5_isStep ({ frames := 0, cells := 0, slots := 0, locals := 0 }) (va_Pc [.ref h0, .int p0, .int p1] (Pre0 D κ [])) (vp_Si (fun r => (r = 0))) 0 0 (fun _ => False) := by
  refine Met.ofW (cc := cX5_isStep) (maxL := 3) (ret := (some .boolean)) (by decide) rfl ?_
  intro p e s m args below meth c s₁ B hml hv
  obtain ⟨rfl, hP, hK⟩ := hv
  have hx := B.exec
  have hb := B.bytes
  have hr := B.returns
  have hts := atoms_spec (ws := wsX5_isStep) B.pre
  have hown : s.vm.findClass RX5 = some m.cls := findClass_of_methodNamed B.named
  have hlocks := B.notSynchronized
  have hP : va_P D vwCl [] s.heap := hP
  have hl := lv_entry [.ref h0, .int p0, .int p1] (n := 3) (Nat.le_of_ble_eq_true rfl)
  rw [lg_entry_eq]
  generalize (lg_sl [.ref h0, .int p0, .int p1] ++ List.replicate (3 - (lg_sl [.ref h0, .int p0, .int p1]).length) Slot.unset).toArray = ls at hl ⊢
  have hl : lv_has ls 3 [(0, .ref h0), (1, .int p0), (2, .int p1)] := hl
  refine lv_iload_n hx hb dX5_isStep_0 rfl (lv_at hl 1 rfl) ?_
  refine lv_tableOut (tgt := 90) hx hb dX5_isStep_1 (iv320 _ hf0 hf1 hf2 hf3 hf4 hf5) (by decide) ?_
  refine lv_iconst (v := 0) hx hb dX5_isStep_90 (by decide) ?_
  exact W.zret (v := 0) hx hb hr rfl (fun t ht hW => ⟨0, rfl, rfl, ht⟩) (fun q hq => absurd hq List.not_mem_nil) dX5_isStep_91

set_option maxHeartbeats 4000000 in
set_option maxRecDepth 100000 in
theorem k_X5_addStep_6 (l : Launch) (hst : l.stackTraces = false) (D : va_G) (κ ε : Nat → Nat) (h0 h1 h2 h3 h4 h5 h6 : Nat) (sz : Nat) (p0 : Int32) (p1 : Int32) (hf0 : ¬ p0 = 0) (hf1 : ¬ p0 = 1) (hf2 : ¬ p0 = 2) (hf3 : ¬ p0 = 3) (hf4 : ¬ p0 = 4) (hf5 : ¬ p0 = 5) : vx_Met l yX5_addStep wsX5_addStep ({ frames := 6, cells := 1, slots := 6, locals := 120 }) (va_Pc [.ref h0, .int p0, .int p1] (Pre2 D κ ε [(h0, .inr (7, [.ref h1, .ref h2, .ref h3, .ref h4, .ref h5, .ref h6, .int 0, .int 0, .int 0, .int 0]))] sz)) (va_Qi (fun r (u : Unit) => False) (fun _ _ => True) (va_A [(h0, .inr (7, [.ref h1, .ref h2, .ref h3, .ref h4, .ref h5, .ref h6, .int 0, .int 0, .int 0, .int 0]))] sz)) (vx_X (fun _ : Unit => True) (fun E _ _ => E = "java/lang/IllegalArgumentException") (va_A [(h0, .inr (7, [.ref h1, .ref h2, .ref h3, .ref h4, .ref h5, .ref h6, .int 0, .int 0, .int 0, .int 0]))] sz)) 1 6 (va_A [(h0, .inr (7, [.ref h1, .ref h2, .ref h3, .ref h4, .ref h5, .ref h6, .int 0, .int 0, .int 0, .int 0]))] sz) := by
  refine vx_ofW (cc := cX5_addStep) (maxL := 3) (ret := (some .int)) (by decide) rfl ?_
  intro p e s m args below meth c s₁ B hml hnx hv
  obtain ⟨rfl, hsz, hP, hK, hD0, hE9⟩ := hv
  have hx := B.exec
  have hb := B.bytes
  have hr := B.returns
  have hts := atoms_spec (ws := wsX5_addStep) B.pre
  have hown : s.vm.findClass RX5 = some m.cls := findClass_of_methodNamed B.named
  have hlocks := B.notSynchronized
  subst hsz
  have hD := hD0.self (sz := s.heap.size)
  generalize hAe : va_A [(h0, .inr (7, [.ref h1, .ref h2, .ref h3, .ref h4, .ref h5, .ref h6, .int 0, .int 0, .int 0, .int 0]))] s.heap.size = A at hD hE9 ⊢
  have hE := hE9.1
  have hDc := hE9.2
  have hA : ∀ q : Nat, s.heap.size ≤ q → A q := fun q h => by rw [← hAe]; exact Or.inr h
  have hS : va_S A s.heap s.heap [] := va_S.rf
  have hP : va_P D vwCl [(h0, .inr (7, [.ref h1, .ref h2, .ref h3, .ref h4, .ref h5, .ref h6, .int 0, .int 0, .int 0, .int 0]))] s.heap := hP
  have hl := lv_entry [.ref h0, .int p0, .int p1] (n := 3) (Nat.le_of_ble_eq_true rfl)
  rw [lg_entry_eq]
  generalize (lg_sl [.ref h0, .int p0, .int p1] ++ List.replicate (3 - (lg_sl [.ref h0, .int p0, .int p1]).length) Slot.unset).toArray = ls at hl ⊢
  have hl : lv_has ls 3 [(0, .ref h0), (1, .int p0), (2, .int p1)] := hl
  refine lv_aload_n hx hb dX5_addStep_0 rfl (lv_at hl 0 rfl) ?_
  refine lv_iload_n hx hb dX5_addStep_1 rfl (lv_at hl 1 rfl) ?_
  refine lv_iload_n hx hb dX5_addStep_2 rfl (lv_at hl 2 rfl) ?_
  refine vp_callSi (W.runV (As := [.int p0, .int p1]) (rest := []) ⟨hx, hb, hml, hown, hts⟩ (k_X5_isStep_6 l D κ ε h0 (p0) (p1) hf0 hf1 hf2 hf3 hf4 hf5) (cwV 2 hts gX5_addStep_X5_isStep rfl rfl rfl (by decide +kernel) ⟨(Nat.le_of_ble_eq_true rfl), (Nat.le_of_ble_eq_true rfl)⟩) (pre0_V (q0 := 0) (ci := 7) (wc := []) hP hK [] rfl rfl rfl) rfl rfl hl.1 rfl (lv_room (Nat.le_of_ble_eq_true rfl)) dX5_addStep_3 ⟨(Nat.le_of_ble_eq_true rfl), (Nat.le_of_ble_eq_true rfl)⟩) (fun r hw => ?_)
  rw [hw]
  refine lv_if_ne (tgt := 19) hx hb dX5_addStep_6 (by decide) (fun h => absurd (by decide) h) (fun _ => ?_)
  exact vx_throwS (names := ["java/lang/RuntimeException", "java/lang/Exception"]) (sa := ε 30) hx hb hst hown (by decide +kernel) (by decide +kernel) (hts _ wd384_X5_addStep) (hts _ wd385_X5_addStep) (hE.2.2.2.2.2.2.1 _ (List.mem_of_getElem? (i := 20) rfl)) (vx_hat (B := [.castable "java/lang/IllegalArgumentException" "java/lang/IllegalArgumentException", .declares (Bundle.initS "java/lang/RuntimeException"), .declares (Bundle.initS "java/lang/Exception"), .declares (Bundle.initS "java/lang/Throwable")]) (fun w hw => hts w (at1_X5_addStep_82 w hw)) at2_RX5_82 (vx_c (va_Nw.use rfl hE.2.2.2.2.2.2.2.2.2.2.2.2.2.2.1) (vx_c (va_Nw.use rfl hDc.1) (vx_c (va_Nw.use rfl hDc.2.1) (vx_c (va_Nw.use rfl hDc.2.2) vx_n))))) at2_RX5_82g hE.1 hE.2.1 hS (by rw [hml]; exact hl.1) dX5_addStep_9 dX5_addStep_12 dX5_addStep_13 dX5_addStep_15 dX5_addStep_18 (fun x hx => (hnx x hx).elim) (by decide) (by decide) (Nat.le_of_ble_eq_true rfl) (Nat.le_of_ble_eq_true rfl) hlocks (fun t _ h1 h2 => ⟨(), trivial, rfl, thF (H0 := s.heap) hS h1 h2⟩) hS.2.2 (Nat.le_of_ble_eq_true rfl) (Nat.le_of_ble_eq_true rfl)

set_option maxHeartbeats 4000000 in
set_option maxRecDepth 100000 in
theorem k_L_addStep_6 (l : Launch) (hst : l.stackTraces = false) (D : va_G) (κ ε : Nat → Nat) (h0 h1 h2 h3 h4 h5 h6 h7 : Nat) (sz : Nat) (p0 : Int32) (p1 : Int32) (hf0 : ¬ p0 = 0) (hf1 : ¬ p0 = 1) (hf2 : ¬ p0 = 2) (hf3 : ¬ p0 = 3) (hf4 : ¬ p0 = 4) (hf5 : ¬ p0 = 5) : Met l yL_addStep wsL_addStepx ({ frames := 7, cells := 1, slots := 6, locals := 142 }) (va_Pc [.ref h0, .int p0, .int p1, .ref h1] (Pre2 D κ ε [(h0, .inr (7, [.ref h2, .ref h3, .ref h4, .ref h5, .ref h6, .ref h7, .int 0, .int 0, .int 0, .int 0])), (h1, .inl (κ 2, 1, .inr (.inl (fun _ => 0))))] sz)) (va_Qi (fun r (u : Nat → Int64) => (r = 1)) (fun u t => va_P D vwCl [(h1, .inl (κ 2, 1, .inr (.inl u)))] t.heap ∧ va_D (va_A [(h0, .inr (7, [.ref h2, .ref h3, .ref h4, .ref h5, .ref h6, .ref h7, .int 0, .int 0, .int 0, .int 0])), (h1, .inl (κ 2, 1, .inr (.inl (fun _ => 0))))] sz) [(h1, .inl (κ 2, 1, .inr (.inl u)))]) (va_A [(h0, .inr (7, [.ref h2, .ref h3, .ref h4, .ref h5, .ref h6, .ref h7, .int 0, .int 0, .int 0, .int 0])), (h1, .inl (κ 2, 1, .inr (.inl (fun _ => 0))))] sz)) 1 6 (va_A [(h0, .inr (7, [.ref h2, .ref h3, .ref h4, .ref h5, .ref h6, .ref h7, .int 0, .int 0, .int 0, .int 0])), (h1, .inl (κ 2, 1, .inr (.inl (fun _ => 0))))] sz) := by
  refine va_MetW (cc := cL_addStep) (maxL := 5) (ret := (some .int)) (hh := [(0, 10, 13, 19), (0, 10, 17, 13)]) (by decide) rfl ?_
  intro p e s m args below meth c s₁ B hml hv
  obtain ⟨rfl, hsz, hP, hK, hD0, hE9⟩ := hv
  have hx := B.exec
  have hb := B.bytes
  have hr := B.returns
  have hts := atoms_spec (ws := wsL_addStepx) B.pre
  have hown : s.vm.findClass RL = some m.cls := findClass_of_methodNamed B.named
  have hlocks := B.notSynchronized
  have htab : c.exceptionTable.toList = tableOf [(0, 10, 13, 19), (0, 10, 17, 13)] := vx_table (x := yL_addStep) B (hts (.codeWith yL_addStep cL_addStep 5 (some .int) [(0, 10, 13, 19), (0, 10, 17, 13)]) List.mem_cons_self)
  subst hsz
  have hD := hD0.self (sz := s.heap.size)
  generalize hAe : va_A [(h0, .inr (7, [.ref h2, .ref h3, .ref h4, .ref h5, .ref h6, .ref h7, .int 0, .int 0, .int 0, .int 0])), (h1, .inl (κ 2, 1, .inr (.inl (fun _ => 0))))] s.heap.size = A at hD hE9 ⊢
  have hE := hE9.1
  have hDc := hE9.2
  have hA : ∀ q : Nat, s.heap.size ≤ q → A q := fun q h => by rw [← hAe]; exact Or.inr h
  have hS : va_S A s.heap s.heap [] := va_S.rf
  have hP : va_P D vwCl [(h0, .inr (7, [.ref h2, .ref h3, .ref h4, .ref h5, .ref h6, .ref h7, .int 0, .int 0, .int 0, .int 0])), (h1, .inl (κ 2, 1, .inr (.inl (fun _ => 0))))] s.heap := hP
  have hl := lv_entry [.ref h0, .int p0, .int p1, .ref h1] (n := 5) (Nat.le_of_ble_eq_true rfl)
  rw [lg_entry_eq]
  generalize (lg_sl [.ref h0, .int p0, .int p1, .ref h1] ++ List.replicate (5 - (lg_sl [.ref h0, .int p0, .int p1, .ref h1]).length) Slot.unset).toArray = ls at hl ⊢
  have hl : lv_has ls 5 [(0, .ref h0), (1, .int p0), (2, .int p1), (3, .ref h1)] := hl
  refine lv_aload_n hx hb dL_addStep_0 rfl (lv_at hl 3 rfl) ?_
  refine lv_iconst (v := 0) hx hb dL_addStep_1 (by decide) ?_
  refine lv_aload_n hx hb dL_addStep_2 rfl (lv_at hl 0 rfl) ?_
  refine lv_iload_n hx hb dL_addStep_3 rfl (lv_at hl 1 rfl) ?_
  refine lv_iload_n hx hb dL_addStep_4 rfl (lv_at hl 2 rfl) ?_
  have hF := va_free (wc := [(h0, .inr (7, [.ref h2, .ref h3, .ref h4, .ref h5, .ref h6, .ref h7, .int 0, .int 0, .int 0, .int 0]))]) hD hS hA [0] rfl
  refine vx_calli (vx_runV (As := [.int p0, .int p1]) (rest := [.int 0, .ref h1]) ⟨hx, hb, hml, hown, hts⟩ (k_X5_addStep_6 l hst D κ ε h0 h2 h3 h4 h5 h6 h7 s.heap.size (p0) (p1) hf0 hf1 hf2 hf3 hf4 hf5) (cwV 2 hts gL_addStep_X5_addStep_x rfl rfl rfl (by decide +kernel) ⟨(Nat.le_of_ble_eq_true rfl), (Nat.le_of_ble_eq_true rfl)⟩) (pre2_V (q0 := 0) (ci := 7) (wc := [(h0, .inr (7, [.ref h2, .ref h3, .ref h4, .ref h5, .ref h6, .ref h7, .int 0, .int 0, .int 0, .int 0]))]) hP hD hK hE9 hS hA [0] (by decide) rfl rfl rfl) rfl rfl hl.1 rfl (lv_room (Nat.le_of_ble_eq_true rfl)) dL_addStep_5 ⟨(Nat.le_of_ble_eq_true rfl), (Nat.le_of_ble_eq_true rfl)⟩) hS (fun q _ h => hF q h) hF (fun q _ h => hF q h) (fun E9 ce q9 u t H locs ht hvm hw hB hz1 hk1 hS hce hcv hcl => ?_) (fun r u t H locs ht hvm hw hB hz1 hk1 hS => ?_)
  · try dsimp only at hB
    have hP1 : va_P D vwCl [] H := P_nil
    obtain ⟨hP, hD⟩ := post_j (ws' := [(h1, .inl (κ 2, 1, .inr (.inl (fun _ => 0))))]) (wr := [(h1, .inl (κ 2, 1, .inr (.inl (fun _ => 0))))]) (w1 := []) hP hD hF [0] rfl [1] rfl (by decide) (by decide) hk1 hP1 D_nil [0] (by decide) rfl
    have hP : va_P D vwCl [(h1, .inl (κ 2, 1, .inr (.inl (fun _ => 0))))] H := hP
    have hD : va_D A [(h1, .inl (κ 2, 1, .inr (.inl (fun _ => 0))))] := hD
    obtain rfl := hB
    refine vx_catch (name := "java/lang/IllegalArgumentException") hown [] ⟨0, 10, 13, 19⟩ [⟨0, 10, 17, 13⟩] (htab.trans rfl) (fun z hz => nomatch hz) (by decide) (by decide) (hts _ wd386_L_addStep) (va_Nw.use rfl hE.2.2.2.2.2.2.2.2.2.2.2.2.2.2.1) hce hcv hcl ?_
    refine lv_astore (lv' := [(4, .ref q9), (0, .ref h0), (1, .int p0), (2, .int p1), (3, .ref h1)]) hx hb dL_addStep_13 hl (by decide) rfl (fun ls hl => ?_)
    refine lv_iconst (v := 1) hx hb dL_addStep_15 (by decide) ?_
    have hP9 := hP.sub (ws' := [(h1, .inl (κ 2, 1, .inr (.inl (fun _ => 0))))]) [0] rfl
    have hD9 := hD.sub (ws' := [(h1, .inl (κ 2, 1, .inr (.inl (fun _ => 0))))]) [0] (by decide) rfl
    refine W.widen (k := 1) (n := 6) (Nat.le_of_ble_eq_true rfl) (Nat.le_of_ble_eq_true rfl) ?_
    exact W.iret (v := 1) hx hb hr (fun t ht hW => ⟨⟨1, (fun _ => 0), rfl, rfl, by rw [ht]; exact hP9, hD9⟩, hS.F ht⟩) hS.2.2 dL_addStep_16
  · exact False.elim hw

theorem iv321 (x : Int32) (h0 : ¬ x = 0) (h1 : ¬ x = 1) (h2 : ¬ x = 2) (h3 : ¬ x = 3) (h4 : ¬ x = 4) (h5 : ¬ x = 5) (h6 : ¬ x < 0) : 5 < x := by
  have e0 : (0 : Int32).toInt = 0 := by decide
  have e1 : (1 : Int32).toInt = 1 := by decide
  have e2 : (2 : Int32).toInt = 2 := by decide
  have e3 : (3 : Int32).toInt = 3 := by decide
  have e4 : (4 : Int32).toInt = 4 := by decide
  have e5 : (5 : Int32).toInt = 5 := by decide
  simp only [Int32.lt_iff_toInt_lt, Int32.le_iff_toInt_le, ← Int32.toInt_inj, e0, e1, e2, e3, e4, e5] at *
  omega

set_option maxHeartbeats 4000000 in
set_option maxRecDepth 100000 in
theorem k_X6_isIn_49 (l : Launch) (D : va_G) (κ ε : Nat → Nat) (p0 : Int32) (hf0 : ¬ p0 = 0) (hf1 : ¬ p0 = 1) (hf2 : ¬ p0 = 2) (hf3 : ¬ p0 = 3) (hf4 : ¬ p0 = 4) (hf5 : ¬ p0 = 5) : Met l yX6_isIn wsX6_isIn ({ frames := 0, cells := 0, slots := 0, locals := 0 }) (va_Pc [.int p0, .int 0, .int 5] (Pre0 D κ [])) (vp_Si (fun r => ((p0 < 0) ∧ (r = 0)) ∨ ((¬ p0 < 0) ∧ (r = 0)))) 0 0 (fun _ => False) := by
  refine Met.ofW (cc := cX6_isIn) (maxL := 3) (ret := (some .boolean)) (by decide) rfl ?_
  intro p e s m args below meth c s₁ B hml hv
  obtain ⟨rfl, hP, hK⟩ := hv
  have hx := B.exec
  have hb := B.bytes
  have hr := B.returns
  have hts := atoms_spec (ws := wsX6_isIn) B.pre
  have hown : s.vm.findClass RX6 = some m.cls := findClass_of_methodNamed B.named
  have hlocks := B.notSynchronized
  have hP : va_P D vwCl [] s.heap := hP
  have hl := lv_entry [.int p0, .int 0, .int 5] (n := 3) (Nat.le_of_ble_eq_true rfl)
  rw [lg_entry_eq]
  generalize (lg_sl [.int p0, .int 0, .int 5] ++ List.replicate (3 - (lg_sl [.int p0, .int 0, .int 5]).length) Slot.unset).toArray = ls at hl ⊢
  have hl : lv_has ls 3 [(0, .int p0), (1, .int 0), (2, .int 5)] := hl
  refine lv_iload_n hx hb dX6_isIn_0 rfl (lv_at hl 0 rfl) ?_
  refine lv_iload_n hx hb dX6_isIn_1 rfl (lv_at hl 1 rfl) ?_
  refine lv_icmp_lt (tgt := 14) hx hb dX6_isIn_2 (by decide) (fun c1 => ?_) (fun c1 => ?_)
  · skip
    refine lv_iconst (v := 0) hx hb dX6_isIn_14 (by decide) ?_
    exact W.zret (v := 0) hx hb hr rfl (fun t ht hW => ⟨0, rfl, (Or.inl ⟨c1, rfl⟩), ht⟩) (fun q hq => absurd hq List.not_mem_nil) dX6_isIn_15
  · skip
    refine lv_iload_n hx hb dX6_isIn_5 rfl (lv_at hl 0 rfl) ?_
    refine lv_iload_n hx hb dX6_isIn_6 rfl (lv_at hl 2 rfl) ?_
    refine lv_icmp_gt (tgt := 14) hx hb dX6_isIn_7 (by decide) (fun _ => ?_) (fun h => absurd (iv321 _ hf0 hf1 hf2 hf3 hf4 hf5 c1) h)
    refine lv_iconst (v := 0) hx hb dX6_isIn_14 (by decide) ?_
    exact W.zret (v := 0) hx hb hr rfl (fun t ht hW => ⟨0, rfl, (Or.inr ⟨c1, rfl⟩), ht⟩) (fun q hq => absurd hq List.not_mem_nil) dX6_isIn_15

set_option maxHeartbeats 4000000 in
set_option maxRecDepth 100000 in
theorem k_X6_addStep_13 (l : Launch) (D : va_G) (κ ε : Nat → Nat) (h0 h1 h2 h3 : Nat) (sz : Nat) (p0 : Int32) (p1 : Int32) (hf0 : ¬ p0 = 0) (hf1 : ¬ p0 = 1) (hf2 : ¬ p0 = 2) (hf3 : ¬ p0 = 3) (hf4 : ¬ p0 = 4) (hf5 : ¬ p0 = 5) : Met l yX6_addStep wsX6_addStep ({ frames := 2, cells := 0, slots := 0, locals := 44 }) (va_Pc [.ref h0, .int p0, .int p1] (Pre2 D κ ε [(h0, .inr (8, [.int 0, .int 0, .int 2, .ref h1, .ref h2, .int 0, .int 500, .int 0, .int 0, .int 0, .ref h3]))] sz)) (va_Qi (fun r (u : List Value) => ((p0 < 0) ∧ (u[0]? = some (.int 1)) ∧ (r = 0)) ∨ ((¬ p0 < 0) ∧ (u[0]? = some (.int 1)) ∧ (r = 0))) (fun u t => va_P D vwCl [(h0, .inr (8, u))] t.heap ∧ va_D (va_A [(h0, .inr (8, [.int 0, .int 0, .int 2, .ref h1, .ref h2, .int 0, .int 500, .int 0, .int 0, .int 0, .ref h3]))] sz) [(h0, .inr (8, u))]) (va_A [(h0, .inr (8, [.int 0, .int 0, .int 2, .ref h1, .ref h2, .int 0, .int 500, .int 0, .int 0, .int 0, .ref h3]))] sz)) 0 0 (va_A [(h0, .inr (8, [.int 0, .int 0, .int 2, .ref h1, .ref h2, .int 0, .int 500, .int 0, .int 0, .int 0, .ref h3]))] sz) := by
  refine Met.ofW (cc := cX6_addStep) (maxL := 3) (ret := (some .int)) (by decide) rfl ?_
  intro p e s m args below meth c s₁ B hml hv
  obtain ⟨rfl, hsz, hP, hK, hD0, hE9⟩ := hv
  have hx := B.exec
  have hb := B.bytes
  have hr := B.returns
  have hts := atoms_spec (ws := wsX6_addStep) B.pre
  have hown : s.vm.findClass RX6 = some m.cls := findClass_of_methodNamed B.named
  have hlocks := B.notSynchronized
  subst hsz
  have hD := hD0.self (sz := s.heap.size)
  generalize hAe : va_A [(h0, .inr (8, [.int 0, .int 0, .int 2, .ref h1, .ref h2, .int 0, .int 500, .int 0, .int 0, .int 0, .ref h3]))] s.heap.size = A at hD hE9 ⊢
  have hE := hE9.1
  have hDc := hE9.2
  have hA : ∀ q : Nat, s.heap.size ≤ q → A q := fun q h => by rw [← hAe]; exact Or.inr h
  have hS : va_S A s.heap s.heap [] := va_S.rf
  have hP : va_P D vwCl [(h0, .inr (8, [.int 0, .int 0, .int 2, .ref h1, .ref h2, .int 0, .int 500, .int 0, .int 0, .int 0, .ref h3]))] s.heap := hP
  have hl := lv_entry [.ref h0, .int p0, .int p1] (n := 3) (Nat.le_of_ble_eq_true rfl)
  rw [lg_entry_eq]
  generalize (lg_sl [.ref h0, .int p0, .int p1] ++ List.replicate (3 - (lg_sl [.ref h0, .int p0, .int p1]).length) Slot.unset).toArray = ls at hl ⊢
  have hl : lv_has ls 3 [(0, .ref h0), (1, .int p0), (2, .int p1)] := hl
  refine lv_aload_n hx hb dX6_addStep_0 rfl (lv_at hl 0 rfl) ?_
  refine lv_iload_n hx hb dX6_addStep_1 rfl (lv_at hl 1 rfl) ?_
  refine lv_iconst (v := 0) hx hb dX6_addStep_2 (by decide) ?_
  refine lv_iconst (v := 5) hx hb dX6_addStep_3 (by decide) ?_
  refine vp_callSi (W.runS (As := [.int p0, .int 0, .int 5]) (rest := [.ref h0]) ⟨hx, hb, hml, hown, hts⟩ (k_X6_isIn_49 l D κ ε (p0) hf0 hf1 hf2 hf3 hf4 hf5) (va_cwS 3 hts gX6_addStep_X6_isIn rfl rfl rfl (by decide +kernel) ⟨(Nat.le_of_ble_eq_true rfl), (Nat.le_of_ble_eq_true rfl)⟩) (pre0_S (wc := []) hP hK [] rfl) rfl rfl hl.1 rfl (lv_room (Nat.le_of_ble_eq_true rfl)) dX6_addStep_4 ⟨(Nat.le_of_ble_eq_true rfl), (Nat.le_of_ble_eq_true rfl)⟩) (fun r hw => ?_)
  rcases hw with ⟨c1, rfl⟩ | ⟨c2, rfl⟩
  · skip
    refine lv_if_eq (tgt := 66) hx hb dX6_addStep_7 (by decide) (fun _ => ?_) (fun h => absurd (by decide) h)
    refine lv_iconst (v := 1) hx hb dX6_addStep_66 (by decide) ?_
    refine lv_goto (tgt := 71) hx hb dX6_addStep_67 (by decide) ?_
    refine lv_iconst (v := 1) hx hb dX6_addStep_71 (by decide) ?_
    have hF := va_free (wc := [(h0, .inr (8, [.int 0, .int 0, .int 2, .ref h1, .ref h2, .int 0, .int 500, .int 0, .int 0, .int 0, .ref h3]))]) hD hS hA [0] rfl
    refine va_calli (va_runV (As := [.int 1, .int 1]) (rest := []) ⟨hx, hb, hml, hown, hts⟩ (k_X6_start_1 l D κ ε h0 h1 h2 h3 s.heap.size (0) (2) (0) (500) (0) (0)) (cwV 2 hts gX6_addStep_X6_start rfl rfl rfl (by decide +kernel) ⟨(Nat.le_of_ble_eq_true rfl), (Nat.le_of_ble_eq_true rfl)⟩) (pre2_V (q0 := 0) (ci := 8) (wc := [(h0, .inr (8, [.int 0, .int 0, .int 2, .ref h1, .ref h2, .int 0, .int 500, .int 0, .int 0, .int 0, .ref h3]))]) hP hD hK hE9 hS hA [0] (by decide) rfl rfl rfl) rfl rfl hl.1 rfl (lv_room (Nat.le_of_ble_eq_true rfl)) dX6_addStep_72 ⟨(Nat.le_of_ble_eq_true rfl), (Nat.le_of_ble_eq_true rfl)⟩) hS (fun q _ h => hF q h) hF (fun r u3 t H locs ht hvm hw hB hz1 hk1 hS => ?_)
    try dsimp only at hw hB
    obtain ⟨hP1, hD1⟩ := hB
    rw [ht] at hP1
    obtain ⟨hP, hD⟩ := post_j (ws' := [(h0, .inr (8, [.int 1, .int 0, .int 2, .ref h1, .ref h2, .int 0, .int 500, .int 0, .int 0, .int 0, .ref h3]))]) (wr := []) (w1 := [(h0, .inr (8, [.int 1, .int 0, .int 2, .ref h1, .ref h2, .int 0, .int 500, .int 0, .int 0, .int 0, .ref h3]))]) hP hD hF [0] rfl [] rfl (by decide) (by decide) hk1 hP1 hD1 [0] (by decide) rfl
    have hP : va_P D vwCl [(h0, .inr (8, [.int 1, .int 0, .int 2, .ref h1, .ref h2, .int 0, .int 500, .int 0, .int 0, .int 0, .ref h3]))] H := hP
    have hD : va_D A [(h0, .inr (8, [.int 1, .int 0, .int 2, .ref h1, .ref h2, .int 0, .int 500, .int 0, .int 0, .int 0, .ref h3]))] := hD
    rw [hw]
    refine lv_if_eq (tgt := 80) hx hb dX6_addStep_75 (by decide) (fun h => absurd h (by decide)) (fun _ => ?_)
    refine lv_iconst (v := 0) hx hb dX6_addStep_78 (by decide) ?_
    have hP9 := hP.sub (ws' := [(h0, .inr (8, [.int 1, .int 0, .int 2, .ref h1, .ref h2, .int 0, .int 500, .int 0, .int 0, .int 0, .ref h3]))]) [0] rfl
    have hD9 := hD.sub (ws' := [(h0, .inr (8, [.int 1, .int 0, .int 2, .ref h1, .ref h2, .int 0, .int 500, .int 0, .int 0, .int 0, .ref h3]))]) [0] (by decide) rfl
    exact W.iret (v := 0) hx hb hr (fun t ht hW => ⟨⟨0, [.int 1, .int 0, .int 2, .ref h1, .ref h2, .int 0, .int 500, .int 0, .int 0, .int 0, .ref h3], rfl, (Or.inl ⟨c1, rfl, rfl⟩), by rw [ht]; exact hP9, hD9⟩, hS.F ht⟩) hS.2.2 dX6_addStep_79
  · skip
    refine lv_if_eq (tgt := 66) hx hb dX6_addStep_7 (by decide) (fun _ => ?_) (fun h => absurd (by decide) h)
    refine lv_iconst (v := 1) hx hb dX6_addStep_66 (by decide) ?_
    refine lv_goto (tgt := 71) hx hb dX6_addStep_67 (by decide) ?_
    refine lv_iconst (v := 1) hx hb dX6_addStep_71 (by decide) ?_
    have hF := va_free (wc := [(h0, .inr (8, [.int 0, .int 0, .int 2, .ref h1, .ref h2, .int 0, .int 500, .int 0, .int 0, .int 0, .ref h3]))]) hD hS hA [0] rfl
    refine va_calli (va_runV (As := [.int 1, .int 1]) (rest := []) ⟨hx, hb, hml, hown, hts⟩ (k_X6_start_1 l D κ ε h0 h1 h2 h3 s.heap.size (0) (2) (0) (500) (0) (0)) (cwV 2 hts gX6_addStep_X6_start rfl rfl rfl (by decide +kernel) ⟨(Nat.le_of_ble_eq_true rfl), (Nat.le_of_ble_eq_true rfl)⟩) (pre2_V (q0 := 0) (ci := 8) (wc := [(h0, .inr (8, [.int 0, .int 0, .int 2, .ref h1, .ref h2, .int 0, .int 500, .int 0, .int 0, .int 0, .ref h3]))]) hP hD hK hE9 hS hA [0] (by decide) rfl rfl rfl) rfl rfl hl.1 rfl (lv_room (Nat.le_of_ble_eq_true rfl)) dX6_addStep_72 ⟨(Nat.le_of_ble_eq_true rfl), (Nat.le_of_ble_eq_true rfl)⟩) hS (fun q _ h => hF q h) hF (fun r u4 t H locs ht hvm hw hB hz1 hk1 hS => ?_)
    try dsimp only at hw hB
    obtain ⟨hP1, hD1⟩ := hB
    rw [ht] at hP1
    obtain ⟨hP, hD⟩ := post_j (ws' := [(h0, .inr (8, [.int 1, .int 0, .int 2, .ref h1, .ref h2, .int 0, .int 500, .int 0, .int 0, .int 0, .ref h3]))]) (wr := []) (w1 := [(h0, .inr (8, [.int 1, .int 0, .int 2, .ref h1, .ref h2, .int 0, .int 500, .int 0, .int 0, .int 0, .ref h3]))]) hP hD hF [0] rfl [] rfl (by decide) (by decide) hk1 hP1 hD1 [0] (by decide) rfl
    have hP : va_P D vwCl [(h0, .inr (8, [.int 1, .int 0, .int 2, .ref h1, .ref h2, .int 0, .int 500, .int 0, .int 0, .int 0, .ref h3]))] H := hP
    have hD : va_D A [(h0, .inr (8, [.int 1, .int 0, .int 2, .ref h1, .ref h2, .int 0, .int 500, .int 0, .int 0, .int 0, .ref h3]))] := hD
    rw [hw]
    refine lv_if_eq (tgt := 80) hx hb dX6_addStep_75 (by decide) (fun h => absurd h (by decide)) (fun _ => ?_)
    refine lv_iconst (v := 0) hx hb dX6_addStep_78 (by decide) ?_
    have hP9 := hP.sub (ws' := [(h0, .inr (8, [.int 1, .int 0, .int 2, .ref h1, .ref h2, .int 0, .int 500, .int 0, .int 0, .int 0, .ref h3]))]) [0] rfl
    have hD9 := hD.sub (ws' := [(h0, .inr (8, [.int 1, .int 0, .int 2, .ref h1, .ref h2, .int 0, .int 500, .int 0, .int 0, .int 0, .ref h3]))]) [0] (by decide) rfl
    exact W.iret (v := 0) hx hb hr (fun t ht hW => ⟨⟨0, [.int 1, .int 0, .int 2, .ref h1, .ref h2, .int 0, .int 500, .int 0, .int 0, .int 0, .ref h3], rfl, (Or.inr ⟨c2, rfl, rfl⟩), by rw [ht]; exact hP9, hD9⟩, hS.F ht⟩) hS.2.2 dX6_addStep_79

theorem gL_law_L_addStep_y : GoodIn wsL_law (va_wsS RL 178 yL_addStep wsL_addStepx) := (show GoodIn wsL_law ((va_wsS RL 178 yL_addStep wsL_addStep) ++ [.classLink RL 13 "java/lang/IllegalStateException"]) from goodIn_app gL_law_L_addStep (goodIn_of (big := wsL_law) [.classLink RL 13 "java/lang/IllegalStateException"] (by decide +kernel)))

set_option maxHeartbeats 4000000 in
set_option maxRecDepth 100000 in
theorem case_24 {p : Program} {e : Env} {s : State} {m : MethodId} {below : List Frame} {meth : Method} {c : Code} (l : Launch) (hst : l.stackTraces = false) {b : Nat} {xs : Nat → Int32} (C0 : lw_At p s m meth c b 4 xs) (D : va_G) (κ ε : Nat → Nat) (hK : va_K D vwCl (tys κ) s) (hE9 : En2 ε (fun q : Nat => s.heap.size ≤ q) s s.heap) (qx qm qo : Nat) (ux um : Nat → Nat) {H : Heap} {locs : List Loc} (hP : va_P D vwCl [(qx, .inr (7, [.ref (ux 0), .ref (ux 27), .ref (ux 30), .ref (ux 31), .ref (ux 35), .ref (ux 36), .int 0, .int 0, .int 0, .int 0])), ((ux 0), .inr (2, [.int 0, .int 2, .ref (ux 1), .ref (ux 2)])), ((ux 31), .inr (4, [.ref (ux 32), .ref (ux 33), .ref (ux 34), .int 0])), ((ux 32), .inl (κ 0, 12, .inl (fun _ => 0))), ((ux 33), .inl (κ 0, 12, .inl (fun _ => 0))), (qm, .inr (8, [.int 0, .int 0, .int 2, .ref (um 0), .ref (um 1), .int 0, .int 500, .int 0, .int 0, .int 0, .ref (um 6)])), ((um 6), .inr (1, [.int 0, .ref (ε 1), .int 0])), (qo, .inl (κ 2, 1, .inr (.inl (fun _ => 0))))] H) (hD : va_D (fun q : Nat => s.heap.size ≤ q) [(qx, .inr (7, [.ref (ux 0), .ref (ux 27), .ref (ux 30), .ref (ux 31), .ref (ux 35), .ref (ux 36), .int 0, .int 0, .int 0, .int 0])), ((ux 0), .inr (2, [.int 0, .int 2, .ref (ux 1), .ref (ux 2)])), ((ux 31), .inr (4, [.ref (ux 32), .ref (ux 33), .ref (ux 34), .int 0])), ((ux 32), .inl (κ 0, 12, .inl (fun _ => 0))), ((ux 33), .inl (κ 0, 12, .inl (fun _ => 0))), (qm, .inr (8, [.int 0, .int 0, .int 2, .ref (um 0), .ref (um 1), .int 0, .int 500, .int 0, .int 0, .int 0, .ref (um 6)])), ((um 6), .inr (1, [.int 0, .ref (ε 1), .int 0])), (qo, .inl (κ 2, 1, .inr (.inl (fun _ => 0))))]) (hS : va_S (fun q : Nat => s.heap.size ≤ q) s.heap H locs) {ls : Array Slot} (hl : lv_has ls 9 [(0, .ref b), (1, .ref qx), (2, .ref qm), (3, .ref qo), (4, .int 0)]) : W p l e room_1 s m #[Value.ref b] below meth c H locs 100 120000 (lw_Z below #[Value.ref b] s) (F0 m 1331 ls []) := by
  obtain ⟨hx, hb, hr, hml, hown0, hts0, hX, hbl, hlocks, hgv⟩ := id C0
  have hts : ∀ w ∈ wsL_law, w.before #[Value.ref b] s = true := fun w h => hts0 w (wsL_law_in w h)
  have hown : s.vm.findClass RL = some m.cls := hown0
  have hE := hE9.1
  have hDc := hE9.2
  have hA : ∀ q : Nat, s.heap.size ≤ q → (fun q : Nat => s.heap.size ≤ q) q := fun _ h => h
  have hbA : ¬ (fun q : Nat => s.heap.size ≤ q) b := Nat.not_le.mpr hbl
  by_cases e1 : (xs 1) = 0
  · skip
    refine lv_aload_n hx hb dL_law_1331 rfl (lv_at hl 1 rfl) ?_
    refine lv_aload_n hx hb dL_law_1332 rfl (lv_at hl 0 rfl) ?_
    refine lv_iload hx hb dL_law_1333 (lv_at hl 4 rfl) ?_
    refine lv_iconst (v := 1) hx hb dL_law_1335 (by decide) ?_
    refine lv_iadd hx hb dL_law_1336 ?_
    refine tpi (v := 1) (by decide) ?_
    refine va_sld hx hb hX hbl hbA hS (vpl (by decide)) dL_law_1337 ?_
    refine tpi (v := (xs 1)) rfl ?_
    refine tpi (v := 0) e1 ?_
    refine lv_aload_n hx hb dL_law_1338 rfl (lv_at hl 0 rfl) ?_
    refine lv_iload hx hb dL_law_1339 (lv_at hl 4 rfl) ?_
    refine lv_iconst (v := 2) hx hb dL_law_1341 (by decide) ?_
    refine lv_iadd hx hb dL_law_1342 ?_
    refine tpi (v := 2) (by decide) ?_
    refine va_sld hx hb hX hbl hbA hS (vpl (by decide)) dL_law_1343 ?_
    refine tpi (v := (xs 2)) rfl ?_
    refine lv_aload_n hx hb dL_law_1344 rfl (lv_at hl 3 rfl) ?_
    have hF := va_free (wc := [(qx, .inr (7, [.ref (ux 0), .ref (ux 27), .ref (ux 30), .ref (ux 31), .ref (ux 35), .ref (ux 36), .int 0, .int 0, .int 0, .int 0])), (qo, .inl (κ 2, 1, .inr (.inl (fun _ => 0)))), ((ux 31), .inr (4, [.ref (ux 32), .ref (ux 33), .ref (ux 34), .int 0])), ((ux 32), .inl (κ 0, 12, .inl (fun _ => 0))), ((ux 33), .inl (κ 0, 12, .inl (fun _ => 0)))]) hD hS hA [0, 7, 2, 3, 4] rfl
    refine va_calli (vx_runSW (As := [.ref qx, .int 0, .int (xs 2), .ref qo]) (rest := []) ⟨hx, hb, hml, hown, hts⟩ (k_L_addStep_0 l hst D κ ε qx qo (ux 0) (ux 27) (ux 30) (ux 31) (ux 35) (ux 36) (ux 32) (ux 33) (ux 34) H.size ((xs 2))) (vx_cwSW 4 hts gL_law_L_addStep_y rfl rfl rfl (by decide +kernel) ⟨(Nat.le_of_ble_eq_true rfl), (Nat.le_of_ble_eq_true rfl)⟩) (pre2_S (wc := [(qx, .inr (7, [.ref (ux 0), .ref (ux 27), .ref (ux 30), .ref (ux 31), .ref (ux 35), .ref (ux 36), .int 0, .int 0, .int 0, .int 0])), (qo, .inl (κ 2, 1, .inr (.inl (fun _ => 0)))), ((ux 31), .inr (4, [.ref (ux 32), .ref (ux 33), .ref (ux 34), .int 0])), ((ux 32), .inl (κ 0, 12, .inl (fun _ => 0))), ((ux 33), .inl (κ 0, 12, .inl (fun _ => 0)))]) hP hD hK hE9 hS hA [0, 7, 2, 3, 4] (by decide) rfl) rfl rfl hl.1 rfl (lv_room (Nat.le_of_ble_eq_true rfl)) dL_law_1345 ⟨(Nat.le_of_ble_eq_true rfl), (Nat.le_of_ble_eq_true rfl)⟩) hS (fun q _ h => hF q h) hF (fun r u2 t H locs ht hvm hw hB hz1 hk1 hS => ?_)
    try dsimp only at hw hB
    obtain ⟨hP1, hD1⟩ := hB
    rw [ht] at hP1
    obtain ⟨hP, hD⟩ := post_j (ws' := [((ux 0), .inr (2, [.int 0, .int 2, .ref (ux 1), .ref (ux 2)])), (qm, .inr (8, [.int 0, .int 0, .int 2, .ref (um 0), .ref (um 1), .int 0, .int 500, .int 0, .int 0, .int 0, .ref (um 6)])), ((um 6), .inr (1, [.int 0, .ref (ε 1), .int 0])), (qo, .inl (κ 2, 1, .inr (.inl u2)))]) (wr := [((ux 0), .inr (2, [.int 0, .int 2, .ref (ux 1), .ref (ux 2)])), (qm, .inr (8, [.int 0, .int 0, .int 2, .ref (um 0), .ref (um 1), .int 0, .int 500, .int 0, .int 0, .int 0, .ref (um 6)])), ((um 6), .inr (1, [.int 0, .ref (ε 1), .int 0]))]) (w1 := [(qo, .inl (κ 2, 1, .inr (.inl u2)))]) hP hD hF [0, 7, 2, 3, 4] rfl [1, 5, 6] rfl (by decide) (by decide) hk1 hP1 hD1 [0, 1, 2, 3] (by decide) rfl
    have hP : va_P D vwCl [((ux 0), .inr (2, [.int 0, .int 2, .ref (ux 1), .ref (ux 2)])), (qm, .inr (8, [.int 0, .int 0, .int 2, .ref (um 0), .ref (um 1), .int 0, .int 500, .int 0, .int 0, .int 0, .ref (um 6)])), ((um 6), .inr (1, [.int 0, .ref (ε 1), .int 0])), (qo, .inl (κ 2, 1, .inr (.inl u2)))] H := hP
    have hD : va_D (fun q : Nat => s.heap.size ≤ q) [((ux 0), .inr (2, [.int 0, .int 2, .ref (ux 1), .ref (ux 2)])), (qm, .inr (8, [.int 0, .int 0, .int 2, .ref (um 0), .ref (um 1), .int 0, .int 500, .int 0, .int 0, .int 0, .ref (um 6)])), ((um 6), .inr (1, [.int 0, .ref (ε 1), .int 0])), (qo, .inl (κ 2, 1, .inr (.inl u2)))] := hD
    obtain ⟨hu3, rfl⟩ := hw
    refine lv_istore (lv' := [(5, .int 0), (0, .ref b), (1, .ref qx), (2, .ref qm), (3, .ref qo), (4, .int 0)]) hx hb dL_law_1348 hl (by decide) rfl (fun ls hl => ?_)
    refine lv_aload_n hx hb dL_law_1350 rfl (lv_at hl 3 rfl) ?_
    refine lv_aload_n hx hb dL_law_1351 rfl (lv_at hl 1 rfl) ?_
    refine lv_iload hx hb dL_law_1352 (lv_at hl 5 rfl) ?_
    refine lv_iconst (v := 1) hx hb dL_law_1354 (by decide) ?_
    refine lv_iadd hx hb dL_law_1355 ?_
    refine tpi (v := 1) (by decide) ?_
    refine va_sld hx hb hX hbl hbA hS (vpl (by decide)) dL_law_1356 ?_
    refine tpi (v := (xs 1)) rfl ?_
    refine tpi (v := 0) e1 ?_
    refine lv_aload_n hx hb dL_law_1357 rfl (lv_at hl 1 rfl) ?_
    refine lv_iload hx hb dL_law_1358 (lv_at hl 5 rfl) ?_
    refine lv_iconst (v := 2) hx hb dL_law_1360 (by decide) ?_
    refine lv_iadd hx hb dL_law_1361 ?_
    refine tpi (v := 2) (by decide) ?_
    refine va_sld hx hb hX hbl hbA hS (vpl (by decide)) dL_law_1362 ?_
    refine tpi (v := (xs 2)) rfl ?_
    have hF := va_free (wc := [(qm, .inr (8, [.int 0, .int 0, .int 2, .ref (um 0), .ref (um 1), .int 0, .int 500, .int 0, .int 0, .int 0, .ref (um 6)])), ((um 6), .inr (1, [.int 0, .ref (ε 1), .int 0]))]) hD hS hA [1, 2] rfl
    refine va_calli (va_runV (As := [.int 0, .int (xs 2)]) (rest := []) ⟨hx, hb, hml, hown, hts⟩ (k_X6_addStep_0 l D κ ε qm (um 0) (um 1) (um 6) H.size ((xs 2))) (cwV 2 hts gL_law_X6_addStep rfl rfl rfl (by decide +kernel) ⟨(Nat.le_of_ble_eq_true rfl), (Nat.le_of_ble_eq_true rfl)⟩) (pre2_V (q0 := 1) (ci := 8) (wc := [(qm, .inr (8, [.int 0, .int 0, .int 2, .ref (um 0), .ref (um 1), .int 0, .int 500, .int 0, .int 0, .int 0, .ref (um 6)])), ((um 6), .inr (1, [.int 0, .ref (ε 1), .int 0]))]) hP hD hK hE9 hS hA [1, 2] (by decide) rfl rfl rfl) rfl rfl hl.1 rfl (lv_room (Nat.le_of_ble_eq_true rfl)) dL_law_1363 ⟨(Nat.le_of_ble_eq_true rfl), (Nat.le_of_ble_eq_true rfl)⟩) hS (fun q _ h => hF q h) hF (fun r u4 t H locs ht hvm hw hB hz1 hk1 hS => ?_)
    try dsimp only at hw hB
    obtain ⟨hP1, hD1⟩ := hB
    rw [ht] at hP1
    obtain ⟨hP, hD⟩ := post_j (ws' := [((ux 0), .inr (2, [.int 0, .int 2, .ref (ux 1), .ref (ux 2)])), (qm, .inr (8, u4)), (qo, .inl (κ 2, 1, .inr (.inl u2)))]) (wr := [((ux 0), .inr (2, [.int 0, .int 2, .ref (ux 1), .ref (ux 2)])), (qo, .inl (κ 2, 1, .inr (.inl u2)))]) (w1 := [(qm, .inr (8, u4))]) hP hD hF [1, 2] rfl [0, 3] rfl (by decide) (by decide) hk1 hP1 hD1 [0, 2, 1] (by decide) rfl
    have hP : va_P D vwCl [((ux 0), .inr (2, [.int 0, .int 2, .ref (ux 1), .ref (ux 2)])), (qm, .inr (8, u4)), (qo, .inl (κ 2, 1, .inr (.inl u2)))] H := hP
    have hD : va_D (fun q : Nat => s.heap.size ≤ q) [((ux 0), .inr (2, [.int 0, .int 2, .ref (ux 1), .ref (ux 2)])), (qm, .inr (8, u4)), (qo, .inl (κ 2, 1, .inr (.inl u2)))] := hD
    obtain ⟨hu5, rfl⟩ := hw
    refine lv_istore (lv' := [(6, .int 0), (5, .int 0), (0, .ref b), (1, .ref qx), (2, .ref qm), (3, .ref qo), (4, .int 0)]) hx hb dL_law_1366 hl (by decide) rfl (fun ls hl => ?_)
    refine lv_aload_n hx hb dL_law_1368 rfl (lv_at hl 4 rfl) ?_
    refine vp_callSi (W.runV (As := []) (rest := []) ⟨hx, hb, hml, hown, hts⟩ (k_thrown l D κ qm u4 (0) hu5) (cwV 0 hts gL_law_X6_thrown rfl rfl rfl (by decide +kernel) ⟨(Nat.le_of_ble_eq_true rfl), (Nat.le_of_ble_eq_true rfl)⟩) (pre0_V (q0 := 1) (ci := 8) (wc := [(qm, .inr (8, u4))]) hP hK [1] rfl rfl rfl) rfl rfl hl.1 rfl (lv_room (Nat.le_of_ble_eq_true rfl)) dL_law_1369 ⟨(Nat.le_of_ble_eq_true rfl), (Nat.le_of_ble_eq_true rfl)⟩) (fun r hw => ?_)
    subst hw
    refine lv_iload hx hb dL_law_1372 (lv_at hl 1 rfl) ?_
    refine lv_icmp_eq (tgt := 1379) hx hb dL_law_1374 (by decide) (fun _ => ?_) (fun h => absurd (by decide) h)
    refine lv_iload hx hb dL_law_1379 (lv_at hl 1 rfl) ?_
    refine lv_if_ne (tgt := 1396) hx hb dL_law_1381 (by decide) (fun h => absurd (by decide) h) (fun _ => ?_)
    refine lv_aload_n hx hb dL_law_1384 rfl (lv_at hl 5 rfl) ?_
    refine lv_iconst (v := 0) hx hb dL_law_1385 (by decide) ?_
    refine va_lald (cA := κ 2) (n := 1) (f := u2) hx hb hK hP 2 2 rfl rfl (vpl (by decide)) dL_law_1386 ?_
    refine tpl (v := 0) hu3 ?_
    refine lv_iload hx hb dL_law_1387 (lv_at hl 0 rfl) ?_
    refine lv_i2l (v := 0) hx hb dL_law_1389 (by decide) ?_
    refine W.lcmp hx hb dL_law_1390 ?_
    refine tpi (v := 0) (by decide) ?_
    refine lv_if_eq (tgt := 1396) hx hb dL_law_1391 (by decide) (fun _ => ?_) (fun h => absurd (by decide) h)
    refine lv_goto (tgt := 1677) hx hb dL_law_1396 (by decide) ?_
    exact law_end C0 (Nat.le_of_ble_eq_true rfl) (Nat.le_of_ble_eq_true rfl) hS (lv_sub hl [2, 6] rfl)
  · skip
    by_cases e6 : (xs 1) = 1
    · skip
      refine lv_aload_n hx hb dL_law_1331 rfl (lv_at hl 1 rfl) ?_
      refine lv_aload_n hx hb dL_law_1332 rfl (lv_at hl 0 rfl) ?_
      refine lv_iload hx hb dL_law_1333 (lv_at hl 4 rfl) ?_
      refine lv_iconst (v := 1) hx hb dL_law_1335 (by decide) ?_
      refine lv_iadd hx hb dL_law_1336 ?_
      refine tpi (v := 1) (by decide) ?_
      refine va_sld hx hb hX hbl hbA hS (vpl (by decide)) dL_law_1337 ?_
      refine tpi (v := (xs 1)) rfl ?_
      refine tpi (v := 1) e6 ?_
      refine lv_aload_n hx hb dL_law_1338 rfl (lv_at hl 0 rfl) ?_
      refine lv_iload hx hb dL_law_1339 (lv_at hl 4 rfl) ?_
      refine lv_iconst (v := 2) hx hb dL_law_1341 (by decide) ?_
      refine lv_iadd hx hb dL_law_1342 ?_
      refine tpi (v := 2) (by decide) ?_
      refine va_sld hx hb hX hbl hbA hS (vpl (by decide)) dL_law_1343 ?_
      refine tpi (v := (xs 2)) rfl ?_
      refine lv_aload_n hx hb dL_law_1344 rfl (lv_at hl 3 rfl) ?_
      have hF := va_free (wc := [(qx, .inr (7, [.ref (ux 0), .ref (ux 27), .ref (ux 30), .ref (ux 31), .ref (ux 35), .ref (ux 36), .int 0, .int 0, .int 0, .int 0])), (qo, .inl (κ 2, 1, .inr (.inl (fun _ => 0)))), ((ux 31), .inr (4, [.ref (ux 32), .ref (ux 33), .ref (ux 34), .int 0])), ((ux 32), .inl (κ 0, 12, .inl (fun _ => 0))), ((ux 33), .inl (κ 0, 12, .inl (fun _ => 0)))]) hD hS hA [0, 7, 2, 3, 4] rfl
      refine va_calli (vx_runSW (As := [.ref qx, .int 1, .int (xs 2), .ref qo]) (rest := []) ⟨hx, hb, hml, hown, hts⟩ (k_L_addStep_1 l hst D κ ε qx qo (ux 0) (ux 27) (ux 30) (ux 31) (ux 35) (ux 36) (ux 32) (ux 33) (ux 34) H.size ((xs 2))) (vx_cwSW 4 hts gL_law_L_addStep_y rfl rfl rfl (by decide +kernel) ⟨(Nat.le_of_ble_eq_true rfl), (Nat.le_of_ble_eq_true rfl)⟩) (pre2_S (wc := [(qx, .inr (7, [.ref (ux 0), .ref (ux 27), .ref (ux 30), .ref (ux 31), .ref (ux 35), .ref (ux 36), .int 0, .int 0, .int 0, .int 0])), (qo, .inl (κ 2, 1, .inr (.inl (fun _ => 0)))), ((ux 31), .inr (4, [.ref (ux 32), .ref (ux 33), .ref (ux 34), .int 0])), ((ux 32), .inl (κ 0, 12, .inl (fun _ => 0))), ((ux 33), .inl (κ 0, 12, .inl (fun _ => 0)))]) hP hD hK hE9 hS hA [0, 7, 2, 3, 4] (by decide) rfl) rfl rfl hl.1 rfl (lv_room (Nat.le_of_ble_eq_true rfl)) dL_law_1345 ⟨(Nat.le_of_ble_eq_true rfl), (Nat.le_of_ble_eq_true rfl)⟩) hS (fun q _ h => hF q h) hF (fun r u7 t H locs ht hvm hw hB hz1 hk1 hS => ?_)
      try dsimp only at hw hB
      obtain ⟨hP1, hD1⟩ := hB
      rw [ht] at hP1
      obtain ⟨hP, hD⟩ := post_j (ws' := [((ux 0), .inr (2, [.int 0, .int 2, .ref (ux 1), .ref (ux 2)])), (qm, .inr (8, [.int 0, .int 0, .int 2, .ref (um 0), .ref (um 1), .int 0, .int 500, .int 0, .int 0, .int 0, .ref (um 6)])), ((um 6), .inr (1, [.int 0, .ref (ε 1), .int 0])), (qo, .inl (κ 2, 1, .inr (.inl u7)))]) (wr := [((ux 0), .inr (2, [.int 0, .int 2, .ref (ux 1), .ref (ux 2)])), (qm, .inr (8, [.int 0, .int 0, .int 2, .ref (um 0), .ref (um 1), .int 0, .int 500, .int 0, .int 0, .int 0, .ref (um 6)])), ((um 6), .inr (1, [.int 0, .ref (ε 1), .int 0]))]) (w1 := [(qo, .inl (κ 2, 1, .inr (.inl u7)))]) hP hD hF [0, 7, 2, 3, 4] rfl [1, 5, 6] rfl (by decide) (by decide) hk1 hP1 hD1 [0, 1, 2, 3] (by decide) rfl
      have hP : va_P D vwCl [((ux 0), .inr (2, [.int 0, .int 2, .ref (ux 1), .ref (ux 2)])), (qm, .inr (8, [.int 0, .int 0, .int 2, .ref (um 0), .ref (um 1), .int 0, .int 500, .int 0, .int 0, .int 0, .ref (um 6)])), ((um 6), .inr (1, [.int 0, .ref (ε 1), .int 0])), (qo, .inl (κ 2, 1, .inr (.inl u7)))] H := hP
      have hD : va_D (fun q : Nat => s.heap.size ≤ q) [((ux 0), .inr (2, [.int 0, .int 2, .ref (ux 1), .ref (ux 2)])), (qm, .inr (8, [.int 0, .int 0, .int 2, .ref (um 0), .ref (um 1), .int 0, .int 500, .int 0, .int 0, .int 0, .ref (um 6)])), ((um 6), .inr (1, [.int 0, .ref (ε 1), .int 0])), (qo, .inl (κ 2, 1, .inr (.inl u7)))] := hD
      obtain ⟨hu8, rfl⟩ := hw
      refine lv_istore (lv' := [(5, .int 0), (0, .ref b), (1, .ref qx), (2, .ref qm), (3, .ref qo), (4, .int 0)]) hx hb dL_law_1348 hl (by decide) rfl (fun ls hl => ?_)
      refine lv_aload_n hx hb dL_law_1350 rfl (lv_at hl 3 rfl) ?_
      refine lv_aload_n hx hb dL_law_1351 rfl (lv_at hl 1 rfl) ?_
      refine lv_iload hx hb dL_law_1352 (lv_at hl 5 rfl) ?_
      refine lv_iconst (v := 1) hx hb dL_law_1354 (by decide) ?_
      refine lv_iadd hx hb dL_law_1355 ?_
      refine tpi (v := 1) (by decide) ?_
      refine va_sld hx hb hX hbl hbA hS (vpl (by decide)) dL_law_1356 ?_
      refine tpi (v := (xs 1)) rfl ?_
      refine tpi (v := 1) e6 ?_
      refine lv_aload_n hx hb dL_law_1357 rfl (lv_at hl 1 rfl) ?_
      refine lv_iload hx hb dL_law_1358 (lv_at hl 5 rfl) ?_
      refine lv_iconst (v := 2) hx hb dL_law_1360 (by decide) ?_
      refine lv_iadd hx hb dL_law_1361 ?_
      refine tpi (v := 2) (by decide) ?_
      refine va_sld hx hb hX hbl hbA hS (vpl (by decide)) dL_law_1362 ?_
      refine tpi (v := (xs 2)) rfl ?_
      have hF := va_free (wc := [(qm, .inr (8, [.int 0, .int 0, .int 2, .ref (um 0), .ref (um 1), .int 0, .int 500, .int 0, .int 0, .int 0, .ref (um 6)])), ((um 6), .inr (1, [.int 0, .ref (ε 1), .int 0]))]) hD hS hA [1, 2] rfl
      refine va_calli (va_runV (As := [.int 1, .int (xs 2)]) (rest := []) ⟨hx, hb, hml, hown, hts⟩ (k_X6_addStep_1 l D κ ε qm (um 0) (um 1) (um 6) H.size ((xs 2))) (cwV 2 hts gL_law_X6_addStep rfl rfl rfl (by decide +kernel) ⟨(Nat.le_of_ble_eq_true rfl), (Nat.le_of_ble_eq_true rfl)⟩) (pre2_V (q0 := 1) (ci := 8) (wc := [(qm, .inr (8, [.int 0, .int 0, .int 2, .ref (um 0), .ref (um 1), .int 0, .int 500, .int 0, .int 0, .int 0, .ref (um 6)])), ((um 6), .inr (1, [.int 0, .ref (ε 1), .int 0]))]) hP hD hK hE9 hS hA [1, 2] (by decide) rfl rfl rfl) rfl rfl hl.1 rfl (lv_room (Nat.le_of_ble_eq_true rfl)) dL_law_1363 ⟨(Nat.le_of_ble_eq_true rfl), (Nat.le_of_ble_eq_true rfl)⟩) hS (fun q _ h => hF q h) hF (fun r u9 t H locs ht hvm hw hB hz1 hk1 hS => ?_)
      try dsimp only at hw hB
      obtain ⟨hP1, hD1⟩ := hB
      rw [ht] at hP1
      obtain ⟨hP, hD⟩ := post_j (ws' := [((ux 0), .inr (2, [.int 0, .int 2, .ref (ux 1), .ref (ux 2)])), (qm, .inr (8, u9)), (qo, .inl (κ 2, 1, .inr (.inl u7)))]) (wr := [((ux 0), .inr (2, [.int 0, .int 2, .ref (ux 1), .ref (ux 2)])), (qo, .inl (κ 2, 1, .inr (.inl u7)))]) (w1 := [(qm, .inr (8, u9))]) hP hD hF [1, 2] rfl [0, 3] rfl (by decide) (by decide) hk1 hP1 hD1 [0, 2, 1] (by decide) rfl
      have hP : va_P D vwCl [((ux 0), .inr (2, [.int 0, .int 2, .ref (ux 1), .ref (ux 2)])), (qm, .inr (8, u9)), (qo, .inl (κ 2, 1, .inr (.inl u7)))] H := hP
      have hD : va_D (fun q : Nat => s.heap.size ≤ q) [((ux 0), .inr (2, [.int 0, .int 2, .ref (ux 1), .ref (ux 2)])), (qm, .inr (8, u9)), (qo, .inl (κ 2, 1, .inr (.inl u7)))] := hD
      obtain ⟨hu10, rfl⟩ := hw
      refine lv_istore (lv' := [(6, .int 0), (5, .int 0), (0, .ref b), (1, .ref qx), (2, .ref qm), (3, .ref qo), (4, .int 0)]) hx hb dL_law_1366 hl (by decide) rfl (fun ls hl => ?_)
      refine lv_aload_n hx hb dL_law_1368 rfl (lv_at hl 4 rfl) ?_
      refine vp_callSi (W.runV (As := []) (rest := []) ⟨hx, hb, hml, hown, hts⟩ (k_thrown l D κ qm u9 (0) hu10) (cwV 0 hts gL_law_X6_thrown rfl rfl rfl (by decide +kernel) ⟨(Nat.le_of_ble_eq_true rfl), (Nat.le_of_ble_eq_true rfl)⟩) (pre0_V (q0 := 1) (ci := 8) (wc := [(qm, .inr (8, u9))]) hP hK [1] rfl rfl rfl) rfl rfl hl.1 rfl (lv_room (Nat.le_of_ble_eq_true rfl)) dL_law_1369 ⟨(Nat.le_of_ble_eq_true rfl), (Nat.le_of_ble_eq_true rfl)⟩) (fun r hw => ?_)
      subst hw
      refine lv_iload hx hb dL_law_1372 (lv_at hl 1 rfl) ?_
      refine lv_icmp_eq (tgt := 1379) hx hb dL_law_1374 (by decide) (fun _ => ?_) (fun h => absurd (by decide) h)
      refine lv_iload hx hb dL_law_1379 (lv_at hl 1 rfl) ?_
      refine lv_if_ne (tgt := 1396) hx hb dL_law_1381 (by decide) (fun h => absurd (by decide) h) (fun _ => ?_)
      refine lv_aload_n hx hb dL_law_1384 rfl (lv_at hl 5 rfl) ?_
      refine lv_iconst (v := 0) hx hb dL_law_1385 (by decide) ?_
      refine va_lald (cA := κ 2) (n := 1) (f := u7) hx hb hK hP 2 2 rfl rfl (vpl (by decide)) dL_law_1386 ?_
      refine tpl (v := 0) hu8 ?_
      refine lv_iload hx hb dL_law_1387 (lv_at hl 0 rfl) ?_
      refine lv_i2l (v := 0) hx hb dL_law_1389 (by decide) ?_
      refine W.lcmp hx hb dL_law_1390 ?_
      refine tpi (v := 0) (by decide) ?_
      refine lv_if_eq (tgt := 1396) hx hb dL_law_1391 (by decide) (fun _ => ?_) (fun h => absurd (by decide) h)
      refine lv_goto (tgt := 1677) hx hb dL_law_1396 (by decide) ?_
      exact law_end C0 (Nat.le_of_ble_eq_true rfl) (Nat.le_of_ble_eq_true rfl) hS (lv_sub hl [2, 6] rfl)
    · skip
      by_cases e11 : (xs 1) = 2
      · skip
        refine lv_aload_n hx hb dL_law_1331 rfl (lv_at hl 1 rfl) ?_
        refine lv_aload_n hx hb dL_law_1332 rfl (lv_at hl 0 rfl) ?_
        refine lv_iload hx hb dL_law_1333 (lv_at hl 4 rfl) ?_
        refine lv_iconst (v := 1) hx hb dL_law_1335 (by decide) ?_
        refine lv_iadd hx hb dL_law_1336 ?_
        refine tpi (v := 1) (by decide) ?_
        refine va_sld hx hb hX hbl hbA hS (vpl (by decide)) dL_law_1337 ?_
        refine tpi (v := (xs 1)) rfl ?_
        refine tpi (v := 2) e11 ?_
        refine lv_aload_n hx hb dL_law_1338 rfl (lv_at hl 0 rfl) ?_
        refine lv_iload hx hb dL_law_1339 (lv_at hl 4 rfl) ?_
        refine lv_iconst (v := 2) hx hb dL_law_1341 (by decide) ?_
        refine lv_iadd hx hb dL_law_1342 ?_
        refine tpi (v := 2) (by decide) ?_
        refine va_sld hx hb hX hbl hbA hS (vpl (by decide)) dL_law_1343 ?_
        refine tpi (v := (xs 2)) rfl ?_
        refine lv_aload_n hx hb dL_law_1344 rfl (lv_at hl 3 rfl) ?_
        have hF := va_free (wc := [(qx, .inr (7, [.ref (ux 0), .ref (ux 27), .ref (ux 30), .ref (ux 31), .ref (ux 35), .ref (ux 36), .int 0, .int 0, .int 0, .int 0])), (qo, .inl (κ 2, 1, .inr (.inl (fun _ => 0)))), ((ux 0), .inr (2, [.int 0, .int 2, .ref (ux 1), .ref (ux 2)]))]) hD hS hA [0, 7, 1] rfl
        refine va_calli (vx_runSW (As := [.ref qx, .int 2, .int (xs 2), .ref qo]) (rest := []) ⟨hx, hb, hml, hown, hts⟩ (k_L_addStep_2 l hst D κ ε qx qo (ux 0) (ux 27) (ux 30) (ux 31) (ux 35) (ux 36) (ux 1) (ux 2) H.size ((xs 2))) (vx_cwSW 4 hts gL_law_L_addStep_y rfl rfl rfl (by decide +kernel) ⟨(Nat.le_of_ble_eq_true rfl), (Nat.le_of_ble_eq_true rfl)⟩) (pre2_S (wc := [(qx, .inr (7, [.ref (ux 0), .ref (ux 27), .ref (ux 30), .ref (ux 31), .ref (ux 35), .ref (ux 36), .int 0, .int 0, .int 0, .int 0])), (qo, .inl (κ 2, 1, .inr (.inl (fun _ => 0)))), ((ux 0), .inr (2, [.int 0, .int 2, .ref (ux 1), .ref (ux 2)]))]) hP hD hK hE9 hS hA [0, 7, 1] (by decide) rfl) rfl rfl hl.1 rfl (lv_room (Nat.le_of_ble_eq_true rfl)) dL_law_1345 ⟨(Nat.le_of_ble_eq_true rfl), (Nat.le_of_ble_eq_true rfl)⟩) hS (fun q _ h => hF q h) hF (fun r u12 t H locs ht hvm hw hB hz1 hk1 hS => ?_)
        try dsimp only at hw hB
        obtain ⟨hP1, hD1⟩ := hB
        rw [ht] at hP1
        obtain ⟨hP, hD⟩ := post_j (ws' := [((ux 31), .inr (4, [.ref (ux 32), .ref (ux 33), .ref (ux 34), .int 0])), ((ux 32), .inl (κ 0, 12, .inl (fun _ => 0))), ((ux 33), .inl (κ 0, 12, .inl (fun _ => 0))), (qm, .inr (8, [.int 0, .int 0, .int 2, .ref (um 0), .ref (um 1), .int 0, .int 500, .int 0, .int 0, .int 0, .ref (um 6)])), ((um 6), .inr (1, [.int 0, .ref (ε 1), .int 0])), (qo, .inl (κ 2, 1, .inr (.inl u12)))]) (wr := [((ux 31), .inr (4, [.ref (ux 32), .ref (ux 33), .ref (ux 34), .int 0])), ((ux 32), .inl (κ 0, 12, .inl (fun _ => 0))), ((ux 33), .inl (κ 0, 12, .inl (fun _ => 0))), (qm, .inr (8, [.int 0, .int 0, .int 2, .ref (um 0), .ref (um 1), .int 0, .int 500, .int 0, .int 0, .int 0, .ref (um 6)])), ((um 6), .inr (1, [.int 0, .ref (ε 1), .int 0]))]) (w1 := [(qo, .inl (κ 2, 1, .inr (.inl u12)))]) hP hD hF [0, 7, 1] rfl [2, 3, 4, 5, 6] rfl (by decide) (by decide) hk1 hP1 hD1 [0, 1, 2, 3, 4, 5] (by decide) rfl
        have hP : va_P D vwCl [((ux 31), .inr (4, [.ref (ux 32), .ref (ux 33), .ref (ux 34), .int 0])), ((ux 32), .inl (κ 0, 12, .inl (fun _ => 0))), ((ux 33), .inl (κ 0, 12, .inl (fun _ => 0))), (qm, .inr (8, [.int 0, .int 0, .int 2, .ref (um 0), .ref (um 1), .int 0, .int 500, .int 0, .int 0, .int 0, .ref (um 6)])), ((um 6), .inr (1, [.int 0, .ref (ε 1), .int 0])), (qo, .inl (κ 2, 1, .inr (.inl u12)))] H := hP
        have hD : va_D (fun q : Nat => s.heap.size ≤ q) [((ux 31), .inr (4, [.ref (ux 32), .ref (ux 33), .ref (ux 34), .int 0])), ((ux 32), .inl (κ 0, 12, .inl (fun _ => 0))), ((ux 33), .inl (κ 0, 12, .inl (fun _ => 0))), (qm, .inr (8, [.int 0, .int 0, .int 2, .ref (um 0), .ref (um 1), .int 0, .int 500, .int 0, .int 0, .int 0, .ref (um 6)])), ((um 6), .inr (1, [.int 0, .ref (ε 1), .int 0])), (qo, .inl (κ 2, 1, .inr (.inl u12)))] := hD
        rcases hw with ⟨c13, rfl⟩ | ⟨c14, rfl⟩
        · skip
          refine lv_istore (lv' := [(5, .int 1), (0, .ref b), (1, .ref qx), (2, .ref qm), (3, .ref qo), (4, .int 0)]) hx hb dL_law_1348 hl (by decide) rfl (fun ls hl => ?_)
          refine lv_aload_n hx hb dL_law_1350 rfl (lv_at hl 3 rfl) ?_
          refine lv_aload_n hx hb dL_law_1351 rfl (lv_at hl 1 rfl) ?_
          refine lv_iload hx hb dL_law_1352 (lv_at hl 5 rfl) ?_
          refine lv_iconst (v := 1) hx hb dL_law_1354 (by decide) ?_
          refine lv_iadd hx hb dL_law_1355 ?_
          refine tpi (v := 1) (by decide) ?_
          refine va_sld hx hb hX hbl hbA hS (vpl (by decide)) dL_law_1356 ?_
          refine tpi (v := (xs 1)) rfl ?_
          refine tpi (v := 2) e11 ?_
          refine lv_aload_n hx hb dL_law_1357 rfl (lv_at hl 1 rfl) ?_
          refine lv_iload hx hb dL_law_1358 (lv_at hl 5 rfl) ?_
          refine lv_iconst (v := 2) hx hb dL_law_1360 (by decide) ?_
          refine lv_iadd hx hb dL_law_1361 ?_
          refine tpi (v := 2) (by decide) ?_
          refine va_sld hx hb hX hbl hbA hS (vpl (by decide)) dL_law_1362 ?_
          refine tpi (v := (xs 2)) rfl ?_
          have hF := va_free (wc := [(qm, .inr (8, [.int 0, .int 0, .int 2, .ref (um 0), .ref (um 1), .int 0, .int 500, .int 0, .int 0, .int 0, .ref (um 6)]))]) hD hS hA [3] rfl
          refine va_calli (va_runV (As := [.int 2, .int (xs 2)]) (rest := []) ⟨hx, hb, hml, hown, hts⟩ (k_X6_addStep_2 l D κ ε qm (um 0) (um 1) (um 6) H.size ((xs 2)) c13) (cwV 2 hts gL_law_X6_addStep rfl rfl rfl (by decide +kernel) ⟨(Nat.le_of_ble_eq_true rfl), (Nat.le_of_ble_eq_true rfl)⟩) (pre2_V (q0 := 3) (ci := 8) (wc := [(qm, .inr (8, [.int 0, .int 0, .int 2, .ref (um 0), .ref (um 1), .int 0, .int 500, .int 0, .int 0, .int 0, .ref (um 6)]))]) hP hD hK hE9 hS hA [3] (by decide) rfl rfl rfl) rfl rfl hl.1 rfl (lv_room (Nat.le_of_ble_eq_true rfl)) dL_law_1363 ⟨(Nat.le_of_ble_eq_true rfl), (Nat.le_of_ble_eq_true rfl)⟩) hS (fun q _ h => hF q h) hF (fun r u15 t H locs ht hvm hw hB hz1 hk1 hS => ?_)
          try dsimp only at hw hB
          obtain ⟨hP1, hD1⟩ := hB
          rw [ht] at hP1
          obtain ⟨hP, hD⟩ := post_j (ws' := [((ux 31), .inr (4, [.ref (ux 32), .ref (ux 33), .ref (ux 34), .int 0])), ((ux 32), .inl (κ 0, 12, .inl (fun _ => 0))), ((ux 33), .inl (κ 0, 12, .inl (fun _ => 0))), (qm, .inr (8, u15)), ((um 6), .inr (1, [.int 0, .ref (ε 1), .int 0])), (qo, .inl (κ 2, 1, .inr (.inl u12)))]) (wr := [((ux 31), .inr (4, [.ref (ux 32), .ref (ux 33), .ref (ux 34), .int 0])), ((ux 32), .inl (κ 0, 12, .inl (fun _ => 0))), ((ux 33), .inl (κ 0, 12, .inl (fun _ => 0))), ((um 6), .inr (1, [.int 0, .ref (ε 1), .int 0])), (qo, .inl (κ 2, 1, .inr (.inl u12)))]) (w1 := [(qm, .inr (8, u15))]) hP hD hF [3] rfl [0, 1, 2, 4, 5] rfl (by decide) (by decide) hk1 hP1 hD1 [0, 1, 2, 5, 3, 4] (by decide) rfl
          have hP : va_P D vwCl [((ux 31), .inr (4, [.ref (ux 32), .ref (ux 33), .ref (ux 34), .int 0])), ((ux 32), .inl (κ 0, 12, .inl (fun _ => 0))), ((ux 33), .inl (κ 0, 12, .inl (fun _ => 0))), (qm, .inr (8, u15)), ((um 6), .inr (1, [.int 0, .ref (ε 1), .int 0])), (qo, .inl (κ 2, 1, .inr (.inl u12)))] H := hP
          have hD : va_D (fun q : Nat => s.heap.size ≤ q) [((ux 31), .inr (4, [.ref (ux 32), .ref (ux 33), .ref (ux 34), .int 0])), ((ux 32), .inl (κ 0, 12, .inl (fun _ => 0))), ((ux 33), .inl (κ 0, 12, .inl (fun _ => 0))), (qm, .inr (8, u15)), ((um 6), .inr (1, [.int 0, .ref (ε 1), .int 0])), (qo, .inl (κ 2, 1, .inr (.inl u12)))] := hD
          obtain ⟨hu16, rfl⟩ := hw
          refine lv_istore (lv' := [(6, .int 0), (5, .int 1), (0, .ref b), (1, .ref qx), (2, .ref qm), (3, .ref qo), (4, .int 0)]) hx hb dL_law_1366 hl (by decide) rfl (fun ls hl => ?_)
          refine lv_aload_n hx hb dL_law_1368 rfl (lv_at hl 4 rfl) ?_
          refine vp_callSi (W.runV (As := []) (rest := []) ⟨hx, hb, hml, hown, hts⟩ (k_thrown l D κ qm u15 (1) hu16) (cwV 0 hts gL_law_X6_thrown rfl rfl rfl (by decide +kernel) ⟨(Nat.le_of_ble_eq_true rfl), (Nat.le_of_ble_eq_true rfl)⟩) (pre0_V (q0 := 3) (ci := 8) (wc := [(qm, .inr (8, u15))]) hP hK [3] rfl rfl rfl) rfl rfl hl.1 rfl (lv_room (Nat.le_of_ble_eq_true rfl)) dL_law_1369 ⟨(Nat.le_of_ble_eq_true rfl), (Nat.le_of_ble_eq_true rfl)⟩) (fun r hw => ?_)
          subst hw
          refine lv_iload hx hb dL_law_1372 (lv_at hl 1 rfl) ?_
          refine lv_icmp_eq (tgt := 1379) hx hb dL_law_1374 (by decide) (fun _ => ?_) (fun h => absurd (by decide) h)
          refine lv_iload hx hb dL_law_1379 (lv_at hl 1 rfl) ?_
          refine lv_if_ne (tgt := 1396) hx hb dL_law_1381 (by decide) (fun _ => ?_) (fun h => absurd h (by decide))
          refine lv_goto (tgt := 1677) hx hb dL_law_1396 (by decide) ?_
          exact law_end C0 (Nat.le_of_ble_eq_true rfl) (Nat.le_of_ble_eq_true rfl) hS (lv_sub hl [2, 6] rfl)
        · skip
          refine lv_istore (lv' := [(5, .int 1), (0, .ref b), (1, .ref qx), (2, .ref qm), (3, .ref qo), (4, .int 0)]) hx hb dL_law_1348 hl (by decide) rfl (fun ls hl => ?_)
          refine lv_aload_n hx hb dL_law_1350 rfl (lv_at hl 3 rfl) ?_
          refine lv_aload_n hx hb dL_law_1351 rfl (lv_at hl 1 rfl) ?_
          refine lv_iload hx hb dL_law_1352 (lv_at hl 5 rfl) ?_
          refine lv_iconst (v := 1) hx hb dL_law_1354 (by decide) ?_
          refine lv_iadd hx hb dL_law_1355 ?_
          refine tpi (v := 1) (by decide) ?_
          refine va_sld hx hb hX hbl hbA hS (vpl (by decide)) dL_law_1356 ?_
          refine tpi (v := (xs 1)) rfl ?_
          refine tpi (v := 2) e11 ?_
          refine lv_aload_n hx hb dL_law_1357 rfl (lv_at hl 1 rfl) ?_
          refine lv_iload hx hb dL_law_1358 (lv_at hl 5 rfl) ?_
          refine lv_iconst (v := 2) hx hb dL_law_1360 (by decide) ?_
          refine lv_iadd hx hb dL_law_1361 ?_
          refine tpi (v := 2) (by decide) ?_
          refine va_sld hx hb hX hbl hbA hS (vpl (by decide)) dL_law_1362 ?_
          refine tpi (v := (xs 2)) rfl ?_
          have hF := va_free (wc := [(qm, .inr (8, [.int 0, .int 0, .int 2, .ref (um 0), .ref (um 1), .int 0, .int 500, .int 0, .int 0, .int 0, .ref (um 6)]))]) hD hS hA [3] rfl
          refine va_calli (va_runV (As := [.int 2, .int (xs 2)]) (rest := []) ⟨hx, hb, hml, hown, hts⟩ (k_X6_addStep_3 l D κ ε qm (um 0) (um 1) (um 6) H.size ((xs 2)) c14) (cwV 2 hts gL_law_X6_addStep rfl rfl rfl (by decide +kernel) ⟨(Nat.le_of_ble_eq_true rfl), (Nat.le_of_ble_eq_true rfl)⟩) (pre2_V (q0 := 3) (ci := 8) (wc := [(qm, .inr (8, [.int 0, .int 0, .int 2, .ref (um 0), .ref (um 1), .int 0, .int 500, .int 0, .int 0, .int 0, .ref (um 6)]))]) hP hD hK hE9 hS hA [3] (by decide) rfl rfl rfl) rfl rfl hl.1 rfl (lv_room (Nat.le_of_ble_eq_true rfl)) dL_law_1363 ⟨(Nat.le_of_ble_eq_true rfl), (Nat.le_of_ble_eq_true rfl)⟩) hS (fun q _ h => hF q h) hF (fun r u17 t H locs ht hvm hw hB hz1 hk1 hS => ?_)
          try dsimp only at hw hB
          obtain ⟨hP1, hD1⟩ := hB
          rw [ht] at hP1
          obtain ⟨hP, hD⟩ := post_j (ws' := [((ux 31), .inr (4, [.ref (ux 32), .ref (ux 33), .ref (ux 34), .int 0])), ((ux 32), .inl (κ 0, 12, .inl (fun _ => 0))), ((ux 33), .inl (κ 0, 12, .inl (fun _ => 0))), (qm, .inr (8, u17)), ((um 6), .inr (1, [.int 0, .ref (ε 1), .int 0])), (qo, .inl (κ 2, 1, .inr (.inl u12)))]) (wr := [((ux 31), .inr (4, [.ref (ux 32), .ref (ux 33), .ref (ux 34), .int 0])), ((ux 32), .inl (κ 0, 12, .inl (fun _ => 0))), ((ux 33), .inl (κ 0, 12, .inl (fun _ => 0))), ((um 6), .inr (1, [.int 0, .ref (ε 1), .int 0])), (qo, .inl (κ 2, 1, .inr (.inl u12)))]) (w1 := [(qm, .inr (8, u17))]) hP hD hF [3] rfl [0, 1, 2, 4, 5] rfl (by decide) (by decide) hk1 hP1 hD1 [0, 1, 2, 5, 3, 4] (by decide) rfl
          have hP : va_P D vwCl [((ux 31), .inr (4, [.ref (ux 32), .ref (ux 33), .ref (ux 34), .int 0])), ((ux 32), .inl (κ 0, 12, .inl (fun _ => 0))), ((ux 33), .inl (κ 0, 12, .inl (fun _ => 0))), (qm, .inr (8, u17)), ((um 6), .inr (1, [.int 0, .ref (ε 1), .int 0])), (qo, .inl (κ 2, 1, .inr (.inl u12)))] H := hP
          have hD : va_D (fun q : Nat => s.heap.size ≤ q) [((ux 31), .inr (4, [.ref (ux 32), .ref (ux 33), .ref (ux 34), .int 0])), ((ux 32), .inl (κ 0, 12, .inl (fun _ => 0))), ((ux 33), .inl (κ 0, 12, .inl (fun _ => 0))), (qm, .inr (8, u17)), ((um 6), .inr (1, [.int 0, .ref (ε 1), .int 0])), (qo, .inl (κ 2, 1, .inr (.inl u12)))] := hD
          obtain ⟨hu18, rfl⟩ := hw
          refine lv_istore (lv' := [(6, .int 0), (5, .int 1), (0, .ref b), (1, .ref qx), (2, .ref qm), (3, .ref qo), (4, .int 0)]) hx hb dL_law_1366 hl (by decide) rfl (fun ls hl => ?_)
          refine lv_aload_n hx hb dL_law_1368 rfl (lv_at hl 4 rfl) ?_
          refine vp_callSi (W.runV (As := []) (rest := []) ⟨hx, hb, hml, hown, hts⟩ (k_thrown l D κ qm u17 (1) hu18) (cwV 0 hts gL_law_X6_thrown rfl rfl rfl (by decide +kernel) ⟨(Nat.le_of_ble_eq_true rfl), (Nat.le_of_ble_eq_true rfl)⟩) (pre0_V (q0 := 3) (ci := 8) (wc := [(qm, .inr (8, u17))]) hP hK [3] rfl rfl rfl) rfl rfl hl.1 rfl (lv_room (Nat.le_of_ble_eq_true rfl)) dL_law_1369 ⟨(Nat.le_of_ble_eq_true rfl), (Nat.le_of_ble_eq_true rfl)⟩) (fun r hw => ?_)
          subst hw
          refine lv_iload hx hb dL_law_1372 (lv_at hl 1 rfl) ?_
          refine lv_icmp_eq (tgt := 1379) hx hb dL_law_1374 (by decide) (fun _ => ?_) (fun h => absurd (by decide) h)
          refine lv_iload hx hb dL_law_1379 (lv_at hl 1 rfl) ?_
          refine lv_if_ne (tgt := 1396) hx hb dL_law_1381 (by decide) (fun _ => ?_) (fun h => absurd h (by decide))
          refine lv_goto (tgt := 1677) hx hb dL_law_1396 (by decide) ?_
          exact law_end C0 (Nat.le_of_ble_eq_true rfl) (Nat.le_of_ble_eq_true rfl) hS (lv_sub hl [2, 6] rfl)
      · skip
        by_cases e19 : (xs 1) = 3
        · skip
          refine lv_aload_n hx hb dL_law_1331 rfl (lv_at hl 1 rfl) ?_
          refine lv_aload_n hx hb dL_law_1332 rfl (lv_at hl 0 rfl) ?_
          refine lv_iload hx hb dL_law_1333 (lv_at hl 4 rfl) ?_
          refine lv_iconst (v := 1) hx hb dL_law_1335 (by decide) ?_
          refine lv_iadd hx hb dL_law_1336 ?_
          refine tpi (v := 1) (by decide) ?_
          refine va_sld hx hb hX hbl hbA hS (vpl (by decide)) dL_law_1337 ?_
          refine tpi (v := (xs 1)) rfl ?_
          refine tpi (v := 3) e19 ?_
          refine lv_aload_n hx hb dL_law_1338 rfl (lv_at hl 0 rfl) ?_
          refine lv_iload hx hb dL_law_1339 (lv_at hl 4 rfl) ?_
          refine lv_iconst (v := 2) hx hb dL_law_1341 (by decide) ?_
          refine lv_iadd hx hb dL_law_1342 ?_
          refine tpi (v := 2) (by decide) ?_
          refine va_sld hx hb hX hbl hbA hS (vpl (by decide)) dL_law_1343 ?_
          refine tpi (v := (xs 2)) rfl ?_
          refine lv_aload_n hx hb dL_law_1344 rfl (lv_at hl 3 rfl) ?_
          have hF := va_free (wc := [(qx, .inr (7, [.ref (ux 0), .ref (ux 27), .ref (ux 30), .ref (ux 31), .ref (ux 35), .ref (ux 36), .int 0, .int 0, .int 0, .int 0])), (qo, .inl (κ 2, 1, .inr (.inl (fun _ => 0)))), ((ux 31), .inr (4, [.ref (ux 32), .ref (ux 33), .ref (ux 34), .int 0])), ((ux 32), .inl (κ 0, 12, .inl (fun _ => 0))), ((ux 33), .inl (κ 0, 12, .inl (fun _ => 0)))]) hD hS hA [0, 7, 2, 3, 4] rfl
          refine va_calli (vx_runSW (As := [.ref qx, .int 3, .int (xs 2), .ref qo]) (rest := []) ⟨hx, hb, hml, hown, hts⟩ (k_L_addStep_3 l hst D κ ε qx qo (ux 0) (ux 27) (ux 30) (ux 31) (ux 35) (ux 36) (ux 32) (ux 33) (ux 34) H.size ((xs 2))) (vx_cwSW 4 hts gL_law_L_addStep_y rfl rfl rfl (by decide +kernel) ⟨(Nat.le_of_ble_eq_true rfl), (Nat.le_of_ble_eq_true rfl)⟩) (pre2_S (wc := [(qx, .inr (7, [.ref (ux 0), .ref (ux 27), .ref (ux 30), .ref (ux 31), .ref (ux 35), .ref (ux 36), .int 0, .int 0, .int 0, .int 0])), (qo, .inl (κ 2, 1, .inr (.inl (fun _ => 0)))), ((ux 31), .inr (4, [.ref (ux 32), .ref (ux 33), .ref (ux 34), .int 0])), ((ux 32), .inl (κ 0, 12, .inl (fun _ => 0))), ((ux 33), .inl (κ 0, 12, .inl (fun _ => 0)))]) hP hD hK hE9 hS hA [0, 7, 2, 3, 4] (by decide) rfl) rfl rfl hl.1 rfl (lv_room (Nat.le_of_ble_eq_true rfl)) dL_law_1345 ⟨(Nat.le_of_ble_eq_true rfl), (Nat.le_of_ble_eq_true rfl)⟩) hS (fun q _ h => hF q h) hF (fun r u20 t H locs ht hvm hw hB hz1 hk1 hS => ?_)
          try dsimp only at hw hB
          obtain ⟨hP1, hD1⟩ := hB
          rw [ht] at hP1
          obtain ⟨hP, hD⟩ := post_j (ws' := [((ux 0), .inr (2, [.int 0, .int 2, .ref (ux 1), .ref (ux 2)])), (qm, .inr (8, [.int 0, .int 0, .int 2, .ref (um 0), .ref (um 1), .int 0, .int 500, .int 0, .int 0, .int 0, .ref (um 6)])), ((um 6), .inr (1, [.int 0, .ref (ε 1), .int 0])), (qo, .inl (κ 2, 1, .inr (.inl u20)))]) (wr := [((ux 0), .inr (2, [.int 0, .int 2, .ref (ux 1), .ref (ux 2)])), (qm, .inr (8, [.int 0, .int 0, .int 2, .ref (um 0), .ref (um 1), .int 0, .int 500, .int 0, .int 0, .int 0, .ref (um 6)])), ((um 6), .inr (1, [.int 0, .ref (ε 1), .int 0]))]) (w1 := [(qo, .inl (κ 2, 1, .inr (.inl u20)))]) hP hD hF [0, 7, 2, 3, 4] rfl [1, 5, 6] rfl (by decide) (by decide) hk1 hP1 hD1 [0, 1, 2, 3] (by decide) rfl
          have hP : va_P D vwCl [((ux 0), .inr (2, [.int 0, .int 2, .ref (ux 1), .ref (ux 2)])), (qm, .inr (8, [.int 0, .int 0, .int 2, .ref (um 0), .ref (um 1), .int 0, .int 500, .int 0, .int 0, .int 0, .ref (um 6)])), ((um 6), .inr (1, [.int 0, .ref (ε 1), .int 0])), (qo, .inl (κ 2, 1, .inr (.inl u20)))] H := hP
          have hD : va_D (fun q : Nat => s.heap.size ≤ q) [((ux 0), .inr (2, [.int 0, .int 2, .ref (ux 1), .ref (ux 2)])), (qm, .inr (8, [.int 0, .int 0, .int 2, .ref (um 0), .ref (um 1), .int 0, .int 500, .int 0, .int 0, .int 0, .ref (um 6)])), ((um 6), .inr (1, [.int 0, .ref (ε 1), .int 0])), (qo, .inl (κ 2, 1, .inr (.inl u20)))] := hD
          rcases hw with ⟨c21, rfl⟩ | ⟨c22, c23, rfl⟩ | ⟨c24, c25, hu26, rfl⟩
          · skip
            refine lv_istore (lv' := [(5, .int 1), (0, .ref b), (1, .ref qx), (2, .ref qm), (3, .ref qo), (4, .int 0)]) hx hb dL_law_1348 hl (by decide) rfl (fun ls hl => ?_)
            refine lv_aload_n hx hb dL_law_1350 rfl (lv_at hl 3 rfl) ?_
            refine lv_aload_n hx hb dL_law_1351 rfl (lv_at hl 1 rfl) ?_
            refine lv_iload hx hb dL_law_1352 (lv_at hl 5 rfl) ?_
            refine lv_iconst (v := 1) hx hb dL_law_1354 (by decide) ?_
            refine lv_iadd hx hb dL_law_1355 ?_
            refine tpi (v := 1) (by decide) ?_
            refine va_sld hx hb hX hbl hbA hS (vpl (by decide)) dL_law_1356 ?_
            refine tpi (v := (xs 1)) rfl ?_
            refine tpi (v := 3) e19 ?_
            refine lv_aload_n hx hb dL_law_1357 rfl (lv_at hl 1 rfl) ?_
            refine lv_iload hx hb dL_law_1358 (lv_at hl 5 rfl) ?_
            refine lv_iconst (v := 2) hx hb dL_law_1360 (by decide) ?_
            refine lv_iadd hx hb dL_law_1361 ?_
            refine tpi (v := 2) (by decide) ?_
            refine va_sld hx hb hX hbl hbA hS (vpl (by decide)) dL_law_1362 ?_
            refine tpi (v := (xs 2)) rfl ?_
            have hF := va_free (wc := [(qm, .inr (8, [.int 0, .int 0, .int 2, .ref (um 0), .ref (um 1), .int 0, .int 500, .int 0, .int 0, .int 0, .ref (um 6)]))]) hD hS hA [1] rfl
            refine va_calli (va_runV (As := [.int 3, .int (xs 2)]) (rest := []) ⟨hx, hb, hml, hown, hts⟩ (k_X6_addStep_4 l D κ ε qm (um 0) (um 1) (um 6) H.size ((xs 2)) c21) (cwV 2 hts gL_law_X6_addStep rfl rfl rfl (by decide +kernel) ⟨(Nat.le_of_ble_eq_true rfl), (Nat.le_of_ble_eq_true rfl)⟩) (pre2_V (q0 := 1) (ci := 8) (wc := [(qm, .inr (8, [.int 0, .int 0, .int 2, .ref (um 0), .ref (um 1), .int 0, .int 500, .int 0, .int 0, .int 0, .ref (um 6)]))]) hP hD hK hE9 hS hA [1] (by decide) rfl rfl rfl) rfl rfl hl.1 rfl (lv_room (Nat.le_of_ble_eq_true rfl)) dL_law_1363 ⟨(Nat.le_of_ble_eq_true rfl), (Nat.le_of_ble_eq_true rfl)⟩) hS (fun q _ h => hF q h) hF (fun r u27 t H locs ht hvm hw hB hz1 hk1 hS => ?_)
            try dsimp only at hw hB
            obtain ⟨hP1, hD1⟩ := hB
            rw [ht] at hP1
            obtain ⟨hP, hD⟩ := post_j (ws' := [((ux 0), .inr (2, [.int 0, .int 2, .ref (ux 1), .ref (ux 2)])), (qm, .inr (8, u27)), ((um 6), .inr (1, [.int 0, .ref (ε 1), .int 0])), (qo, .inl (κ 2, 1, .inr (.inl u20)))]) (wr := [((ux 0), .inr (2, [.int 0, .int 2, .ref (ux 1), .ref (ux 2)])), ((um 6), .inr (1, [.int 0, .ref (ε 1), .int 0])), (qo, .inl (κ 2, 1, .inr (.inl u20)))]) (w1 := [(qm, .inr (8, u27))]) hP hD hF [1] rfl [0, 2, 3] rfl (by decide) (by decide) hk1 hP1 hD1 [0, 3, 1, 2] (by decide) rfl
            have hP : va_P D vwCl [((ux 0), .inr (2, [.int 0, .int 2, .ref (ux 1), .ref (ux 2)])), (qm, .inr (8, u27)), ((um 6), .inr (1, [.int 0, .ref (ε 1), .int 0])), (qo, .inl (κ 2, 1, .inr (.inl u20)))] H := hP
            have hD : va_D (fun q : Nat => s.heap.size ≤ q) [((ux 0), .inr (2, [.int 0, .int 2, .ref (ux 1), .ref (ux 2)])), (qm, .inr (8, u27)), ((um 6), .inr (1, [.int 0, .ref (ε 1), .int 0])), (qo, .inl (κ 2, 1, .inr (.inl u20)))] := hD
            obtain ⟨hu28, rfl⟩ := hw
            refine lv_istore (lv' := [(6, .int 0), (5, .int 1), (0, .ref b), (1, .ref qx), (2, .ref qm), (3, .ref qo), (4, .int 0)]) hx hb dL_law_1366 hl (by decide) rfl (fun ls hl => ?_)
            refine lv_aload_n hx hb dL_law_1368 rfl (lv_at hl 4 rfl) ?_
            refine vp_callSi (W.runV (As := []) (rest := []) ⟨hx, hb, hml, hown, hts⟩ (k_thrown l D κ qm u27 (1) hu28) (cwV 0 hts gL_law_X6_thrown rfl rfl rfl (by decide +kernel) ⟨(Nat.le_of_ble_eq_true rfl), (Nat.le_of_ble_eq_true rfl)⟩) (pre0_V (q0 := 1) (ci := 8) (wc := [(qm, .inr (8, u27))]) hP hK [1] rfl rfl rfl) rfl rfl hl.1 rfl (lv_room (Nat.le_of_ble_eq_true rfl)) dL_law_1369 ⟨(Nat.le_of_ble_eq_true rfl), (Nat.le_of_ble_eq_true rfl)⟩) (fun r hw => ?_)
            subst hw
            refine lv_iload hx hb dL_law_1372 (lv_at hl 1 rfl) ?_
            refine lv_icmp_eq (tgt := 1379) hx hb dL_law_1374 (by decide) (fun _ => ?_) (fun h => absurd (by decide) h)
            refine lv_iload hx hb dL_law_1379 (lv_at hl 1 rfl) ?_
            refine lv_if_ne (tgt := 1396) hx hb dL_law_1381 (by decide) (fun _ => ?_) (fun h => absurd h (by decide))
            refine lv_goto (tgt := 1677) hx hb dL_law_1396 (by decide) ?_
            exact law_end C0 (Nat.le_of_ble_eq_true rfl) (Nat.le_of_ble_eq_true rfl) hS (lv_sub hl [2, 6] rfl)
          · skip
            refine lv_istore (lv' := [(5, .int 1), (0, .ref b), (1, .ref qx), (2, .ref qm), (3, .ref qo), (4, .int 0)]) hx hb dL_law_1348 hl (by decide) rfl (fun ls hl => ?_)
            refine lv_aload_n hx hb dL_law_1350 rfl (lv_at hl 3 rfl) ?_
            refine lv_aload_n hx hb dL_law_1351 rfl (lv_at hl 1 rfl) ?_
            refine lv_iload hx hb dL_law_1352 (lv_at hl 5 rfl) ?_
            refine lv_iconst (v := 1) hx hb dL_law_1354 (by decide) ?_
            refine lv_iadd hx hb dL_law_1355 ?_
            refine tpi (v := 1) (by decide) ?_
            refine va_sld hx hb hX hbl hbA hS (vpl (by decide)) dL_law_1356 ?_
            refine tpi (v := (xs 1)) rfl ?_
            refine tpi (v := 3) e19 ?_
            refine lv_aload_n hx hb dL_law_1357 rfl (lv_at hl 1 rfl) ?_
            refine lv_iload hx hb dL_law_1358 (lv_at hl 5 rfl) ?_
            refine lv_iconst (v := 2) hx hb dL_law_1360 (by decide) ?_
            refine lv_iadd hx hb dL_law_1361 ?_
            refine tpi (v := 2) (by decide) ?_
            refine va_sld hx hb hX hbl hbA hS (vpl (by decide)) dL_law_1362 ?_
            refine tpi (v := (xs 2)) rfl ?_
            have hF := va_free (wc := [(qm, .inr (8, [.int 0, .int 0, .int 2, .ref (um 0), .ref (um 1), .int 0, .int 500, .int 0, .int 0, .int 0, .ref (um 6)]))]) hD hS hA [1] rfl
            refine va_calli (va_runV (As := [.int 3, .int (xs 2)]) (rest := []) ⟨hx, hb, hml, hown, hts⟩ (k_X6_addStep_5 l D κ ε qm (um 0) (um 1) (um 6) H.size ((xs 2)) c22 c23) (cwV 2 hts gL_law_X6_addStep rfl rfl rfl (by decide +kernel) ⟨(Nat.le_of_ble_eq_true rfl), (Nat.le_of_ble_eq_true rfl)⟩) (pre2_V (q0 := 1) (ci := 8) (wc := [(qm, .inr (8, [.int 0, .int 0, .int 2, .ref (um 0), .ref (um 1), .int 0, .int 500, .int 0, .int 0, .int 0, .ref (um 6)]))]) hP hD hK hE9 hS hA [1] (by decide) rfl rfl rfl) rfl rfl hl.1 rfl (lv_room (Nat.le_of_ble_eq_true rfl)) dL_law_1363 ⟨(Nat.le_of_ble_eq_true rfl), (Nat.le_of_ble_eq_true rfl)⟩) hS (fun q _ h => hF q h) hF (fun r u29 t H locs ht hvm hw hB hz1 hk1 hS => ?_)
            try dsimp only at hw hB
            obtain ⟨hP1, hD1⟩ := hB
            rw [ht] at hP1
            obtain ⟨hP, hD⟩ := post_j (ws' := [((ux 0), .inr (2, [.int 0, .int 2, .ref (ux 1), .ref (ux 2)])), (qm, .inr (8, u29)), ((um 6), .inr (1, [.int 0, .ref (ε 1), .int 0])), (qo, .inl (κ 2, 1, .inr (.inl u20)))]) (wr := [((ux 0), .inr (2, [.int 0, .int 2, .ref (ux 1), .ref (ux 2)])), ((um 6), .inr (1, [.int 0, .ref (ε 1), .int 0])), (qo, .inl (κ 2, 1, .inr (.inl u20)))]) (w1 := [(qm, .inr (8, u29))]) hP hD hF [1] rfl [0, 2, 3] rfl (by decide) (by decide) hk1 hP1 hD1 [0, 3, 1, 2] (by decide) rfl
            have hP : va_P D vwCl [((ux 0), .inr (2, [.int 0, .int 2, .ref (ux 1), .ref (ux 2)])), (qm, .inr (8, u29)), ((um 6), .inr (1, [.int 0, .ref (ε 1), .int 0])), (qo, .inl (κ 2, 1, .inr (.inl u20)))] H := hP
            have hD : va_D (fun q : Nat => s.heap.size ≤ q) [((ux 0), .inr (2, [.int 0, .int 2, .ref (ux 1), .ref (ux 2)])), (qm, .inr (8, u29)), ((um 6), .inr (1, [.int 0, .ref (ε 1), .int 0])), (qo, .inl (κ 2, 1, .inr (.inl u20)))] := hD
            obtain ⟨hu30, rfl⟩ := hw
            refine lv_istore (lv' := [(6, .int 0), (5, .int 1), (0, .ref b), (1, .ref qx), (2, .ref qm), (3, .ref qo), (4, .int 0)]) hx hb dL_law_1366 hl (by decide) rfl (fun ls hl => ?_)
            refine lv_aload_n hx hb dL_law_1368 rfl (lv_at hl 4 rfl) ?_
            refine vp_callSi (W.runV (As := []) (rest := []) ⟨hx, hb, hml, hown, hts⟩ (k_thrown l D κ qm u29 (1) hu30) (cwV 0 hts gL_law_X6_thrown rfl rfl rfl (by decide +kernel) ⟨(Nat.le_of_ble_eq_true rfl), (Nat.le_of_ble_eq_true rfl)⟩) (pre0_V (q0 := 1) (ci := 8) (wc := [(qm, .inr (8, u29))]) hP hK [1] rfl rfl rfl) rfl rfl hl.1 rfl (lv_room (Nat.le_of_ble_eq_true rfl)) dL_law_1369 ⟨(Nat.le_of_ble_eq_true rfl), (Nat.le_of_ble_eq_true rfl)⟩) (fun r hw => ?_)
            subst hw
            refine lv_iload hx hb dL_law_1372 (lv_at hl 1 rfl) ?_
            refine lv_icmp_eq (tgt := 1379) hx hb dL_law_1374 (by decide) (fun _ => ?_) (fun h => absurd (by decide) h)
            refine lv_iload hx hb dL_law_1379 (lv_at hl 1 rfl) ?_
            refine lv_if_ne (tgt := 1396) hx hb dL_law_1381 (by decide) (fun _ => ?_) (fun h => absurd h (by decide))
            refine lv_goto (tgt := 1677) hx hb dL_law_1396 (by decide) ?_
            exact law_end C0 (Nat.le_of_ble_eq_true rfl) (Nat.le_of_ble_eq_true rfl) hS (lv_sub hl [2, 6] rfl)
          · skip
            refine lv_istore (lv' := [(5, .int 0), (0, .ref b), (1, .ref qx), (2, .ref qm), (3, .ref qo), (4, .int 0)]) hx hb dL_law_1348 hl (by decide) rfl (fun ls hl => ?_)
            refine lv_aload_n hx hb dL_law_1350 rfl (lv_at hl 3 rfl) ?_
            refine lv_aload_n hx hb dL_law_1351 rfl (lv_at hl 1 rfl) ?_
            refine lv_iload hx hb dL_law_1352 (lv_at hl 5 rfl) ?_
            refine lv_iconst (v := 1) hx hb dL_law_1354 (by decide) ?_
            refine lv_iadd hx hb dL_law_1355 ?_
            refine tpi (v := 1) (by decide) ?_
            refine va_sld hx hb hX hbl hbA hS (vpl (by decide)) dL_law_1356 ?_
            refine tpi (v := (xs 1)) rfl ?_
            refine tpi (v := 3) e19 ?_
            refine lv_aload_n hx hb dL_law_1357 rfl (lv_at hl 1 rfl) ?_
            refine lv_iload hx hb dL_law_1358 (lv_at hl 5 rfl) ?_
            refine lv_iconst (v := 2) hx hb dL_law_1360 (by decide) ?_
            refine lv_iadd hx hb dL_law_1361 ?_
            refine tpi (v := 2) (by decide) ?_
            refine va_sld hx hb hX hbl hbA hS (vpl (by decide)) dL_law_1362 ?_
            refine tpi (v := (xs 2)) rfl ?_
            have hF := va_free (wc := [(qm, .inr (8, [.int 0, .int 0, .int 2, .ref (um 0), .ref (um 1), .int 0, .int 500, .int 0, .int 0, .int 0, .ref (um 6)])), ((um 6), .inr (1, [.int 0, .ref (ε 1), .int 0]))]) hD hS hA [1, 2] rfl
            refine va_calli (va_runV (As := [.int 3, .int (xs 2)]) (rest := []) ⟨hx, hb, hml, hown, hts⟩ (k_X6_addStep_6 l D κ ε qm (um 0) (um 1) (um 6) H.size ((xs 2)) c24 c25) (cwV 2 hts gL_law_X6_addStep rfl rfl rfl (by decide +kernel) ⟨(Nat.le_of_ble_eq_true rfl), (Nat.le_of_ble_eq_true rfl)⟩) (pre2_V (q0 := 1) (ci := 8) (wc := [(qm, .inr (8, [.int 0, .int 0, .int 2, .ref (um 0), .ref (um 1), .int 0, .int 500, .int 0, .int 0, .int 0, .ref (um 6)])), ((um 6), .inr (1, [.int 0, .ref (ε 1), .int 0]))]) hP hD hK hE9 hS hA [1, 2] (by decide) rfl rfl rfl) rfl rfl hl.1 rfl (lv_room (Nat.le_of_ble_eq_true rfl)) dL_law_1363 ⟨(Nat.le_of_ble_eq_true rfl), (Nat.le_of_ble_eq_true rfl)⟩) hS (fun q _ h => hF q h) hF (fun r u31 t H locs ht hvm hw hB hz1 hk1 hS => ?_)
            try dsimp only at hw hB
            obtain ⟨hP1, hD1⟩ := hB
            rw [ht] at hP1
            obtain ⟨hP, hD⟩ := post_j (ws' := [((ux 0), .inr (2, [.int 0, .int 2, .ref (ux 1), .ref (ux 2)])), (qm, .inr (8, u31)), (qo, .inl (κ 2, 1, .inr (.inl u20)))]) (wr := [((ux 0), .inr (2, [.int 0, .int 2, .ref (ux 1), .ref (ux 2)])), (qo, .inl (κ 2, 1, .inr (.inl u20)))]) (w1 := [(qm, .inr (8, u31))]) hP hD hF [1, 2] rfl [0, 3] rfl (by decide) (by decide) hk1 hP1 hD1 [0, 2, 1] (by decide) rfl
            have hP : va_P D vwCl [((ux 0), .inr (2, [.int 0, .int 2, .ref (ux 1), .ref (ux 2)])), (qm, .inr (8, u31)), (qo, .inl (κ 2, 1, .inr (.inl u20)))] H := hP
            have hD : va_D (fun q : Nat => s.heap.size ≤ q) [((ux 0), .inr (2, [.int 0, .int 2, .ref (ux 1), .ref (ux 2)])), (qm, .inr (8, u31)), (qo, .inl (κ 2, 1, .inr (.inl u20)))] := hD
            obtain ⟨hu32, rfl⟩ := hw
            refine lv_istore (lv' := [(6, .int 0), (5, .int 0), (0, .ref b), (1, .ref qx), (2, .ref qm), (3, .ref qo), (4, .int 0)]) hx hb dL_law_1366 hl (by decide) rfl (fun ls hl => ?_)
            refine lv_aload_n hx hb dL_law_1368 rfl (lv_at hl 4 rfl) ?_
            refine vp_callSi (W.runV (As := []) (rest := []) ⟨hx, hb, hml, hown, hts⟩ (k_thrown l D κ qm u31 (0) hu32) (cwV 0 hts gL_law_X6_thrown rfl rfl rfl (by decide +kernel) ⟨(Nat.le_of_ble_eq_true rfl), (Nat.le_of_ble_eq_true rfl)⟩) (pre0_V (q0 := 1) (ci := 8) (wc := [(qm, .inr (8, u31))]) hP hK [1] rfl rfl rfl) rfl rfl hl.1 rfl (lv_room (Nat.le_of_ble_eq_true rfl)) dL_law_1369 ⟨(Nat.le_of_ble_eq_true rfl), (Nat.le_of_ble_eq_true rfl)⟩) (fun r hw => ?_)
            subst hw
            refine lv_iload hx hb dL_law_1372 (lv_at hl 1 rfl) ?_
            refine lv_icmp_eq (tgt := 1379) hx hb dL_law_1374 (by decide) (fun _ => ?_) (fun h => absurd (by decide) h)
            refine lv_iload hx hb dL_law_1379 (lv_at hl 1 rfl) ?_
            refine lv_if_ne (tgt := 1396) hx hb dL_law_1381 (by decide) (fun h => absurd (by decide) h) (fun _ => ?_)
            refine lv_aload_n hx hb dL_law_1384 rfl (lv_at hl 5 rfl) ?_
            refine lv_iconst (v := 0) hx hb dL_law_1385 (by decide) ?_
            refine va_lald (cA := κ 2) (n := 1) (f := u20) hx hb hK hP 2 2 rfl rfl (vpl (by decide)) dL_law_1386 ?_
            refine tpl (v := 0) hu26 ?_
            refine lv_iload hx hb dL_law_1387 (lv_at hl 0 rfl) ?_
            refine lv_i2l (v := 0) hx hb dL_law_1389 (by decide) ?_
            refine W.lcmp hx hb dL_law_1390 ?_
            refine tpi (v := 0) (by decide) ?_
            refine lv_if_eq (tgt := 1396) hx hb dL_law_1391 (by decide) (fun _ => ?_) (fun h => absurd (by decide) h)
            refine lv_goto (tgt := 1677) hx hb dL_law_1396 (by decide) ?_
            exact law_end C0 (Nat.le_of_ble_eq_true rfl) (Nat.le_of_ble_eq_true rfl) hS (lv_sub hl [2, 6] rfl)
        · skip
          by_cases e33 : (xs 1) = 4
          · skip
            refine lv_aload_n hx hb dL_law_1331 rfl (lv_at hl 1 rfl) ?_
            refine lv_aload_n hx hb dL_law_1332 rfl (lv_at hl 0 rfl) ?_
            refine lv_iload hx hb dL_law_1333 (lv_at hl 4 rfl) ?_
            refine lv_iconst (v := 1) hx hb dL_law_1335 (by decide) ?_
            refine lv_iadd hx hb dL_law_1336 ?_
            refine tpi (v := 1) (by decide) ?_
            refine va_sld hx hb hX hbl hbA hS (vpl (by decide)) dL_law_1337 ?_
            refine tpi (v := (xs 1)) rfl ?_
            refine tpi (v := 4) e33 ?_
            refine lv_aload_n hx hb dL_law_1338 rfl (lv_at hl 0 rfl) ?_
            refine lv_iload hx hb dL_law_1339 (lv_at hl 4 rfl) ?_
            refine lv_iconst (v := 2) hx hb dL_law_1341 (by decide) ?_
            refine lv_iadd hx hb dL_law_1342 ?_
            refine tpi (v := 2) (by decide) ?_
            refine va_sld hx hb hX hbl hbA hS (vpl (by decide)) dL_law_1343 ?_
            refine tpi (v := (xs 2)) rfl ?_
            refine lv_aload_n hx hb dL_law_1344 rfl (lv_at hl 3 rfl) ?_
            have hF := va_free (wc := [(qx, .inr (7, [.ref (ux 0), .ref (ux 27), .ref (ux 30), .ref (ux 31), .ref (ux 35), .ref (ux 36), .int 0, .int 0, .int 0, .int 0])), (qo, .inl (κ 2, 1, .inr (.inl (fun _ => 0)))), ((ux 0), .inr (2, [.int 0, .int 2, .ref (ux 1), .ref (ux 2)])), ((ux 31), .inr (4, [.ref (ux 32), .ref (ux 33), .ref (ux 34), .int 0])), ((ux 32), .inl (κ 0, 12, .inl (fun _ => 0))), ((ux 33), .inl (κ 0, 12, .inl (fun _ => 0)))]) hD hS hA [0, 7, 1, 2, 3, 4] rfl
            refine va_calli (vx_runSW (As := [.ref qx, .int 4, .int (xs 2), .ref qo]) (rest := []) ⟨hx, hb, hml, hown, hts⟩ (k_L_addStep_4 l hst D κ ε qx qo (ux 0) (ux 27) (ux 30) (ux 31) (ux 35) (ux 36) (ux 1) (ux 2) (ux 32) (ux 33) (ux 34) H.size ((xs 2))) (vx_cwSW 4 hts gL_law_L_addStep_y rfl rfl rfl (by decide +kernel) ⟨(Nat.le_of_ble_eq_true rfl), (Nat.le_of_ble_eq_true rfl)⟩) (pre2_S (wc := [(qx, .inr (7, [.ref (ux 0), .ref (ux 27), .ref (ux 30), .ref (ux 31), .ref (ux 35), .ref (ux 36), .int 0, .int 0, .int 0, .int 0])), (qo, .inl (κ 2, 1, .inr (.inl (fun _ => 0)))), ((ux 0), .inr (2, [.int 0, .int 2, .ref (ux 1), .ref (ux 2)])), ((ux 31), .inr (4, [.ref (ux 32), .ref (ux 33), .ref (ux 34), .int 0])), ((ux 32), .inl (κ 0, 12, .inl (fun _ => 0))), ((ux 33), .inl (κ 0, 12, .inl (fun _ => 0)))]) hP hD hK hE9 hS hA [0, 7, 1, 2, 3, 4] (by decide) rfl) rfl rfl hl.1 rfl (lv_room (Nat.le_of_ble_eq_true rfl)) dL_law_1345 ⟨(Nat.le_of_ble_eq_true rfl), (Nat.le_of_ble_eq_true rfl)⟩) hS (fun q _ h => hF q h) hF (fun r u34 t H locs ht hvm hw hB hz1 hk1 hS => ?_)
            try dsimp only at hw hB
            obtain ⟨hP1, hD1⟩ := hB
            rw [ht] at hP1
            obtain ⟨hP, hD⟩ := post_j (ws' := [(qm, .inr (8, [.int 0, .int 0, .int 2, .ref (um 0), .ref (um 1), .int 0, .int 500, .int 0, .int 0, .int 0, .ref (um 6)])), ((um 6), .inr (1, [.int 0, .ref (ε 1), .int 0])), (qo, .inl (κ 2, 1, .inr (.inl u34)))]) (wr := [(qm, .inr (8, [.int 0, .int 0, .int 2, .ref (um 0), .ref (um 1), .int 0, .int 500, .int 0, .int 0, .int 0, .ref (um 6)])), ((um 6), .inr (1, [.int 0, .ref (ε 1), .int 0]))]) (w1 := [(qo, .inl (κ 2, 1, .inr (.inl u34)))]) hP hD hF [0, 7, 1, 2, 3, 4] rfl [5, 6] rfl (by decide) (by decide) hk1 hP1 hD1 [0, 1, 2] (by decide) rfl
            have hP : va_P D vwCl [(qm, .inr (8, [.int 0, .int 0, .int 2, .ref (um 0), .ref (um 1), .int 0, .int 500, .int 0, .int 0, .int 0, .ref (um 6)])), ((um 6), .inr (1, [.int 0, .ref (ε 1), .int 0])), (qo, .inl (κ 2, 1, .inr (.inl u34)))] H := hP
            have hD : va_D (fun q : Nat => s.heap.size ≤ q) [(qm, .inr (8, [.int 0, .int 0, .int 2, .ref (um 0), .ref (um 1), .int 0, .int 500, .int 0, .int 0, .int 0, .ref (um 6)])), ((um 6), .inr (1, [.int 0, .ref (ε 1), .int 0])), (qo, .inl (κ 2, 1, .inr (.inl u34)))] := hD
            rcases hw with ⟨c35, rfl⟩ | ⟨c36, c37, rfl⟩ | ⟨c38, c39, hu40, rfl⟩
            · skip
              refine lv_istore (lv' := [(5, .int 1), (0, .ref b), (1, .ref qx), (2, .ref qm), (3, .ref qo), (4, .int 0)]) hx hb dL_law_1348 hl (by decide) rfl (fun ls hl => ?_)
              refine lv_aload_n hx hb dL_law_1350 rfl (lv_at hl 3 rfl) ?_
              refine lv_aload_n hx hb dL_law_1351 rfl (lv_at hl 1 rfl) ?_
              refine lv_iload hx hb dL_law_1352 (lv_at hl 5 rfl) ?_
              refine lv_iconst (v := 1) hx hb dL_law_1354 (by decide) ?_
              refine lv_iadd hx hb dL_law_1355 ?_
              refine tpi (v := 1) (by decide) ?_
              refine va_sld hx hb hX hbl hbA hS (vpl (by decide)) dL_law_1356 ?_
              refine tpi (v := (xs 1)) rfl ?_
              refine tpi (v := 4) e33 ?_
              refine lv_aload_n hx hb dL_law_1357 rfl (lv_at hl 1 rfl) ?_
              refine lv_iload hx hb dL_law_1358 (lv_at hl 5 rfl) ?_
              refine lv_iconst (v := 2) hx hb dL_law_1360 (by decide) ?_
              refine lv_iadd hx hb dL_law_1361 ?_
              refine tpi (v := 2) (by decide) ?_
              refine va_sld hx hb hX hbl hbA hS (vpl (by decide)) dL_law_1362 ?_
              refine tpi (v := (xs 2)) rfl ?_
              have hF := va_free (wc := [(qm, .inr (8, [.int 0, .int 0, .int 2, .ref (um 0), .ref (um 1), .int 0, .int 500, .int 0, .int 0, .int 0, .ref (um 6)]))]) hD hS hA [0] rfl
              refine va_calli (va_runV (As := [.int 4, .int (xs 2)]) (rest := []) ⟨hx, hb, hml, hown, hts⟩ (k_X6_addStep_7 l D κ ε qm (um 0) (um 1) (um 6) H.size ((xs 2)) c35) (cwV 2 hts gL_law_X6_addStep rfl rfl rfl (by decide +kernel) ⟨(Nat.le_of_ble_eq_true rfl), (Nat.le_of_ble_eq_true rfl)⟩) (pre2_V (q0 := 0) (ci := 8) (wc := [(qm, .inr (8, [.int 0, .int 0, .int 2, .ref (um 0), .ref (um 1), .int 0, .int 500, .int 0, .int 0, .int 0, .ref (um 6)]))]) hP hD hK hE9 hS hA [0] (by decide) rfl rfl rfl) rfl rfl hl.1 rfl (lv_room (Nat.le_of_ble_eq_true rfl)) dL_law_1363 ⟨(Nat.le_of_ble_eq_true rfl), (Nat.le_of_ble_eq_true rfl)⟩) hS (fun q _ h => hF q h) hF (fun r u41 t H locs ht hvm hw hB hz1 hk1 hS => ?_)
              try dsimp only at hw hB
              obtain ⟨hP1, hD1⟩ := hB
              rw [ht] at hP1
              obtain ⟨hP, hD⟩ := post_j (ws' := [(qm, .inr (8, u41)), ((um 6), .inr (1, [.int 0, .ref (ε 1), .int 0])), (qo, .inl (κ 2, 1, .inr (.inl u34)))]) (wr := [((um 6), .inr (1, [.int 0, .ref (ε 1), .int 0])), (qo, .inl (κ 2, 1, .inr (.inl u34)))]) (w1 := [(qm, .inr (8, u41))]) hP hD hF [0] rfl [1, 2] rfl (by decide) (by decide) hk1 hP1 hD1 [2, 0, 1] (by decide) rfl
              have hP : va_P D vwCl [(qm, .inr (8, u41)), ((um 6), .inr (1, [.int 0, .ref (ε 1), .int 0])), (qo, .inl (κ 2, 1, .inr (.inl u34)))] H := hP
              have hD : va_D (fun q : Nat => s.heap.size ≤ q) [(qm, .inr (8, u41)), ((um 6), .inr (1, [.int 0, .ref (ε 1), .int 0])), (qo, .inl (κ 2, 1, .inr (.inl u34)))] := hD
              obtain ⟨hu42, rfl⟩ := hw
              refine lv_istore (lv' := [(6, .int 0), (5, .int 1), (0, .ref b), (1, .ref qx), (2, .ref qm), (3, .ref qo), (4, .int 0)]) hx hb dL_law_1366 hl (by decide) rfl (fun ls hl => ?_)
              refine lv_aload_n hx hb dL_law_1368 rfl (lv_at hl 4 rfl) ?_
              refine vp_callSi (W.runV (As := []) (rest := []) ⟨hx, hb, hml, hown, hts⟩ (k_thrown l D κ qm u41 (1) hu42) (cwV 0 hts gL_law_X6_thrown rfl rfl rfl (by decide +kernel) ⟨(Nat.le_of_ble_eq_true rfl), (Nat.le_of_ble_eq_true rfl)⟩) (pre0_V (q0 := 0) (ci := 8) (wc := [(qm, .inr (8, u41))]) hP hK [0] rfl rfl rfl) rfl rfl hl.1 rfl (lv_room (Nat.le_of_ble_eq_true rfl)) dL_law_1369 ⟨(Nat.le_of_ble_eq_true rfl), (Nat.le_of_ble_eq_true rfl)⟩) (fun r hw => ?_)
              subst hw
              refine lv_iload hx hb dL_law_1372 (lv_at hl 1 rfl) ?_
              refine lv_icmp_eq (tgt := 1379) hx hb dL_law_1374 (by decide) (fun _ => ?_) (fun h => absurd (by decide) h)
              refine lv_iload hx hb dL_law_1379 (lv_at hl 1 rfl) ?_
              refine lv_if_ne (tgt := 1396) hx hb dL_law_1381 (by decide) (fun _ => ?_) (fun h => absurd h (by decide))
              refine lv_goto (tgt := 1677) hx hb dL_law_1396 (by decide) ?_
              exact law_end C0 (Nat.le_of_ble_eq_true rfl) (Nat.le_of_ble_eq_true rfl) hS (lv_sub hl [2, 6] rfl)
            · skip
              refine lv_istore (lv' := [(5, .int 1), (0, .ref b), (1, .ref qx), (2, .ref qm), (3, .ref qo), (4, .int 0)]) hx hb dL_law_1348 hl (by decide) rfl (fun ls hl => ?_)
              refine lv_aload_n hx hb dL_law_1350 rfl (lv_at hl 3 rfl) ?_
              refine lv_aload_n hx hb dL_law_1351 rfl (lv_at hl 1 rfl) ?_
              refine lv_iload hx hb dL_law_1352 (lv_at hl 5 rfl) ?_
              refine lv_iconst (v := 1) hx hb dL_law_1354 (by decide) ?_
              refine lv_iadd hx hb dL_law_1355 ?_
              refine tpi (v := 1) (by decide) ?_
              refine va_sld hx hb hX hbl hbA hS (vpl (by decide)) dL_law_1356 ?_
              refine tpi (v := (xs 1)) rfl ?_
              refine tpi (v := 4) e33 ?_
              refine lv_aload_n hx hb dL_law_1357 rfl (lv_at hl 1 rfl) ?_
              refine lv_iload hx hb dL_law_1358 (lv_at hl 5 rfl) ?_
              refine lv_iconst (v := 2) hx hb dL_law_1360 (by decide) ?_
              refine lv_iadd hx hb dL_law_1361 ?_
              refine tpi (v := 2) (by decide) ?_
              refine va_sld hx hb hX hbl hbA hS (vpl (by decide)) dL_law_1362 ?_
              refine tpi (v := (xs 2)) rfl ?_
              have hF := va_free (wc := [(qm, .inr (8, [.int 0, .int 0, .int 2, .ref (um 0), .ref (um 1), .int 0, .int 500, .int 0, .int 0, .int 0, .ref (um 6)]))]) hD hS hA [0] rfl
              refine va_calli (va_runV (As := [.int 4, .int (xs 2)]) (rest := []) ⟨hx, hb, hml, hown, hts⟩ (k_X6_addStep_8 l D κ ε qm (um 0) (um 1) (um 6) H.size ((xs 2)) c36 c37) (cwV 2 hts gL_law_X6_addStep rfl rfl rfl (by decide +kernel) ⟨(Nat.le_of_ble_eq_true rfl), (Nat.le_of_ble_eq_true rfl)⟩) (pre2_V (q0 := 0) (ci := 8) (wc := [(qm, .inr (8, [.int 0, .int 0, .int 2, .ref (um 0), .ref (um 1), .int 0, .int 500, .int 0, .int 0, .int 0, .ref (um 6)]))]) hP hD hK hE9 hS hA [0] (by decide) rfl rfl rfl) rfl rfl hl.1 rfl (lv_room (Nat.le_of_ble_eq_true rfl)) dL_law_1363 ⟨(Nat.le_of_ble_eq_true rfl), (Nat.le_of_ble_eq_true rfl)⟩) hS (fun q _ h => hF q h) hF (fun r u43 t H locs ht hvm hw hB hz1 hk1 hS => ?_)
              try dsimp only at hw hB
              obtain ⟨hP1, hD1⟩ := hB
              rw [ht] at hP1
              obtain ⟨hP, hD⟩ := post_j (ws' := [(qm, .inr (8, u43)), ((um 6), .inr (1, [.int 0, .ref (ε 1), .int 0])), (qo, .inl (κ 2, 1, .inr (.inl u34)))]) (wr := [((um 6), .inr (1, [.int 0, .ref (ε 1), .int 0])), (qo, .inl (κ 2, 1, .inr (.inl u34)))]) (w1 := [(qm, .inr (8, u43))]) hP hD hF [0] rfl [1, 2] rfl (by decide) (by decide) hk1 hP1 hD1 [2, 0, 1] (by decide) rfl
              have hP : va_P D vwCl [(qm, .inr (8, u43)), ((um 6), .inr (1, [.int 0, .ref (ε 1), .int 0])), (qo, .inl (κ 2, 1, .inr (.inl u34)))] H := hP
              have hD : va_D (fun q : Nat => s.heap.size ≤ q) [(qm, .inr (8, u43)), ((um 6), .inr (1, [.int 0, .ref (ε 1), .int 0])), (qo, .inl (κ 2, 1, .inr (.inl u34)))] := hD
              obtain ⟨hu44, rfl⟩ := hw
              refine lv_istore (lv' := [(6, .int 0), (5, .int 1), (0, .ref b), (1, .ref qx), (2, .ref qm), (3, .ref qo), (4, .int 0)]) hx hb dL_law_1366 hl (by decide) rfl (fun ls hl => ?_)
              refine lv_aload_n hx hb dL_law_1368 rfl (lv_at hl 4 rfl) ?_
              refine vp_callSi (W.runV (As := []) (rest := []) ⟨hx, hb, hml, hown, hts⟩ (k_thrown l D κ qm u43 (1) hu44) (cwV 0 hts gL_law_X6_thrown rfl rfl rfl (by decide +kernel) ⟨(Nat.le_of_ble_eq_true rfl), (Nat.le_of_ble_eq_true rfl)⟩) (pre0_V (q0 := 0) (ci := 8) (wc := [(qm, .inr (8, u43))]) hP hK [0] rfl rfl rfl) rfl rfl hl.1 rfl (lv_room (Nat.le_of_ble_eq_true rfl)) dL_law_1369 ⟨(Nat.le_of_ble_eq_true rfl), (Nat.le_of_ble_eq_true rfl)⟩) (fun r hw => ?_)
              subst hw
              refine lv_iload hx hb dL_law_1372 (lv_at hl 1 rfl) ?_
              refine lv_icmp_eq (tgt := 1379) hx hb dL_law_1374 (by decide) (fun _ => ?_) (fun h => absurd (by decide) h)
              refine lv_iload hx hb dL_law_1379 (lv_at hl 1 rfl) ?_
              refine lv_if_ne (tgt := 1396) hx hb dL_law_1381 (by decide) (fun _ => ?_) (fun h => absurd h (by decide))
              refine lv_goto (tgt := 1677) hx hb dL_law_1396 (by decide) ?_
              exact law_end C0 (Nat.le_of_ble_eq_true rfl) (Nat.le_of_ble_eq_true rfl) hS (lv_sub hl [2, 6] rfl)
            · skip
              refine lv_istore (lv' := [(5, .int 0), (0, .ref b), (1, .ref qx), (2, .ref qm), (3, .ref qo), (4, .int 0)]) hx hb dL_law_1348 hl (by decide) rfl (fun ls hl => ?_)
              refine lv_aload_n hx hb dL_law_1350 rfl (lv_at hl 3 rfl) ?_
              refine lv_aload_n hx hb dL_law_1351 rfl (lv_at hl 1 rfl) ?_
              refine lv_iload hx hb dL_law_1352 (lv_at hl 5 rfl) ?_
              refine lv_iconst (v := 1) hx hb dL_law_1354 (by decide) ?_
              refine lv_iadd hx hb dL_law_1355 ?_
              refine tpi (v := 1) (by decide) ?_
              refine va_sld hx hb hX hbl hbA hS (vpl (by decide)) dL_law_1356 ?_
              refine tpi (v := (xs 1)) rfl ?_
              refine tpi (v := 4) e33 ?_
              refine lv_aload_n hx hb dL_law_1357 rfl (lv_at hl 1 rfl) ?_
              refine lv_iload hx hb dL_law_1358 (lv_at hl 5 rfl) ?_
              refine lv_iconst (v := 2) hx hb dL_law_1360 (by decide) ?_
              refine lv_iadd hx hb dL_law_1361 ?_
              refine tpi (v := 2) (by decide) ?_
              refine va_sld hx hb hX hbl hbA hS (vpl (by decide)) dL_law_1362 ?_
              refine tpi (v := (xs 2)) rfl ?_
              refine tpi (v := 0) c39 ?_
              have hF := va_free (wc := [(qm, .inr (8, [.int 0, .int 0, .int 2, .ref (um 0), .ref (um 1), .int 0, .int 500, .int 0, .int 0, .int 0, .ref (um 6)])), ((um 6), .inr (1, [.int 0, .ref (ε 1), .int 0]))]) hD hS hA [0, 1] rfl
              refine va_calli (va_runV (As := [.int 4, .int 0]) (rest := []) ⟨hx, hb, hml, hown, hts⟩ (k_X6_addStep_9 l D κ ε qm (um 0) (um 1) (um 6) H.size) (cwV 2 hts gL_law_X6_addStep rfl rfl rfl (by decide +kernel) ⟨(Nat.le_of_ble_eq_true rfl), (Nat.le_of_ble_eq_true rfl)⟩) (pre2_V (q0 := 0) (ci := 8) (wc := [(qm, .inr (8, [.int 0, .int 0, .int 2, .ref (um 0), .ref (um 1), .int 0, .int 500, .int 0, .int 0, .int 0, .ref (um 6)])), ((um 6), .inr (1, [.int 0, .ref (ε 1), .int 0]))]) hP hD hK hE9 hS hA [0, 1] (by decide) rfl rfl rfl) rfl rfl hl.1 rfl (lv_room (Nat.le_of_ble_eq_true rfl)) dL_law_1363 ⟨(Nat.le_of_ble_eq_true rfl), (Nat.le_of_ble_eq_true rfl)⟩) hS (fun q _ h => hF q h) hF (fun r u45 t H locs ht hvm hw hB hz1 hk1 hS => ?_)
              try dsimp only at hw hB
              obtain ⟨hP1, hD1⟩ := hB
              rw [ht] at hP1
              obtain ⟨hP, hD⟩ := post_j (ws' := [(qm, .inr (8, u45)), (qo, .inl (κ 2, 1, .inr (.inl u34)))]) (wr := [(qo, .inl (κ 2, 1, .inr (.inl u34)))]) (w1 := [(qm, .inr (8, u45))]) hP hD hF [0, 1] rfl [2] rfl (by decide) (by decide) hk1 hP1 hD1 [1, 0] (by decide) rfl
              have hP : va_P D vwCl [(qm, .inr (8, u45)), (qo, .inl (κ 2, 1, .inr (.inl u34)))] H := hP
              have hD : va_D (fun q : Nat => s.heap.size ≤ q) [(qm, .inr (8, u45)), (qo, .inl (κ 2, 1, .inr (.inl u34)))] := hD
              obtain ⟨hu46, rfl⟩ := hw
              refine lv_istore (lv' := [(6, .int 0), (5, .int 0), (0, .ref b), (1, .ref qx), (2, .ref qm), (3, .ref qo), (4, .int 0)]) hx hb dL_law_1366 hl (by decide) rfl (fun ls hl => ?_)
              refine lv_aload_n hx hb dL_law_1368 rfl (lv_at hl 4 rfl) ?_
              refine vp_callSi (W.runV (As := []) (rest := []) ⟨hx, hb, hml, hown, hts⟩ (k_thrown l D κ qm u45 (0) hu46) (cwV 0 hts gL_law_X6_thrown rfl rfl rfl (by decide +kernel) ⟨(Nat.le_of_ble_eq_true rfl), (Nat.le_of_ble_eq_true rfl)⟩) (pre0_V (q0 := 0) (ci := 8) (wc := [(qm, .inr (8, u45))]) hP hK [0] rfl rfl rfl) rfl rfl hl.1 rfl (lv_room (Nat.le_of_ble_eq_true rfl)) dL_law_1369 ⟨(Nat.le_of_ble_eq_true rfl), (Nat.le_of_ble_eq_true rfl)⟩) (fun r hw => ?_)
              subst hw
              refine lv_iload hx hb dL_law_1372 (lv_at hl 1 rfl) ?_
              refine lv_icmp_eq (tgt := 1379) hx hb dL_law_1374 (by decide) (fun _ => ?_) (fun h => absurd (by decide) h)
              refine lv_iload hx hb dL_law_1379 (lv_at hl 1 rfl) ?_
              refine lv_if_ne (tgt := 1396) hx hb dL_law_1381 (by decide) (fun h => absurd (by decide) h) (fun _ => ?_)
              refine lv_aload_n hx hb dL_law_1384 rfl (lv_at hl 5 rfl) ?_
              refine lv_iconst (v := 0) hx hb dL_law_1385 (by decide) ?_
              refine va_lald (cA := κ 2) (n := 1) (f := u34) hx hb hK hP 1 2 rfl rfl (vpl (by decide)) dL_law_1386 ?_
              refine tpl (v := 0) hu40 ?_
              refine lv_iload hx hb dL_law_1387 (lv_at hl 0 rfl) ?_
              refine lv_i2l (v := 0) hx hb dL_law_1389 (by decide) ?_
              refine W.lcmp hx hb dL_law_1390 ?_
              refine tpi (v := 0) (by decide) ?_
              refine lv_if_eq (tgt := 1396) hx hb dL_law_1391 (by decide) (fun _ => ?_) (fun h => absurd (by decide) h)
              refine lv_goto (tgt := 1677) hx hb dL_law_1396 (by decide) ?_
              exact law_end C0 (Nat.le_of_ble_eq_true rfl) (Nat.le_of_ble_eq_true rfl) hS (lv_sub hl [2, 6] rfl)
          · skip
            by_cases e47 : (xs 1) = 5
            · skip
              refine lv_aload_n hx hb dL_law_1331 rfl (lv_at hl 1 rfl) ?_
              refine lv_aload_n hx hb dL_law_1332 rfl (lv_at hl 0 rfl) ?_
              refine lv_iload hx hb dL_law_1333 (lv_at hl 4 rfl) ?_
              refine lv_iconst (v := 1) hx hb dL_law_1335 (by decide) ?_
              refine lv_iadd hx hb dL_law_1336 ?_
              refine tpi (v := 1) (by decide) ?_
              refine va_sld hx hb hX hbl hbA hS (vpl (by decide)) dL_law_1337 ?_
              refine tpi (v := (xs 1)) rfl ?_
              refine tpi (v := 5) e47 ?_
              refine lv_aload_n hx hb dL_law_1338 rfl (lv_at hl 0 rfl) ?_
              refine lv_iload hx hb dL_law_1339 (lv_at hl 4 rfl) ?_
              refine lv_iconst (v := 2) hx hb dL_law_1341 (by decide) ?_
              refine lv_iadd hx hb dL_law_1342 ?_
              refine tpi (v := 2) (by decide) ?_
              refine va_sld hx hb hX hbl hbA hS (vpl (by decide)) dL_law_1343 ?_
              refine tpi (v := (xs 2)) rfl ?_
              refine lv_aload_n hx hb dL_law_1344 rfl (lv_at hl 3 rfl) ?_
              have hF := va_free (wc := [(qx, .inr (7, [.ref (ux 0), .ref (ux 27), .ref (ux 30), .ref (ux 31), .ref (ux 35), .ref (ux 36), .int 0, .int 0, .int 0, .int 0])), (qo, .inl (κ 2, 1, .inr (.inl (fun _ => 0)))), ((ux 31), .inr (4, [.ref (ux 32), .ref (ux 33), .ref (ux 34), .int 0])), ((ux 32), .inl (κ 0, 12, .inl (fun _ => 0))), ((ux 33), .inl (κ 0, 12, .inl (fun _ => 0)))]) hD hS hA [0, 7, 2, 3, 4] rfl
              refine va_calli (vx_runSW (As := [.ref qx, .int 5, .int (xs 2), .ref qo]) (rest := []) ⟨hx, hb, hml, hown, hts⟩ (k_L_addStep_5 l hst D κ ε qx qo (ux 0) (ux 27) (ux 30) (ux 31) (ux 35) (ux 36) (ux 32) (ux 33) (ux 34) H.size ((xs 2))) (vx_cwSW 4 hts gL_law_L_addStep_y rfl rfl rfl (by decide +kernel) ⟨(Nat.le_of_ble_eq_true rfl), (Nat.le_of_ble_eq_true rfl)⟩) (pre2_S (wc := [(qx, .inr (7, [.ref (ux 0), .ref (ux 27), .ref (ux 30), .ref (ux 31), .ref (ux 35), .ref (ux 36), .int 0, .int 0, .int 0, .int 0])), (qo, .inl (κ 2, 1, .inr (.inl (fun _ => 0)))), ((ux 31), .inr (4, [.ref (ux 32), .ref (ux 33), .ref (ux 34), .int 0])), ((ux 32), .inl (κ 0, 12, .inl (fun _ => 0))), ((ux 33), .inl (κ 0, 12, .inl (fun _ => 0)))]) hP hD hK hE9 hS hA [0, 7, 2, 3, 4] (by decide) rfl) rfl rfl hl.1 rfl (lv_room (Nat.le_of_ble_eq_true rfl)) dL_law_1345 ⟨(Nat.le_of_ble_eq_true rfl), (Nat.le_of_ble_eq_true rfl)⟩) hS (fun q _ h => hF q h) hF (fun r u48 t H locs ht hvm hw hB hz1 hk1 hS => ?_)
              try dsimp only at hw hB
              obtain ⟨hP1, hD1⟩ := hB
              rw [ht] at hP1
              obtain ⟨hP, hD⟩ := post_j (ws' := [((ux 0), .inr (2, [.int 0, .int 2, .ref (ux 1), .ref (ux 2)])), (qm, .inr (8, [.int 0, .int 0, .int 2, .ref (um 0), .ref (um 1), .int 0, .int 500, .int 0, .int 0, .int 0, .ref (um 6)])), ((um 6), .inr (1, [.int 0, .ref (ε 1), .int 0])), (qo, .inl (κ 2, 1, .inr (.inl u48)))]) (wr := [((ux 0), .inr (2, [.int 0, .int 2, .ref (ux 1), .ref (ux 2)])), (qm, .inr (8, [.int 0, .int 0, .int 2, .ref (um 0), .ref (um 1), .int 0, .int 500, .int 0, .int 0, .int 0, .ref (um 6)])), ((um 6), .inr (1, [.int 0, .ref (ε 1), .int 0]))]) (w1 := [(qo, .inl (κ 2, 1, .inr (.inl u48)))]) hP hD hF [0, 7, 2, 3, 4] rfl [1, 5, 6] rfl (by decide) (by decide) hk1 hP1 hD1 [0, 1, 2, 3] (by decide) rfl
              have hP : va_P D vwCl [((ux 0), .inr (2, [.int 0, .int 2, .ref (ux 1), .ref (ux 2)])), (qm, .inr (8, [.int 0, .int 0, .int 2, .ref (um 0), .ref (um 1), .int 0, .int 500, .int 0, .int 0, .int 0, .ref (um 6)])), ((um 6), .inr (1, [.int 0, .ref (ε 1), .int 0])), (qo, .inl (κ 2, 1, .inr (.inl u48)))] H := hP
              have hD : va_D (fun q : Nat => s.heap.size ≤ q) [((ux 0), .inr (2, [.int 0, .int 2, .ref (ux 1), .ref (ux 2)])), (qm, .inr (8, [.int 0, .int 0, .int 2, .ref (um 0), .ref (um 1), .int 0, .int 500, .int 0, .int 0, .int 0, .ref (um 6)])), ((um 6), .inr (1, [.int 0, .ref (ε 1), .int 0])), (qo, .inl (κ 2, 1, .inr (.inl u48)))] := hD
              rcases hw with ⟨c49, rfl⟩ | ⟨c50, c51, rfl⟩ | ⟨c52, c53, hu54, rfl⟩
              · skip
                refine lv_istore (lv' := [(5, .int 1), (0, .ref b), (1, .ref qx), (2, .ref qm), (3, .ref qo), (4, .int 0)]) hx hb dL_law_1348 hl (by decide) rfl (fun ls hl => ?_)
                refine lv_aload_n hx hb dL_law_1350 rfl (lv_at hl 3 rfl) ?_
                refine lv_aload_n hx hb dL_law_1351 rfl (lv_at hl 1 rfl) ?_
                refine lv_iload hx hb dL_law_1352 (lv_at hl 5 rfl) ?_
                refine lv_iconst (v := 1) hx hb dL_law_1354 (by decide) ?_
                refine lv_iadd hx hb dL_law_1355 ?_
                refine tpi (v := 1) (by decide) ?_
                refine va_sld hx hb hX hbl hbA hS (vpl (by decide)) dL_law_1356 ?_
                refine tpi (v := (xs 1)) rfl ?_
                refine tpi (v := 5) e47 ?_
                refine lv_aload_n hx hb dL_law_1357 rfl (lv_at hl 1 rfl) ?_
                refine lv_iload hx hb dL_law_1358 (lv_at hl 5 rfl) ?_
                refine lv_iconst (v := 2) hx hb dL_law_1360 (by decide) ?_
                refine lv_iadd hx hb dL_law_1361 ?_
                refine tpi (v := 2) (by decide) ?_
                refine va_sld hx hb hX hbl hbA hS (vpl (by decide)) dL_law_1362 ?_
                refine tpi (v := (xs 2)) rfl ?_
                have hF := va_free (wc := [(qm, .inr (8, [.int 0, .int 0, .int 2, .ref (um 0), .ref (um 1), .int 0, .int 500, .int 0, .int 0, .int 0, .ref (um 6)]))]) hD hS hA [1] rfl
                refine va_calli (va_runV (As := [.int 5, .int (xs 2)]) (rest := []) ⟨hx, hb, hml, hown, hts⟩ (k_X6_addStep_10 l D κ ε qm (um 0) (um 1) (um 6) H.size ((xs 2)) c49) (cwV 2 hts gL_law_X6_addStep rfl rfl rfl (by decide +kernel) ⟨(Nat.le_of_ble_eq_true rfl), (Nat.le_of_ble_eq_true rfl)⟩) (pre2_V (q0 := 1) (ci := 8) (wc := [(qm, .inr (8, [.int 0, .int 0, .int 2, .ref (um 0), .ref (um 1), .int 0, .int 500, .int 0, .int 0, .int 0, .ref (um 6)]))]) hP hD hK hE9 hS hA [1] (by decide) rfl rfl rfl) rfl rfl hl.1 rfl (lv_room (Nat.le_of_ble_eq_true rfl)) dL_law_1363 ⟨(Nat.le_of_ble_eq_true rfl), (Nat.le_of_ble_eq_true rfl)⟩) hS (fun q _ h => hF q h) hF (fun r u55 t H locs ht hvm hw hB hz1 hk1 hS => ?_)
                try dsimp only at hw hB
                obtain ⟨hP1, hD1⟩ := hB
                rw [ht] at hP1
                obtain ⟨hP, hD⟩ := post_j (ws' := [((ux 0), .inr (2, [.int 0, .int 2, .ref (ux 1), .ref (ux 2)])), (qm, .inr (8, u55)), ((um 6), .inr (1, [.int 0, .ref (ε 1), .int 0])), (qo, .inl (κ 2, 1, .inr (.inl u48)))]) (wr := [((ux 0), .inr (2, [.int 0, .int 2, .ref (ux 1), .ref (ux 2)])), ((um 6), .inr (1, [.int 0, .ref (ε 1), .int 0])), (qo, .inl (κ 2, 1, .inr (.inl u48)))]) (w1 := [(qm, .inr (8, u55))]) hP hD hF [1] rfl [0, 2, 3] rfl (by decide) (by decide) hk1 hP1 hD1 [0, 3, 1, 2] (by decide) rfl
                have hP : va_P D vwCl [((ux 0), .inr (2, [.int 0, .int 2, .ref (ux 1), .ref (ux 2)])), (qm, .inr (8, u55)), ((um 6), .inr (1, [.int 0, .ref (ε 1), .int 0])), (qo, .inl (κ 2, 1, .inr (.inl u48)))] H := hP
                have hD : va_D (fun q : Nat => s.heap.size ≤ q) [((ux 0), .inr (2, [.int 0, .int 2, .ref (ux 1), .ref (ux 2)])), (qm, .inr (8, u55)), ((um 6), .inr (1, [.int 0, .ref (ε 1), .int 0])), (qo, .inl (κ 2, 1, .inr (.inl u48)))] := hD
                obtain ⟨hu56, rfl⟩ := hw
                refine lv_istore (lv' := [(6, .int 0), (5, .int 1), (0, .ref b), (1, .ref qx), (2, .ref qm), (3, .ref qo), (4, .int 0)]) hx hb dL_law_1366 hl (by decide) rfl (fun ls hl => ?_)
                refine lv_aload_n hx hb dL_law_1368 rfl (lv_at hl 4 rfl) ?_
                refine vp_callSi (W.runV (As := []) (rest := []) ⟨hx, hb, hml, hown, hts⟩ (k_thrown l D κ qm u55 (1) hu56) (cwV 0 hts gL_law_X6_thrown rfl rfl rfl (by decide +kernel) ⟨(Nat.le_of_ble_eq_true rfl), (Nat.le_of_ble_eq_true rfl)⟩) (pre0_V (q0 := 1) (ci := 8) (wc := [(qm, .inr (8, u55))]) hP hK [1] rfl rfl rfl) rfl rfl hl.1 rfl (lv_room (Nat.le_of_ble_eq_true rfl)) dL_law_1369 ⟨(Nat.le_of_ble_eq_true rfl), (Nat.le_of_ble_eq_true rfl)⟩) (fun r hw => ?_)
                subst hw
                refine lv_iload hx hb dL_law_1372 (lv_at hl 1 rfl) ?_
                refine lv_icmp_eq (tgt := 1379) hx hb dL_law_1374 (by decide) (fun _ => ?_) (fun h => absurd (by decide) h)
                refine lv_iload hx hb dL_law_1379 (lv_at hl 1 rfl) ?_
                refine lv_if_ne (tgt := 1396) hx hb dL_law_1381 (by decide) (fun _ => ?_) (fun h => absurd h (by decide))
                refine lv_goto (tgt := 1677) hx hb dL_law_1396 (by decide) ?_
                exact law_end C0 (Nat.le_of_ble_eq_true rfl) (Nat.le_of_ble_eq_true rfl) hS (lv_sub hl [2, 6] rfl)
              · skip
                refine lv_istore (lv' := [(5, .int 1), (0, .ref b), (1, .ref qx), (2, .ref qm), (3, .ref qo), (4, .int 0)]) hx hb dL_law_1348 hl (by decide) rfl (fun ls hl => ?_)
                refine lv_aload_n hx hb dL_law_1350 rfl (lv_at hl 3 rfl) ?_
                refine lv_aload_n hx hb dL_law_1351 rfl (lv_at hl 1 rfl) ?_
                refine lv_iload hx hb dL_law_1352 (lv_at hl 5 rfl) ?_
                refine lv_iconst (v := 1) hx hb dL_law_1354 (by decide) ?_
                refine lv_iadd hx hb dL_law_1355 ?_
                refine tpi (v := 1) (by decide) ?_
                refine va_sld hx hb hX hbl hbA hS (vpl (by decide)) dL_law_1356 ?_
                refine tpi (v := (xs 1)) rfl ?_
                refine tpi (v := 5) e47 ?_
                refine lv_aload_n hx hb dL_law_1357 rfl (lv_at hl 1 rfl) ?_
                refine lv_iload hx hb dL_law_1358 (lv_at hl 5 rfl) ?_
                refine lv_iconst (v := 2) hx hb dL_law_1360 (by decide) ?_
                refine lv_iadd hx hb dL_law_1361 ?_
                refine tpi (v := 2) (by decide) ?_
                refine va_sld hx hb hX hbl hbA hS (vpl (by decide)) dL_law_1362 ?_
                refine tpi (v := (xs 2)) rfl ?_
                have hF := va_free (wc := [(qm, .inr (8, [.int 0, .int 0, .int 2, .ref (um 0), .ref (um 1), .int 0, .int 500, .int 0, .int 0, .int 0, .ref (um 6)]))]) hD hS hA [1] rfl
                refine va_calli (va_runV (As := [.int 5, .int (xs 2)]) (rest := []) ⟨hx, hb, hml, hown, hts⟩ (k_X6_addStep_11 l D κ ε qm (um 0) (um 1) (um 6) H.size ((xs 2)) c50 c51) (cwV 2 hts gL_law_X6_addStep rfl rfl rfl (by decide +kernel) ⟨(Nat.le_of_ble_eq_true rfl), (Nat.le_of_ble_eq_true rfl)⟩) (pre2_V (q0 := 1) (ci := 8) (wc := [(qm, .inr (8, [.int 0, .int 0, .int 2, .ref (um 0), .ref (um 1), .int 0, .int 500, .int 0, .int 0, .int 0, .ref (um 6)]))]) hP hD hK hE9 hS hA [1] (by decide) rfl rfl rfl) rfl rfl hl.1 rfl (lv_room (Nat.le_of_ble_eq_true rfl)) dL_law_1363 ⟨(Nat.le_of_ble_eq_true rfl), (Nat.le_of_ble_eq_true rfl)⟩) hS (fun q _ h => hF q h) hF (fun r u57 t H locs ht hvm hw hB hz1 hk1 hS => ?_)
                try dsimp only at hw hB
                obtain ⟨hP1, hD1⟩ := hB
                rw [ht] at hP1
                obtain ⟨hP, hD⟩ := post_j (ws' := [((ux 0), .inr (2, [.int 0, .int 2, .ref (ux 1), .ref (ux 2)])), (qm, .inr (8, u57)), ((um 6), .inr (1, [.int 0, .ref (ε 1), .int 0])), (qo, .inl (κ 2, 1, .inr (.inl u48)))]) (wr := [((ux 0), .inr (2, [.int 0, .int 2, .ref (ux 1), .ref (ux 2)])), ((um 6), .inr (1, [.int 0, .ref (ε 1), .int 0])), (qo, .inl (κ 2, 1, .inr (.inl u48)))]) (w1 := [(qm, .inr (8, u57))]) hP hD hF [1] rfl [0, 2, 3] rfl (by decide) (by decide) hk1 hP1 hD1 [0, 3, 1, 2] (by decide) rfl
                have hP : va_P D vwCl [((ux 0), .inr (2, [.int 0, .int 2, .ref (ux 1), .ref (ux 2)])), (qm, .inr (8, u57)), ((um 6), .inr (1, [.int 0, .ref (ε 1), .int 0])), (qo, .inl (κ 2, 1, .inr (.inl u48)))] H := hP
                have hD : va_D (fun q : Nat => s.heap.size ≤ q) [((ux 0), .inr (2, [.int 0, .int 2, .ref (ux 1), .ref (ux 2)])), (qm, .inr (8, u57)), ((um 6), .inr (1, [.int 0, .ref (ε 1), .int 0])), (qo, .inl (κ 2, 1, .inr (.inl u48)))] := hD
                obtain ⟨hu58, rfl⟩ := hw
                refine lv_istore (lv' := [(6, .int 0), (5, .int 1), (0, .ref b), (1, .ref qx), (2, .ref qm), (3, .ref qo), (4, .int 0)]) hx hb dL_law_1366 hl (by decide) rfl (fun ls hl => ?_)
                refine lv_aload_n hx hb dL_law_1368 rfl (lv_at hl 4 rfl) ?_
                refine vp_callSi (W.runV (As := []) (rest := []) ⟨hx, hb, hml, hown, hts⟩ (k_thrown l D κ qm u57 (1) hu58) (cwV 0 hts gL_law_X6_thrown rfl rfl rfl (by decide +kernel) ⟨(Nat.le_of_ble_eq_true rfl), (Nat.le_of_ble_eq_true rfl)⟩) (pre0_V (q0 := 1) (ci := 8) (wc := [(qm, .inr (8, u57))]) hP hK [1] rfl rfl rfl) rfl rfl hl.1 rfl (lv_room (Nat.le_of_ble_eq_true rfl)) dL_law_1369 ⟨(Nat.le_of_ble_eq_true rfl), (Nat.le_of_ble_eq_true rfl)⟩) (fun r hw => ?_)
                subst hw
                refine lv_iload hx hb dL_law_1372 (lv_at hl 1 rfl) ?_
                refine lv_icmp_eq (tgt := 1379) hx hb dL_law_1374 (by decide) (fun _ => ?_) (fun h => absurd (by decide) h)
                refine lv_iload hx hb dL_law_1379 (lv_at hl 1 rfl) ?_
                refine lv_if_ne (tgt := 1396) hx hb dL_law_1381 (by decide) (fun _ => ?_) (fun h => absurd h (by decide))
                refine lv_goto (tgt := 1677) hx hb dL_law_1396 (by decide) ?_
                exact law_end C0 (Nat.le_of_ble_eq_true rfl) (Nat.le_of_ble_eq_true rfl) hS (lv_sub hl [2, 6] rfl)
              · skip
                refine lv_istore (lv' := [(5, .int 0), (0, .ref b), (1, .ref qx), (2, .ref qm), (3, .ref qo), (4, .int 0)]) hx hb dL_law_1348 hl (by decide) rfl (fun ls hl => ?_)
                refine lv_aload_n hx hb dL_law_1350 rfl (lv_at hl 3 rfl) ?_
                refine lv_aload_n hx hb dL_law_1351 rfl (lv_at hl 1 rfl) ?_
                refine lv_iload hx hb dL_law_1352 (lv_at hl 5 rfl) ?_
                refine lv_iconst (v := 1) hx hb dL_law_1354 (by decide) ?_
                refine lv_iadd hx hb dL_law_1355 ?_
                refine tpi (v := 1) (by decide) ?_
                refine va_sld hx hb hX hbl hbA hS (vpl (by decide)) dL_law_1356 ?_
                refine tpi (v := (xs 1)) rfl ?_
                refine tpi (v := 5) e47 ?_
                refine lv_aload_n hx hb dL_law_1357 rfl (lv_at hl 1 rfl) ?_
                refine lv_iload hx hb dL_law_1358 (lv_at hl 5 rfl) ?_
                refine lv_iconst (v := 2) hx hb dL_law_1360 (by decide) ?_
                refine lv_iadd hx hb dL_law_1361 ?_
                refine tpi (v := 2) (by decide) ?_
                refine va_sld hx hb hX hbl hbA hS (vpl (by decide)) dL_law_1362 ?_
                refine tpi (v := (xs 2)) rfl ?_
                have hF := va_free (wc := [(qm, .inr (8, [.int 0, .int 0, .int 2, .ref (um 0), .ref (um 1), .int 0, .int 500, .int 0, .int 0, .int 0, .ref (um 6)])), ((um 6), .inr (1, [.int 0, .ref (ε 1), .int 0]))]) hD hS hA [1, 2] rfl
                refine va_calli (va_runV (As := [.int 5, .int (xs 2)]) (rest := []) ⟨hx, hb, hml, hown, hts⟩ (k_X6_addStep_12 l D κ ε qm (um 0) (um 1) (um 6) H.size ((xs 2)) c52 c53) (cwV 2 hts gL_law_X6_addStep rfl rfl rfl (by decide +kernel) ⟨(Nat.le_of_ble_eq_true rfl), (Nat.le_of_ble_eq_true rfl)⟩) (pre2_V (q0 := 1) (ci := 8) (wc := [(qm, .inr (8, [.int 0, .int 0, .int 2, .ref (um 0), .ref (um 1), .int 0, .int 500, .int 0, .int 0, .int 0, .ref (um 6)])), ((um 6), .inr (1, [.int 0, .ref (ε 1), .int 0]))]) hP hD hK hE9 hS hA [1, 2] (by decide) rfl rfl rfl) rfl rfl hl.1 rfl (lv_room (Nat.le_of_ble_eq_true rfl)) dL_law_1363 ⟨(Nat.le_of_ble_eq_true rfl), (Nat.le_of_ble_eq_true rfl)⟩) hS (fun q _ h => hF q h) hF (fun r u59 t H locs ht hvm hw hB hz1 hk1 hS => ?_)
                try dsimp only at hw hB
                obtain ⟨hP1, hD1⟩ := hB
                rw [ht] at hP1
                obtain ⟨hP, hD⟩ := post_j (ws' := [((ux 0), .inr (2, [.int 0, .int 2, .ref (ux 1), .ref (ux 2)])), (qm, .inr (8, u59)), (qo, .inl (κ 2, 1, .inr (.inl u48)))]) (wr := [((ux 0), .inr (2, [.int 0, .int 2, .ref (ux 1), .ref (ux 2)])), (qo, .inl (κ 2, 1, .inr (.inl u48)))]) (w1 := [(qm, .inr (8, u59))]) hP hD hF [1, 2] rfl [0, 3] rfl (by decide) (by decide) hk1 hP1 hD1 [0, 2, 1] (by decide) rfl
                have hP : va_P D vwCl [((ux 0), .inr (2, [.int 0, .int 2, .ref (ux 1), .ref (ux 2)])), (qm, .inr (8, u59)), (qo, .inl (κ 2, 1, .inr (.inl u48)))] H := hP
                have hD : va_D (fun q : Nat => s.heap.size ≤ q) [((ux 0), .inr (2, [.int 0, .int 2, .ref (ux 1), .ref (ux 2)])), (qm, .inr (8, u59)), (qo, .inl (κ 2, 1, .inr (.inl u48)))] := hD
                obtain ⟨hu60, rfl⟩ := hw
                refine lv_istore (lv' := [(6, .int 0), (5, .int 0), (0, .ref b), (1, .ref qx), (2, .ref qm), (3, .ref qo), (4, .int 0)]) hx hb dL_law_1366 hl (by decide) rfl (fun ls hl => ?_)
                refine lv_aload_n hx hb dL_law_1368 rfl (lv_at hl 4 rfl) ?_
                refine vp_callSi (W.runV (As := []) (rest := []) ⟨hx, hb, hml, hown, hts⟩ (k_thrown l D κ qm u59 (0) hu60) (cwV 0 hts gL_law_X6_thrown rfl rfl rfl (by decide +kernel) ⟨(Nat.le_of_ble_eq_true rfl), (Nat.le_of_ble_eq_true rfl)⟩) (pre0_V (q0 := 1) (ci := 8) (wc := [(qm, .inr (8, u59))]) hP hK [1] rfl rfl rfl) rfl rfl hl.1 rfl (lv_room (Nat.le_of_ble_eq_true rfl)) dL_law_1369 ⟨(Nat.le_of_ble_eq_true rfl), (Nat.le_of_ble_eq_true rfl)⟩) (fun r hw => ?_)
                subst hw
                refine lv_iload hx hb dL_law_1372 (lv_at hl 1 rfl) ?_
                refine lv_icmp_eq (tgt := 1379) hx hb dL_law_1374 (by decide) (fun _ => ?_) (fun h => absurd (by decide) h)
                refine lv_iload hx hb dL_law_1379 (lv_at hl 1 rfl) ?_
                refine lv_if_ne (tgt := 1396) hx hb dL_law_1381 (by decide) (fun h => absurd (by decide) h) (fun _ => ?_)
                refine lv_aload_n hx hb dL_law_1384 rfl (lv_at hl 5 rfl) ?_
                refine lv_iconst (v := 0) hx hb dL_law_1385 (by decide) ?_
                refine va_lald (cA := κ 2) (n := 1) (f := u48) hx hb hK hP 2 2 rfl rfl (vpl (by decide)) dL_law_1386 ?_
                refine tpl (v := 0) hu54 ?_
                refine lv_iload hx hb dL_law_1387 (lv_at hl 0 rfl) ?_
                refine lv_i2l (v := 0) hx hb dL_law_1389 (by decide) ?_
                refine W.lcmp hx hb dL_law_1390 ?_
                refine tpi (v := 0) (by decide) ?_
                refine lv_if_eq (tgt := 1396) hx hb dL_law_1391 (by decide) (fun _ => ?_) (fun h => absurd (by decide) h)
                refine lv_goto (tgt := 1677) hx hb dL_law_1396 (by decide) ?_
                exact law_end C0 (Nat.le_of_ble_eq_true rfl) (Nat.le_of_ble_eq_true rfl) hS (lv_sub hl [2, 6] rfl)
            · skip
              refine lv_aload_n hx hb dL_law_1331 rfl (lv_at hl 1 rfl) ?_
              refine lv_aload_n hx hb dL_law_1332 rfl (lv_at hl 0 rfl) ?_
              refine lv_iload hx hb dL_law_1333 (lv_at hl 4 rfl) ?_
              refine lv_iconst (v := 1) hx hb dL_law_1335 (by decide) ?_
              refine lv_iadd hx hb dL_law_1336 ?_
              refine tpi (v := 1) (by decide) ?_
              refine va_sld hx hb hX hbl hbA hS (vpl (by decide)) dL_law_1337 ?_
              refine tpi (v := (xs 1)) rfl ?_
              refine lv_aload_n hx hb dL_law_1338 rfl (lv_at hl 0 rfl) ?_
              refine lv_iload hx hb dL_law_1339 (lv_at hl 4 rfl) ?_
              refine lv_iconst (v := 2) hx hb dL_law_1341 (by decide) ?_
              refine lv_iadd hx hb dL_law_1342 ?_
              refine tpi (v := 2) (by decide) ?_
              refine va_sld hx hb hX hbl hbA hS (vpl (by decide)) dL_law_1343 ?_
              refine tpi (v := (xs 2)) rfl ?_
              refine lv_aload_n hx hb dL_law_1344 rfl (lv_at hl 3 rfl) ?_
              have hF := va_free (wc := [(qx, .inr (7, [.ref (ux 0), .ref (ux 27), .ref (ux 30), .ref (ux 31), .ref (ux 35), .ref (ux 36), .int 0, .int 0, .int 0, .int 0])), (qo, .inl (κ 2, 1, .inr (.inl (fun _ => 0))))]) hD hS hA [0, 7] rfl
              refine va_calli (vx_runSW (As := [.ref qx, .int (xs 1), .int (xs 2), .ref qo]) (rest := []) ⟨hx, hb, hml, hown, hts⟩ (k_L_addStep_6 l hst D κ ε qx qo (ux 0) (ux 27) (ux 30) (ux 31) (ux 35) (ux 36) H.size ((xs 1)) ((xs 2)) e1 e6 e11 e19 e33 e47) (vx_cwSW 4 hts gL_law_L_addStep_y rfl rfl rfl (by decide +kernel) ⟨(Nat.le_of_ble_eq_true rfl), (Nat.le_of_ble_eq_true rfl)⟩) (pre2_S (wc := [(qx, .inr (7, [.ref (ux 0), .ref (ux 27), .ref (ux 30), .ref (ux 31), .ref (ux 35), .ref (ux 36), .int 0, .int 0, .int 0, .int 0])), (qo, .inl (κ 2, 1, .inr (.inl (fun _ => 0))))]) hP hD hK hE9 hS hA [0, 7] (by decide) rfl) rfl rfl hl.1 rfl (lv_room (Nat.le_of_ble_eq_true rfl)) dL_law_1345 ⟨(Nat.le_of_ble_eq_true rfl), (Nat.le_of_ble_eq_true rfl)⟩) hS (fun q _ h => hF q h) hF (fun r u61 t H locs ht hvm hw hB hz1 hk1 hS => ?_)
              try dsimp only at hw hB
              obtain ⟨hP1, hD1⟩ := hB
              rw [ht] at hP1
              obtain ⟨hP, hD⟩ := post_j (ws' := [((ux 0), .inr (2, [.int 0, .int 2, .ref (ux 1), .ref (ux 2)])), ((ux 31), .inr (4, [.ref (ux 32), .ref (ux 33), .ref (ux 34), .int 0])), ((ux 32), .inl (κ 0, 12, .inl (fun _ => 0))), ((ux 33), .inl (κ 0, 12, .inl (fun _ => 0))), (qm, .inr (8, [.int 0, .int 0, .int 2, .ref (um 0), .ref (um 1), .int 0, .int 500, .int 0, .int 0, .int 0, .ref (um 6)])), ((um 6), .inr (1, [.int 0, .ref (ε 1), .int 0])), (qo, .inl (κ 2, 1, .inr (.inl u61)))]) (wr := [((ux 0), .inr (2, [.int 0, .int 2, .ref (ux 1), .ref (ux 2)])), ((ux 31), .inr (4, [.ref (ux 32), .ref (ux 33), .ref (ux 34), .int 0])), ((ux 32), .inl (κ 0, 12, .inl (fun _ => 0))), ((ux 33), .inl (κ 0, 12, .inl (fun _ => 0))), (qm, .inr (8, [.int 0, .int 0, .int 2, .ref (um 0), .ref (um 1), .int 0, .int 500, .int 0, .int 0, .int 0, .ref (um 6)])), ((um 6), .inr (1, [.int 0, .ref (ε 1), .int 0]))]) (w1 := [(qo, .inl (κ 2, 1, .inr (.inl u61)))]) hP hD hF [0, 7] rfl [1, 2, 3, 4, 5, 6] rfl (by decide) (by decide) hk1 hP1 hD1 [0, 1, 2, 3, 4, 5, 6] (by decide) rfl
              have hP : va_P D vwCl [((ux 0), .inr (2, [.int 0, .int 2, .ref (ux 1), .ref (ux 2)])), ((ux 31), .inr (4, [.ref (ux 32), .ref (ux 33), .ref (ux 34), .int 0])), ((ux 32), .inl (κ 0, 12, .inl (fun _ => 0))), ((ux 33), .inl (κ 0, 12, .inl (fun _ => 0))), (qm, .inr (8, [.int 0, .int 0, .int 2, .ref (um 0), .ref (um 1), .int 0, .int 500, .int 0, .int 0, .int 0, .ref (um 6)])), ((um 6), .inr (1, [.int 0, .ref (ε 1), .int 0])), (qo, .inl (κ 2, 1, .inr (.inl u61)))] H := hP
              have hD : va_D (fun q : Nat => s.heap.size ≤ q) [((ux 0), .inr (2, [.int 0, .int 2, .ref (ux 1), .ref (ux 2)])), ((ux 31), .inr (4, [.ref (ux 32), .ref (ux 33), .ref (ux 34), .int 0])), ((ux 32), .inl (κ 0, 12, .inl (fun _ => 0))), ((ux 33), .inl (κ 0, 12, .inl (fun _ => 0))), (qm, .inr (8, [.int 0, .int 0, .int 2, .ref (um 0), .ref (um 1), .int 0, .int 500, .int 0, .int 0, .int 0, .ref (um 6)])), ((um 6), .inr (1, [.int 0, .ref (ε 1), .int 0])), (qo, .inl (κ 2, 1, .inr (.inl u61)))] := hD
              obtain rfl := hw
              refine lv_istore (lv' := [(5, .int 1), (0, .ref b), (1, .ref qx), (2, .ref qm), (3, .ref qo), (4, .int 0)]) hx hb dL_law_1348 hl (by decide) rfl (fun ls hl => ?_)
              refine lv_aload_n hx hb dL_law_1350 rfl (lv_at hl 3 rfl) ?_
              refine lv_aload_n hx hb dL_law_1351 rfl (lv_at hl 1 rfl) ?_
              refine lv_iload hx hb dL_law_1352 (lv_at hl 5 rfl) ?_
              refine lv_iconst (v := 1) hx hb dL_law_1354 (by decide) ?_
              refine lv_iadd hx hb dL_law_1355 ?_
              refine tpi (v := 1) (by decide) ?_
              refine va_sld hx hb hX hbl hbA hS (vpl (by decide)) dL_law_1356 ?_
              refine tpi (v := (xs 1)) rfl ?_
              refine lv_aload_n hx hb dL_law_1357 rfl (lv_at hl 1 rfl) ?_
              refine lv_iload hx hb dL_law_1358 (lv_at hl 5 rfl) ?_
              refine lv_iconst (v := 2) hx hb dL_law_1360 (by decide) ?_
              refine lv_iadd hx hb dL_law_1361 ?_
              refine tpi (v := 2) (by decide) ?_
              refine va_sld hx hb hX hbl hbA hS (vpl (by decide)) dL_law_1362 ?_
              refine tpi (v := (xs 2)) rfl ?_
              have hF := va_free (wc := [(qm, .inr (8, [.int 0, .int 0, .int 2, .ref (um 0), .ref (um 1), .int 0, .int 500, .int 0, .int 0, .int 0, .ref (um 6)]))]) hD hS hA [4] rfl
              refine va_calli (va_runV (As := [.int (xs 1), .int (xs 2)]) (rest := []) ⟨hx, hb, hml, hown, hts⟩ (k_X6_addStep_13 l D κ ε qm (um 0) (um 1) (um 6) H.size ((xs 1)) ((xs 2)) e1 e6 e11 e19 e33 e47) (cwV 2 hts gL_law_X6_addStep rfl rfl rfl (by decide +kernel) ⟨(Nat.le_of_ble_eq_true rfl), (Nat.le_of_ble_eq_true rfl)⟩) (pre2_V (q0 := 4) (ci := 8) (wc := [(qm, .inr (8, [.int 0, .int 0, .int 2, .ref (um 0), .ref (um 1), .int 0, .int 500, .int 0, .int 0, .int 0, .ref (um 6)]))]) hP hD hK hE9 hS hA [4] (by decide) rfl rfl rfl) rfl rfl hl.1 rfl (lv_room (Nat.le_of_ble_eq_true rfl)) dL_law_1363 ⟨(Nat.le_of_ble_eq_true rfl), (Nat.le_of_ble_eq_true rfl)⟩) hS (fun q _ h => hF q h) hF (fun r u62 t H locs ht hvm hw hB hz1 hk1 hS => ?_)
              try dsimp only at hw hB
              obtain ⟨hP1, hD1⟩ := hB
              rw [ht] at hP1
              obtain ⟨hP, hD⟩ := post_j (ws' := [((ux 0), .inr (2, [.int 0, .int 2, .ref (ux 1), .ref (ux 2)])), ((ux 31), .inr (4, [.ref (ux 32), .ref (ux 33), .ref (ux 34), .int 0])), ((ux 32), .inl (κ 0, 12, .inl (fun _ => 0))), ((ux 33), .inl (κ 0, 12, .inl (fun _ => 0))), (qm, .inr (8, u62)), ((um 6), .inr (1, [.int 0, .ref (ε 1), .int 0])), (qo, .inl (κ 2, 1, .inr (.inl u61)))]) (wr := [((ux 0), .inr (2, [.int 0, .int 2, .ref (ux 1), .ref (ux 2)])), ((ux 31), .inr (4, [.ref (ux 32), .ref (ux 33), .ref (ux 34), .int 0])), ((ux 32), .inl (κ 0, 12, .inl (fun _ => 0))), ((ux 33), .inl (κ 0, 12, .inl (fun _ => 0))), ((um 6), .inr (1, [.int 0, .ref (ε 1), .int 0])), (qo, .inl (κ 2, 1, .inr (.inl u61)))]) (w1 := [(qm, .inr (8, u62))]) hP hD hF [4] rfl [0, 1, 2, 3, 5, 6] rfl (by decide) (by decide) hk1 hP1 hD1 [0, 1, 2, 3, 6, 4, 5] (by decide) rfl
              have hP : va_P D vwCl [((ux 0), .inr (2, [.int 0, .int 2, .ref (ux 1), .ref (ux 2)])), ((ux 31), .inr (4, [.ref (ux 32), .ref (ux 33), .ref (ux 34), .int 0])), ((ux 32), .inl (κ 0, 12, .inl (fun _ => 0))), ((ux 33), .inl (κ 0, 12, .inl (fun _ => 0))), (qm, .inr (8, u62)), ((um 6), .inr (1, [.int 0, .ref (ε 1), .int 0])), (qo, .inl (κ 2, 1, .inr (.inl u61)))] H := hP
              have hD : va_D (fun q : Nat => s.heap.size ≤ q) [((ux 0), .inr (2, [.int 0, .int 2, .ref (ux 1), .ref (ux 2)])), ((ux 31), .inr (4, [.ref (ux 32), .ref (ux 33), .ref (ux 34), .int 0])), ((ux 32), .inl (κ 0, 12, .inl (fun _ => 0))), ((ux 33), .inl (κ 0, 12, .inl (fun _ => 0))), (qm, .inr (8, u62)), ((um 6), .inr (1, [.int 0, .ref (ε 1), .int 0])), (qo, .inl (κ 2, 1, .inr (.inl u61)))] := hD
              rcases hw with ⟨c63, hu64, rfl⟩ | ⟨c65, hu66, rfl⟩
              · skip
                refine lv_istore (lv' := [(6, .int 0), (5, .int 1), (0, .ref b), (1, .ref qx), (2, .ref qm), (3, .ref qo), (4, .int 0)]) hx hb dL_law_1366 hl (by decide) rfl (fun ls hl => ?_)
                refine lv_aload_n hx hb dL_law_1368 rfl (lv_at hl 4 rfl) ?_
                refine vp_callSi (W.runV (As := []) (rest := []) ⟨hx, hb, hml, hown, hts⟩ (k_thrown l D κ qm u62 (1) hu64) (cwV 0 hts gL_law_X6_thrown rfl rfl rfl (by decide +kernel) ⟨(Nat.le_of_ble_eq_true rfl), (Nat.le_of_ble_eq_true rfl)⟩) (pre0_V (q0 := 4) (ci := 8) (wc := [(qm, .inr (8, u62))]) hP hK [4] rfl rfl rfl) rfl rfl hl.1 rfl (lv_room (Nat.le_of_ble_eq_true rfl)) dL_law_1369 ⟨(Nat.le_of_ble_eq_true rfl), (Nat.le_of_ble_eq_true rfl)⟩) (fun r hw => ?_)
                subst hw
                refine lv_iload hx hb dL_law_1372 (lv_at hl 1 rfl) ?_
                refine lv_icmp_eq (tgt := 1379) hx hb dL_law_1374 (by decide) (fun _ => ?_) (fun h => absurd (by decide) h)
                refine lv_iload hx hb dL_law_1379 (lv_at hl 1 rfl) ?_
                refine lv_if_ne (tgt := 1396) hx hb dL_law_1381 (by decide) (fun _ => ?_) (fun h => absurd h (by decide))
                refine lv_goto (tgt := 1677) hx hb dL_law_1396 (by decide) ?_
                exact law_end C0 (Nat.le_of_ble_eq_true rfl) (Nat.le_of_ble_eq_true rfl) hS (lv_sub hl [2, 6] rfl)
              · skip
                refine lv_istore (lv' := [(6, .int 0), (5, .int 1), (0, .ref b), (1, .ref qx), (2, .ref qm), (3, .ref qo), (4, .int 0)]) hx hb dL_law_1366 hl (by decide) rfl (fun ls hl => ?_)
                refine lv_aload_n hx hb dL_law_1368 rfl (lv_at hl 4 rfl) ?_
                refine vp_callSi (W.runV (As := []) (rest := []) ⟨hx, hb, hml, hown, hts⟩ (k_thrown l D κ qm u62 (1) hu66) (cwV 0 hts gL_law_X6_thrown rfl rfl rfl (by decide +kernel) ⟨(Nat.le_of_ble_eq_true rfl), (Nat.le_of_ble_eq_true rfl)⟩) (pre0_V (q0 := 4) (ci := 8) (wc := [(qm, .inr (8, u62))]) hP hK [4] rfl rfl rfl) rfl rfl hl.1 rfl (lv_room (Nat.le_of_ble_eq_true rfl)) dL_law_1369 ⟨(Nat.le_of_ble_eq_true rfl), (Nat.le_of_ble_eq_true rfl)⟩) (fun r hw => ?_)
                subst hw
                refine lv_iload hx hb dL_law_1372 (lv_at hl 1 rfl) ?_
                refine lv_icmp_eq (tgt := 1379) hx hb dL_law_1374 (by decide) (fun _ => ?_) (fun h => absurd (by decide) h)
                refine lv_iload hx hb dL_law_1379 (lv_at hl 1 rfl) ?_
                refine lv_if_ne (tgt := 1396) hx hb dL_law_1381 (by decide) (fun _ => ?_) (fun h => absurd h (by decide))
                refine lv_goto (tgt := 1677) hx hb dL_law_1396 (by decide) ?_
                exact law_end C0 (Nat.le_of_ble_eq_true rfl) (Nat.le_of_ble_eq_true rfl) hS (lv_sub hl [2, 6] rfl)
