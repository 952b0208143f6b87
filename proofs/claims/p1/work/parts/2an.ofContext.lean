set_option maxHeartbeats 4000000 in
set_option maxRecDepth 100000 in
theorem k_X5_keyUpTo_1 (l : Launch) (D : va_G) (κ ε : Nat → Nat) (h0 : Nat) : Met l yX5_keyUpTo wsX5_keyUpTo ({ frames := 0, cells := 0, slots := 0, locals := 0 }) (va_Pc [.ref h0, .int (-1), .int 0] (Pre0 D κ [])) (vp_Si (fun r => (r = 0))) 0 0 (fun _ => False) := by
  refine Met.ofW (cc := cX5_keyUpTo) (maxL := 5) (ret := (some .int)) (by decide) rfl ?_
  intro p e s m args below meth c s₁ B hml hv
  obtain ⟨rfl, hP, hK⟩ := hv
  have hx := B.exec
  have hb := B.bytes
  have hr := B.returns
  have hts := atoms_spec (ws := wsX5_keyUpTo) B.pre
  have hown : s.vm.findClass RX5 = some m.cls := findClass_of_methodNamed B.named
  have hlocks := B.notSynchronized
  have hP : va_P D vwCl [] s.heap := hP
  have hl := lv_entry [.ref h0, .int (-1), .int 0] (n := 5) (Nat.le_of_ble_eq_true rfl)
  rw [lg_entry_eq]
  generalize (lg_sl [.ref h0, .int (-1), .int 0] ++ List.replicate (5 - (lg_sl [.ref h0, .int (-1), .int 0]).length) Slot.unset).toArray = ls at hl ⊢
  have hl : lv_has ls 5 [(0, .ref h0), (1, .int (-1)), (2, .int 0)] := hl
  refine lv_iconst (v := 0) hx hb dX5_keyUpTo_0 (by decide) ?_
  refine lv_istore_n (lv' := [(3, .int 0), (0, .ref h0), (1, .int (-1)), (2, .int 0)]) hx hb dX5_keyUpTo_1 rfl hl (by decide) rfl (fun ls hl => ?_)
  refine lv_iload_n hx hb dX5_keyUpTo_2 rfl (lv_at hl 2 rfl) ?_
  refine lv_iload_n hx hb dX5_keyUpTo_3 rfl (lv_at hl 3 rfl) ?_
  refine lv_isub hx hb dX5_keyUpTo_4 ?_
  refine tpi (v := (-1)) (by decide) ?_
  refine lv_iconst (v := 1) hx hb dX5_keyUpTo_5 (by decide) ?_
  refine lv_iadd hx hb dX5_keyUpTo_6 ?_
  refine tpi (v := 0) (by decide) ?_
  refine lv_istore (lv' := [(4, .int 0), (3, .int 0), (0, .ref h0), (1, .int (-1)), (2, .int 0)]) hx hb dX5_keyUpTo_7 hl (by decide) rfl (fun ls hl => ?_)
  refine lv_iload hx hb dX5_keyUpTo_9 (lv_at hl 0 rfl) ?_
  refine lv_iload_n hx hb dX5_keyUpTo_11 rfl (lv_at hl 3 rfl) ?_
  refine lv_icmp_gt (tgt := 33) hx hb dX5_keyUpTo_12 (by decide) (fun _ => ?_) (fun h => absurd (by decide) h)
  refine lv_iload_n hx hb dX5_keyUpTo_33 rfl (lv_at hl 1 rfl) ?_
  exact W.iret (v := 0) hx hb hr (fun t ht hW => ⟨0, rfl, rfl, ht⟩) (fun q hq => absurd hq List.not_mem_nil) dX5_keyUpTo_34

set_option maxHeartbeats 4000000 in
set_option maxRecDepth 100000 in
theorem k_J7_fill_53178_0 (l : Launch) (D : va_G) (κ ε : Nat → Nat) (h0 : Nat) (sz : Nat) : Met l yJ7_fill_53178 wsJ7_fill_53178 ({ frames := 0, cells := 0, slots := 0, locals := 0 }) (va_Pc [.ref h0, .int 0] (Pre2 D κ ε [(h0, .inl (κ 0, 13, .inl (fun _ => 0)))] sz)) (va_Qv (fun u : Unit => True) (fun u t => va_P D vwCl [(h0, .inl (κ 0, 13, .inl (fun _ => 0)))] t.heap ∧ va_D (va_A [(h0, .inl (κ 0, 13, .inl (fun _ => 0)))] sz) [(h0, .inl (κ 0, 13, .inl (fun _ => 0)))]) (va_A [(h0, .inl (κ 0, 13, .inl (fun _ => 0)))] sz)) 0 0 (va_A [(h0, .inl (κ 0, 13, .inl (fun _ => 0)))] sz) := by
  refine Met.ofW (cc := cJ7_fill_53178) (maxL := 4) (ret := none) (by decide) rfl ?_
  intro p e s m args below meth c s₁ B hml hv
  obtain ⟨rfl, hsz, hP, hK, hD0, hE9⟩ := hv
  have hx := B.exec
  have hb := B.bytes
  have hr := B.returns
  have hts := atoms_spec (ws := wsJ7_fill_53178) B.pre
  have hown : s.vm.findClass RJ7 = some m.cls := findClass_of_methodNamed B.named
  have hlocks := B.notSynchronized
  subst hsz
  have hD := hD0.self (sz := s.heap.size)
  generalize hAe : va_A [(h0, .inl (κ 0, 13, .inl (fun _ => 0)))] s.heap.size = A at hD hE9 ⊢
  have hE := hE9.1
  have hDc := hE9.2
  have hA : ∀ q : Nat, s.heap.size ≤ q → A q := fun q h => by rw [← hAe]; exact Or.inr h
  have hS : va_S A s.heap s.heap [] := va_S.rf
  have hP : va_P D vwCl [(h0, .inl (κ 0, 13, .inl (fun _ => 0)))] s.heap := hP
  have hl := lv_entry [.ref h0, .int 0] (n := 4) (Nat.le_of_ble_eq_true rfl)
  rw [lg_entry_eq]
  generalize (lg_sl [.ref h0, .int 0] ++ List.replicate (4 - (lg_sl [.ref h0, .int 0]).length) Slot.unset).toArray = ls at hl ⊢
  have hl : lv_has ls 4 [(0, .ref h0), (1, .int 0)] := hl
  refine lv_iconst (v := 0) hx hb dJ7_fill_53178_0 (by decide) ?_
  refine lv_istore_n (lv' := [(2, .int 0), (0, .ref h0), (1, .int 0)]) hx hb dJ7_fill_53178_1 rfl hl (by decide) rfl (fun ls hl => ?_)
  refine lv_aload_n hx hb dJ7_fill_53178_2 rfl (lv_at hl 1 rfl) ?_
  refine va_alen hx hb hK hP 0 0 rfl rfl (v := 13) (by decide) dJ7_fill_53178_3 ?_
  refine lv_istore_n (lv' := [(3, .int 13), (2, .int 0), (0, .ref h0), (1, .int 0)]) hx hb dJ7_fill_53178_4 rfl hl (by decide) rfl (fun ls hl => ?_)
  refine lv_iload_n hx hb dJ7_fill_53178_5 rfl (lv_at hl 1 rfl) ?_
  refine lv_iload_n hx hb dJ7_fill_53178_6 rfl (lv_at hl 0 rfl) ?_
  refine lv_icmp_ge (tgt := 20) hx hb dJ7_fill_53178_7 (by decide) (fun h => absurd h (by decide)) (fun _ => ?_)
  refine lv_aload_n hx hb dJ7_fill_53178_10 rfl (lv_at hl 2 rfl) ?_
  refine lv_iload_n hx hb dJ7_fill_53178_11 rfl (lv_at hl 1 rfl) ?_
  refine lv_iload_n hx hb dJ7_fill_53178_12 rfl (lv_at hl 3 rfl) ?_
  refine va_iast (cA := κ 0) (n := 13) (f := (fun _ => 0)) hx hb hK hP hD hS 0 0 rfl rfl (vpl (by decide)) dJ7_fill_53178_13 (fun H locs hP hD hS => ?_)
  have hP : va_P D vwCl _ H := P_cg (ws' := _) (y := (13, .inl (fun _ => 0))) 0 hP rfl (cell_cg (fun j _ => by show upd _ _ _ j = _; unfold upd; split <;> rfl)) rfl
  have hD : va_D A _ := D_cg (ws' := _) (y := .inl (κ 0, 13, .inl (fun _ => 0))) 0 hD rfl rfl
  have hP : va_P D vwCl [(h0, .inl (κ 0, 13, .inl (fun _ => 0)))] H := hP
  have hD : va_D A [(h0, .inl (κ 0, 13, .inl (fun _ => 0)))] := hD
  refine lv_iinc (v := 1) (lv' := [(2, .int 1), (3, .int 13), (0, .ref h0), (1, .int 0)]) hx hb dJ7_fill_53178_14 hl (k := 1) rfl (by decide) (by decide) rfl (fun ls hl => ?_)
  refine lv_goto (tgt := 5) hx hb dJ7_fill_53178_17 (by decide) ?_
  refine lv_iload_n hx hb dJ7_fill_53178_5 rfl (lv_at hl 0 rfl) ?_
  refine lv_iload_n hx hb dJ7_fill_53178_6 rfl (lv_at hl 1 rfl) ?_
  refine lv_icmp_ge (tgt := 20) hx hb dJ7_fill_53178_7 (by decide) (fun h => absurd h (by decide)) (fun _ => ?_)
  refine lv_aload_n hx hb dJ7_fill_53178_10 rfl (lv_at hl 2 rfl) ?_
  refine lv_iload_n hx hb dJ7_fill_53178_11 rfl (lv_at hl 0 rfl) ?_
  refine lv_iload_n hx hb dJ7_fill_53178_12 rfl (lv_at hl 3 rfl) ?_
  refine va_iast (cA := κ 0) (n := 13) (f := (fun _ => 0)) hx hb hK hP hD hS 0 0 rfl rfl (vpl (by decide)) dJ7_fill_53178_13 (fun H locs hP hD hS => ?_)
  have hP : va_P D vwCl _ H := P_cg (ws' := _) (y := (13, .inl (fun _ => 0))) 0 hP rfl (cell_cg (fun j _ => by show upd _ _ _ j = _; unfold upd; split <;> rfl)) rfl
  have hD : va_D A _ := D_cg (ws' := _) (y := .inl (κ 0, 13, .inl (fun _ => 0))) 0 hD rfl rfl
  have hP : va_P D vwCl [(h0, .inl (κ 0, 13, .inl (fun _ => 0)))] H := hP
  have hD : va_D A [(h0, .inl (κ 0, 13, .inl (fun _ => 0)))] := hD
  refine lv_iinc (v := 2) (lv' := [(2, .int 2), (3, .int 13), (0, .ref h0), (1, .int 0)]) hx hb dJ7_fill_53178_14 hl (k := 0) rfl (by decide) (by decide) rfl (fun ls hl => ?_)
  refine lv_goto (tgt := 5) hx hb dJ7_fill_53178_17 (by decide) ?_
  refine lv_iload_n hx hb dJ7_fill_53178_5 rfl (lv_at hl 0 rfl) ?_
  refine lv_iload_n hx hb dJ7_fill_53178_6 rfl (lv_at hl 1 rfl) ?_
  refine lv_icmp_ge (tgt := 20) hx hb dJ7_fill_53178_7 (by decide) (fun h => absurd h (by decide)) (fun _ => ?_)
  refine lv_aload_n hx hb dJ7_fill_53178_10 rfl (lv_at hl 2 rfl) ?_
  refine lv_iload_n hx hb dJ7_fill_53178_11 rfl (lv_at hl 0 rfl) ?_
  refine lv_iload_n hx hb dJ7_fill_53178_12 rfl (lv_at hl 3 rfl) ?_
  refine va_iast (cA := κ 0) (n := 13) (f := (fun _ => 0)) hx hb hK hP hD hS 0 0 rfl rfl (vpl (by decide)) dJ7_fill_53178_13 (fun H locs hP hD hS => ?_)
  have hP : va_P D vwCl _ H := P_cg (ws' := _) (y := (13, .inl (fun _ => 0))) 0 hP rfl (cell_cg (fun j _ => by show upd _ _ _ j = _; unfold upd; split <;> rfl)) rfl
  have hD : va_D A _ := D_cg (ws' := _) (y := .inl (κ 0, 13, .inl (fun _ => 0))) 0 hD rfl rfl
  have hP : va_P D vwCl [(h0, .inl (κ 0, 13, .inl (fun _ => 0)))] H := hP
  have hD : va_D A [(h0, .inl (κ 0, 13, .inl (fun _ => 0)))] := hD
  refine lv_iinc (v := 3) (lv' := [(2, .int 3), (3, .int 13), (0, .ref h0), (1, .int 0)]) hx hb dJ7_fill_53178_14 hl (k := 0) rfl (by decide) (by decide) rfl (fun ls hl => ?_)
  refine lv_goto (tgt := 5) hx hb dJ7_fill_53178_17 (by decide) ?_
  refine lv_iload_n hx hb dJ7_fill_53178_5 rfl (lv_at hl 0 rfl) ?_
  refine lv_iload_n hx hb dJ7_fill_53178_6 rfl (lv_at hl 1 rfl) ?_
  refine lv_icmp_ge (tgt := 20) hx hb dJ7_fill_53178_7 (by decide) (fun h => absurd h (by decide)) (fun _ => ?_)
  refine lv_aload_n hx hb dJ7_fill_53178_10 rfl (lv_at hl 2 rfl) ?_
  refine lv_iload_n hx hb dJ7_fill_53178_11 rfl (lv_at hl 0 rfl) ?_
  refine lv_iload_n hx hb dJ7_fill_53178_12 rfl (lv_at hl 3 rfl) ?_
  refine va_iast (cA := κ 0) (n := 13) (f := (fun _ => 0)) hx hb hK hP hD hS 0 0 rfl rfl (vpl (by decide)) dJ7_fill_53178_13 (fun H locs hP hD hS => ?_)
  have hP : va_P D vwCl _ H := P_cg (ws' := _) (y := (13, .inl (fun _ => 0))) 0 hP rfl (cell_cg (fun j _ => by show upd _ _ _ j = _; unfold upd; split <;> rfl)) rfl
  have hD : va_D A _ := D_cg (ws' := _) (y := .inl (κ 0, 13, .inl (fun _ => 0))) 0 hD rfl rfl
  have hP : va_P D vwCl [(h0, .inl (κ 0, 13, .inl (fun _ => 0)))] H := hP
  have hD : va_D A [(h0, .inl (κ 0, 13, .inl (fun _ => 0)))] := hD
  refine lv_iinc (v := 4) (lv' := [(2, .int 4), (3, .int 13), (0, .ref h0), (1, .int 0)]) hx hb dJ7_fill_53178_14 hl (k := 0) rfl (by decide) (by decide) rfl (fun ls hl => ?_)
  refine lv_goto (tgt := 5) hx hb dJ7_fill_53178_17 (by decide) ?_
  refine lv_iload_n hx hb dJ7_fill_53178_5 rfl (lv_at hl 0 rfl) ?_
  refine lv_iload_n hx hb dJ7_fill_53178_6 rfl (lv_at hl 1 rfl) ?_
  refine lv_icmp_ge (tgt := 20) hx hb dJ7_fill_53178_7 (by decide) (fun h => absurd h (by decide)) (fun _ => ?_)
  refine lv_aload_n hx hb dJ7_fill_53178_10 rfl (lv_at hl 2 rfl) ?_
  refine lv_iload_n hx hb dJ7_fill_53178_11 rfl (lv_at hl 0 rfl) ?_
  refine lv_iload_n hx hb dJ7_fill_53178_12 rfl (lv_at hl 3 rfl) ?_
  refine va_iast (cA := κ 0) (n := 13) (f := (fun _ => 0)) hx hb hK hP hD hS 0 0 rfl rfl (vpl (by decide)) dJ7_fill_53178_13 (fun H locs hP hD hS => ?_)
  have hP : va_P D vwCl _ H := P_cg (ws' := _) (y := (13, .inl (fun _ => 0))) 0 hP rfl (cell_cg (fun j _ => by show upd _ _ _ j = _; unfold upd; split <;> rfl)) rfl
  have hD : va_D A _ := D_cg (ws' := _) (y := .inl (κ 0, 13, .inl (fun _ => 0))) 0 hD rfl rfl
  have hP : va_P D vwCl [(h0, .inl (κ 0, 13, .inl (fun _ => 0)))] H := hP
  have hD : va_D A [(h0, .inl (κ 0, 13, .inl (fun _ => 0)))] := hD
  refine lv_iinc (v := 5) (lv' := [(2, .int 5), (3, .int 13), (0, .ref h0), (1, .int 0)]) hx hb dJ7_fill_53178_14 hl (k := 0) rfl (by decide) (by decide) rfl (fun ls hl => ?_)
  refine lv_goto (tgt := 5) hx hb dJ7_fill_53178_17 (by decide) ?_
  refine lv_iload_n hx hb dJ7_fill_53178_5 rfl (lv_at hl 0 rfl) ?_
  refine lv_iload_n hx hb dJ7_fill_53178_6 rfl (lv_at hl 1 rfl) ?_
  refine lv_icmp_ge (tgt := 20) hx hb dJ7_fill_53178_7 (by decide) (fun h => absurd h (by decide)) (fun _ => ?_)
  refine lv_aload_n hx hb dJ7_fill_53178_10 rfl (lv_at hl 2 rfl) ?_
  refine lv_iload_n hx hb dJ7_fill_53178_11 rfl (lv_at hl 0 rfl) ?_
  refine lv_iload_n hx hb dJ7_fill_53178_12 rfl (lv_at hl 3 rfl) ?_
  refine va_iast (cA := κ 0) (n := 13) (f := (fun _ => 0)) hx hb hK hP hD hS 0 0 rfl rfl (vpl (by decide)) dJ7_fill_53178_13 (fun H locs hP hD hS => ?_)
  have hP : va_P D vwCl _ H := P_cg (ws' := _) (y := (13, .inl (fun _ => 0))) 0 hP rfl (cell_cg (fun j _ => by show upd _ _ _ j = _; unfold upd; split <;> rfl)) rfl
  have hD : va_D A _ := D_cg (ws' := _) (y := .inl (κ 0, 13, .inl (fun _ => 0))) 0 hD rfl rfl
  have hP : va_P D vwCl [(h0, .inl (κ 0, 13, .inl (fun _ => 0)))] H := hP
  have hD : va_D A [(h0, .inl (κ 0, 13, .inl (fun _ => 0)))] := hD
  refine lv_iinc (v := 6) (lv' := [(2, .int 6), (3, .int 13), (0, .ref h0), (1, .int 0)]) hx hb dJ7_fill_53178_14 hl (k := 0) rfl (by decide) (by decide) rfl (fun ls hl => ?_)
  refine lv_goto (tgt := 5) hx hb dJ7_fill_53178_17 (by decide) ?_
  refine lv_iload_n hx hb dJ7_fill_53178_5 rfl (lv_at hl 0 rfl) ?_
  refine lv_iload_n hx hb dJ7_fill_53178_6 rfl (lv_at hl 1 rfl) ?_
  refine lv_icmp_ge (tgt := 20) hx hb dJ7_fill_53178_7 (by decide) (fun h => absurd h (by decide)) (fun _ => ?_)
  refine lv_aload_n hx hb dJ7_fill_53178_10 rfl (lv_at hl 2 rfl) ?_
  refine lv_iload_n hx hb dJ7_fill_53178_11 rfl (lv_at hl 0 rfl) ?_
  refine lv_iload_n hx hb dJ7_fill_53178_12 rfl (lv_at hl 3 rfl) ?_
  refine va_iast (cA := κ 0) (n := 13) (f := (fun _ => 0)) hx hb hK hP hD hS 0 0 rfl rfl (vpl (by decide)) dJ7_fill_53178_13 (fun H locs hP hD hS => ?_)
  have hP : va_P D vwCl _ H := P_cg (ws' := _) (y := (13, .inl (fun _ => 0))) 0 hP rfl (cell_cg (fun j _ => by show upd _ _ _ j = _; unfold upd; split <;> rfl)) rfl
  have hD : va_D A _ := D_cg (ws' := _) (y := .inl (κ 0, 13, .inl (fun _ => 0))) 0 hD rfl rfl
  have hP : va_P D vwCl [(h0, .inl (κ 0, 13, .inl (fun _ => 0)))] H := hP
  have hD : va_D A [(h0, .inl (κ 0, 13, .inl (fun _ => 0)))] := hD
  refine lv_iinc (v := 7) (lv' := [(2, .int 7), (3, .int 13), (0, .ref h0), (1, .int 0)]) hx hb dJ7_fill_53178_14 hl (k := 0) rfl (by decide) (by decide) rfl (fun ls hl => ?_)
  refine lv_goto (tgt := 5) hx hb dJ7_fill_53178_17 (by decide) ?_
  refine lv_iload_n hx hb dJ7_fill_53178_5 rfl (lv_at hl 0 rfl) ?_
  refine lv_iload_n hx hb dJ7_fill_53178_6 rfl (lv_at hl 1 rfl) ?_
  refine lv_icmp_ge (tgt := 20) hx hb dJ7_fill_53178_7 (by decide) (fun h => absurd h (by decide)) (fun _ => ?_)
  refine lv_aload_n hx hb dJ7_fill_53178_10 rfl (lv_at hl 2 rfl) ?_
  refine lv_iload_n hx hb dJ7_fill_53178_11 rfl (lv_at hl 0 rfl) ?_
  refine lv_iload_n hx hb dJ7_fill_53178_12 rfl (lv_at hl 3 rfl) ?_
  refine va_iast (cA := κ 0) (n := 13) (f := (fun _ => 0)) hx hb hK hP hD hS 0 0 rfl rfl (vpl (by decide)) dJ7_fill_53178_13 (fun H locs hP hD hS => ?_)
  have hP : va_P D vwCl _ H := P_cg (ws' := _) (y := (13, .inl (fun _ => 0))) 0 hP rfl (cell_cg (fun j _ => by show upd _ _ _ j = _; unfold upd; split <;> rfl)) rfl
  have hD : va_D A _ := D_cg (ws' := _) (y := .inl (κ 0, 13, .inl (fun _ => 0))) 0 hD rfl rfl
  have hP : va_P D vwCl [(h0, .inl (κ 0, 13, .inl (fun _ => 0)))] H := hP
  have hD : va_D A [(h0, .inl (κ 0, 13, .inl (fun _ => 0)))] := hD
  refine lv_iinc (v := 8) (lv' := [(2, .int 8), (3, .int 13), (0, .ref h0), (1, .int 0)]) hx hb dJ7_fill_53178_14 hl (k := 0) rfl (by decide) (by decide) rfl (fun ls hl => ?_)
  refine lv_goto (tgt := 5) hx hb dJ7_fill_53178_17 (by decide) ?_
  refine lv_iload_n hx hb dJ7_fill_53178_5 rfl (lv_at hl 0 rfl) ?_
  refine lv_iload_n hx hb dJ7_fill_53178_6 rfl (lv_at hl 1 rfl) ?_
  refine lv_icmp_ge (tgt := 20) hx hb dJ7_fill_53178_7 (by decide) (fun h => absurd h (by decide)) (fun _ => ?_)
  refine lv_aload_n hx hb dJ7_fill_53178_10 rfl (lv_at hl 2 rfl) ?_
  refine lv_iload_n hx hb dJ7_fill_53178_11 rfl (lv_at hl 0 rfl) ?_
  refine lv_iload_n hx hb dJ7_fill_53178_12 rfl (lv_at hl 3 rfl) ?_
  refine va_iast (cA := κ 0) (n := 13) (f := (fun _ => 0)) hx hb hK hP hD hS 0 0 rfl rfl (vpl (by decide)) dJ7_fill_53178_13 (fun H locs hP hD hS => ?_)
  have hP : va_P D vwCl _ H := P_cg (ws' := _) (y := (13, .inl (fun _ => 0))) 0 hP rfl (cell_cg (fun j _ => by show upd _ _ _ j = _; unfold upd; split <;> rfl)) rfl
  have hD : va_D A _ := D_cg (ws' := _) (y := .inl (κ 0, 13, .inl (fun _ => 0))) 0 hD rfl rfl
  have hP : va_P D vwCl [(h0, .inl (κ 0, 13, .inl (fun _ => 0)))] H := hP
  have hD : va_D A [(h0, .inl (κ 0, 13, .inl (fun _ => 0)))] := hD
  refine lv_iinc (v := 9) (lv' := [(2, .int 9), (3, .int 13), (0, .ref h0), (1, .int 0)]) hx hb dJ7_fill_53178_14 hl (k := 0) rfl (by decide) (by decide) rfl (fun ls hl => ?_)
  refine lv_goto (tgt := 5) hx hb dJ7_fill_53178_17 (by decide) ?_
  refine lv_iload_n hx hb dJ7_fill_53178_5 rfl (lv_at hl 0 rfl) ?_
  refine lv_iload_n hx hb dJ7_fill_53178_6 rfl (lv_at hl 1 rfl) ?_
  refine lv_icmp_ge (tgt := 20) hx hb dJ7_fill_53178_7 (by decide) (fun h => absurd h (by decide)) (fun _ => ?_)
  refine lv_aload_n hx hb dJ7_fill_53178_10 rfl (lv_at hl 2 rfl) ?_
  refine lv_iload_n hx hb dJ7_fill_53178_11 rfl (lv_at hl 0 rfl) ?_
  refine lv_iload_n hx hb dJ7_fill_53178_12 rfl (lv_at hl 3 rfl) ?_
  refine va_iast (cA := κ 0) (n := 13) (f := (fun _ => 0)) hx hb hK hP hD hS 0 0 rfl rfl (vpl (by decide)) dJ7_fill_53178_13 (fun H locs hP hD hS => ?_)
  have hP : va_P D vwCl _ H := P_cg (ws' := _) (y := (13, .inl (fun _ => 0))) 0 hP rfl (cell_cg (fun j _ => by show upd _ _ _ j = _; unfold upd; split <;> rfl)) rfl
  have hD : va_D A _ := D_cg (ws' := _) (y := .inl (κ 0, 13, .inl (fun _ => 0))) 0 hD rfl rfl
  have hP : va_P D vwCl [(h0, .inl (κ 0, 13, .inl (fun _ => 0)))] H := hP
  have hD : va_D A [(h0, .inl (κ 0, 13, .inl (fun _ => 0)))] := hD
  refine lv_iinc (v := 10) (lv' := [(2, .int 10), (3, .int 13), (0, .ref h0), (1, .int 0)]) hx hb dJ7_fill_53178_14 hl (k := 0) rfl (by decide) (by decide) rfl (fun ls hl => ?_)
  refine lv_goto (tgt := 5) hx hb dJ7_fill_53178_17 (by decide) ?_
  refine lv_iload_n hx hb dJ7_fill_53178_5 rfl (lv_at hl 0 rfl) ?_
  refine lv_iload_n hx hb dJ7_fill_53178_6 rfl (lv_at hl 1 rfl) ?_
  refine lv_icmp_ge (tgt := 20) hx hb dJ7_fill_53178_7 (by decide) (fun h => absurd h (by decide)) (fun _ => ?_)
  refine lv_aload_n hx hb dJ7_fill_53178_10 rfl (lv_at hl 2 rfl) ?_
  refine lv_iload_n hx hb dJ7_fill_53178_11 rfl (lv_at hl 0 rfl) ?_
  refine lv_iload_n hx hb dJ7_fill_53178_12 rfl (lv_at hl 3 rfl) ?_
  refine va_iast (cA := κ 0) (n := 13) (f := (fun _ => 0)) hx hb hK hP hD hS 0 0 rfl rfl (vpl (by decide)) dJ7_fill_53178_13 (fun H locs hP hD hS => ?_)
  have hP : va_P D vwCl _ H := P_cg (ws' := _) (y := (13, .inl (fun _ => 0))) 0 hP rfl (cell_cg (fun j _ => by show upd _ _ _ j = _; unfold upd; split <;> rfl)) rfl
  have hD : va_D A _ := D_cg (ws' := _) (y := .inl (κ 0, 13, .inl (fun _ => 0))) 0 hD rfl rfl
  have hP : va_P D vwCl [(h0, .inl (κ 0, 13, .inl (fun _ => 0)))] H := hP
  have hD : va_D A [(h0, .inl (κ 0, 13, .inl (fun _ => 0)))] := hD
  refine lv_iinc (v := 11) (lv' := [(2, .int 11), (3, .int 13), (0, .ref h0), (1, .int 0)]) hx hb dJ7_fill_53178_14 hl (k := 0) rfl (by decide) (by decide) rfl (fun ls hl => ?_)
  refine lv_goto (tgt := 5) hx hb dJ7_fill_53178_17 (by decide) ?_
  refine lv_iload_n hx hb dJ7_fill_53178_5 rfl (lv_at hl 0 rfl) ?_
  refine lv_iload_n hx hb dJ7_fill_53178_6 rfl (lv_at hl 1 rfl) ?_
  refine lv_icmp_ge (tgt := 20) hx hb dJ7_fill_53178_7 (by decide) (fun h => absurd h (by decide)) (fun _ => ?_)
  refine lv_aload_n hx hb dJ7_fill_53178_10 rfl (lv_at hl 2 rfl) ?_
  refine lv_iload_n hx hb dJ7_fill_53178_11 rfl (lv_at hl 0 rfl) ?_
  refine lv_iload_n hx hb dJ7_fill_53178_12 rfl (lv_at hl 3 rfl) ?_
  refine va_iast (cA := κ 0) (n := 13) (f := (fun _ => 0)) hx hb hK hP hD hS 0 0 rfl rfl (vpl (by decide)) dJ7_fill_53178_13 (fun H locs hP hD hS => ?_)
  have hP : va_P D vwCl _ H := P_cg (ws' := _) (y := (13, .inl (fun _ => 0))) 0 hP rfl (cell_cg (fun j _ => by show upd _ _ _ j = _; unfold upd; split <;> rfl)) rfl
  have hD : va_D A _ := D_cg (ws' := _) (y := .inl (κ 0, 13, .inl (fun _ => 0))) 0 hD rfl rfl
  have hP : va_P D vwCl [(h0, .inl (κ 0, 13, .inl (fun _ => 0)))] H := hP
  have hD : va_D A [(h0, .inl (κ 0, 13, .inl (fun _ => 0)))] := hD
  refine lv_iinc (v := 12) (lv' := [(2, .int 12), (3, .int 13), (0, .ref h0), (1, .int 0)]) hx hb dJ7_fill_53178_14 hl (k := 0) rfl (by decide) (by decide) rfl (fun ls hl => ?_)
  refine lv_goto (tgt := 5) hx hb dJ7_fill_53178_17 (by decide) ?_
  refine lv_iload_n hx hb dJ7_fill_53178_5 rfl (lv_at hl 0 rfl) ?_
  refine lv_iload_n hx hb dJ7_fill_53178_6 rfl (lv_at hl 1 rfl) ?_
  refine lv_icmp_ge (tgt := 20) hx hb dJ7_fill_53178_7 (by decide) (fun h => absurd h (by decide)) (fun _ => ?_)
  refine lv_aload_n hx hb dJ7_fill_53178_10 rfl (lv_at hl 2 rfl) ?_
  refine lv_iload_n hx hb dJ7_fill_53178_11 rfl (lv_at hl 0 rfl) ?_
  refine lv_iload_n hx hb dJ7_fill_53178_12 rfl (lv_at hl 3 rfl) ?_
  refine va_iast (cA := κ 0) (n := 13) (f := (fun _ => 0)) hx hb hK hP hD hS 0 0 rfl rfl (vpl (by decide)) dJ7_fill_53178_13 (fun H locs hP hD hS => ?_)
  have hP : va_P D vwCl _ H := P_cg (ws' := _) (y := (13, .inl (fun _ => 0))) 0 hP rfl (cell_cg (fun j _ => by show upd _ _ _ j = _; unfold upd; split <;> rfl)) rfl
  have hD : va_D A _ := D_cg (ws' := _) (y := .inl (κ 0, 13, .inl (fun _ => 0))) 0 hD rfl rfl
  have hP : va_P D vwCl [(h0, .inl (κ 0, 13, .inl (fun _ => 0)))] H := hP
  have hD : va_D A [(h0, .inl (κ 0, 13, .inl (fun _ => 0)))] := hD
  refine lv_iinc (v := 13) (lv' := [(2, .int 13), (3, .int 13), (0, .ref h0), (1, .int 0)]) hx hb dJ7_fill_53178_14 hl (k := 0) rfl (by decide) (by decide) rfl (fun ls hl => ?_)
  refine lv_goto (tgt := 5) hx hb dJ7_fill_53178_17 (by decide) ?_
  refine lv_iload_n hx hb dJ7_fill_53178_5 rfl (lv_at hl 0 rfl) ?_
  refine lv_iload_n hx hb dJ7_fill_53178_6 rfl (lv_at hl 1 rfl) ?_
  refine lv_icmp_ge (tgt := 20) hx hb dJ7_fill_53178_7 (by decide) (fun _ => ?_) (fun h => absurd (by decide) h)
  have hP9 := hP
  have hD9 := hD
  exact W.vret hx hb hr (fun t ht hW => ⟨⟨(), rfl, trivial, by rw [ht]; exact hP9, hD9⟩, hS.F ht⟩) hS.2.2 dJ7_fill_53178_20

set_option maxHeartbeats 4000000 in
set_option maxRecDepth 100000 in
theorem k_X4_keysBelow_1 (l : Launch) (D : va_G) (κ ε : Nat → Nat) (h0 h1 h2 : Nat) : Met l yX4_keysBelow wsX4_keysBelow ({ frames := 0, cells := 0, slots := 0, locals := 0 }) (va_Pc [.ref h0, .int 0] (Pre0 D κ [(h0, .inr (6, [.ref h1, .ref h2, .int 0]))])) (vp_Si (fun r => (r = 0))) 0 0 (fun _ => False) := by
  refine Met.ofW (cc := cX4_keysBelow) (maxL := 4) (ret := (some .int)) (by decide) rfl ?_
  intro p e s m args below meth c s₁ B hml hv
  obtain ⟨rfl, hP, hK⟩ := hv
  have hx := B.exec
  have hb := B.bytes
  have hr := B.returns
  have hts := atoms_spec (ws := wsX4_keysBelow) B.pre
  have hown : s.vm.findClass RX4 = some m.cls := findClass_of_methodNamed B.named
  have hlocks := B.notSynchronized
  have hP : va_P D vwCl [(h0, .inr (6, [.ref h1, .ref h2, .int 0]))] s.heap := hP
  have hl := lv_entry [.ref h0, .int 0] (n := 4) (Nat.le_of_ble_eq_true rfl)
  rw [lg_entry_eq]
  generalize (lg_sl [.ref h0, .int 0] ++ List.replicate (4 - (lg_sl [.ref h0, .int 0]).length) Slot.unset).toArray = ls at hl ⊢
  have hl : lv_has ls 4 [(0, .ref h0), (1, .int 0)] := hl
  refine lv_iconst (v := 0) hx hb dX4_keysBelow_0 (by decide) ?_
  refine lv_istore_n (lv' := [(2, .int 0), (0, .ref h0), (1, .int 0)]) hx hb dX4_keysBelow_1 rfl hl (by decide) rfl (fun ls hl => ?_)
  refine lv_sipush (v := 512) hx hb dX4_keysBelow_2 (by decide) ?_
  refine lv_istore_n (lv' := [(3, .int 512), (2, .int 0), (0, .ref h0), (1, .int 0)]) hx hb dX4_keysBelow_5 rfl hl (by decide) rfl (fun ls hl => ?_)
  refine lv_iload_n hx hb dX4_keysBelow_6 rfl (lv_at hl 0 rfl) ?_
  refine lv_if_le (tgt := 45) hx hb dX4_keysBelow_7 (by decide) (fun h => absurd h (by decide)) (fun _ => ?_)
  refine lv_iload_n hx hb dX4_keysBelow_10 rfl (lv_at hl 1 rfl) ?_
  refine lv_iload_n hx hb dX4_keysBelow_11 rfl (lv_at hl 0 rfl) ?_
  refine lv_iadd hx hb dX4_keysBelow_12 ?_
  refine tpi (v := 512) (by decide) ?_
  refine lv_aload_n hx hb dX4_keysBelow_13 rfl (lv_at hl 2 rfl) ?_
  refine va_get (D := D) (ci := 6) (v := .int 0) (C := RX4) (T := TX4) (N := 3) hx hb hts wi_X4_keysBelow_RX4 hown hK hP 0 rfl rfl 2 (by decide) (hts _ wd174_X4_keysBelow) (fun _ h9 => h9) rfl dX4_keysBelow_14 ?_
  refine lv_icmp_gt (tgt := 38) hx hb dX4_keysBelow_17 (by decide) (fun _ => ?_) (fun h => absurd (by decide) h)
  refine lv_iload_n hx hb dX4_keysBelow_38 rfl (lv_at hl 0 rfl) ?_
  refine lv_iconst (v := 2) hx hb dX4_keysBelow_39 (by decide) ?_
  refine lv_idiv hx hb dX4_keysBelow_40 (by decide) ?_
  refine tpi (v := 256) (by decide) ?_
  refine lv_istore_n (lv' := [(3, .int 256), (2, .int 0), (0, .ref h0), (1, .int 0)]) hx hb dX4_keysBelow_41 rfl hl (by decide) rfl (fun ls hl => ?_)
  refine lv_goto (tgt := 6) hx hb dX4_keysBelow_42 (by decide) ?_
  refine lv_iload_n hx hb dX4_keysBelow_6 rfl (lv_at hl 0 rfl) ?_
  refine lv_if_le (tgt := 45) hx hb dX4_keysBelow_7 (by decide) (fun h => absurd h (by decide)) (fun _ => ?_)
  refine lv_iload_n hx hb dX4_keysBelow_10 rfl (lv_at hl 1 rfl) ?_
  refine lv_iload_n hx hb dX4_keysBelow_11 rfl (lv_at hl 0 rfl) ?_
  refine lv_iadd hx hb dX4_keysBelow_12 ?_
  refine tpi (v := 256) (by decide) ?_
  refine lv_aload_n hx hb dX4_keysBelow_13 rfl (lv_at hl 2 rfl) ?_
  refine va_get (D := D) (ci := 6) (v := .int 0) (C := RX4) (T := TX4) (N := 3) hx hb hts wi_X4_keysBelow_RX4 hown hK hP 0 rfl rfl 2 (by decide) (hts _ wd174_X4_keysBelow) (fun _ h9 => h9) rfl dX4_keysBelow_14 ?_
  refine lv_icmp_gt (tgt := 38) hx hb dX4_keysBelow_17 (by decide) (fun _ => ?_) (fun h => absurd (by decide) h)
  refine lv_iload_n hx hb dX4_keysBelow_38 rfl (lv_at hl 0 rfl) ?_
  refine lv_iconst (v := 2) hx hb dX4_keysBelow_39 (by decide) ?_
  refine lv_idiv hx hb dX4_keysBelow_40 (by decide) ?_
  refine tpi (v := 128) (by decide) ?_
  refine lv_istore_n (lv' := [(3, .int 128), (2, .int 0), (0, .ref h0), (1, .int 0)]) hx hb dX4_keysBelow_41 rfl hl (by decide) rfl (fun ls hl => ?_)
  refine lv_goto (tgt := 6) hx hb dX4_keysBelow_42 (by decide) ?_
  refine lv_iload_n hx hb dX4_keysBelow_6 rfl (lv_at hl 0 rfl) ?_
  refine lv_if_le (tgt := 45) hx hb dX4_keysBelow_7 (by decide) (fun h => absurd h (by decide)) (fun _ => ?_)
  refine lv_iload_n hx hb dX4_keysBelow_10 rfl (lv_at hl 1 rfl) ?_
  refine lv_iload_n hx hb dX4_keysBelow_11 rfl (lv_at hl 0 rfl) ?_
  refine lv_iadd hx hb dX4_keysBelow_12 ?_
  refine tpi (v := 128) (by decide) ?_
  refine lv_aload_n hx hb dX4_keysBelow_13 rfl (lv_at hl 2 rfl) ?_
  refine va_get (D := D) (ci := 6) (v := .int 0) (C := RX4) (T := TX4) (N := 3) hx hb hts wi_X4_keysBelow_RX4 hown hK hP 0 rfl rfl 2 (by decide) (hts _ wd174_X4_keysBelow) (fun _ h9 => h9) rfl dX4_keysBelow_14 ?_
  refine lv_icmp_gt (tgt := 38) hx hb dX4_keysBelow_17 (by decide) (fun _ => ?_) (fun h => absurd (by decide) h)
  refine lv_iload_n hx hb dX4_keysBelow_38 rfl (lv_at hl 0 rfl) ?_
  refine lv_iconst (v := 2) hx hb dX4_keysBelow_39 (by decide) ?_
  refine lv_idiv hx hb dX4_keysBelow_40 (by decide) ?_
  refine tpi (v := 64) (by decide) ?_
  refine lv_istore_n (lv' := [(3, .int 64), (2, .int 0), (0, .ref h0), (1, .int 0)]) hx hb dX4_keysBelow_41 rfl hl (by decide) rfl (fun ls hl => ?_)
  refine lv_goto (tgt := 6) hx hb dX4_keysBelow_42 (by decide) ?_
  refine lv_iload_n hx hb dX4_keysBelow_6 rfl (lv_at hl 0 rfl) ?_
  refine lv_if_le (tgt := 45) hx hb dX4_keysBelow_7 (by decide) (fun h => absurd h (by decide)) (fun _ => ?_)
  refine lv_iload_n hx hb dX4_keysBelow_10 rfl (lv_at hl 1 rfl) ?_
  refine lv_iload_n hx hb dX4_keysBelow_11 rfl (lv_at hl 0 rfl) ?_
  refine lv_iadd hx hb dX4_keysBelow_12 ?_
  refine tpi (v := 64) (by decide) ?_
  refine lv_aload_n hx hb dX4_keysBelow_13 rfl (lv_at hl 2 rfl) ?_
  refine va_get (D := D) (ci := 6) (v := .int 0) (C := RX4) (T := TX4) (N := 3) hx hb hts wi_X4_keysBelow_RX4 hown hK hP 0 rfl rfl 2 (by decide) (hts _ wd174_X4_keysBelow) (fun _ h9 => h9) rfl dX4_keysBelow_14 ?_
  refine lv_icmp_gt (tgt := 38) hx hb dX4_keysBelow_17 (by decide) (fun _ => ?_) (fun h => absurd (by decide) h)
  refine lv_iload_n hx hb dX4_keysBelow_38 rfl (lv_at hl 0 rfl) ?_
  refine lv_iconst (v := 2) hx hb dX4_keysBelow_39 (by decide) ?_
  refine lv_idiv hx hb dX4_keysBelow_40 (by decide) ?_
  refine tpi (v := 32) (by decide) ?_
  refine lv_istore_n (lv' := [(3, .int 32), (2, .int 0), (0, .ref h0), (1, .int 0)]) hx hb dX4_keysBelow_41 rfl hl (by decide) rfl (fun ls hl => ?_)
  refine lv_goto (tgt := 6) hx hb dX4_keysBelow_42 (by decide) ?_
  refine lv_iload_n hx hb dX4_keysBelow_6 rfl (lv_at hl 0 rfl) ?_
  refine lv_if_le (tgt := 45) hx hb dX4_keysBelow_7 (by decide) (fun h => absurd h (by decide)) (fun _ => ?_)
  refine lv_iload_n hx hb dX4_keysBelow_10 rfl (lv_at hl 1 rfl) ?_
  refine lv_iload_n hx hb dX4_keysBelow_11 rfl (lv_at hl 0 rfl) ?_
  refine lv_iadd hx hb dX4_keysBelow_12 ?_
  refine tpi (v := 32) (by decide) ?_
  refine lv_aload_n hx hb dX4_keysBelow_13 rfl (lv_at hl 2 rfl) ?_
  refine va_get (D := D) (ci := 6) (v := .int 0) (C := RX4) (T := TX4) (N := 3) hx hb hts wi_X4_keysBelow_RX4 hown hK hP 0 rfl rfl 2 (by decide) (hts _ wd174_X4_keysBelow) (fun _ h9 => h9) rfl dX4_keysBelow_14 ?_
  refine lv_icmp_gt (tgt := 38) hx hb dX4_keysBelow_17 (by decide) (fun _ => ?_) (fun h => absurd (by decide) h)
  refine lv_iload_n hx hb dX4_keysBelow_38 rfl (lv_at hl 0 rfl) ?_
  refine lv_iconst (v := 2) hx hb dX4_keysBelow_39 (by decide) ?_
  refine lv_idiv hx hb dX4_keysBelow_40 (by decide) ?_
  refine tpi (v := 16) (by decide) ?_
  refine lv_istore_n (lv' := [(3, .int 16), (2, .int 0), (0, .ref h0), (1, .int 0)]) hx hb dX4_keysBelow_41 rfl hl (by decide) rfl (fun ls hl => ?_)
  refine lv_goto (tgt := 6) hx hb dX4_keysBelow_42 (by decide) ?_
  refine lv_iload_n hx hb dX4_keysBelow_6 rfl (lv_at hl 0 rfl) ?_
  refine lv_if_le (tgt := 45) hx hb dX4_keysBelow_7 (by decide) (fun h => absurd h (by decide)) (fun _ => ?_)
  refine lv_iload_n hx hb dX4_keysBelow_10 rfl (lv_at hl 1 rfl) ?_
  refine lv_iload_n hx hb dX4_keysBelow_11 rfl (lv_at hl 0 rfl) ?_
  refine lv_iadd hx hb dX4_keysBelow_12 ?_
  refine tpi (v := 16) (by decide) ?_
  refine lv_aload_n hx hb dX4_keysBelow_13 rfl (lv_at hl 2 rfl) ?_
  refine va_get (D := D) (ci := 6) (v := .int 0) (C := RX4) (T := TX4) (N := 3) hx hb hts wi_X4_keysBelow_RX4 hown hK hP 0 rfl rfl 2 (by decide) (hts _ wd174_X4_keysBelow) (fun _ h9 => h9) rfl dX4_keysBelow_14 ?_
  refine lv_icmp_gt (tgt := 38) hx hb dX4_keysBelow_17 (by decide) (fun _ => ?_) (fun h => absurd (by decide) h)
  refine lv_iload_n hx hb dX4_keysBelow_38 rfl (lv_at hl 0 rfl) ?_
  refine lv_iconst (v := 2) hx hb dX4_keysBelow_39 (by decide) ?_
  refine lv_idiv hx hb dX4_keysBelow_40 (by decide) ?_
  refine tpi (v := 8) (by decide) ?_
  refine lv_istore_n (lv' := [(3, .int 8), (2, .int 0), (0, .ref h0), (1, .int 0)]) hx hb dX4_keysBelow_41 rfl hl (by decide) rfl (fun ls hl => ?_)
  refine lv_goto (tgt := 6) hx hb dX4_keysBelow_42 (by decide) ?_
  refine lv_iload_n hx hb dX4_keysBelow_6 rfl (lv_at hl 0 rfl) ?_
  refine lv_if_le (tgt := 45) hx hb dX4_keysBelow_7 (by decide) (fun h => absurd h (by decide)) (fun _ => ?_)
  refine lv_iload_n hx hb dX4_keysBelow_10 rfl (lv_at hl 1 rfl) ?_
  refine lv_iload_n hx hb dX4_keysBelow_11 rfl (lv_at hl 0 rfl) ?_
  refine lv_iadd hx hb dX4_keysBelow_12 ?_
  refine tpi (v := 8) (by decide) ?_
  refine lv_aload_n hx hb dX4_keysBelow_13 rfl (lv_at hl 2 rfl) ?_
  refine va_get (D := D) (ci := 6) (v := .int 0) (C := RX4) (T := TX4) (N := 3) hx hb hts wi_X4_keysBelow_RX4 hown hK hP 0 rfl rfl 2 (by decide) (hts _ wd174_X4_keysBelow) (fun _ h9 => h9) rfl dX4_keysBelow_14 ?_
  refine lv_icmp_gt (tgt := 38) hx hb dX4_keysBelow_17 (by decide) (fun _ => ?_) (fun h => absurd (by decide) h)
  refine lv_iload_n hx hb dX4_keysBelow_38 rfl (lv_at hl 0 rfl) ?_
  refine lv_iconst (v := 2) hx hb dX4_keysBelow_39 (by decide) ?_
  refine lv_idiv hx hb dX4_keysBelow_40 (by decide) ?_
  refine tpi (v := 4) (by decide) ?_
  refine lv_istore_n (lv' := [(3, .int 4), (2, .int 0), (0, .ref h0), (1, .int 0)]) hx hb dX4_keysBelow_41 rfl hl (by decide) rfl (fun ls hl => ?_)
  refine lv_goto (tgt := 6) hx hb dX4_keysBelow_42 (by decide) ?_
  refine lv_iload_n hx hb dX4_keysBelow_6 rfl (lv_at hl 0 rfl) ?_
  refine lv_if_le (tgt := 45) hx hb dX4_keysBelow_7 (by decide) (fun h => absurd h (by decide)) (fun _ => ?_)
  refine lv_iload_n hx hb dX4_keysBelow_10 rfl (lv_at hl 1 rfl) ?_
  refine lv_iload_n hx hb dX4_keysBelow_11 rfl (lv_at hl 0 rfl) ?_
  refine lv_iadd hx hb dX4_keysBelow_12 ?_
  refine tpi (v := 4) (by decide) ?_
  refine lv_aload_n hx hb dX4_keysBelow_13 rfl (lv_at hl 2 rfl) ?_
  refine va_get (D := D) (ci := 6) (v := .int 0) (C := RX4) (T := TX4) (N := 3) hx hb hts wi_X4_keysBelow_RX4 hown hK hP 0 rfl rfl 2 (by decide) (hts _ wd174_X4_keysBelow) (fun _ h9 => h9) rfl dX4_keysBelow_14 ?_
  refine lv_icmp_gt (tgt := 38) hx hb dX4_keysBelow_17 (by decide) (fun _ => ?_) (fun h => absurd (by decide) h)
  refine lv_iload_n hx hb dX4_keysBelow_38 rfl (lv_at hl 0 rfl) ?_
  refine lv_iconst (v := 2) hx hb dX4_keysBelow_39 (by decide) ?_
  refine lv_idiv hx hb dX4_keysBelow_40 (by decide) ?_
  refine tpi (v := 2) (by decide) ?_
  refine lv_istore_n (lv' := [(3, .int 2), (2, .int 0), (0, .ref h0), (1, .int 0)]) hx hb dX4_keysBelow_41 rfl hl (by decide) rfl (fun ls hl => ?_)
  refine lv_goto (tgt := 6) hx hb dX4_keysBelow_42 (by decide) ?_
  refine lv_iload_n hx hb dX4_keysBelow_6 rfl (lv_at hl 0 rfl) ?_
  refine lv_if_le (tgt := 45) hx hb dX4_keysBelow_7 (by decide) (fun h => absurd h (by decide)) (fun _ => ?_)
  refine lv_iload_n hx hb dX4_keysBelow_10 rfl (lv_at hl 1 rfl) ?_
  refine lv_iload_n hx hb dX4_keysBelow_11 rfl (lv_at hl 0 rfl) ?_
  refine lv_iadd hx hb dX4_keysBelow_12 ?_
  refine tpi (v := 2) (by decide) ?_
  refine lv_aload_n hx hb dX4_keysBelow_13 rfl (lv_at hl 2 rfl) ?_
  refine va_get (D := D) (ci := 6) (v := .int 0) (C := RX4) (T := TX4) (N := 3) hx hb hts wi_X4_keysBelow_RX4 hown hK hP 0 rfl rfl 2 (by decide) (hts _ wd174_X4_keysBelow) (fun _ h9 => h9) rfl dX4_keysBelow_14 ?_
  refine lv_icmp_gt (tgt := 38) hx hb dX4_keysBelow_17 (by decide) (fun _ => ?_) (fun h => absurd (by decide) h)
  refine lv_iload_n hx hb dX4_keysBelow_38 rfl (lv_at hl 0 rfl) ?_
  refine lv_iconst (v := 2) hx hb dX4_keysBelow_39 (by decide) ?_
  refine lv_idiv hx hb dX4_keysBelow_40 (by decide) ?_
  refine tpi (v := 1) (by decide) ?_
  refine lv_istore_n (lv' := [(3, .int 1), (2, .int 0), (0, .ref h0), (1, .int 0)]) hx hb dX4_keysBelow_41 rfl hl (by decide) rfl (fun ls hl => ?_)
  refine lv_goto (tgt := 6) hx hb dX4_keysBelow_42 (by decide) ?_
  refine lv_iload_n hx hb dX4_keysBelow_6 rfl (lv_at hl 0 rfl) ?_
  refine lv_if_le (tgt := 45) hx hb dX4_keysBelow_7 (by decide) (fun h => absurd h (by decide)) (fun _ => ?_)
  refine lv_iload_n hx hb dX4_keysBelow_10 rfl (lv_at hl 1 rfl) ?_
  refine lv_iload_n hx hb dX4_keysBelow_11 rfl (lv_at hl 0 rfl) ?_
  refine lv_iadd hx hb dX4_keysBelow_12 ?_
  refine tpi (v := 1) (by decide) ?_
  refine lv_aload_n hx hb dX4_keysBelow_13 rfl (lv_at hl 2 rfl) ?_
  refine va_get (D := D) (ci := 6) (v := .int 0) (C := RX4) (T := TX4) (N := 3) hx hb hts wi_X4_keysBelow_RX4 hown hK hP 0 rfl rfl 2 (by decide) (hts _ wd174_X4_keysBelow) (fun _ h9 => h9) rfl dX4_keysBelow_14 ?_
  refine lv_icmp_gt (tgt := 38) hx hb dX4_keysBelow_17 (by decide) (fun _ => ?_) (fun h => absurd (by decide) h)
  refine lv_iload_n hx hb dX4_keysBelow_38 rfl (lv_at hl 0 rfl) ?_
  refine lv_iconst (v := 2) hx hb dX4_keysBelow_39 (by decide) ?_
  refine lv_idiv hx hb dX4_keysBelow_40 (by decide) ?_
  refine tpi (v := 0) (by decide) ?_
  refine lv_istore_n (lv' := [(3, .int 0), (2, .int 0), (0, .ref h0), (1, .int 0)]) hx hb dX4_keysBelow_41 rfl hl (by decide) rfl (fun ls hl => ?_)
  refine lv_goto (tgt := 6) hx hb dX4_keysBelow_42 (by decide) ?_
  refine lv_iload_n hx hb dX4_keysBelow_6 rfl (lv_at hl 0 rfl) ?_
  refine lv_if_le (tgt := 45) hx hb dX4_keysBelow_7 (by decide) (fun _ => ?_) (fun h => absurd (by decide) h)
  refine lv_iload_n hx hb dX4_keysBelow_45 rfl (lv_at hl 1 rfl) ?_
  exact W.iret (v := 0) hx hb hr (fun t ht hW => ⟨0, rfl, rfl, ht⟩) (fun q hq => absurd hq List.not_mem_nil) dX4_keysBelow_46

theorem wi_X1_gather_RX1 : ∀ w ∈ u_ws RX1 TX1 7, w ∈ wsX1_gather := by decide +kernel

theorem wd231_X1_gather : (.fieldLink RX1 22 "Canticle$Reckoner" "own" "[I" : Cond) ∈ wsX1_gather := by decide +kernel

theorem wd232_X1_gather : (.fieldLink RX1 25 "Canticle$Reckoner" "sum" "J" : Cond) ∈ wsX1_gather := by decide +kernel

theorem wd233_X1_gather : (.fieldLink RX1 29 "Canticle$Reckoner" "kinds" "I" : Cond) ∈ wsX1_gather := by decide +kernel

theorem wi_X1_gather_RX4 : ∀ w ∈ u_ws RX4 TX4 3, w ∈ wsX1_gather := by decide +kernel

theorem wd234_X1_gather : (.fieldLink RX1 79 "Canticle$Tally" "size" "I" : Cond) ∈ wsX1_gather := by decide +kernel

set_option maxHeartbeats 4000000 in
set_option maxRecDepth 100000 in
theorem k_X1_gather_0 (l : Launch) (D : va_G) (κ ε : Nat → Nat) (h0 h1 h2 h3 h4 h5 h6 : Nat) (sz : Nat) (p0 : Int32) (p1 : Int32) (p2 : Int64) (p3 : Int32) : Met l yX1_gather wsX1_gather ({ frames := 1, cells := 0, slots := 0, locals := 23 }) (va_Pc [.ref h0, .ref h1, .int 0] (Pre2 D κ ε [(h0, .inr (3, [.ref h2, .int p0, .int p1, .ref h3, .ref h4, .long p2, .int p3])), (h1, .inr (6, [.ref h5, .ref h6, .int 0])), (h4, .inl (κ 0, 13, .inl (fun _ => 0)))] sz)) (va_Qv (fun u : Unit => True) (fun u t => va_P D vwCl [(h0, .inr (3, [.ref h2, .int p0, .int p1, .ref h3, .ref h4, .long 0, .int 0])), (h1, .inr (6, [.ref h5, .ref h6, .int 0])), (h4, .inl (κ 0, 13, .inl (fun _ => 0)))] t.heap ∧ va_D (va_A [(h0, .inr (3, [.ref h2, .int p0, .int p1, .ref h3, .ref h4, .long p2, .int p3])), (h1, .inr (6, [.ref h5, .ref h6, .int 0])), (h4, .inl (κ 0, 13, .inl (fun _ => 0)))] sz) [(h0, .inr (3, [.ref h2, .int p0, .int p1, .ref h3, .ref h4, .long 0, .int 0])), (h1, .inr (6, [.ref h5, .ref h6, .int 0])), (h4, .inl (κ 0, 13, .inl (fun _ => 0)))]) (va_A [(h0, .inr (3, [.ref h2, .int p0, .int p1, .ref h3, .ref h4, .long p2, .int p3])), (h1, .inr (6, [.ref h5, .ref h6, .int 0])), (h4, .inl (κ 0, 13, .inl (fun _ => 0)))] sz)) 0 0 (va_A [(h0, .inr (3, [.ref h2, .int p0, .int p1, .ref h3, .ref h4, .long p2, .int p3])), (h1, .inr (6, [.ref h5, .ref h6, .int 0])), (h4, .inl (κ 0, 13, .inl (fun _ => 0)))] sz) := by
  refine Met.ofW (cc := cX1_gather) (maxL := 6) (ret := none) (by decide) rfl ?_
  intro p e s m args below meth c s₁ B hml hv
  obtain ⟨rfl, hsz, hP, hK, hD0, hE9⟩ := hv
  have hx := B.exec
  have hb := B.bytes
  have hr := B.returns
  have hts := atoms_spec (ws := wsX1_gather) B.pre
  have hown : s.vm.findClass RX1 = some m.cls := findClass_of_methodNamed B.named
  have hlocks := B.notSynchronized
  subst hsz
  have hD := hD0.self (sz := s.heap.size)
  generalize hAe : va_A [(h0, .inr (3, [.ref h2, .int p0, .int p1, .ref h3, .ref h4, .long p2, .int p3])), (h1, .inr (6, [.ref h5, .ref h6, .int 0])), (h4, .inl (κ 0, 13, .inl (fun _ => 0)))] s.heap.size = A at hD hE9 ⊢
  have hE := hE9.1
  have hDc := hE9.2
  have hA : ∀ q : Nat, s.heap.size ≤ q → A q := fun q h => by rw [← hAe]; exact Or.inr h
  have hS : va_S A s.heap s.heap [] := va_S.rf
  have hP : va_P D vwCl [(h0, .inr (3, [.ref h2, .int p0, .int p1, .ref h3, .ref h4, .long p2, .int p3])), (h1, .inr (6, [.ref h5, .ref h6, .int 0])), (h4, .inl (κ 0, 13, .inl (fun _ => 0)))] s.heap := hP
  have hl := lv_entry [.ref h0, .ref h1, .int 0] (n := 6) (Nat.le_of_ble_eq_true rfl)
  rw [lg_entry_eq]
  generalize (lg_sl [.ref h0, .ref h1, .int 0] ++ List.replicate (6 - (lg_sl [.ref h0, .ref h1, .int 0]).length) Slot.unset).toArray = ls at hl ⊢
  have hl : lv_has ls 6 [(0, .ref h0), (1, .ref h1), (2, .int 0)] := hl
  refine lv_aload_n hx hb dX1_gather_0 rfl (lv_at hl 0 rfl) ?_
  refine va_get (D := D) (ci := 3) (v := .ref h4) (C := RX1) (T := TX1) (N := 7) hx hb hts wi_X1_gather_RX1 hown hK hP 0 rfl rfl 4 (by decide) (hts _ wd231_X1_gather) (fun _ h9 => h9) rfl dX1_gather_1 ?_
  refine lv_iconst (v := 0) hx hb dX1_gather_4 (by decide) ?_
  have hF := va_free (wc := [(h4, .inl (κ 0, 13, .inl (fun _ => 0)))]) hD hS hA [2] rfl
  refine va_callv (va_runS (As := [.ref h4, .int 0]) (rest := []) ⟨hx, hb, hml, hown, hts⟩ (k_J7_fill_53178_0 l D κ ε h4 s.heap.size) (va_cwS 2 hts gX1_gather_J7_fill_53178 rfl rfl rfl (by decide +kernel) ⟨(Nat.le_of_ble_eq_true rfl), (Nat.le_of_ble_eq_true rfl)⟩) (pre2_S (wc := [(h4, .inl (κ 0, 13, .inl (fun _ => 0)))]) hP hD hK hE9 hS hA [2] (by decide) rfl) rfl rfl hl.1 rfl (lv_room (Nat.le_of_ble_eq_true rfl)) dX1_gather_5 ⟨(Nat.le_of_ble_eq_true rfl), (Nat.le_of_ble_eq_true rfl)⟩) hS (fun q _ h => hF q h) hF (fun u1 t H locs ht hvm hw hB hz1 hk1 hS => ?_)
  try dsimp only at hw hB
  obtain ⟨hP1, hD1⟩ := hB
  rw [ht] at hP1
  obtain ⟨hP, hD⟩ := post_j (ws' := [(h0, .inr (3, [.ref h2, .int p0, .int p1, .ref h3, .ref h4, .long p2, .int p3])), (h1, .inr (6, [.ref h5, .ref h6, .int 0])), (h4, .inl (κ 0, 13, .inl (fun _ => 0)))]) (wr := [(h0, .inr (3, [.ref h2, .int p0, .int p1, .ref h3, .ref h4, .long p2, .int p3])), (h1, .inr (6, [.ref h5, .ref h6, .int 0]))]) (w1 := [(h4, .inl (κ 0, 13, .inl (fun _ => 0)))]) hP hD hF [2] rfl [0, 1] rfl (by decide) (by decide) hk1 hP1 hD1 [0, 1, 2] (by decide) rfl
  have hP : va_P D vwCl [(h0, .inr (3, [.ref h2, .int p0, .int p1, .ref h3, .ref h4, .long p2, .int p3])), (h1, .inr (6, [.ref h5, .ref h6, .int 0])), (h4, .inl (κ 0, 13, .inl (fun _ => 0)))] H := hP
  have hD : va_D A [(h0, .inr (3, [.ref h2, .int p0, .int p1, .ref h3, .ref h4, .long p2, .int p3])), (h1, .inr (6, [.ref h5, .ref h6, .int 0])), (h4, .inl (κ 0, 13, .inl (fun _ => 0)))] := hD
  refine lv_aload_n hx hb dX1_gather_8 rfl (lv_at hl 0 rfl) ?_
  refine lv_lconst (v := 0) hx hb dX1_gather_9 (by decide) ?_
  refine va_put (D := D) (ci := 3) (v := .long 0) (ty := .long) (C := RX1) (T := TX1) (N := 7) hx hb hts wi_X1_gather_RX1 tyX1 tyX1_ok nmX1 hown hK hP hD hS 0 rfl rfl 5 (by decide) (hts _ wd232_X1_gather) (fun _ h9 => h9) rfl (by decide +kernel) rfl rfl (Nat.le_of_ble_eq_true rfl) dX1_gather_10 (fun H locs hP hD hS => ?_)
  have hP : va_P D vwCl [(h0, .inr (3, [.ref h2, .int p0, .int p1, .ref h3, .ref h4, .long 0, .int p3])), (h1, .inr (6, [.ref h5, .ref h6, .int 0])), (h4, .inl (κ 0, 13, .inl (fun _ => 0)))] H := hP
  have hD : va_D A [(h0, .inr (3, [.ref h2, .int p0, .int p1, .ref h3, .ref h4, .long 0, .int p3])), (h1, .inr (6, [.ref h5, .ref h6, .int 0])), (h4, .inl (κ 0, 13, .inl (fun _ => 0)))] := hD
  refine lv_aload_n hx hb dX1_gather_13 rfl (lv_at hl 0 rfl) ?_
  refine lv_iconst (v := 0) hx hb dX1_gather_14 (by decide) ?_
  refine va_put (D := D) (ci := 3) (v := .int 0) (ty := .int) (C := RX1) (T := TX1) (N := 7) hx hb hts wi_X1_gather_RX1 tyX1 tyX1_ok nmX1 hown hK hP hD hS 0 rfl rfl 6 (by decide) (hts _ wd233_X1_gather) (fun _ h9 => h9) rfl (by decide +kernel) rfl rfl (Nat.le_of_ble_eq_true rfl) dX1_gather_15 (fun H locs hP hD hS => ?_)
  have hP : va_P D vwCl [(h0, .inr (3, [.ref h2, .int p0, .int p1, .ref h3, .ref h4, .long 0, .int 0])), (h1, .inr (6, [.ref h5, .ref h6, .int 0])), (h4, .inl (κ 0, 13, .inl (fun _ => 0)))] H := hP
  have hD : va_D A [(h0, .inr (3, [.ref h2, .int p0, .int p1, .ref h3, .ref h4, .long 0, .int 0])), (h1, .inr (6, [.ref h5, .ref h6, .int 0])), (h4, .inl (κ 0, 13, .inl (fun _ => 0)))] := hD
  refine lv_iload_n hx hb dX1_gather_18 rfl (lv_at hl 2 rfl) ?_
  refine lv_bipush (v := 14) hx hb dX1_gather_19 (by decide) ?_
  refine lv_imul hx hb dX1_gather_21 ?_
  refine tpi (v := 0) (by decide) ?_
  refine lv_istore_n (lv' := [(3, .int 0), (0, .ref h0), (1, .ref h1), (2, .int 0)]) hx hb dX1_gather_22 rfl hl (by decide) rfl (fun ls hl => ?_)
  refine lv_aload_n hx hb dX1_gather_23 rfl (lv_at hl 2 rfl) ?_
  refine lv_iload_n hx hb dX1_gather_24 rfl (lv_at hl 0 rfl) ?_
  refine vp_callSi (W.runV (As := [.int 0]) (rest := []) ⟨hx, hb, hml, hown, hts⟩ (k_X4_keysBelow_1 l D κ ε h1 h5 h6) (cwV 1 hts gX1_gather_X4_keysBelow rfl rfl rfl (by decide +kernel) ⟨(Nat.le_of_ble_eq_true rfl), (Nat.le_of_ble_eq_true rfl)⟩) (pre0_V (q0 := 1) (ci := 6) (wc := [(h1, .inr (6, [.ref h5, .ref h6, .int 0]))]) hP hK [1] rfl rfl rfl) rfl rfl hl.1 rfl (lv_room (Nat.le_of_ble_eq_true rfl)) dX1_gather_25 ⟨(Nat.le_of_ble_eq_true rfl), (Nat.le_of_ble_eq_true rfl)⟩) (fun r hw => ?_)
  rw [hw]
  refine lv_istore (lv' := [(4, .int 0), (3, .int 0), (0, .ref h0), (1, .ref h1), (2, .int 0)]) hx hb dX1_gather_28 hl (by decide) rfl (fun ls hl => ?_)
  refine lv_iload hx hb dX1_gather_30 (lv_at hl 0 rfl) ?_
  refine lv_aload_n hx hb dX1_gather_32 rfl (lv_at hl 3 rfl) ?_
  refine va_get (D := D) (ci := 6) (v := .int 0) (C := RX4) (T := TX4) (N := 3) hx hb hts wi_X1_gather_RX4 hown hK hP 1 rfl rfl 2 (by decide) (hts _ wd234_X1_gather) (fun _ h9 => h9) rfl dX1_gather_33 ?_
  refine lv_icmp_ge (tgt := 125) hx hb dX1_gather_36 (by decide) (fun _ => ?_) (fun h => absurd (by decide) h)
  have hP9 := hP
  have hD9 := hD
  exact W.vret hx hb hr (fun t ht hW => ⟨⟨(), rfl, trivial, by rw [ht]; exact hP9, hD9⟩, hS.F ht⟩) hS.2.2 dX1_gather_125

theorem wi_X5_totalBehind_RX5 : ∀ w ∈ u_ws RX5 TX5 10, w ∈ wsX5_totalBehind := by decide +kernel

theorem wd235_X5_totalBehind : (.fieldLink RX5 21 "Canticle" "reckoner" "LCanticle$Reckoner;" : Cond) ∈ wsX5_totalBehind := by decide +kernel

theorem wd236_X5_totalBehind : (.fieldLink RX5 10 "Canticle" "ledger" "LCanticle$Ledger;" : Cond) ∈ wsX5_totalBehind := by decide +kernel

theorem wd237_X5_totalBehind : (.fieldLink RX5 51 "Canticle" "length" "I" : Cond) ∈ wsX5_totalBehind := by decide +kernel

theorem wi_X5_totalBehind_RX1 : ∀ w ∈ u_ws RX1 TX1 7, w ∈ wsX5_totalBehind := by decide +kernel

theorem wd238_X5_totalBehind : (.fieldLink RX5 295 "Canticle$Reckoner" "kinds" "I" : Cond) ∈ wsX5_totalBehind := by decide +kernel

theorem wd239_X5_totalBehind : (.fieldLink RX5 291 "Canticle$Reckoner" "sum" "J" : Cond) ∈ wsX5_totalBehind := by decide +kernel

set_option maxHeartbeats 4000000 in
set_option maxRecDepth 100000 in
theorem k_X5_totalBehind_0 (l : Launch) (D : va_G) (κ ε : Nat → Nat) (h0 h1 h2 h3 h4 h5 h6 h7 h8 h9 h10 h11 h12 h13 h14 h15 h16 : Nat) (sz : Nat) (p0 : Int32) (p1 : Int32) (p2 : Int32) (p3 : Int32) (p4 : Int32) (p5 : Int32) (p6 : Int32) : Met l yX5_totalBehind wsX5_totalBehind ({ frames := 2, cells := 0, slots := 0, locals := 48 }) (va_Pc [.ref h0, .int 1, .int p0] (Pre2 D κ ε [(h0, .inr (7, [.ref h1, .ref h2, .ref h3, .ref h4, .ref h5, .ref h6, .int 0, .int p1, .int p2, .int 0])), (h1, .inr (2, [.int p3, .int p4, .ref h7, .ref h8])), (h2, .inr (3, [.ref h1, .int p5, .int p6, .ref h9, .ref h10, .long 0, .int 0])), (h7, .inl (κ 3, 4, .inr (.inr (.inr (.inr (sel [h11, h12, h13, h14])))))), (h10, .inl (κ 0, 13, .inl (fun _ => 0))), (h11, .inr (6, [.ref h15, .ref h16, .int 0]))] sz)) (va_Qi (fun r (u : Unit) => ((¬ p0 = 0) ∧ (r = 0)) ∨ ((p0 = 0) ∧ (r = 0))) (fun u t => va_P D vwCl [(h0, .inr (7, [.ref h1, .ref h2, .ref h3, .ref h4, .ref h5, .ref h6, .int 0, .int p1, .int p2, .int 0])), (h1, .inr (2, [.int p3, .int p4, .ref h7, .ref h8])), (h2, .inr (3, [.ref h1, .int p5, .int p6, .ref h9, .ref h10, .long 0, .int 0])), (h7, .inl (κ 3, 4, .inr (.inr (.inr (.inr (sel [h11, h12, h13, h14])))))), (h10, .inl (κ 0, 13, .inl (fun _ => 0))), (h11, .inr (6, [.ref h15, .ref h16, .int 0]))] t.heap ∧ va_D (va_A [(h0, .inr (7, [.ref h1, .ref h2, .ref h3, .ref h4, .ref h5, .ref h6, .int 0, .int p1, .int p2, .int 0])), (h1, .inr (2, [.int p3, .int p4, .ref h7, .ref h8])), (h2, .inr (3, [.ref h1, .int p5, .int p6, .ref h9, .ref h10, .long 0, .int 0])), (h7, .inl (κ 3, 4, .inr (.inr (.inr (.inr (sel [h11, h12, h13, h14])))))), (h10, .inl (κ 0, 13, .inl (fun _ => 0))), (h11, .inr (6, [.ref h15, .ref h16, .int 0]))] sz) [(h0, .inr (7, [.ref h1, .ref h2, .ref h3, .ref h4, .ref h5, .ref h6, .int 0, .int p1, .int p2, .int 0])), (h1, .inr (2, [.int p3, .int p4, .ref h7, .ref h8])), (h2, .inr (3, [.ref h1, .int p5, .int p6, .ref h9, .ref h10, .long 0, .int 0])), (h7, .inl (κ 3, 4, .inr (.inr (.inr (.inr (sel [h11, h12, h13, h14])))))), (h10, .inl (κ 0, 13, .inl (fun _ => 0))), (h11, .inr (6, [.ref h15, .ref h16, .int 0]))]) (va_A [(h0, .inr (7, [.ref h1, .ref h2, .ref h3, .ref h4, .ref h5, .ref h6, .int 0, .int p1, .int p2, .int 0])), (h1, .inr (2, [.int p3, .int p4, .ref h7, .ref h8])), (h2, .inr (3, [.ref h1, .int p5, .int p6, .ref h9, .ref h10, .long 0, .int 0])), (h7, .inl (κ 3, 4, .inr (.inr (.inr (.inr (sel [h11, h12, h13, h14])))))), (h10, .inl (κ 0, 13, .inl (fun _ => 0))), (h11, .inr (6, [.ref h15, .ref h16, .int 0]))] sz)) 0 0 (va_A [(h0, .inr (7, [.ref h1, .ref h2, .ref h3, .ref h4, .ref h5, .ref h6, .int 0, .int p1, .int p2, .int 0])), (h1, .inr (2, [.int p3, .int p4, .ref h7, .ref h8])), (h2, .inr (3, [.ref h1, .int p5, .int p6, .ref h9, .ref h10, .long 0, .int 0])), (h7, .inl (κ 3, 4, .inr (.inr (.inr (.inr (sel [h11, h12, h13, h14])))))), (h10, .inl (κ 0, 13, .inl (fun _ => 0))), (h11, .inr (6, [.ref h15, .ref h16, .int 0]))] sz) := by
  refine Met.ofW (cc := cX5_totalBehind) (maxL := 3) (ret := (some .int)) (by decide) rfl ?_
  intro p e s m args below meth c s₁ B hml hv
  obtain ⟨rfl, hsz, hP, hK, hD0, hE9⟩ := hv
  have hx := B.exec
  have hb := B.bytes
  have hr := B.returns
  have hts := atoms_spec (ws := wsX5_totalBehind) B.pre
  have hown : s.vm.findClass RX5 = some m.cls := findClass_of_methodNamed B.named
  have hlocks := B.notSynchronized
  subst hsz
  have hD := hD0.self (sz := s.heap.size)
  generalize hAe : va_A [(h0, .inr (7, [.ref h1, .ref h2, .ref h3, .ref h4, .ref h5, .ref h6, .int 0, .int p1, .int p2, .int 0])), (h1, .inr (2, [.int p3, .int p4, .ref h7, .ref h8])), (h2, .inr (3, [.ref h1, .int p5, .int p6, .ref h9, .ref h10, .long 0, .int 0])), (h7, .inl (κ 3, 4, .inr (.inr (.inr (.inr (sel [h11, h12, h13, h14])))))), (h10, .inl (κ 0, 13, .inl (fun _ => 0))), (h11, .inr (6, [.ref h15, .ref h16, .int 0]))] s.heap.size = A at hD hE9 ⊢
  have hE := hE9.1
  have hDc := hE9.2
  have hA : ∀ q : Nat, s.heap.size ≤ q → A q := fun q h => by rw [← hAe]; exact Or.inr h
  have hS : va_S A s.heap s.heap [] := va_S.rf
  have hP : va_P D vwCl [(h0, .inr (7, [.ref h1, .ref h2, .ref h3, .ref h4, .ref h5, .ref h6, .int 0, .int p1, .int p2, .int 0])), (h1, .inr (2, [.int p3, .int p4, .ref h7, .ref h8])), (h2, .inr (3, [.ref h1, .int p5, .int p6, .ref h9, .ref h10, .long 0, .int 0])), (h7, .inl (κ 3, 4, .inr (.inr (.inr (.inr (sel [h11, h12, h13, h14])))))), (h10, .inl (κ 0, 13, .inl (fun _ => 0))), (h11, .inr (6, [.ref h15, .ref h16, .int 0]))] s.heap := hP
  have hl := lv_entry [.ref h0, .int 1, .int p0] (n := 3) (Nat.le_of_ble_eq_true rfl)
  rw [lg_entry_eq]
  generalize (lg_sl [.ref h0, .int 1, .int p0] ++ List.replicate (3 - (lg_sl [.ref h0, .int 1, .int p0]).length) Slot.unset).toArray = ls at hl ⊢
  have hl : lv_has ls 3 [(0, .ref h0), (1, .int 1), (2, .int p0)] := hl
  refine lv_aload_n hx hb dX5_totalBehind_0 rfl (lv_at hl 0 rfl) ?_
  refine va_get (D := D) (ci := 7) (v := .ref h2) (C := RX5) (T := TX5) (N := 10) hx hb hts wi_X5_totalBehind_RX5 hown hK hP 0 rfl rfl 1 (by decide) (hts _ wd235_X5_totalBehind) (fun _ h9 => h9) rfl dX5_totalBehind_1 ?_
  refine lv_aload_n hx hb dX5_totalBehind_4 rfl (lv_at hl 0 rfl) ?_
  refine va_get (D := D) (ci := 7) (v := .ref h1) (C := RX5) (T := TX5) (N := 10) hx hb hts wi_X5_totalBehind_RX5 hown hK hP 0 rfl rfl 0 (by decide) (hts _ wd236_X5_totalBehind) (fun _ h9 => h9) rfl dX5_totalBehind_5 ?_
  refine lv_iload_n hx hb dX5_totalBehind_8 rfl (lv_at hl 1 rfl) ?_
  refine va_csr (W.runV (As := [.int 1]) (rest := [.ref h2]) ⟨hx, hb, hml, hown, hts⟩ (k_X0_countsOf_0 l D κ ε h1 h7 h8 h11 h12 h13 h14 (p3) (p4)) (cwV 1 hts gX5_totalBehind_X0_countsOf rfl rfl rfl (by decide +kernel) ⟨(Nat.le_of_ble_eq_true rfl), (Nat.le_of_ble_eq_true rfl)⟩) (pre0_V (q0 := 1) (ci := 2) (wc := [(h1, .inr (2, [.int p3, .int p4, .ref h7, .ref h8])), (h7, .inl (κ 3, 4, .inr (.inr (.inr (.inr (sel [h11, h12, h13, h14]))))))]) hP hK [1, 3] rfl rfl rfl) rfl rfl hl.1 rfl (lv_room (Nat.le_of_ble_eq_true rfl)) dX5_totalBehind_9 ⟨(Nat.le_of_ble_eq_true rfl), (Nat.le_of_ble_eq_true rfl)⟩) (fun r hw => ?_)
  rw [hw]
  refine lv_aload_n hx hb dX5_totalBehind_12 rfl (lv_at hl 0 rfl) ?_
  refine lv_aload_n hx hb dX5_totalBehind_13 rfl (lv_at hl 0 rfl) ?_
  refine va_get (D := D) (ci := 7) (v := .int 0) (C := RX5) (T := TX5) (N := 10) hx hb hts wi_X5_totalBehind_RX5 hown hK hP 0 rfl rfl 6 (by decide) (hts _ wd237_X5_totalBehind) (fun _ h9 => h9) rfl dX5_totalBehind_14 ?_
  refine lv_iconst (v := 1) hx hb dX5_totalBehind_17 (by decide) ?_
  refine lv_isub hx hb dX5_totalBehind_18 ?_
  refine tpi (v := (-1)) (by decide) ?_
  refine lv_iload_n hx hb dX5_totalBehind_19 rfl (lv_at hl 1 rfl) ?_
  refine lv_iconst (v := 1) hx hb dX5_totalBehind_20 (by decide) ?_
  refine lv_isub hx hb dX5_totalBehind_21 ?_
  refine tpi (v := 0) (by decide) ?_
  refine vp_callSi (W.runV (As := [.int (-1), .int 0]) (rest := [.ref h11, .ref h2]) ⟨hx, hb, hml, hown, hts⟩ (k_X5_keyUpTo_1 l D κ ε h0) (cwV 2 hts gX5_totalBehind_X5_keyUpTo rfl rfl rfl (by decide +kernel) ⟨(Nat.le_of_ble_eq_true rfl), (Nat.le_of_ble_eq_true rfl)⟩) (pre0_V (q0 := 0) (ci := 7) (wc := []) hP hK [] rfl rfl rfl) rfl rfl hl.1 rfl (lv_room (Nat.le_of_ble_eq_true rfl)) dX5_totalBehind_22 ⟨(Nat.le_of_ble_eq_true rfl), (Nat.le_of_ble_eq_true rfl)⟩) (fun r hw => ?_)
  rw [hw]
  have hF := va_free (wc := [(h2, .inr (3, [.ref h1, .int p5, .int p6, .ref h9, .ref h10, .long 0, .int 0])), (h11, .inr (6, [.ref h15, .ref h16, .int 0])), (h10, .inl (κ 0, 13, .inl (fun _ => 0)))]) hD hS hA [2, 5, 4] rfl
  refine va_callv (va_runV (As := [.ref h11, .int 0]) (rest := []) ⟨hx, hb, hml, hown, hts⟩ (k_X1_gather_0 l D κ ε h2 h11 h1 h9 h10 h15 h16 s.heap.size (p5) (p6) (0) (0)) (cwV 2 hts gX5_totalBehind_X1_gather rfl rfl rfl (by decide +kernel) ⟨(Nat.le_of_ble_eq_true rfl), (Nat.le_of_ble_eq_true rfl)⟩) (pre2_V (q0 := 2) (ci := 3) (wc := [(h2, .inr (3, [.ref h1, .int p5, .int p6, .ref h9, .ref h10, .long 0, .int 0])), (h11, .inr (6, [.ref h15, .ref h16, .int 0])), (h10, .inl (κ 0, 13, .inl (fun _ => 0)))]) hP hD hK hE9 hS hA [2, 5, 4] (by decide) rfl rfl rfl) rfl rfl hl.1 rfl (lv_room (Nat.le_of_ble_eq_true rfl)) dX5_totalBehind_25 ⟨(Nat.le_of_ble_eq_true rfl), (Nat.le_of_ble_eq_true rfl)⟩) hS (fun q _ h => hF q h) hF (fun u1 t H locs ht hvm hw hB hz1 hk1 hS => ?_)
  try dsimp only at hw hB
  obtain ⟨hP1, hD1⟩ := hB
  rw [ht] at hP1
  obtain ⟨hP, hD⟩ := post_j (ws' := [(h0, .inr (7, [.ref h1, .ref h2, .ref h3, .ref h4, .ref h5, .ref h6, .int 0, .int p1, .int p2, .int 0])), (h1, .inr (2, [.int p3, .int p4, .ref h7, .ref h8])), (h2, .inr (3, [.ref h1, .int p5, .int p6, .ref h9, .ref h10, .long 0, .int 0])), (h7, .inl (κ 3, 4, .inr (.inr (.inr (.inr (sel [h11, h12, h13, h14])))))), (h10, .inl (κ 0, 13, .inl (fun _ => 0))), (h11, .inr (6, [.ref h15, .ref h16, .int 0]))]) (wr := [(h0, .inr (7, [.ref h1, .ref h2, .ref h3, .ref h4, .ref h5, .ref h6, .int 0, .int p1, .int p2, .int 0])), (h1, .inr (2, [.int p3, .int p4, .ref h7, .ref h8])), (h7, .inl (κ 3, 4, .inr (.inr (.inr (.inr (sel [h11, h12, h13, h14]))))))]) (w1 := [(h2, .inr (3, [.ref h1, .int p5, .int p6, .ref h9, .ref h10, .long 0, .int 0])), (h11, .inr (6, [.ref h15, .ref h16, .int 0])), (h10, .inl (κ 0, 13, .inl (fun _ => 0)))]) hP hD hF [2, 5, 4] rfl [0, 1, 3] rfl (by decide) (by decide) hk1 hP1 hD1 [0, 1, 3, 2, 5, 4] (by decide) rfl
  have hP : va_P D vwCl [(h0, .inr (7, [.ref h1, .ref h2, .ref h3, .ref h4, .ref h5, .ref h6, .int 0, .int p1, .int p2, .int 0])), (h1, .inr (2, [.int p3, .int p4, .ref h7, .ref h8])), (h2, .inr (3, [.ref h1, .int p5, .int p6, .ref h9, .ref h10, .long 0, .int 0])), (h7, .inl (κ 3, 4, .inr (.inr (.inr (.inr (sel [h11, h12, h13, h14])))))), (h10, .inl (κ 0, 13, .inl (fun _ => 0))), (h11, .inr (6, [.ref h15, .ref h16, .int 0]))] H := hP
  have hD : va_D A [(h0, .inr (7, [.ref h1, .ref h2, .ref h3, .ref h4, .ref h5, .ref h6, .int 0, .int p1, .int p2, .int 0])), (h1, .inr (2, [.int p3, .int p4, .ref h7, .ref h8])), (h2, .inr (3, [.ref h1, .int p5, .int p6, .ref h9, .ref h10, .long 0, .int 0])), (h7, .inl (κ 3, 4, .inr (.inr (.inr (.inr (sel [h11, h12, h13, h14])))))), (h10, .inl (κ 0, 13, .inl (fun _ => 0))), (h11, .inr (6, [.ref h15, .ref h16, .int 0]))] := hD
  refine lv_iload_n hx hb dX5_totalBehind_28 rfl (lv_at hl 2 rfl) ?_
  refine lv_if_ne (tgt := 43) hx hb dX5_totalBehind_29 (by decide) (fun c2 => ?_) (fun c2 => ?_)
  · skip
    refine lv_aload_n hx hb dX5_totalBehind_43 rfl (lv_at hl 0 rfl) ?_
    refine va_get (D := D) (ci := 7) (v := .ref h2) (C := RX5) (T := TX5) (N := 10) hx hb hts wi_X5_totalBehind_RX5 hown hK hP 0 rfl rfl 1 (by decide) (hts _ wd235_X5_totalBehind) (fun _ h9 => h9) rfl dX5_totalBehind_44 ?_
    refine va_get (D := D) (ci := 3) (v := .int 0) (C := RX1) (T := TX1) (N := 7) hx hb hts wi_X5_totalBehind_RX1 hown hK hP 2 rfl rfl 6 (by decide) (hts _ wd238_X5_totalBehind) (fun _ h9 => h9) rfl dX5_totalBehind_47 ?_
    have hP9 := hP
    have hD9 := hD
    exact W.iret (v := 0) hx hb hr (fun t ht hW => ⟨⟨0, (), rfl, (Or.inl ⟨c2, rfl⟩), by rw [ht]; exact hP9, hD9⟩, hS.F ht⟩) hS.2.2 dX5_totalBehind_50
  · skip
    refine lv_aload_n hx hb dX5_totalBehind_32 rfl (lv_at hl 0 rfl) ?_
    refine va_get (D := D) (ci := 7) (v := .ref h2) (C := RX5) (T := TX5) (N := 10) hx hb hts wi_X5_totalBehind_RX5 hown hK hP 0 rfl rfl 1 (by decide) (hts _ wd235_X5_totalBehind) (fun _ h9 => h9) rfl dX5_totalBehind_33 ?_
    refine va_get (D := D) (ci := 3) (v := .long 0) (C := RX1) (T := TX1) (N := 7) hx hb hts wi_X5_totalBehind_RX1 hown hK hP 2 rfl rfl 5 (by decide) (hts _ wd239_X5_totalBehind) (fun _ h9 => h9) rfl dX5_totalBehind_36 ?_
    refine lv_l2i (v := 0) hx hb dX5_totalBehind_39 (by decide) ?_
    refine lv_goto (tgt := 50) hx hb dX5_totalBehind_40 (by decide) ?_
    have hP9 := hP
    have hD9 := hD
    exact W.iret (v := 0) hx hb hr (fun t ht hW => ⟨⟨0, (), rfl, (Or.inr ⟨c2, rfl⟩), by rw [ht]; exact hP9, hD9⟩, hS.F ht⟩) hS.2.2 dX5_totalBehind_50

theorem at1_X5_ofContext_82 : ∀ w ∈ (vx_atS RX5 82 "java/lang/IllegalArgumentException" ["java/lang/RuntimeException", "java/lang/Exception"]).filter goodWord, w ∈ wsX5_ofContext := by decide +kernel

theorem wd240_X5_ofContext : (.classLink RX5 78 "java/lang/IllegalArgumentException" : Cond) ∈ wsX5_ofContext := by decide +kernel

theorem wd241_X5_ofContext : (.initialized "java/lang/IllegalArgumentException" : Cond) ∈ wsX5_ofContext := by decide +kernel

set_option maxHeartbeats 4000000 in
set_option maxRecDepth 100000 in
theorem k_X5_ofContext_0 (l : Launch) (hst : l.stackTraces = false) (D : va_G) (κ ε : Nat → Nat) (h0 h1 h2 h3 h4 h5 h6 h7 h8 h9 h10 h11 h12 h13 h14 h15 h16 : Nat) (sz : Nat) (p0 : Int32) : vx_Met l yX5_ofContext wsX5_ofContext ({ frames := 6, cells := 1, slots := 6, locals := 120 }) (va_Pc [.ref h0, .int 1, .int p0] (Pre2 D κ ε [(h0, .inr (7, [.ref h1, .ref h2, .ref h3, .ref h4, .ref h5, .ref h6, .int 0, .int 0, .int 0, .int 0])), (h1, .inr (2, [.int 0, .int 2, .ref h7, .ref h8])), (h2, .inr (3, [.ref h1, .int 0, .int 500, .ref h9, .ref h10, .long 0, .int 0])), (h7, .inl (κ 3, 4, .inr (.inr (.inr (.inr (sel [h11, h12, h13, h14])))))), (h10, .inl (κ 0, 13, .inl (fun _ => 0))), (h11, .inr (6, [.ref h15, .ref h16, .int 0]))] sz)) (va_Qi (fun r (u : Unit) => ((¬ p0 < 0) ∧ (p0 ≤ 1) ∧ (¬ p0 = 0) ∧ (r = 0)) ∨ ((¬ p0 < 0) ∧ (p0 ≤ 1) ∧ (p0 = 0) ∧ (r = 0))) (fun _ _ => True) (va_A [(h0, .inr (7, [.ref h1, .ref h2, .ref h3, .ref h4, .ref h5, .ref h6, .int 0, .int 0, .int 0, .int 0])), (h1, .inr (2, [.int 0, .int 2, .ref h7, .ref h8])), (h2, .inr (3, [.ref h1, .int 0, .int 500, .ref h9, .ref h10, .long 0, .int 0])), (h7, .inl (κ 3, 4, .inr (.inr (.inr (.inr (sel [h11, h12, h13, h14])))))), (h10, .inl (κ 0, 13, .inl (fun _ => 0))), (h11, .inr (6, [.ref h15, .ref h16, .int 0]))] sz)) (vx_X (fun _ : Unit => True) (fun E _ _ => ((p0 < 0) ∧ E = "java/lang/IllegalArgumentException") ∨ ((¬ p0 < 0) ∧ (¬ p0 ≤ 1) ∧ E = "java/lang/IllegalArgumentException")) (va_A [(h0, .inr (7, [.ref h1, .ref h2, .ref h3, .ref h4, .ref h5, .ref h6, .int 0, .int 0, .int 0, .int 0])), (h1, .inr (2, [.int 0, .int 2, .ref h7, .ref h8])), (h2, .inr (3, [.ref h1, .int 0, .int 500, .ref h9, .ref h10, .long 0, .int 0])), (h7, .inl (κ 3, 4, .inr (.inr (.inr (.inr (sel [h11, h12, h13, h14])))))), (h10, .inl (κ 0, 13, .inl (fun _ => 0))), (h11, .inr (6, [.ref h15, .ref h16, .int 0]))] sz)) 1 6 (va_A [(h0, .inr (7, [.ref h1, .ref h2, .ref h3, .ref h4, .ref h5, .ref h6, .int 0, .int 0, .int 0, .int 0])), (h1, .inr (2, [.int 0, .int 2, .ref h7, .ref h8])), (h2, .inr (3, [.ref h1, .int 0, .int 500, .ref h9, .ref h10, .long 0, .int 0])), (h7, .inl (κ 3, 4, .inr (.inr (.inr (.inr (sel [h11, h12, h13, h14])))))), (h10, .inl (κ 0, 13, .inl (fun _ => 0))), (h11, .inr (6, [.ref h15, .ref h16, .int 0]))] sz) := by
  refine vx_ofW (cc := cX5_ofContext) (maxL := 3) (ret := (some .int)) (by decide) rfl ?_
  intro p e s m args below meth c s₁ B hml hnx hv
  obtain ⟨rfl, hsz, hP, hK, hD0, hE9⟩ := hv
  have hx := B.exec
  have hb := B.bytes
  have hr := B.returns
  have hts := atoms_spec (ws := wsX5_ofContext) B.pre
  have hown : s.vm.findClass RX5 = some m.cls := findClass_of_methodNamed B.named
  have hlocks := B.notSynchronized
  subst hsz
  have hD := hD0.self (sz := s.heap.size)
  generalize hAe : va_A [(h0, .inr (7, [.ref h1, .ref h2, .ref h3, .ref h4, .ref h5, .ref h6, .int 0, .int 0, .int 0, .int 0])), (h1, .inr (2, [.int 0, .int 2, .ref h7, .ref h8])), (h2, .inr (3, [.ref h1, .int 0, .int 500, .ref h9, .ref h10, .long 0, .int 0])), (h7, .inl (κ 3, 4, .inr (.inr (.inr (.inr (sel [h11, h12, h13, h14])))))), (h10, .inl (κ 0, 13, .inl (fun _ => 0))), (h11, .inr (6, [.ref h15, .ref h16, .int 0]))] s.heap.size = A at hD hE9 ⊢
  have hE := hE9.1
  have hDc := hE9.2
  have hA : ∀ q : Nat, s.heap.size ≤ q → A q := fun q h => by rw [← hAe]; exact Or.inr h
  have hS : va_S A s.heap s.heap [] := va_S.rf
  have hP : va_P D vwCl [(h0, .inr (7, [.ref h1, .ref h2, .ref h3, .ref h4, .ref h5, .ref h6, .int 0, .int 0, .int 0, .int 0])), (h1, .inr (2, [.int 0, .int 2, .ref h7, .ref h8])), (h2, .inr (3, [.ref h1, .int 0, .int 500, .ref h9, .ref h10, .long 0, .int 0])), (h7, .inl (κ 3, 4, .inr (.inr (.inr (.inr (sel [h11, h12, h13, h14])))))), (h10, .inl (κ 0, 13, .inl (fun _ => 0))), (h11, .inr (6, [.ref h15, .ref h16, .int 0]))] s.heap := hP
  have hl := lv_entry [.ref h0, .int 1, .int p0] (n := 3) (Nat.le_of_ble_eq_true rfl)
  rw [lg_entry_eq]
  generalize (lg_sl [.ref h0, .int 1, .int p0] ++ List.replicate (3 - (lg_sl [.ref h0, .int 1, .int p0]).length) Slot.unset).toArray = ls at hl ⊢
  have hl : lv_has ls 3 [(0, .ref h0), (1, .int 1), (2, .int p0)] := hl
  refine lv_aload_n hx hb dX5_ofContext_0 rfl (lv_at hl 0 rfl) ?_
  refine lv_iload_n hx hb dX5_ofContext_1 rfl (lv_at hl 1 rfl) ?_
  refine vp_callSi (W.runV (As := [.int 1]) (rest := []) ⟨hx, hb, hml, hown, hts⟩ (k_X5_isOrder_0 l D κ ε h0 h1 h2 h3 h4 h5 h6 h7 h8 (0) (0) (0) (0)) (cwV 1 hts gX5_ofContext_X5_isOrder rfl rfl rfl (by decide +kernel) ⟨(Nat.le_of_ble_eq_true rfl), (Nat.le_of_ble_eq_true rfl)⟩) (pre0_V (q0 := 0) (ci := 7) (wc := [(h0, .inr (7, [.ref h1, .ref h2, .ref h3, .ref h4, .ref h5, .ref h6, .int 0, .int 0, .int 0, .int 0])), (h1, .inr (2, [.int 0, .int 2, .ref h7, .ref h8]))]) hP hK [0, 1] rfl rfl rfl) rfl rfl hl.1 rfl (lv_room (Nat.le_of_ble_eq_true rfl)) dX5_ofContext_2 ⟨(Nat.le_of_ble_eq_true rfl), (Nat.le_of_ble_eq_true rfl)⟩) (fun r hw => ?_)
  rw [hw]
  refine lv_if_eq (tgt := 17) hx hb dX5_ofContext_5 (by decide) (fun h => absurd h (by decide)) (fun _ => ?_)
  refine lv_iload_n hx hb dX5_ofContext_8 rfl (lv_at hl 2 rfl) ?_
  refine lv_if_lt (tgt := 17) hx hb dX5_ofContext_9 (by decide) (fun c1 => ?_) (fun c1 => ?_)
  · skip
    exact vx_throwS (names := ["java/lang/RuntimeException", "java/lang/Exception"]) (sa := ε 22) hx hb hst hown (by decide +kernel) (by decide +kernel) (hts _ wd240_X5_ofContext) (hts _ wd241_X5_ofContext) (hE.2.2.2.2.2.2.1 _ (List.mem_of_getElem? (i := 12) rfl)) (vx_hat (B := [.castable "java/lang/IllegalArgumentException" "java/lang/IllegalArgumentException", .declares (Bundle.initS "java/lang/RuntimeException"), .declares (Bundle.initS "java/lang/Exception"), .declares (Bundle.initS "java/lang/Throwable")]) (fun w hw => hts w (at1_X5_ofContext_82 w hw)) at2_RX5_82 (vx_c (va_Nw.use rfl hE.2.2.2.2.2.2.2.2.2.2.2.2.2.2.1) (vx_c (va_Nw.use rfl hDc.1) (vx_c (va_Nw.use rfl hDc.2.1) (vx_c (va_Nw.use rfl hDc.2.2) vx_n))))) at2_RX5_82g hE.1 hE.2.1 hS (by rw [hml]; exact hl.1) dX5_ofContext_17 dX5_ofContext_20 dX5_ofContext_21 dX5_ofContext_23 dX5_ofContext_26 (fun x hx => (hnx x hx).elim) (by decide) (by decide) (Nat.le_of_ble_eq_true rfl) (Nat.le_of_ble_eq_true rfl) hlocks (fun t _ h1 h2 => ⟨(), trivial, (Or.inl ⟨c1, rfl⟩), thF (H0 := s.heap) hS h1 h2⟩) hS.2.2 (Nat.le_of_ble_eq_true rfl) (Nat.le_of_ble_eq_true rfl)
  · skip
    refine lv_iload_n hx hb dX5_ofContext_12 rfl (lv_at hl 2 rfl) ?_
    refine lv_iconst (v := 1) hx hb dX5_ofContext_13 (by decide) ?_
    refine lv_icmp_le (tgt := 27) hx hb dX5_ofContext_14 (by decide) (fun c2 => ?_) (fun c2 => ?_)
    · skip
      refine lv_aload_n hx hb dX5_ofContext_27 rfl (lv_at hl 0 rfl) ?_
      refine lv_iload_n hx hb dX5_ofContext_28 rfl (lv_at hl 1 rfl) ?_
      refine lv_iload_n hx hb dX5_ofContext_29 rfl (lv_at hl 2 rfl) ?_
      have hF := va_free (wc := [(h0, .inr (7, [.ref h1, .ref h2, .ref h3, .ref h4, .ref h5, .ref h6, .int 0, .int 0, .int 0, .int 0])), (h1, .inr (2, [.int 0, .int 2, .ref h7, .ref h8])), (h2, .inr (3, [.ref h1, .int 0, .int 500, .ref h9, .ref h10, .long 0, .int 0])), (h7, .inl (κ 3, 4, .inr (.inr (.inr (.inr (sel [h11, h12, h13, h14])))))), (h10, .inl (κ 0, 13, .inl (fun _ => 0))), (h11, .inr (6, [.ref h15, .ref h16, .int 0]))]) hD hS hA [0, 1, 2, 3, 4, 5] rfl
      refine va_calli (va_runV (As := [.int 1, .int p0]) (rest := []) ⟨hx, hb, hml, hown, hts⟩ (k_X5_totalBehind_0 l D κ ε h0 h1 h2 h3 h4 h5 h6 h7 h8 h9 h10 h11 h12 h13 h14 h15 h16 s.heap.size (p0) (0) (0) (0) (2) (0) (500)) (cwV 2 hts gX5_ofContext_X5_totalBehind rfl rfl rfl (by decide +kernel) ⟨(Nat.le_of_ble_eq_true rfl), (Nat.le_of_ble_eq_true rfl)⟩) (pre2_V (q0 := 0) (ci := 7) (wc := [(h0, .inr (7, [.ref h1, .ref h2, .ref h3, .ref h4, .ref h5, .ref h6, .int 0, .int 0, .int 0, .int 0])), (h1, .inr (2, [.int 0, .int 2, .ref h7, .ref h8])), (h2, .inr (3, [.ref h1, .int 0, .int 500, .ref h9, .ref h10, .long 0, .int 0])), (h7, .inl (κ 3, 4, .inr (.inr (.inr (.inr (sel [h11, h12, h13, h14])))))), (h10, .inl (κ 0, 13, .inl (fun _ => 0))), (h11, .inr (6, [.ref h15, .ref h16, .int 0]))]) hP hD hK hE9 hS hA [0, 1, 2, 3, 4, 5] (by decide) rfl rfl rfl) rfl rfl hl.1 rfl (lv_room (Nat.le_of_ble_eq_true rfl)) dX5_ofContext_30 ⟨(Nat.le_of_ble_eq_true rfl), (Nat.le_of_ble_eq_true rfl)⟩) hS (fun q _ h => hF q h) hF (fun r u3 t H locs ht hvm hw hB hz1 hk1 hS => ?_)
      try dsimp only at hw hB
      obtain ⟨hP1, hD1⟩ := hB
      rw [ht] at hP1
      obtain ⟨hP, hD⟩ := post_j (ws' := [(h0, .inr (7, [.ref h1, .ref h2, .ref h3, .ref h4, .ref h5, .ref h6, .int 0, .int 0, .int 0, .int 0])), (h1, .inr (2, [.int 0, .int 2, .ref h7, .ref h8])), (h2, .inr (3, [.ref h1, .int 0, .int 500, .ref h9, .ref h10, .long 0, .int 0])), (h7, .inl (κ 3, 4, .inr (.inr (.inr (.inr (sel [h11, h12, h13, h14])))))), (h10, .inl (κ 0, 13, .inl (fun _ => 0))), (h11, .inr (6, [.ref h15, .ref h16, .int 0]))]) (wr := []) (w1 := [(h0, .inr (7, [.ref h1, .ref h2, .ref h3, .ref h4, .ref h5, .ref h6, .int 0, .int 0, .int 0, .int 0])), (h1, .inr (2, [.int 0, .int 2, .ref h7, .ref h8])), (h2, .inr (3, [.ref h1, .int 0, .int 500, .ref h9, .ref h10, .long 0, .int 0])), (h7, .inl (κ 3, 4, .inr (.inr (.inr (.inr (sel [h11, h12, h13, h14])))))), (h10, .inl (κ 0, 13, .inl (fun _ => 0))), (h11, .inr (6, [.ref h15, .ref h16, .int 0]))]) hP hD hF [0, 1, 2, 3, 4, 5] rfl [] rfl (by decide) (by decide) hk1 hP1 hD1 [0, 1, 2, 3, 4, 5] (by decide) rfl
      have hP : va_P D vwCl [(h0, .inr (7, [.ref h1, .ref h2, .ref h3, .ref h4, .ref h5, .ref h6, .int 0, .int 0, .int 0, .int 0])), (h1, .inr (2, [.int 0, .int 2, .ref h7, .ref h8])), (h2, .inr (3, [.ref h1, .int 0, .int 500, .ref h9, .ref h10, .long 0, .int 0])), (h7, .inl (κ 3, 4, .inr (.inr (.inr (.inr (sel [h11, h12, h13, h14])))))), (h10, .inl (κ 0, 13, .inl (fun _ => 0))), (h11, .inr (6, [.ref h15, .ref h16, .int 0]))] H := hP
      have hD : va_D A [(h0, .inr (7, [.ref h1, .ref h2, .ref h3, .ref h4, .ref h5, .ref h6, .int 0, .int 0, .int 0, .int 0])), (h1, .inr (2, [.int 0, .int 2, .ref h7, .ref h8])), (h2, .inr (3, [.ref h1, .int 0, .int 500, .ref h9, .ref h10, .long 0, .int 0])), (h7, .inl (κ 3, 4, .inr (.inr (.inr (.inr (sel [h11, h12, h13, h14])))))), (h10, .inl (κ 0, 13, .inl (fun _ => 0))), (h11, .inr (6, [.ref h15, .ref h16, .int 0]))] := hD
      rcases hw with ⟨c4, rfl⟩ | ⟨c5, rfl⟩
      · skip
        refine W.widen (k := 1) (n := 6) (Nat.le_of_ble_eq_true rfl) (Nat.le_of_ble_eq_true rfl) ?_
        refine vx_ret ?_
        exact W.iret (v := 0) hx hb hr (fun t ht hW => ⟨⟨0, (), rfl, (Or.inl ⟨c1, c2, c4, rfl⟩), trivial⟩, hS.F ht⟩) hS.2.2 dX5_ofContext_33
      · skip
        refine W.widen (k := 1) (n := 6) (Nat.le_of_ble_eq_true rfl) (Nat.le_of_ble_eq_true rfl) ?_
        refine vx_ret ?_
        exact W.iret (v := 0) hx hb hr (fun t ht hW => ⟨⟨0, (), rfl, (Or.inr ⟨c1, c2, c5, rfl⟩), trivial⟩, hS.F ht⟩) hS.2.2 dX5_ofContext_33
    · skip
      exact vx_throwS (names := ["java/lang/RuntimeException", "java/lang/Exception"]) (sa := ε 22) hx hb hst hown (by decide +kernel) (by decide +kernel) (hts _ wd240_X5_ofContext) (hts _ wd241_X5_ofContext) (hE.2.2.2.2.2.2.1 _ (List.mem_of_getElem? (i := 12) rfl)) (vx_hat (B := [.castable "java/lang/IllegalArgumentException" "java/lang/IllegalArgumentException", .declares (Bundle.initS "java/lang/RuntimeException"), .declares (Bundle.initS "java/lang/Exception"), .declares (Bundle.initS "java/lang/Throwable")]) (fun w hw => hts w (at1_X5_ofContext_82 w hw)) at2_RX5_82 (vx_c (va_Nw.use rfl hE.2.2.2.2.2.2.2.2.2.2.2.2.2.2.1) (vx_c (va_Nw.use rfl hDc.1) (vx_c (va_Nw.use rfl hDc.2.1) (vx_c (va_Nw.use rfl hDc.2.2) vx_n))))) at2_RX5_82g hE.1 hE.2.1 hS (by rw [hml]; exact hl.1) dX5_ofContext_17 dX5_ofContext_20 dX5_ofContext_21 dX5_ofContext_23 dX5_ofContext_26 (fun x hx => (hnx x hx).elim) (by decide) (by decide) (Nat.le_of_ble_eq_true rfl) (Nat.le_of_ble_eq_true rfl) hlocks (fun t _ h1 h2 => ⟨(), trivial, (Or.inr ⟨c1, c2, rfl⟩), thF (H0 := s.heap) hS h1 h2⟩) hS.2.2 (Nat.le_of_ble_eq_true rfl) (Nat.le_of_ble_eq_true rfl)

theorem wd242_L_ofContext : (.classLink RL 19 "java/lang/IllegalArgumentException" : Cond) ∈ wsL_ofContext := by decide +kernel

set_option maxHeartbeats 4000000 in
set_option maxRecDepth 100000 in
theorem k_L_ofContext_0 (l : Launch) (hst : l.stackTraces = false) (D : va_G) (κ ε : Nat → Nat) (h0 h1 h2 h3 h4 h5 h6 h7 h8 h9 h10 h11 h12 h13 h14 h15 h16 h17 : Nat) (sz : Nat) (p0 : Int32) : Met l yL_ofContext wsL_ofContext ({ frames := 7, cells := 1, slots := 6, locals := 142 }) (va_Pc [.ref h0, .int 1, .int p0, .ref h1] (Pre2 D κ ε [(h0, .inr (7, [.ref h2, .ref h3, .ref h4, .ref h5, .ref h6, .ref h7, .int 0, .int 0, .int 0, .int 0])), (h1, .inl (κ 2, 1, .inr (.inl (fun _ => 0)))), (h2, .inr (2, [.int 0, .int 2, .ref h8, .ref h9])), (h3, .inr (3, [.ref h2, .int 0, .int 500, .ref h10, .ref h11, .long 0, .int 0])), (h8, .inl (κ 3, 4, .inr (.inr (.inr (.inr (sel [h12, h13, h14, h15])))))), (h11, .inl (κ 0, 13, .inl (fun _ => 0))), (h12, .inr (6, [.ref h16, .ref h17, .int 0]))] sz)) (va_Qi (fun r (u : Nat → Int64) => ((p0 < 0) ∧ (r = 1)) ∨ ((¬ p0 < 0) ∧ (¬ p0 ≤ 1) ∧ (r = 1)) ∨ ((¬ p0 < 0) ∧ (p0 ≤ 1) ∧ (¬ p0 = 0) ∧ (u 0 = 0) ∧ (r = 0)) ∨ ((¬ p0 < 0) ∧ (p0 ≤ 1) ∧ (p0 = 0) ∧ (u 0 = 0) ∧ (r = 0))) (fun u t => va_P D vwCl [(h1, .inl (κ 2, 1, .inr (.inl u)))] t.heap ∧ va_D (va_A [(h0, .inr (7, [.ref h2, .ref h3, .ref h4, .ref h5, .ref h6, .ref h7, .int 0, .int 0, .int 0, .int 0])), (h1, .inl (κ 2, 1, .inr (.inl (fun _ => 0)))), (h2, .inr (2, [.int 0, .int 2, .ref h8, .ref h9])), (h3, .inr (3, [.ref h2, .int 0, .int 500, .ref h10, .ref h11, .long 0, .int 0])), (h8, .inl (κ 3, 4, .inr (.inr (.inr (.inr (sel [h12, h13, h14, h15])))))), (h11, .inl (κ 0, 13, .inl (fun _ => 0))), (h12, .inr (6, [.ref h16, .ref h17, .int 0]))] sz) [(h1, .inl (κ 2, 1, .inr (.inl u)))]) (va_A [(h0, .inr (7, [.ref h2, .ref h3, .ref h4, .ref h5, .ref h6, .ref h7, .int 0, .int 0, .int 0, .int 0])), (h1, .inl (κ 2, 1, .inr (.inl (fun _ => 0)))), (h2, .inr (2, [.int 0, .int 2, .ref h8, .ref h9])), (h3, .inr (3, [.ref h2, .int 0, .int 500, .ref h10, .ref h11, .long 0, .int 0])), (h8, .inl (κ 3, 4, .inr (.inr (.inr (.inr (sel [h12, h13, h14, h15])))))), (h11, .inl (κ 0, 13, .inl (fun _ => 0))), (h12, .inr (6, [.ref h16, .ref h17, .int 0]))] sz)) 1 6 (va_A [(h0, .inr (7, [.ref h2, .ref h3, .ref h4, .ref h5, .ref h6, .ref h7, .int 0, .int 0, .int 0, .int 0])), (h1, .inl (κ 2, 1, .inr (.inl (fun _ => 0)))), (h2, .inr (2, [.int 0, .int 2, .ref h8, .ref h9])), (h3, .inr (3, [.ref h2, .int 0, .int 500, .ref h10, .ref h11, .long 0, .int 0])), (h8, .inl (κ 3, 4, .inr (.inr (.inr (.inr (sel [h12, h13, h14, h15])))))), (h11, .inl (κ 0, 13, .inl (fun _ => 0))), (h12, .inr (6, [.ref h16, .ref h17, .int 0]))] sz) := by
  refine va_MetW (cc := cL_ofContext) (maxL := 5) (ret := (some .int)) (hh := [(0, 10, 13, 19)]) (by decide) rfl ?_
  intro p e s m args below meth c s₁ B hml hv
  obtain ⟨rfl, hsz, hP, hK, hD0, hE9⟩ := hv
  have hx := B.exec
  have hb := B.bytes
  have hr := B.returns
  have hts := atoms_spec (ws := wsL_ofContext) B.pre
  have hown : s.vm.findClass RL = some m.cls := findClass_of_methodNamed B.named
  have hlocks := B.notSynchronized
  have htab : c.exceptionTable.toList = tableOf [(0, 10, 13, 19)] := vx_table (x := yL_ofContext) B (hts (.codeWith yL_ofContext cL_ofContext 5 (some .int) [(0, 10, 13, 19)]) List.mem_cons_self)
  subst hsz
  have hD := hD0.self (sz := s.heap.size)
  generalize hAe : va_A [(h0, .inr (7, [.ref h2, .ref h3, .ref h4, .ref h5, .ref h6, .ref h7, .int 0, .int 0, .int 0, .int 0])), (h1, .inl (κ 2, 1, .inr (.inl (fun _ => 0)))), (h2, .inr (2, [.int 0, .int 2, .ref h8, .ref h9])), (h3, .inr (3, [.ref h2, .int 0, .int 500, .ref h10, .ref h11, .long 0, .int 0])), (h8, .inl (κ 3, 4, .inr (.inr (.inr (.inr (sel [h12, h13, h14, h15])))))), (h11, .inl (κ 0, 13, .inl (fun _ => 0))), (h12, .inr (6, [.ref h16, .ref h17, .int 0]))] s.heap.size = A at hD hE9 ⊢
  have hE := hE9.1
  have hDc := hE9.2
  have hA : ∀ q : Nat, s.heap.size ≤ q → A q := fun q h => by rw [← hAe]; exact Or.inr h
  have hS : va_S A s.heap s.heap [] := va_S.rf
  have hP : va_P D vwCl [(h0, .inr (7, [.ref h2, .ref h3, .ref h4, .ref h5, .ref h6, .ref h7, .int 0, .int 0, .int 0, .int 0])), (h1, .inl (κ 2, 1, .inr (.inl (fun _ => 0)))), (h2, .inr (2, [.int 0, .int 2, .ref h8, .ref h9])), (h3, .inr (3, [.ref h2, .int 0, .int 500, .ref h10, .ref h11, .long 0, .int 0])), (h8, .inl (κ 3, 4, .inr (.inr (.inr (.inr (sel [h12, h13, h14, h15])))))), (h11, .inl (κ 0, 13, .inl (fun _ => 0))), (h12, .inr (6, [.ref h16, .ref h17, .int 0]))] s.heap := hP
  have hl := lv_entry [.ref h0, .int 1, .int p0, .ref h1] (n := 5) (Nat.le_of_ble_eq_true rfl)
  rw [lg_entry_eq]
  generalize (lg_sl [.ref h0, .int 1, .int p0, .ref h1] ++ List.replicate (5 - (lg_sl [.ref h0, .int 1, .int p0, .ref h1]).length) Slot.unset).toArray = ls at hl ⊢
  have hl : lv_has ls 5 [(0, .ref h0), (1, .int 1), (2, .int p0), (3, .ref h1)] := hl
  refine lv_aload_n hx hb dL_ofContext_0 rfl (lv_at hl 3 rfl) ?_
  refine lv_iconst (v := 0) hx hb dL_ofContext_1 (by decide) ?_
  refine lv_aload_n hx hb dL_ofContext_2 rfl (lv_at hl 0 rfl) ?_
  refine lv_iload_n hx hb dL_ofContext_3 rfl (lv_at hl 1 rfl) ?_
  refine lv_iload_n hx hb dL_ofContext_4 rfl (lv_at hl 2 rfl) ?_
  have hF := va_free (wc := [(h0, .inr (7, [.ref h2, .ref h3, .ref h4, .ref h5, .ref h6, .ref h7, .int 0, .int 0, .int 0, .int 0])), (h2, .inr (2, [.int 0, .int 2, .ref h8, .ref h9])), (h3, .inr (3, [.ref h2, .int 0, .int 500, .ref h10, .ref h11, .long 0, .int 0])), (h8, .inl (κ 3, 4, .inr (.inr (.inr (.inr (sel [h12, h13, h14, h15])))))), (h11, .inl (κ 0, 13, .inl (fun _ => 0))), (h12, .inr (6, [.ref h16, .ref h17, .int 0]))]) hD hS hA [0, 2, 3, 4, 5, 6] rfl
  refine vx_calli (vx_runV (As := [.int 1, .int p0]) (rest := [.int 0, .ref h1]) ⟨hx, hb, hml, hown, hts⟩ (k_X5_ofContext_0 l hst D κ ε h0 h2 h3 h4 h5 h6 h7 h8 h9 h10 h11 h12 h13 h14 h15 h16 h17 s.heap.size (p0)) (cwV 2 hts gL_ofContext_X5_ofContext rfl rfl rfl (by decide +kernel) ⟨(Nat.le_of_ble_eq_true rfl), (Nat.le_of_ble_eq_true rfl)⟩) (pre2_V (q0 := 0) (ci := 7) (wc := [(h0, .inr (7, [.ref h2, .ref h3, .ref h4, .ref h5, .ref h6, .ref h7, .int 0, .int 0, .int 0, .int 0])), (h2, .inr (2, [.int 0, .int 2, .ref h8, .ref h9])), (h3, .inr (3, [.ref h2, .int 0, .int 500, .ref h10, .ref h11, .long 0, .int 0])), (h8, .inl (κ 3, 4, .inr (.inr (.inr (.inr (sel [h12, h13, h14, h15])))))), (h11, .inl (κ 0, 13, .inl (fun _ => 0))), (h12, .inr (6, [.ref h16, .ref h17, .int 0]))]) hP hD hK hE9 hS hA [0, 2, 3, 4, 5, 6] (by decide) rfl rfl rfl) rfl rfl hl.1 rfl (lv_room (Nat.le_of_ble_eq_true rfl)) dL_ofContext_5 ⟨(Nat.le_of_ble_eq_true rfl), (Nat.le_of_ble_eq_true rfl)⟩) hS (fun q _ h => hF q h) hF (fun q _ h => hF q h) (fun E9 ce q9 u t H locs ht hvm hw hB hz1 hk1 hS hce hcv hcl => ?_) (fun r u t H locs ht hvm hw hB hz1 hk1 hS => ?_)
  · try dsimp only at hB
    have hP1 : va_P D vwCl [] H := P_nil
    obtain ⟨hP, hD⟩ := post_j (ws' := [(h1, .inl (κ 2, 1, .inr (.inl (fun _ => 0))))]) (wr := [(h1, .inl (κ 2, 1, .inr (.inl (fun _ => 0))))]) (w1 := []) hP hD hF [0, 2, 3, 4, 5, 6] rfl [1] rfl (by decide) (by decide) hk1 hP1 D_nil [0] (by decide) rfl
    have hP : va_P D vwCl [(h1, .inl (κ 2, 1, .inr (.inl (fun _ => 0))))] H := hP
    have hD : va_D A [(h1, .inl (κ 2, 1, .inr (.inl (fun _ => 0))))] := hD
    rcases hB with ⟨c2, rfl⟩ | ⟨c3, c4, rfl⟩
    · skip
      refine vx_catch (name := "java/lang/IllegalArgumentException") hown [] ⟨0, 10, 13, 19⟩ [] (htab.trans rfl) (fun z hz => nomatch hz) (by decide) (by decide) (hts _ wd242_L_ofContext) (va_Nw.use rfl hE.2.2.2.2.2.2.2.2.2.2.2.2.2.2.1) hce hcv hcl ?_
      refine lv_astore (lv' := [(4, .ref q9), (0, .ref h0), (1, .int 1), (2, .int p0), (3, .ref h1)]) hx hb dL_ofContext_13 hl (by decide) rfl (fun ls hl => ?_)
      refine lv_iconst (v := 1) hx hb dL_ofContext_15 (by decide) ?_
      have hP9 := hP.sub (ws' := [(h1, .inl (κ 2, 1, .inr (.inl (fun _ => 0))))]) [0] rfl
      have hD9 := hD.sub (ws' := [(h1, .inl (κ 2, 1, .inr (.inl (fun _ => 0))))]) [0] (by decide) rfl
      refine W.widen (k := 1) (n := 6) (Nat.le_of_ble_eq_true rfl) (Nat.le_of_ble_eq_true rfl) ?_
      exact W.iret (v := 1) hx hb hr (fun t ht hW => ⟨⟨1, (fun _ => 0), rfl, (Or.inl ⟨c2, rfl⟩), by rw [ht]; exact hP9, hD9⟩, hS.F ht⟩) hS.2.2 dL_ofContext_16
    · skip
      refine vx_catch (name := "java/lang/IllegalArgumentException") hown [] ⟨0, 10, 13, 19⟩ [] (htab.trans rfl) (fun z hz => nomatch hz) (by decide) (by decide) (hts _ wd242_L_ofContext) (va_Nw.use rfl hE.2.2.2.2.2.2.2.2.2.2.2.2.2.2.1) hce hcv hcl ?_
      refine lv_astore (lv' := [(4, .ref q9), (0, .ref h0), (1, .int 1), (2, .int p0), (3, .ref h1)]) hx hb dL_ofContext_13 hl (by decide) rfl (fun ls hl => ?_)
      refine lv_iconst (v := 1) hx hb dL_ofContext_15 (by decide) ?_
      have hP9 := hP.sub (ws' := [(h1, .inl (κ 2, 1, .inr (.inl (fun _ => 0))))]) [0] rfl
      have hD9 := hD.sub (ws' := [(h1, .inl (κ 2, 1, .inr (.inl (fun _ => 0))))]) [0] (by decide) rfl
      refine W.widen (k := 1) (n := 6) (Nat.le_of_ble_eq_true rfl) (Nat.le_of_ble_eq_true rfl) ?_
      exact W.iret (v := 1) hx hb hr (fun t ht hW => ⟨⟨1, (fun _ => 0), rfl, (Or.inr (Or.inl ⟨c3, c4, rfl⟩)), by rw [ht]; exact hP9, hD9⟩, hS.F ht⟩) hS.2.2 dL_ofContext_16
  · try dsimp only at hw hB
    have hP1 : va_P D vwCl [] H := P_nil
    obtain ⟨hP, hD⟩ := post_j (ws' := [(h1, .inl (κ 2, 1, .inr (.inl (fun _ => 0))))]) (wr := [(h1, .inl (κ 2, 1, .inr (.inl (fun _ => 0))))]) (w1 := []) hP hD hF [0, 2, 3, 4, 5, 6] rfl [1] rfl (by decide) (by decide) hk1 hP1 D_nil [0] (by decide) rfl
    have hP : va_P D vwCl [(h1, .inl (κ 2, 1, .inr (.inl (fun _ => 0))))] H := hP
    have hD : va_D A [(h1, .inl (κ 2, 1, .inr (.inl (fun _ => 0))))] := hD
    rcases hw with ⟨c5, c6, c7, rfl⟩ | ⟨c8, c9, c10, rfl⟩
    · skip
      refine lv_i2l (v := 0) hx hb dL_ofContext_8 (by decide) ?_
      refine va_last (cA := κ 2) (n := 1) (f := (fun _ => 0)) hx hb hK hP hD hS 0 2 rfl rfl (vpl (by decide)) dL_ofContext_9 (fun H locs hP hD hS => ?_)
      have hP : va_P D vwCl [(h1, .inl (κ 2, 1, .inr (.inl (vp_updL (fun _ => 0) 0 0))))] H := hP
      have hD : va_D A [(h1, .inl (κ 2, 1, .inr (.inl (vp_updL (fun _ => 0) 0 0))))] := hD
      refine lv_goto (tgt := 17) hx hb dL_ofContext_10 (by decide) ?_
      refine lv_iconst (v := 0) hx hb dL_ofContext_17 (by decide) ?_
      have hP9 := hP.sub (ws' := [(h1, .inl (κ 2, 1, .inr (.inl (vp_updL (fun _ => 0) 0 0))))]) [0] rfl
      have hD9 := hD.sub (ws' := [(h1, .inl (κ 2, 1, .inr (.inl (vp_updL (fun _ => 0) 0 0))))]) [0] (by decide) rfl
      refine W.widen (k := 1) (n := 6) (Nat.le_of_ble_eq_true rfl) (Nat.le_of_ble_eq_true rfl) ?_
      exact W.iret (v := 0) hx hb hr (fun t ht hW => ⟨⟨0, (vp_updL (fun _ => 0) 0 0), rfl, (Or.inr (Or.inr (Or.inl ⟨c5, c6, c7, rfl, rfl⟩))), by rw [ht]; exact hP9, hD9⟩, hS.F ht⟩) hS.2.2 dL_ofContext_18
    · skip
      refine lv_i2l (v := 0) hx hb dL_ofContext_8 (by decide) ?_
      refine va_last (cA := κ 2) (n := 1) (f := (fun _ => 0)) hx hb hK hP hD hS 0 2 rfl rfl (vpl (by decide)) dL_ofContext_9 (fun H locs hP hD hS => ?_)
      have hP : va_P D vwCl [(h1, .inl (κ 2, 1, .inr (.inl (vp_updL (fun _ => 0) 0 0))))] H := hP
      have hD : va_D A [(h1, .inl (κ 2, 1, .inr (.inl (vp_updL (fun _ => 0) 0 0))))] := hD
      refine lv_goto (tgt := 17) hx hb dL_ofContext_10 (by decide) ?_
      refine lv_iconst (v := 0) hx hb dL_ofContext_17 (by decide) ?_
      have hP9 := hP.sub (ws' := [(h1, .inl (κ 2, 1, .inr (.inl (vp_updL (fun _ => 0) 0 0))))]) [0] rfl
      have hD9 := hD.sub (ws' := [(h1, .inl (κ 2, 1, .inr (.inl (vp_updL (fun _ => 0) 0 0))))]) [0] (by decide) rfl
      refine W.widen (k := 1) (n := 6) (Nat.le_of_ble_eq_true rfl) (Nat.le_of_ble_eq_true rfl) ?_
      exact W.iret (v := 0) hx hb hr (fun t ht hW => ⟨⟨0, (vp_updL (fun _ => 0) 0 0), rfl, (Or.inr (Or.inr (Or.inr ⟨c8, c9, c10, rfl, rfl⟩))), by rw [ht]; exact hP9, hD9⟩, hS.F ht⟩) hS.2.2 dL_ofContext_18

set_option maxHeartbeats 4000000 in
set_option maxRecDepth 100000 in
theorem k_X6_isIn_12 (l : Launch) (D : va_G) (κ ε : Nat → Nat) (p0 : Int32) (hf0 : p0 < 0) : Met l yX6_isIn wsX6_isIn ({ frames := 0, cells := 0, slots := 0, locals := 0 }) (va_Pc [.int p0, .int 0, .int 1] (Pre0 D κ [])) (vp_Si (fun r => (r = 0))) 0 0 (fun _ => False) := by
  refine Met.ofW (cc := cX6_isIn) (maxL := 3) (ret := (some .boolean)) (by decide) rfl ?_
  intro p e s m args below meth c s₁ B hml hv
  obtain ⟨rfl, hP, hK⟩ := hv
  have hx := B.exec
  have hb := B.bytes
  have hr := B.returns
  have hts := atoms_spec (ws := wsX6_isIn) B.pre
  have hown : s.vm.findClass RX6 = some m.cls := findClass_of_methodNamed B.named
  have hlocks := B.notSynchronized
  have hP : va_P D vwCl [] s.heap := hP
  have hl := lv_entry [.int p0, .int 0, .int 1] (n := 3) (Nat.le_of_ble_eq_true rfl)
  rw [lg_entry_eq]
  generalize (lg_sl [.int p0, .int 0, .int 1] ++ List.replicate (3 - (lg_sl [.int p0, .int 0, .int 1]).length) Slot.unset).toArray = ls at hl ⊢
  have hl : lv_has ls 3 [(0, .int p0), (1, .int 0), (2, .int 1)] := hl
  refine lv_iload_n hx hb dX6_isIn_0 rfl (lv_at hl 0 rfl) ?_
  refine lv_iload_n hx hb dX6_isIn_1 rfl (lv_at hl 1 rfl) ?_
  refine lv_icmp_lt (tgt := 14) hx hb dX6_isIn_2 (by decide) (fun _ => ?_) (fun h => absurd hf0 h)
  refine lv_iconst (v := 0) hx hb dX6_isIn_14 (by decide) ?_
  exact W.zret (v := 0) hx hb hr rfl (fun t ht hW => ⟨0, rfl, rfl, ht⟩) (fun q hq => absurd hq List.not_mem_nil) dX6_isIn_15

theorem wi_X6_ofContext_RX6 : ∀ w ∈ u_ws RX6 TX6 11, w ∈ wsX6_ofContext := by decide +kernel

theorem wd243_X6_ofContext : (.fieldLink RX6 7 "CanticleModel" "order" "I" : Cond) ∈ wsX6_ofContext := by decide +kernel

set_option maxHeartbeats 4000000 in
set_option maxRecDepth 100000 in
theorem k_X6_ofContext_0 (l : Launch) (D : va_G) (κ ε : Nat → Nat) (h0 h1 h2 h3 : Nat) (sz : Nat) (p0 : Int32) (hf0 : p0 < 0) : Met l yX6_ofContext wsX6_ofContext ({ frames := 2, cells := 0, slots := 0, locals := 44 }) (va_Pc [.ref h0, .int 1, .int p0] (Pre2 D κ ε [(h0, .inr (8, [.int 0, .int 0, .int 2, .ref h1, .ref h2, .int 0, .int 500, .int 0, .int 0, .int 0, .ref h3]))] sz)) (va_Qi (fun r (u : List Value) => (u[0]? = some (.int 1)) ∧ (r = 0)) (fun u t => va_P D vwCl [(h0, .inr (8, u))] t.heap ∧ va_D (va_A [(h0, .inr (8, [.int 0, .int 0, .int 2, .ref h1, .ref h2, .int 0, .int 500, .int 0, .int 0, .int 0, .ref h3]))] sz) [(h0, .inr (8, u))]) (va_A [(h0, .inr (8, [.int 0, .int 0, .int 2, .ref h1, .ref h2, .int 0, .int 500, .int 0, .int 0, .int 0, .ref h3]))] sz)) 0 0 (va_A [(h0, .inr (8, [.int 0, .int 0, .int 2, .ref h1, .ref h2, .int 0, .int 500, .int 0, .int 0, .int 0, .ref h3]))] sz) := by
  refine Met.ofW (cc := cX6_ofContext) (maxL := 3) (ret := (some .int)) (by decide) rfl ?_
  intro p e s m args below meth c s₁ B hml hv
  obtain ⟨rfl, hsz, hP, hK, hD0, hE9⟩ := hv
  have hx := B.exec
  have hb := B.bytes
  have hr := B.returns
  have hts := atoms_spec (ws := wsX6_ofContext) B.pre
  have hown : s.vm.findClass RX6 = some m.cls := findClass_of_methodNamed B.named
  have hlocks := B.notSynchronized
  subst hsz
  have hD := hD0.self (sz := s.heap.size)
  generalize hAe : va_A [(h0, .inr (8, [.int 0, .int 0, .int 2, .ref h1, .ref h2, .int 0, .int 500, .int 0, .int 0, .int 0, .ref h3]))] s.heap.size = A at hD hE9 ⊢
  have hE := hE9.1
  have hDc := hE9.2
  have hA : ∀ q : Nat, s.heap.size ≤ q → A q := fun q h => by rw [← hAe]; exact Or.inr h
  have hS : va_S A s.heap s.heap [] := va_S.rf
  have hP : va_P D vwCl [(h0, .inr (8, [.int 0, .int 0, .int 2, .ref h1, .ref h2, .int 0, .int 500, .int 0, .int 0, .int 0, .ref h3]))] s.heap := hP
  have hl := lv_entry [.ref h0, .int 1, .int p0] (n := 3) (Nat.le_of_ble_eq_true rfl)
  rw [lg_entry_eq]
  generalize (lg_sl [.ref h0, .int 1, .int p0] ++ List.replicate (3 - (lg_sl [.ref h0, .int 1, .int p0]).length) Slot.unset).toArray = ls at hl ⊢
  have hl : lv_has ls 3 [(0, .ref h0), (1, .int 1), (2, .int p0)] := hl
  refine lv_aload_n hx hb dX6_ofContext_0 rfl (lv_at hl 0 rfl) ?_
  refine lv_iload_n hx hb dX6_ofContext_1 rfl (lv_at hl 1 rfl) ?_
  refine lv_iconst (v := 1) hx hb dX6_ofContext_2 (by decide) ?_
  refine lv_aload_n hx hb dX6_ofContext_3 rfl (lv_at hl 0 rfl) ?_
  refine va_get (D := D) (ci := 8) (v := .int 2) (C := RX6) (T := TX6) (N := 11) hx hb hts wi_X6_ofContext_RX6 hown hK hP 0 rfl rfl 2 (by decide) (hts _ wd243_X6_ofContext) (fun _ h9 => h9) rfl dX6_ofContext_4 ?_
  refine vp_callSi (W.runS (As := [.int 1, .int 1, .int 2]) (rest := [.ref h0]) ⟨hx, hb, hml, hown, hts⟩ (k_X6_isIn_8 l D κ ε) (va_cwS 3 hts gX6_ofContext_X6_isIn rfl rfl rfl (by decide +kernel) ⟨(Nat.le_of_ble_eq_true rfl), (Nat.le_of_ble_eq_true rfl)⟩) (pre0_S (wc := []) hP hK [] rfl) rfl rfl hl.1 rfl (lv_room (Nat.le_of_ble_eq_true rfl)) dX6_ofContext_7 ⟨(Nat.le_of_ble_eq_true rfl), (Nat.le_of_ble_eq_true rfl)⟩) (fun r hw => ?_)
  rw [hw]
  refine lv_if_eq (tgt := 22) hx hb dX6_ofContext_10 (by decide) (fun h => absurd h (by decide)) (fun _ => ?_)
  refine lv_iload_n hx hb dX6_ofContext_13 rfl (lv_at hl 2 rfl) ?_
  refine lv_iconst (v := 0) hx hb dX6_ofContext_14 (by decide) ?_
  refine lv_iconst (v := 1) hx hb dX6_ofContext_15 (by decide) ?_
  refine vp_callSi (W.runS (As := [.int p0, .int 0, .int 1]) (rest := [.ref h0]) ⟨hx, hb, hml, hown, hts⟩ (k_X6_isIn_12 l D κ ε (p0) hf0) (va_cwS 3 hts gX6_ofContext_X6_isIn rfl rfl rfl (by decide +kernel) ⟨(Nat.le_of_ble_eq_true rfl), (Nat.le_of_ble_eq_true rfl)⟩) (pre0_S (wc := []) hP hK [] rfl) rfl rfl hl.1 rfl (lv_room (Nat.le_of_ble_eq_true rfl)) dX6_ofContext_16 ⟨(Nat.le_of_ble_eq_true rfl), (Nat.le_of_ble_eq_true rfl)⟩) (fun r hw => ?_)
  rw [hw]
  refine lv_if_ne (tgt := 26) hx hb dX6_ofContext_19 (by decide) (fun h => absurd (by decide) h) (fun _ => ?_)
  refine lv_iconst (v := 1) hx hb dX6_ofContext_22 (by decide) ?_
  refine lv_goto (tgt := 27) hx hb dX6_ofContext_23 (by decide) ?_
  refine lv_iconst (v := 1) hx hb dX6_ofContext_27 (by decide) ?_
  have hF := va_free (wc := [(h0, .inr (8, [.int 0, .int 0, .int 2, .ref h1, .ref h2, .int 0, .int 500, .int 0, .int 0, .int 0, .ref h3]))]) hD hS hA [0] rfl
  refine va_calli (va_runV (As := [.int 1, .int 1]) (rest := []) ⟨hx, hb, hml, hown, hts⟩ (k_X6_start_1 l D κ ε h0 h1 h2 h3 s.heap.size (0) (2) (0) (500) (0) (0)) (cwV 2 hts gX6_ofContext_X6_start rfl rfl rfl (by decide +kernel) ⟨(Nat.le_of_ble_eq_true rfl), (Nat.le_of_ble_eq_true rfl)⟩) (pre2_V (q0 := 0) (ci := 8) (wc := [(h0, .inr (8, [.int 0, .int 0, .int 2, .ref h1, .ref h2, .int 0, .int 500, .int 0, .int 0, .int 0, .ref h3]))]) hP hD hK hE9 hS hA [0] (by decide) rfl rfl rfl) rfl rfl hl.1 rfl (lv_room (Nat.le_of_ble_eq_true rfl)) dX6_ofContext_28 ⟨(Nat.le_of_ble_eq_true rfl), (Nat.le_of_ble_eq_true rfl)⟩) hS (fun q _ h => hF q h) hF (fun r u1 t H locs ht hvm hw hB hz1 hk1 hS => ?_)
  try dsimp only at hw hB
  obtain ⟨hP1, hD1⟩ := hB
  rw [ht] at hP1
  obtain ⟨hP, hD⟩ := post_j (ws' := [(h0, .inr (8, [.int 1, .int 0, .int 2, .ref h1, .ref h2, .int 0, .int 500, .int 0, .int 0, .int 0, .ref h3]))]) (wr := []) (w1 := [(h0, .inr (8, [.int 1, .int 0, .int 2, .ref h1, .ref h2, .int 0, .int 500, .int 0, .int 0, .int 0, .ref h3]))]) hP hD hF [0] rfl [] rfl (by decide) (by decide) hk1 hP1 hD1 [0] (by decide) rfl
  have hP : va_P D vwCl [(h0, .inr (8, [.int 1, .int 0, .int 2, .ref h1, .ref h2, .int 0, .int 500, .int 0, .int 0, .int 0, .ref h3]))] H := hP
  have hD : va_D A [(h0, .inr (8, [.int 1, .int 0, .int 2, .ref h1, .ref h2, .int 0, .int 500, .int 0, .int 0, .int 0, .ref h3]))] := hD
  rw [hw]
  refine lv_if_eq (tgt := 38) hx hb dX6_ofContext_31 (by decide) (fun h => absurd h (by decide)) (fun _ => ?_)
  refine lv_iconst (v := 0) hx hb dX6_ofContext_34 (by decide) ?_
  refine lv_goto (tgt := 44) hx hb dX6_ofContext_35 (by decide) ?_
  have hP9 := hP.sub (ws' := [(h0, .inr (8, [.int 1, .int 0, .int 2, .ref h1, .ref h2, .int 0, .int 500, .int 0, .int 0, .int 0, .ref h3]))]) [0] rfl
  have hD9 := hD.sub (ws' := [(h0, .inr (8, [.int 1, .int 0, .int 2, .ref h1, .ref h2, .int 0, .int 500, .int 0, .int 0, .int 0, .ref h3]))]) [0] (by decide) rfl
  exact W.iret (v := 0) hx hb hr (fun t ht hW => ⟨⟨0, [.int 1, .int 0, .int 2, .ref h1, .ref h2, .int 0, .int 500, .int 0, .int 0, .int 0, .ref h3], rfl, ⟨rfl, rfl⟩, by rw [ht]; exact hP9, hD9⟩, hS.F ht⟩) hS.2.2 dX6_ofContext_44

theorem iv7 (x : Int32) (h0 : ¬ x ≤ 1) : 1 < x := by
  have e0 : (1 : Int32).toInt = 1 := by decide
  simp only [Int32.lt_iff_toInt_lt, Int32.le_iff_toInt_le, ← Int32.toInt_inj, e0] at *
  omega

set_option maxHeartbeats 4000000 in
set_option maxRecDepth 100000 in
theorem k_X6_isIn_13 (l : Launch) (D : va_G) (κ ε : Nat → Nat) (p0 : Int32) (hf0 : ¬ p0 < 0) (hf1 : ¬ p0 ≤ 1) : Met l yX6_isIn wsX6_isIn ({ frames := 0, cells := 0, slots := 0, locals := 0 }) (va_Pc [.int p0, .int 0, .int 1] (Pre0 D κ [])) (vp_Si (fun r => (r = 0))) 0 0 (fun _ => False) := by
  refine Met.ofW (cc := cX6_isIn) (maxL := 3) (ret := (some .boolean)) (by decide) rfl ?_
  intro p e s m args below meth c s₁ B hml hv
  obtain ⟨rfl, hP, hK⟩ := hv
  have hx := B.exec
  have hb := B.bytes
  have hr := B.returns
  have hts := atoms_spec (ws := wsX6_isIn) B.pre
  have hown : s.vm.findClass RX6 = some m.cls := findClass_of_methodNamed B.named
  have hlocks := B.notSynchronized
  have hP : va_P D vwCl [] s.heap := hP
  have hl := lv_entry [.int p0, .int 0, .int 1] (n := 3) (Nat.le_of_ble_eq_true rfl)
  rw [lg_entry_eq]
  generalize (lg_sl [.int p0, .int 0, .int 1] ++ List.replicate (3 - (lg_sl [.int p0, .int 0, .int 1]).length) Slot.unset).toArray = ls at hl ⊢
  have hl : lv_has ls 3 [(0, .int p0), (1, .int 0), (2, .int 1)] := hl
  refine lv_iload_n hx hb dX6_isIn_0 rfl (lv_at hl 0 rfl) ?_
  refine lv_iload_n hx hb dX6_isIn_1 rfl (lv_at hl 1 rfl) ?_
  refine lv_icmp_lt (tgt := 14) hx hb dX6_isIn_2 (by decide) (fun h => absurd h hf0) (fun _ => ?_)
  refine lv_iload_n hx hb dX6_isIn_5 rfl (lv_at hl 0 rfl) ?_
  refine lv_iload_n hx hb dX6_isIn_6 rfl (lv_at hl 2 rfl) ?_
  refine lv_icmp_gt (tgt := 14) hx hb dX6_isIn_7 (by decide) (fun _ => ?_) (fun h => absurd (iv7 _ hf1) h)
  refine lv_iconst (v := 0) hx hb dX6_isIn_14 (by decide) ?_
  exact W.zret (v := 0) hx hb hr rfl (fun t ht hW => ⟨0, rfl, rfl, ht⟩) (fun q hq => absurd hq List.not_mem_nil) dX6_isIn_15

set_option maxHeartbeats 4000000 in
set_option maxRecDepth 100000 in
theorem k_X6_ofContext_1 (l : Launch) (D : va_G) (κ ε : Nat → Nat) (h0 h1 h2 h3 : Nat) (sz : Nat) (p0 : Int32) (hf0 : ¬ p0 < 0) (hf1 : ¬ p0 ≤ 1) : Met l yX6_ofContext wsX6_ofContext ({ frames := 2, cells := 0, slots := 0, locals := 44 }) (va_Pc [.ref h0, .int 1, .int p0] (Pre2 D κ ε [(h0, .inr (8, [.int 0, .int 0, .int 2, .ref h1, .ref h2, .int 0, .int 500, .int 0, .int 0, .int 0, .ref h3]))] sz)) (va_Qi (fun r (u : List Value) => (u[0]? = some (.int 1)) ∧ (r = 0)) (fun u t => va_P D vwCl [(h0, .inr (8, u))] t.heap ∧ va_D (va_A [(h0, .inr (8, [.int 0, .int 0, .int 2, .ref h1, .ref h2, .int 0, .int 500, .int 0, .int 0, .int 0, .ref h3]))] sz) [(h0, .inr (8, u))]) (va_A [(h0, .inr (8, [.int 0, .int 0, .int 2, .ref h1, .ref h2, .int 0, .int 500, .int 0, .int 0, .int 0, .ref h3]))] sz)) 0 0 (va_A [(h0, .inr (8, [.int 0, .int 0, .int 2, .ref h1, .ref h2, .int 0, .int 500, .int 0, .int 0, .int 0, .ref h3]))] sz) := by
  refine Met.ofW (cc := cX6_ofContext) (maxL := 3) (ret := (some .int)) (by decide) rfl ?_
  intro p e s m args below meth c s₁ B hml hv
  obtain ⟨rfl, hsz, hP, hK, hD0, hE9⟩ := hv
  have hx := B.exec
  have hb := B.bytes
  have hr := B.returns
  have hts := atoms_spec (ws := wsX6_ofContext) B.pre
  have hown : s.vm.findClass RX6 = some m.cls := findClass_of_methodNamed B.named
  have hlocks := B.notSynchronized
  subst hsz
  have hD := hD0.self (sz := s.heap.size)
  generalize hAe : va_A [(h0, .inr (8, [.int 0, .int 0, .int 2, .ref h1, .ref h2, .int 0, .int 500, .int 0, .int 0, .int 0, .ref h3]))] s.heap.size = A at hD hE9 ⊢
  have hE := hE9.1
  have hDc := hE9.2
  have hA : ∀ q : Nat, s.heap.size ≤ q → A q := fun q h => by rw [← hAe]; exact Or.inr h
  have hS : va_S A s.heap s.heap [] := va_S.rf
  have hP : va_P D vwCl [(h0, .inr (8, [.int 0, .int 0, .int 2, .ref h1, .ref h2, .int 0, .int 500, .int 0, .int 0, .int 0, .ref h3]))] s.heap := hP
  have hl := lv_entry [.ref h0, .int 1, .int p0] (n := 3) (Nat.le_of_ble_eq_true rfl)
  rw [lg_entry_eq]
  generalize (lg_sl [.ref h0, .int 1, .int p0] ++ List.replicate (3 - (lg_sl [.ref h0, .int 1, .int p0]).length) Slot.unset).toArray = ls at hl ⊢
  have hl : lv_has ls 3 [(0, .ref h0), (1, .int 1), (2, .int p0)] := hl
  refine lv_aload_n hx hb dX6_ofContext_0 rfl (lv_at hl 0 rfl) ?_
  refine lv_iload_n hx hb dX6_ofContext_1 rfl (lv_at hl 1 rfl) ?_
  refine lv_iconst (v := 1) hx hb dX6_ofContext_2 (by decide) ?_
  refine lv_aload_n hx hb dX6_ofContext_3 rfl (lv_at hl 0 rfl) ?_
  refine va_get (D := D) (ci := 8) (v := .int 2) (C := RX6) (T := TX6) (N := 11) hx hb hts wi_X6_ofContext_RX6 hown hK hP 0 rfl rfl 2 (by decide) (hts _ wd243_X6_ofContext) (fun _ h9 => h9) rfl dX6_ofContext_4 ?_
  refine vp_callSi (W.runS (As := [.int 1, .int 1, .int 2]) (rest := [.ref h0]) ⟨hx, hb, hml, hown, hts⟩ (k_X6_isIn_8 l D κ ε) (va_cwS 3 hts gX6_ofContext_X6_isIn rfl rfl rfl (by decide +kernel) ⟨(Nat.le_of_ble_eq_true rfl), (Nat.le_of_ble_eq_true rfl)⟩) (pre0_S (wc := []) hP hK [] rfl) rfl rfl hl.1 rfl (lv_room (Nat.le_of_ble_eq_true rfl)) dX6_ofContext_7 ⟨(Nat.le_of_ble_eq_true rfl), (Nat.le_of_ble_eq_true rfl)⟩) (fun r hw => ?_)
  rw [hw]
  refine lv_if_eq (tgt := 22) hx hb dX6_ofContext_10 (by decide) (fun h => absurd h (by decide)) (fun _ => ?_)
  refine lv_iload_n hx hb dX6_ofContext_13 rfl (lv_at hl 2 rfl) ?_
  refine lv_iconst (v := 0) hx hb dX6_ofContext_14 (by decide) ?_
  refine lv_iconst (v := 1) hx hb dX6_ofContext_15 (by decide) ?_
  refine vp_callSi (W.runS (As := [.int p0, .int 0, .int 1]) (rest := [.ref h0]) ⟨hx, hb, hml, hown, hts⟩ (k_X6_isIn_13 l D κ ε (p0) hf0 hf1) (va_cwS 3 hts gX6_ofContext_X6_isIn rfl rfl rfl (by decide +kernel) ⟨(Nat.le_of_ble_eq_true rfl), (Nat.le_of_ble_eq_true rfl)⟩) (pre0_S (wc := []) hP hK [] rfl) rfl rfl hl.1 rfl (lv_room (Nat.le_of_ble_eq_true rfl)) dX6_ofContext_16 ⟨(Nat.le_of_ble_eq_true rfl), (Nat.le_of_ble_eq_true rfl)⟩) (fun r hw => ?_)
  rw [hw]
  refine lv_if_ne (tgt := 26) hx hb dX6_ofContext_19 (by decide) (fun h => absurd (by decide) h) (fun _ => ?_)
  refine lv_iconst (v := 1) hx hb dX6_ofContext_22 (by decide) ?_
  refine lv_goto (tgt := 27) hx hb dX6_ofContext_23 (by decide) ?_
  refine lv_iconst (v := 1) hx hb dX6_ofContext_27 (by decide) ?_
  have hF := va_free (wc := [(h0, .inr (8, [.int 0, .int 0, .int 2, .ref h1, .ref h2, .int 0, .int 500, .int 0, .int 0, .int 0, .ref h3]))]) hD hS hA [0] rfl
  refine va_calli (va_runV (As := [.int 1, .int 1]) (rest := []) ⟨hx, hb, hml, hown, hts⟩ (k_X6_start_1 l D κ ε h0 h1 h2 h3 s.heap.size (0) (2) (0) (500) (0) (0)) (cwV 2 hts gX6_ofContext_X6_start rfl rfl rfl (by decide +kernel) ⟨(Nat.le_of_ble_eq_true rfl), (Nat.le_of_ble_eq_true rfl)⟩) (pre2_V (q0 := 0) (ci := 8) (wc := [(h0, .inr (8, [.int 0, .int 0, .int 2, .ref h1, .ref h2, .int 0, .int 500, .int 0, .int 0, .int 0, .ref h3]))]) hP hD hK hE9 hS hA [0] (by decide) rfl rfl rfl) rfl rfl hl.1 rfl (lv_room (Nat.le_of_ble_eq_true rfl)) dX6_ofContext_28 ⟨(Nat.le_of_ble_eq_true rfl), (Nat.le_of_ble_eq_true rfl)⟩) hS (fun q _ h => hF q h) hF (fun r u1 t H locs ht hvm hw hB hz1 hk1 hS => ?_)
  try dsimp only at hw hB
  obtain ⟨hP1, hD1⟩ := hB
  rw [ht] at hP1
  obtain ⟨hP, hD⟩ := post_j (ws' := [(h0, .inr (8, [.int 1, .int 0, .int 2, .ref h1, .ref h2, .int 0, .int 500, .int 0, .int 0, .int 0, .ref h3]))]) (wr := []) (w1 := [(h0, .inr (8, [.int 1, .int 0, .int 2, .ref h1, .ref h2, .int 0, .int 500, .int 0, .int 0, .int 0, .ref h3]))]) hP hD hF [0] rfl [] rfl (by decide) (by decide) hk1 hP1 hD1 [0] (by decide) rfl
  have hP : va_P D vwCl [(h0, .inr (8, [.int 1, .int 0, .int 2, .ref h1, .ref h2, .int 0, .int 500, .int 0, .int 0, .int 0, .ref h3]))] H := hP
  have hD : va_D A [(h0, .inr (8, [.int 1, .int 0, .int 2, .ref h1, .ref h2, .int 0, .int 500, .int 0, .int 0, .int 0, .ref h3]))] := hD
  rw [hw]
  refine lv_if_eq (tgt := 38) hx hb dX6_ofContext_31 (by decide) (fun h => absurd h (by decide)) (fun _ => ?_)
  refine lv_iconst (v := 0) hx hb dX6_ofContext_34 (by decide) ?_
  refine lv_goto (tgt := 44) hx hb dX6_ofContext_35 (by decide) ?_
  have hP9 := hP.sub (ws' := [(h0, .inr (8, [.int 1, .int 0, .int 2, .ref h1, .ref h2, .int 0, .int 500, .int 0, .int 0, .int 0, .ref h3]))]) [0] rfl
  have hD9 := hD.sub (ws' := [(h0, .inr (8, [.int 1, .int 0, .int 2, .ref h1, .ref h2, .int 0, .int 500, .int 0, .int 0, .int 0, .ref h3]))]) [0] (by decide) rfl
  exact W.iret (v := 0) hx hb hr (fun t ht hW => ⟨⟨0, [.int 1, .int 0, .int 2, .ref h1, .ref h2, .int 0, .int 500, .int 0, .int 0, .int 0, .ref h3], rfl, ⟨rfl, rfl⟩, by rw [ht]; exact hP9, hD9⟩, hS.F ht⟩) hS.2.2 dX6_ofContext_44

theorem iv8 (x : Int32) (h0 : x ≤ 1) : ¬ 1 < x := by
  have e0 : (1 : Int32).toInt = 1 := by decide
  simp only [Int32.lt_iff_toInt_lt, Int32.le_iff_toInt_le, ← Int32.toInt_inj, e0] at *
  omega

set_option maxHeartbeats 4000000 in
set_option maxRecDepth 100000 in
theorem k_X6_isIn_14 (l : Launch) (D : va_G) (κ ε : Nat → Nat) (p0 : Int32) (hf0 : ¬ p0 < 0) (hf1 : p0 ≤ 1) : Met l yX6_isIn wsX6_isIn ({ frames := 0, cells := 0, slots := 0, locals := 0 }) (va_Pc [.int p0, .int 0, .int 1] (Pre0 D κ [])) (vp_Si (fun r => (r = 1))) 0 0 (fun _ => False) := by
  refine Met.ofW (cc := cX6_isIn) (maxL := 3) (ret := (some .boolean)) (by decide) rfl ?_
  intro p e s m args below meth c s₁ B hml hv
  obtain ⟨rfl, hP, hK⟩ := hv
  have hx := B.exec
  have hb := B.bytes
  have hr := B.returns
  have hts := atoms_spec (ws := wsX6_isIn) B.pre
  have hown : s.vm.findClass RX6 = some m.cls := findClass_of_methodNamed B.named
  have hlocks := B.notSynchronized
  have hP : va_P D vwCl [] s.heap := hP
  have hl := lv_entry [.int p0, .int 0, .int 1] (n := 3) (Nat.le_of_ble_eq_true rfl)
  rw [lg_entry_eq]
  generalize (lg_sl [.int p0, .int 0, .int 1] ++ List.replicate (3 - (lg_sl [.int p0, .int 0, .int 1]).length) Slot.unset).toArray = ls at hl ⊢
  have hl : lv_has ls 3 [(0, .int p0), (1, .int 0), (2, .int 1)] := hl
  refine lv_iload_n hx hb dX6_isIn_0 rfl (lv_at hl 0 rfl) ?_
  refine lv_iload_n hx hb dX6_isIn_1 rfl (lv_at hl 1 rfl) ?_
  refine lv_icmp_lt (tgt := 14) hx hb dX6_isIn_2 (by decide) (fun h => absurd h hf0) (fun _ => ?_)
  refine lv_iload_n hx hb dX6_isIn_5 rfl (lv_at hl 0 rfl) ?_
  refine lv_iload_n hx hb dX6_isIn_6 rfl (lv_at hl 2 rfl) ?_
  refine lv_icmp_gt (tgt := 14) hx hb dX6_isIn_7 (by decide) (fun h => absurd h (iv8 _ hf1)) (fun _ => ?_)
  refine lv_iconst (v := 1) hx hb dX6_isIn_10 (by decide) ?_
  refine lv_goto (tgt := 15) hx hb dX6_isIn_11 (by decide) ?_
  exact W.zret (v := 1) hx hb hr rfl (fun t ht hW => ⟨1, rfl, rfl, ht⟩) (fun q hq => absurd hq List.not_mem_nil) dX6_isIn_15

set_option maxHeartbeats 4000000 in
set_option maxRecDepth 100000 in
theorem k_X6_sorts_0 (l : Launch) (D : va_G) (κ ε : Nat → Nat) (h0 : Nat) : Met l yX6_sorts wsX6_sorts ({ frames := 0, cells := 0, slots := 0, locals := 0 }) (va_Pc [.ref h0, .int 0] (Pre0 D κ [(h0, .inl (κ 0, 14, .inl (fun _ => 0)))])) (vp_Si (fun r => (r = 0))) 0 0 (fun _ => False) := by
  refine Met.ofW (cc := cX6_sorts) (maxL := 4) (ret := (some .int)) (by decide) rfl ?_
  intro p e s m args below meth c s₁ B hml hv
  obtain ⟨rfl, hP, hK⟩ := hv
  have hx := B.exec
  have hb := B.bytes
  have hr := B.returns
  have hts := atoms_spec (ws := wsX6_sorts) B.pre
  have hown : s.vm.findClass RX6 = some m.cls := findClass_of_methodNamed B.named
  have hlocks := B.notSynchronized
  have hP : va_P D vwCl [(h0, .inl (κ 0, 14, .inl (fun _ => 0)))] s.heap := hP
  have hl := lv_entry [.ref h0, .int 0] (n := 4) (Nat.le_of_ble_eq_true rfl)
  rw [lg_entry_eq]
  generalize (lg_sl [.ref h0, .int 0] ++ List.replicate (4 - (lg_sl [.ref h0, .int 0]).length) Slot.unset).toArray = ls at hl ⊢
  have hl : lv_has ls 4 [(0, .ref h0), (1, .int 0)] := hl
  refine lv_iconst (v := 0) hx hb dX6_sorts_0 (by decide) ?_
  refine lv_istore_n (lv' := [(2, .int 0), (0, .ref h0), (1, .int 0)]) hx hb dX6_sorts_1 rfl hl (by decide) rfl (fun ls hl => ?_)
  refine lv_iconst (v := 0) hx hb dX6_sorts_2 (by decide) ?_
  refine lv_istore_n (lv' := [(3, .int 0), (2, .int 0), (0, .ref h0), (1, .int 0)]) hx hb dX6_sorts_3 rfl hl (by decide) rfl (fun ls hl => ?_)
  refine lv_iload_n hx hb dX6_sorts_4 rfl (lv_at hl 0 rfl) ?_
  refine lv_bipush (v := 14) hx hb dX6_sorts_5 (by decide) ?_
  refine lv_icmp_ge (tgt := 35) hx hb dX6_sorts_7 (by decide) (fun h => absurd h (by decide)) (fun _ => ?_)
  refine lv_iload_n hx hb dX6_sorts_10 rfl (lv_at hl 1 rfl) ?_
  refine lv_aload_n hx hb dX6_sorts_11 rfl (lv_at hl 2 rfl) ?_
  refine lv_iload_n hx hb dX6_sorts_12 rfl (lv_at hl 3 rfl) ?_
  refine lv_bipush (v := 14) hx hb dX6_sorts_13 (by decide) ?_
  refine lv_imul hx hb dX6_sorts_15 ?_
  refine tpi (v := 0) (by decide) ?_
  refine lv_iload_n hx hb dX6_sorts_16 rfl (lv_at hl 0 rfl) ?_
  refine lv_iadd hx hb dX6_sorts_17 ?_
  refine tpi (v := 0) (by decide) ?_
  refine va_iald (cA := κ 0) (n := 14) (f := (fun _ => 0)) hx hb hK hP 0 0 rfl rfl (vpl (by decide)) dX6_sorts_18 ?_
  refine tpi (v := 0) (by decide) ?_
  refine lv_if_le (tgt := 26) hx hb dX6_sorts_19 (by decide) (fun _ => ?_) (fun h => absurd (by decide) h)
  refine lv_iconst (v := 0) hx hb dX6_sorts_26 (by decide) ?_
  refine lv_iadd hx hb dX6_sorts_27 ?_
  refine tpi (v := 0) (by decide) ?_
  refine lv_istore_n (lv' := [(2, .int 0), (3, .int 0), (0, .ref h0), (1, .int 0)]) hx hb dX6_sorts_28 rfl hl (by decide) rfl (fun ls hl => ?_)
  refine lv_iinc (v := 1) (lv' := [(3, .int 1), (2, .int 0), (0, .ref h0), (1, .int 0)]) hx hb dX6_sorts_29 hl (k := 1) rfl (by decide) (by decide) rfl (fun ls hl => ?_)
  refine lv_goto (tgt := 4) hx hb dX6_sorts_32 (by decide) ?_
  refine lv_iload_n hx hb dX6_sorts_4 rfl (lv_at hl 0 rfl) ?_
  refine lv_bipush (v := 14) hx hb dX6_sorts_5 (by decide) ?_
  refine lv_icmp_ge (tgt := 35) hx hb dX6_sorts_7 (by decide) (fun h => absurd h (by decide)) (fun _ => ?_)
  refine lv_iload_n hx hb dX6_sorts_10 rfl (lv_at hl 1 rfl) ?_
  refine lv_aload_n hx hb dX6_sorts_11 rfl (lv_at hl 2 rfl) ?_
  refine lv_iload_n hx hb dX6_sorts_12 rfl (lv_at hl 3 rfl) ?_
  refine lv_bipush (v := 14) hx hb dX6_sorts_13 (by decide) ?_
  refine lv_imul hx hb dX6_sorts_15 ?_
  refine tpi (v := 0) (by decide) ?_
  refine lv_iload_n hx hb dX6_sorts_16 rfl (lv_at hl 0 rfl) ?_
  refine lv_iadd hx hb dX6_sorts_17 ?_
  refine tpi (v := 1) (by decide) ?_
  refine va_iald (cA := κ 0) (n := 14) (f := (fun _ => 0)) hx hb hK hP 0 0 rfl rfl (vpl (by decide)) dX6_sorts_18 ?_
  refine tpi (v := 0) (by decide) ?_
  refine lv_if_le (tgt := 26) hx hb dX6_sorts_19 (by decide) (fun _ => ?_) (fun h => absurd (by decide) h)
  refine lv_iconst (v := 0) hx hb dX6_sorts_26 (by decide) ?_
  refine lv_iadd hx hb dX6_sorts_27 ?_
  refine tpi (v := 0) (by decide) ?_
  refine lv_istore_n (lv' := [(2, .int 0), (3, .int 1), (0, .ref h0), (1, .int 0)]) hx hb dX6_sorts_28 rfl hl (by decide) rfl (fun ls hl => ?_)
  refine lv_iinc (v := 2) (lv' := [(3, .int 2), (2, .int 0), (0, .ref h0), (1, .int 0)]) hx hb dX6_sorts_29 hl (k := 1) rfl (by decide) (by decide) rfl (fun ls hl => ?_)
  refine lv_goto (tgt := 4) hx hb dX6_sorts_32 (by decide) ?_
  refine lv_iload_n hx hb dX6_sorts_4 rfl (lv_at hl 0 rfl) ?_
  refine lv_bipush (v := 14) hx hb dX6_sorts_5 (by decide) ?_
  refine lv_icmp_ge (tgt := 35) hx hb dX6_sorts_7 (by decide) (fun h => absurd h (by decide)) (fun _ => ?_)
  refine lv_iload_n hx hb dX6_sorts_10 rfl (lv_at hl 1 rfl) ?_
  refine lv_aload_n hx hb dX6_sorts_11 rfl (lv_at hl 2 rfl) ?_
  refine lv_iload_n hx hb dX6_sorts_12 rfl (lv_at hl 3 rfl) ?_
  refine lv_bipush (v := 14) hx hb dX6_sorts_13 (by decide) ?_
  refine lv_imul hx hb dX6_sorts_15 ?_
  refine tpi (v := 0) (by decide) ?_
  refine lv_iload_n hx hb dX6_sorts_16 rfl (lv_at hl 0 rfl) ?_
  refine lv_iadd hx hb dX6_sorts_17 ?_
  refine tpi (v := 2) (by decide) ?_
  refine va_iald (cA := κ 0) (n := 14) (f := (fun _ => 0)) hx hb hK hP 0 0 rfl rfl (vpl (by decide)) dX6_sorts_18 ?_
  refine tpi (v := 0) (by decide) ?_
  refine lv_if_le (tgt := 26) hx hb dX6_sorts_19 (by decide) (fun _ => ?_) (fun h => absurd (by decide) h)
  refine lv_iconst (v := 0) hx hb dX6_sorts_26 (by decide) ?_
  refine lv_iadd hx hb dX6_sorts_27 ?_
  refine tpi (v := 0) (by decide) ?_
  refine lv_istore_n (lv' := [(2, .int 0), (3, .int 2), (0, .ref h0), (1, .int 0)]) hx hb dX6_sorts_28 rfl hl (by decide) rfl (fun ls hl => ?_)
  refine lv_iinc (v := 3) (lv' := [(3, .int 3), (2, .int 0), (0, .ref h0), (1, .int 0)]) hx hb dX6_sorts_29 hl (k := 1) rfl (by decide) (by decide) rfl (fun ls hl => ?_)
  refine lv_goto (tgt := 4) hx hb dX6_sorts_32 (by decide) ?_
  refine lv_iload_n hx hb dX6_sorts_4 rfl (lv_at hl 0 rfl) ?_
  refine lv_bipush (v := 14) hx hb dX6_sorts_5 (by decide) ?_
  refine lv_icmp_ge (tgt := 35) hx hb dX6_sorts_7 (by decide) (fun h => absurd h (by decide)) (fun _ => ?_)
  refine lv_iload_n hx hb dX6_sorts_10 rfl (lv_at hl 1 rfl) ?_
  refine lv_aload_n hx hb dX6_sorts_11 rfl (lv_at hl 2 rfl) ?_
  refine lv_iload_n hx hb dX6_sorts_12 rfl (lv_at hl 3 rfl) ?_
  refine lv_bipush (v := 14) hx hb dX6_sorts_13 (by decide) ?_
  refine lv_imul hx hb dX6_sorts_15 ?_
  refine tpi (v := 0) (by decide) ?_
  refine lv_iload_n hx hb dX6_sorts_16 rfl (lv_at hl 0 rfl) ?_
  refine lv_iadd hx hb dX6_sorts_17 ?_
  refine tpi (v := 3) (by decide) ?_
  refine va_iald (cA := κ 0) (n := 14) (f := (fun _ => 0)) hx hb hK hP 0 0 rfl rfl (vpl (by decide)) dX6_sorts_18 ?_
  refine tpi (v := 0) (by decide) ?_
  refine lv_if_le (tgt := 26) hx hb dX6_sorts_19 (by decide) (fun _ => ?_) (fun h => absurd (by decide) h)
  refine lv_iconst (v := 0) hx hb dX6_sorts_26 (by decide) ?_
  refine lv_iadd hx hb dX6_sorts_27 ?_
  refine tpi (v := 0) (by decide) ?_
  refine lv_istore_n (lv' := [(2, .int 0), (3, .int 3), (0, .ref h0), (1, .int 0)]) hx hb dX6_sorts_28 rfl hl (by decide) rfl (fun ls hl => ?_)
  refine lv_iinc (v := 4) (lv' := [(3, .int 4), (2, .int 0), (0, .ref h0), (1, .int 0)]) hx hb dX6_sorts_29 hl (k := 1) rfl (by decide) (by decide) rfl (fun ls hl => ?_)
  refine lv_goto (tgt := 4) hx hb dX6_sorts_32 (by decide) ?_
  refine lv_iload_n hx hb dX6_sorts_4 rfl (lv_at hl 0 rfl) ?_
  refine lv_bipush (v := 14) hx hb dX6_sorts_5 (by decide) ?_
  refine lv_icmp_ge (tgt := 35) hx hb dX6_sorts_7 (by decide) (fun h => absurd h (by decide)) (fun _ => ?_)
  refine lv_iload_n hx hb dX6_sorts_10 rfl (lv_at hl 1 rfl) ?_
  refine lv_aload_n hx hb dX6_sorts_11 rfl (lv_at hl 2 rfl) ?_
  refine lv_iload_n hx hb dX6_sorts_12 rfl (lv_at hl 3 rfl) ?_
  refine lv_bipush (v := 14) hx hb dX6_sorts_13 (by decide) ?_
  refine lv_imul hx hb dX6_sorts_15 ?_
  refine tpi (v := 0) (by decide) ?_
  refine lv_iload_n hx hb dX6_sorts_16 rfl (lv_at hl 0 rfl) ?_
  refine lv_iadd hx hb dX6_sorts_17 ?_
  refine tpi (v := 4) (by decide) ?_
  refine va_iald (cA := κ 0) (n := 14) (f := (fun _ => 0)) hx hb hK hP 0 0 rfl rfl (vpl (by decide)) dX6_sorts_18 ?_
  refine tpi (v := 0) (by decide) ?_
  refine lv_if_le (tgt := 26) hx hb dX6_sorts_19 (by decide) (fun _ => ?_) (fun h => absurd (by decide) h)
  refine lv_iconst (v := 0) hx hb dX6_sorts_26 (by decide) ?_
  refine lv_iadd hx hb dX6_sorts_27 ?_
  refine tpi (v := 0) (by decide) ?_
  refine lv_istore_n (lv' := [(2, .int 0), (3, .int 4), (0, .ref h0), (1, .int 0)]) hx hb dX6_sorts_28 rfl hl (by decide) rfl (fun ls hl => ?_)
  refine lv_iinc (v := 5) (lv' := [(3, .int 5), (2, .int 0), (0, .ref h0), (1, .int 0)]) hx hb dX6_sorts_29 hl (k := 1) rfl (by decide) (by decide) rfl (fun ls hl => ?_)
  refine lv_goto (tgt := 4) hx hb dX6_sorts_32 (by decide) ?_
  refine lv_iload_n hx hb dX6_sorts_4 rfl (lv_at hl 0 rfl) ?_
  refine lv_bipush (v := 14) hx hb dX6_sorts_5 (by decide) ?_
  refine lv_icmp_ge (tgt := 35) hx hb dX6_sorts_7 (by decide) (fun h => absurd h (by decide)) (fun _ => ?_)
  refine lv_iload_n hx hb dX6_sorts_10 rfl (lv_at hl 1 rfl) ?_
  refine lv_aload_n hx hb dX6_sorts_11 rfl (lv_at hl 2 rfl) ?_
  refine lv_iload_n hx hb dX6_sorts_12 rfl (lv_at hl 3 rfl) ?_
  refine lv_bipush (v := 14) hx hb dX6_sorts_13 (by decide) ?_
  refine lv_imul hx hb dX6_sorts_15 ?_
  refine tpi (v := 0) (by decide) ?_
  refine lv_iload_n hx hb dX6_sorts_16 rfl (lv_at hl 0 rfl) ?_
  refine lv_iadd hx hb dX6_sorts_17 ?_
  refine tpi (v := 5) (by decide) ?_
  refine va_iald (cA := κ 0) (n := 14) (f := (fun _ => 0)) hx hb hK hP 0 0 rfl rfl (vpl (by decide)) dX6_sorts_18 ?_
  refine tpi (v := 0) (by decide) ?_
  refine lv_if_le (tgt := 26) hx hb dX6_sorts_19 (by decide) (fun _ => ?_) (fun h => absurd (by decide) h)
  refine lv_iconst (v := 0) hx hb dX6_sorts_26 (by decide) ?_
  refine lv_iadd hx hb dX6_sorts_27 ?_
  refine tpi (v := 0) (by decide) ?_
  refine lv_istore_n (lv' := [(2, .int 0), (3, .int 5), (0, .ref h0), (1, .int 0)]) hx hb dX6_sorts_28 rfl hl (by decide) rfl (fun ls hl => ?_)
  refine lv_iinc (v := 6) (lv' := [(3, .int 6), (2, .int 0), (0, .ref h0), (1, .int 0)]) hx hb dX6_sorts_29 hl (k := 1) rfl (by decide) (by decide) rfl (fun ls hl => ?_)
  refine lv_goto (tgt := 4) hx hb dX6_sorts_32 (by decide) ?_
  refine lv_iload_n hx hb dX6_sorts_4 rfl (lv_at hl 0 rfl) ?_
  refine lv_bipush (v := 14) hx hb dX6_sorts_5 (by decide) ?_
  refine lv_icmp_ge (tgt := 35) hx hb dX6_sorts_7 (by decide) (fun h => absurd h (by decide)) (fun _ => ?_)
  refine lv_iload_n hx hb dX6_sorts_10 rfl (lv_at hl 1 rfl) ?_
  refine lv_aload_n hx hb dX6_sorts_11 rfl (lv_at hl 2 rfl) ?_
  refine lv_iload_n hx hb dX6_sorts_12 rfl (lv_at hl 3 rfl) ?_
  refine lv_bipush (v := 14) hx hb dX6_sorts_13 (by decide) ?_
  refine lv_imul hx hb dX6_sorts_15 ?_
  refine tpi (v := 0) (by decide) ?_
  refine lv_iload_n hx hb dX6_sorts_16 rfl (lv_at hl 0 rfl) ?_
  refine lv_iadd hx hb dX6_sorts_17 ?_
  refine tpi (v := 6) (by decide) ?_
  refine va_iald (cA := κ 0) (n := 14) (f := (fun _ => 0)) hx hb hK hP 0 0 rfl rfl (vpl (by decide)) dX6_sorts_18 ?_
  refine tpi (v := 0) (by decide) ?_
  refine lv_if_le (tgt := 26) hx hb dX6_sorts_19 (by decide) (fun _ => ?_) (fun h => absurd (by decide) h)
  refine lv_iconst (v := 0) hx hb dX6_sorts_26 (by decide) ?_
  refine lv_iadd hx hb dX6_sorts_27 ?_
  refine tpi (v := 0) (by decide) ?_
  refine lv_istore_n (lv' := [(2, .int 0), (3, .int 6), (0, .ref h0), (1, .int 0)]) hx hb dX6_sorts_28 rfl hl (by decide) rfl (fun ls hl => ?_)
  refine lv_iinc (v := 7) (lv' := [(3, .int 7), (2, .int 0), (0, .ref h0), (1, .int 0)]) hx hb dX6_sorts_29 hl (k := 1) rfl (by decide) (by decide) rfl (fun ls hl => ?_)
  refine lv_goto (tgt := 4) hx hb dX6_sorts_32 (by decide) ?_
  refine lv_iload_n hx hb dX6_sorts_4 rfl (lv_at hl 0 rfl) ?_
  refine lv_bipush (v := 14) hx hb dX6_sorts_5 (by decide) ?_
  refine lv_icmp_ge (tgt := 35) hx hb dX6_sorts_7 (by decide) (fun h => absurd h (by decide)) (fun _ => ?_)
  refine lv_iload_n hx hb dX6_sorts_10 rfl (lv_at hl 1 rfl) ?_
  refine lv_aload_n hx hb dX6_sorts_11 rfl (lv_at hl 2 rfl) ?_
  refine lv_iload_n hx hb dX6_sorts_12 rfl (lv_at hl 3 rfl) ?_
  refine lv_bipush (v := 14) hx hb dX6_sorts_13 (by decide) ?_
  refine lv_imul hx hb dX6_sorts_15 ?_
  refine tpi (v := 0) (by decide) ?_
  refine lv_iload_n hx hb dX6_sorts_16 rfl (lv_at hl 0 rfl) ?_
  refine lv_iadd hx hb dX6_sorts_17 ?_
  refine tpi (v := 7) (by decide) ?_
  refine va_iald (cA := κ 0) (n := 14) (f := (fun _ => 0)) hx hb hK hP 0 0 rfl rfl (vpl (by decide)) dX6_sorts_18 ?_
  refine tpi (v := 0) (by decide) ?_
  refine lv_if_le (tgt := 26) hx hb dX6_sorts_19 (by decide) (fun _ => ?_) (fun h => absurd (by decide) h)
  refine lv_iconst (v := 0) hx hb dX6_sorts_26 (by decide) ?_
  refine lv_iadd hx hb dX6_sorts_27 ?_
  refine tpi (v := 0) (by decide) ?_
  refine lv_istore_n (lv' := [(2, .int 0), (3, .int 7), (0, .ref h0), (1, .int 0)]) hx hb dX6_sorts_28 rfl hl (by decide) rfl (fun ls hl => ?_)
  refine lv_iinc (v := 8) (lv' := [(3, .int 8), (2, .int 0), (0, .ref h0), (1, .int 0)]) hx hb dX6_sorts_29 hl (k := 1) rfl (by decide) (by decide) rfl (fun ls hl => ?_)
  refine lv_goto (tgt := 4) hx hb dX6_sorts_32 (by decide) ?_
  refine lv_iload_n hx hb dX6_sorts_4 rfl (lv_at hl 0 rfl) ?_
  refine lv_bipush (v := 14) hx hb dX6_sorts_5 (by decide) ?_
  refine lv_icmp_ge (tgt := 35) hx hb dX6_sorts_7 (by decide) (fun h => absurd h (by decide)) (fun _ => ?_)
  refine lv_iload_n hx hb dX6_sorts_10 rfl (lv_at hl 1 rfl) ?_
  refine lv_aload_n hx hb dX6_sorts_11 rfl (lv_at hl 2 rfl) ?_
  refine lv_iload_n hx hb dX6_sorts_12 rfl (lv_at hl 3 rfl) ?_
  refine lv_bipush (v := 14) hx hb dX6_sorts_13 (by decide) ?_
  refine lv_imul hx hb dX6_sorts_15 ?_
  refine tpi (v := 0) (by decide) ?_
  refine lv_iload_n hx hb dX6_sorts_16 rfl (lv_at hl 0 rfl) ?_
  refine lv_iadd hx hb dX6_sorts_17 ?_
  refine tpi (v := 8) (by decide) ?_
  refine va_iald (cA := κ 0) (n := 14) (f := (fun _ => 0)) hx hb hK hP 0 0 rfl rfl (vpl (by decide)) dX6_sorts_18 ?_
  refine tpi (v := 0) (by decide) ?_
  refine lv_if_le (tgt := 26) hx hb dX6_sorts_19 (by decide) (fun _ => ?_) (fun h => absurd (by decide) h)
  refine lv_iconst (v := 0) hx hb dX6_sorts_26 (by decide) ?_
  refine lv_iadd hx hb dX6_sorts_27 ?_
  refine tpi (v := 0) (by decide) ?_
  refine lv_istore_n (lv' := [(2, .int 0), (3, .int 8), (0, .ref h0), (1, .int 0)]) hx hb dX6_sorts_28 rfl hl (by decide) rfl (fun ls hl => ?_)
  refine lv_iinc (v := 9) (lv' := [(3, .int 9), (2, .int 0), (0, .ref h0), (1, .int 0)]) hx hb dX6_sorts_29 hl (k := 1) rfl (by decide) (by decide) rfl (fun ls hl => ?_)
  refine lv_goto (tgt := 4) hx hb dX6_sorts_32 (by decide) ?_
  refine lv_iload_n hx hb dX6_sorts_4 rfl (lv_at hl 0 rfl) ?_
  refine lv_bipush (v := 14) hx hb dX6_sorts_5 (by decide) ?_
  refine lv_icmp_ge (tgt := 35) hx hb dX6_sorts_7 (by decide) (fun h => absurd h (by decide)) (fun _ => ?_)
  refine lv_iload_n hx hb dX6_sorts_10 rfl (lv_at hl 1 rfl) ?_
  refine lv_aload_n hx hb dX6_sorts_11 rfl (lv_at hl 2 rfl) ?_
  refine lv_iload_n hx hb dX6_sorts_12 rfl (lv_at hl 3 rfl) ?_
  refine lv_bipush (v := 14) hx hb dX6_sorts_13 (by decide) ?_
  refine lv_imul hx hb dX6_sorts_15 ?_
  refine tpi (v := 0) (by decide) ?_
  refine lv_iload_n hx hb dX6_sorts_16 rfl (lv_at hl 0 rfl) ?_
  refine lv_iadd hx hb dX6_sorts_17 ?_
  refine tpi (v := 9) (by decide) ?_
  refine va_iald (cA := κ 0) (n := 14) (f := (fun _ => 0)) hx hb hK hP 0 0 rfl rfl (vpl (by decide)) dX6_sorts_18 ?_
  refine tpi (v := 0) (by decide) ?_
  refine lv_if_le (tgt := 26) hx hb dX6_sorts_19 (by decide) (fun _ => ?_) (fun h => absurd (by decide) h)
  refine lv_iconst (v := 0) hx hb dX6_sorts_26 (by decide) ?_
  refine lv_iadd hx hb dX6_sorts_27 ?_
  refine tpi (v := 0) (by decide) ?_
  refine lv_istore_n (lv' := [(2, .int 0), (3, .int 9), (0, .ref h0), (1, .int 0)]) hx hb dX6_sorts_28 rfl hl (by decide) rfl (fun ls hl => ?_)
  refine lv_iinc (v := 10) (lv' := [(3, .int 10), (2, .int 0), (0, .ref h0), (1, .int 0)]) hx hb dX6_sorts_29 hl (k := 1) rfl (by decide) (by decide) rfl (fun ls hl => ?_)
  refine lv_goto (tgt := 4) hx hb dX6_sorts_32 (by decide) ?_
  refine lv_iload_n hx hb dX6_sorts_4 rfl (lv_at hl 0 rfl) ?_
  refine lv_bipush (v := 14) hx hb dX6_sorts_5 (by decide) ?_
  refine lv_icmp_ge (tgt := 35) hx hb dX6_sorts_7 (by decide) (fun h => absurd h (by decide)) (fun _ => ?_)
  refine lv_iload_n hx hb dX6_sorts_10 rfl (lv_at hl 1 rfl) ?_
  refine lv_aload_n hx hb dX6_sorts_11 rfl (lv_at hl 2 rfl) ?_
  refine lv_iload_n hx hb dX6_sorts_12 rfl (lv_at hl 3 rfl) ?_
  refine lv_bipush (v := 14) hx hb dX6_sorts_13 (by decide) ?_
  refine lv_imul hx hb dX6_sorts_15 ?_
  refine tpi (v := 0) (by decide) ?_
  refine lv_iload_n hx hb dX6_sorts_16 rfl (lv_at hl 0 rfl) ?_
  refine lv_iadd hx hb dX6_sorts_17 ?_
  refine tpi (v := 10) (by decide) ?_
  refine va_iald (cA := κ 0) (n := 14) (f := (fun _ => 0)) hx hb hK hP 0 0 rfl rfl (vpl (by decide)) dX6_sorts_18 ?_
  refine tpi (v := 0) (by decide) ?_
  refine lv_if_le (tgt := 26) hx hb dX6_sorts_19 (by decide) (fun _ => ?_) (fun h => absurd (by decide) h)
  refine lv_iconst (v := 0) hx hb dX6_sorts_26 (by decide) ?_
  refine lv_iadd hx hb dX6_sorts_27 ?_
  refine tpi (v := 0) (by decide) ?_
  refine lv_istore_n (lv' := [(2, .int 0), (3, .int 10), (0, .ref h0), (1, .int 0)]) hx hb dX6_sorts_28 rfl hl (by decide) rfl (fun ls hl => ?_)
  refine lv_iinc (v := 11) (lv' := [(3, .int 11), (2, .int 0), (0, .ref h0), (1, .int 0)]) hx hb dX6_sorts_29 hl (k := 1) rfl (by decide) (by decide) rfl (fun ls hl => ?_)
  refine lv_goto (tgt := 4) hx hb dX6_sorts_32 (by decide) ?_
  refine lv_iload_n hx hb dX6_sorts_4 rfl (lv_at hl 0 rfl) ?_
  refine lv_bipush (v := 14) hx hb dX6_sorts_5 (by decide) ?_
  refine lv_icmp_ge (tgt := 35) hx hb dX6_sorts_7 (by decide) (fun h => absurd h (by decide)) (fun _ => ?_)
  refine lv_iload_n hx hb dX6_sorts_10 rfl (lv_at hl 1 rfl) ?_
  refine lv_aload_n hx hb dX6_sorts_11 rfl (lv_at hl 2 rfl) ?_
  refine lv_iload_n hx hb dX6_sorts_12 rfl (lv_at hl 3 rfl) ?_
  refine lv_bipush (v := 14) hx hb dX6_sorts_13 (by decide) ?_
  refine lv_imul hx hb dX6_sorts_15 ?_
  refine tpi (v := 0) (by decide) ?_
  refine lv_iload_n hx hb dX6_sorts_16 rfl (lv_at hl 0 rfl) ?_
  refine lv_iadd hx hb dX6_sorts_17 ?_
  refine tpi (v := 11) (by decide) ?_
  refine va_iald (cA := κ 0) (n := 14) (f := (fun _ => 0)) hx hb hK hP 0 0 rfl rfl (vpl (by decide)) dX6_sorts_18 ?_
  refine tpi (v := 0) (by decide) ?_
  refine lv_if_le (tgt := 26) hx hb dX6_sorts_19 (by decide) (fun _ => ?_) (fun h => absurd (by decide) h)
  refine lv_iconst (v := 0) hx hb dX6_sorts_26 (by decide) ?_
  refine lv_iadd hx hb dX6_sorts_27 ?_
  refine tpi (v := 0) (by decide) ?_
  refine lv_istore_n (lv' := [(2, .int 0), (3, .int 11), (0, .ref h0), (1, .int 0)]) hx hb dX6_sorts_28 rfl hl (by decide) rfl (fun ls hl => ?_)
  refine lv_iinc (v := 12) (lv' := [(3, .int 12), (2, .int 0), (0, .ref h0), (1, .int 0)]) hx hb dX6_sorts_29 hl (k := 1) rfl (by decide) (by decide) rfl (fun ls hl => ?_)
  refine lv_goto (tgt := 4) hx hb dX6_sorts_32 (by decide) ?_
  refine lv_iload_n hx hb dX6_sorts_4 rfl (lv_at hl 0 rfl) ?_
  refine lv_bipush (v := 14) hx hb dX6_sorts_5 (by decide) ?_
  refine lv_icmp_ge (tgt := 35) hx hb dX6_sorts_7 (by decide) (fun h => absurd h (by decide)) (fun _ => ?_)
  refine lv_iload_n hx hb dX6_sorts_10 rfl (lv_at hl 1 rfl) ?_
  refine lv_aload_n hx hb dX6_sorts_11 rfl (lv_at hl 2 rfl) ?_
  refine lv_iload_n hx hb dX6_sorts_12 rfl (lv_at hl 3 rfl) ?_
  refine lv_bipush (v := 14) hx hb dX6_sorts_13 (by decide) ?_
  refine lv_imul hx hb dX6_sorts_15 ?_
  refine tpi (v := 0) (by decide) ?_
  refine lv_iload_n hx hb dX6_sorts_16 rfl (lv_at hl 0 rfl) ?_
  refine lv_iadd hx hb dX6_sorts_17 ?_
  refine tpi (v := 12) (by decide) ?_
  refine va_iald (cA := κ 0) (n := 14) (f := (fun _ => 0)) hx hb hK hP 0 0 rfl rfl (vpl (by decide)) dX6_sorts_18 ?_
  refine tpi (v := 0) (by decide) ?_
  refine lv_if_le (tgt := 26) hx hb dX6_sorts_19 (by decide) (fun _ => ?_) (fun h => absurd (by decide) h)
  refine lv_iconst (v := 0) hx hb dX6_sorts_26 (by decide) ?_
  refine lv_iadd hx hb dX6_sorts_27 ?_
  refine tpi (v := 0) (by decide) ?_
  refine lv_istore_n (lv' := [(2, .int 0), (3, .int 12), (0, .ref h0), (1, .int 0)]) hx hb dX6_sorts_28 rfl hl (by decide) rfl (fun ls hl => ?_)
  refine lv_iinc (v := 13) (lv' := [(3, .int 13), (2, .int 0), (0, .ref h0), (1, .int 0)]) hx hb dX6_sorts_29 hl (k := 1) rfl (by decide) (by decide) rfl (fun ls hl => ?_)
  refine lv_goto (tgt := 4) hx hb dX6_sorts_32 (by decide) ?_
  refine lv_iload_n hx hb dX6_sorts_4 rfl (lv_at hl 0 rfl) ?_
  refine lv_bipush (v := 14) hx hb dX6_sorts_5 (by decide) ?_
  refine lv_icmp_ge (tgt := 35) hx hb dX6_sorts_7 (by decide) (fun h => absurd h (by decide)) (fun _ => ?_)
  refine lv_iload_n hx hb dX6_sorts_10 rfl (lv_at hl 1 rfl) ?_
  refine lv_aload_n hx hb dX6_sorts_11 rfl (lv_at hl 2 rfl) ?_
  refine lv_iload_n hx hb dX6_sorts_12 rfl (lv_at hl 3 rfl) ?_
  refine lv_bipush (v := 14) hx hb dX6_sorts_13 (by decide) ?_
  refine lv_imul hx hb dX6_sorts_15 ?_
  refine tpi (v := 0) (by decide) ?_
  refine lv_iload_n hx hb dX6_sorts_16 rfl (lv_at hl 0 rfl) ?_
  refine lv_iadd hx hb dX6_sorts_17 ?_
  refine tpi (v := 13) (by decide) ?_
  refine va_iald (cA := κ 0) (n := 14) (f := (fun _ => 0)) hx hb hK hP 0 0 rfl rfl (vpl (by decide)) dX6_sorts_18 ?_
  refine tpi (v := 0) (by decide) ?_
  refine lv_if_le (tgt := 26) hx hb dX6_sorts_19 (by decide) (fun _ => ?_) (fun h => absurd (by decide) h)
  refine lv_iconst (v := 0) hx hb dX6_sorts_26 (by decide) ?_
  refine lv_iadd hx hb dX6_sorts_27 ?_
  refine tpi (v := 0) (by decide) ?_
  refine lv_istore_n (lv' := [(2, .int 0), (3, .int 13), (0, .ref h0), (1, .int 0)]) hx hb dX6_sorts_28 rfl hl (by decide) rfl (fun ls hl => ?_)
  refine lv_iinc (v := 14) (lv' := [(3, .int 14), (2, .int 0), (0, .ref h0), (1, .int 0)]) hx hb dX6_sorts_29 hl (k := 1) rfl (by decide) (by decide) rfl (fun ls hl => ?_)
  refine lv_goto (tgt := 4) hx hb dX6_sorts_32 (by decide) ?_
  refine lv_iload_n hx hb dX6_sorts_4 rfl (lv_at hl 0 rfl) ?_
  refine lv_bipush (v := 14) hx hb dX6_sorts_5 (by decide) ?_
  refine lv_icmp_ge (tgt := 35) hx hb dX6_sorts_7 (by decide) (fun _ => ?_) (fun h => absurd (by decide) h)
  refine lv_iload_n hx hb dX6_sorts_35 rfl (lv_at hl 1 rfl) ?_
  exact W.iret (v := 0) hx hb hr (fun t ht hW => ⟨0, rfl, rfl, ht⟩) (fun q hq => absurd hq List.not_mem_nil) dX6_sorts_36

theorem wi_X6_context_RX6 : ∀ w ∈ u_ws RX6 TX6 11, w ∈ wsX6_context := by decide +kernel

theorem wd244_X6_context : (.fieldLink RX6 16 "CanticleModel" "sentence" "Ljava/util/ArrayList;" : Cond) ∈ wsX6_context := by decide +kernel

theorem wd245_X6_context : (.fieldLink RX6 24 "CanticleModel" "counts" "[[I" : Cond) ∈ wsX6_context := by decide +kernel

set_option maxHeartbeats 4000000 in
set_option maxRecDepth 100000 in
theorem k_X6_context_0 (l : Launch) (D : va_G) (κ ε : Nat → Nat) (h0 h1 h2 h3 h4 h5 h6 h7 : Nat) (p0 : Int32) (p1 : Int32) (p2 : Int32) (p3 : Int32) (p4 : Int32) (p5 : Int32) (p6 : Int32) (p7 : Int32) (p8 : Int32) (hf0 : ¬ p0 = 0) : Met l yX6_context wsX6_context ({ frames := 1, cells := 0, slots := 0, locals := 24 }) (va_Pc [.ref h0, .int 1, .int p0] (Pre0 D κ [(h0, .inr (8, [.int p1, .int p2, .int p3, .ref h1, .ref h2, .int p4, .int p5, .int p6, .int p7, .int 0, .ref h3])), (h1, .inr (1, [.int p8, .ref (ε 1), .int 0])), (h2, .inl (κ 4, 4, .inr (.inr (.inr (.inr (sel [h4, h5, h6, h7])))))), (h4, .inl (κ 0, 14, .inl (fun _ => 0)))])) (vp_Si (fun r => (r = 0))) 0 0 (fun _ => False) := by
  refine Met.ofW (cc := cX6_context) (maxL := 4) (ret := (some .int)) (by decide) rfl ?_
  intro p e s m args below meth c s₁ B hml hv
  obtain ⟨rfl, hP, hK⟩ := hv
  have hx := B.exec
  have hb := B.bytes
  have hr := B.returns
  have hts := atoms_spec (ws := wsX6_context) B.pre
  have hown : s.vm.findClass RX6 = some m.cls := findClass_of_methodNamed B.named
  have hlocks := B.notSynchronized
  have hP : va_P D vwCl [(h0, .inr (8, [.int p1, .int p2, .int p3, .ref h1, .ref h2, .int p4, .int p5, .int p6, .int p7, .int 0, .ref h3])), (h1, .inr (1, [.int p8, .ref (ε 1), .int 0])), (h2, .inl (κ 4, 4, .inr (.inr (.inr (.inr (sel [h4, h5, h6, h7])))))), (h4, .inl (κ 0, 14, .inl (fun _ => 0)))] s.heap := hP
  have hl := lv_entry [.ref h0, .int 1, .int p0] (n := 4) (Nat.le_of_ble_eq_true rfl)
  rw [lg_entry_eq]
  generalize (lg_sl [.ref h0, .int 1, .int p0] ++ List.replicate (4 - (lg_sl [.ref h0, .int 1, .int p0]).length) Slot.unset).toArray = ls at hl ⊢
  have hl : lv_has ls 4 [(0, .ref h0), (1, .int 1), (2, .int p0)] := hl
  refine lv_aload_n hx hb dX6_context_0 rfl (lv_at hl 0 rfl) ?_
  refine va_get (D := D) (ci := 8) (v := .ref h1) (C := RX6) (T := TX6) (N := 11) hx hb hts wi_X6_context_RX6 hown hK hP 0 rfl rfl 3 (by decide) (hts _ wd244_X6_context) (fun _ h9 => h9) rfl dX6_context_1 ?_
  refine lv_aload_n hx hb dX6_context_4 rfl (lv_at hl 0 rfl) ?_
  refine va_get (D := D) (ci := 8) (v := .ref h1) (C := RX6) (T := TX6) (N := 11) hx hb hts wi_X6_context_RX6 hown hK hP 0 rfl rfl 3 (by decide) (hts _ wd244_X6_context) (fun _ h9 => h9) rfl dX6_context_5 ?_
  refine vp_callSi (W.runV (As := []) (rest := [.ref h1]) ⟨hx, hb, hml, hown, hts⟩ (k_Jx4a65c_size_8abf5_0 l D κ ε h1 (p8)) (cwV 0 hts gX6_context_Jx4a65c_size_8abf5 rfl rfl rfl (by decide +kernel) ⟨(Nat.le_of_ble_eq_true rfl), (Nat.le_of_ble_eq_true rfl)⟩) (pre0_V (q0 := 1) (ci := 1) (wc := [(h1, .inr (1, [.int p8, .ref (ε 1), .int 0]))]) hP hK [1] rfl rfl rfl) rfl rfl hl.1 rfl (lv_room (Nat.le_of_ble_eq_true rfl)) dX6_context_8 ⟨(Nat.le_of_ble_eq_true rfl), (Nat.le_of_ble_eq_true rfl)⟩) (fun r hw => ?_)
  rw [hw]
  refine lv_iload_n hx hb dX6_context_11 rfl (lv_at hl 1 rfl) ?_
  refine lv_iconst (v := 1) hx hb dX6_context_12 (by decide) ?_
  refine lv_isub hx hb dX6_context_13 ?_
  refine tpi (v := 0) (by decide) ?_
  refine vp_callSi (W.runS (As := [.ref h1, .int 0, .int 0]) (rest := []) ⟨hx, hb, hml, hown, hts⟩ (k_X6_ahead_0 l D κ ε h1) (va_cwS 3 hts gX6_context_X6_ahead rfl rfl rfl (by decide +kernel) ⟨(Nat.le_of_ble_eq_true rfl), (Nat.le_of_ble_eq_true rfl)⟩) (pre0_S (wc := []) hP hK [] rfl) rfl rfl hl.1 rfl (lv_room (Nat.le_of_ble_eq_true rfl)) dX6_context_14 ⟨(Nat.le_of_ble_eq_true rfl), (Nat.le_of_ble_eq_true rfl)⟩) (fun r hw => ?_)
  rw [hw]
  refine lv_istore_n (lv' := [(3, .int 0), (0, .ref h0), (1, .int 1), (2, .int p0)]) hx hb dX6_context_17 rfl hl (by decide) rfl (fun ls hl => ?_)
  refine lv_iload_n hx hb dX6_context_18 rfl (lv_at hl 3 rfl) ?_
  refine lv_if_ne (tgt := 37) hx hb dX6_context_19 (by decide) (fun _ => ?_) (fun h => absurd h hf0)
  refine lv_aload_n hx hb dX6_context_37 rfl (lv_at hl 1 rfl) ?_
  refine va_get (D := D) (ci := 8) (v := .ref h2) (C := RX6) (T := TX6) (N := 11) hx hb hts wi_X6_context_RX6 hown hK hP 0 rfl rfl 4 (by decide) (hts _ wd245_X6_context) (fun _ h9 => h9) rfl dX6_context_38 ?_
  refine lv_iload_n hx hb dX6_context_41 rfl (lv_at hl 2 rfl) ?_
  refine lv_iconst (v := 1) hx hb dX6_context_42 (by decide) ?_
  refine lv_isub hx hb dX6_context_43 ?_
  refine tpi (v := 0) (by decide) ?_
  refine ya_ld2 hx hb hK hP 2 rfl (vpl (by decide)) (v := .ref h4) rfl dX6_context_44 ?_
  refine lv_iload_n hx hb dX6_context_45 rfl (lv_at hl 0 rfl) ?_
  refine vp_callSi (W.runS (As := [.ref h4, .int 0]) (rest := []) ⟨hx, hb, hml, hown, hts⟩ (k_X6_sorts_0 l D κ ε h4) (va_cwS 2 hts gX6_context_X6_sorts rfl rfl rfl (by decide +kernel) ⟨(Nat.le_of_ble_eq_true rfl), (Nat.le_of_ble_eq_true rfl)⟩) (pre0_S (wc := [(h4, .inl (κ 0, 14, .inl (fun _ => 0)))]) hP hK [3] rfl) rfl rfl hl.1 rfl (lv_room (Nat.le_of_ble_eq_true rfl)) dX6_context_46 ⟨(Nat.le_of_ble_eq_true rfl), (Nat.le_of_ble_eq_true rfl)⟩) (fun r hw => ?_)
  rw [hw]
  exact W.iret (v := 0) hx hb hr (fun t ht hW => ⟨0, rfl, rfl, ht⟩) (fun q hq => absurd hq List.not_mem_nil) dX6_context_49

set_option maxHeartbeats 4000000 in
set_option maxRecDepth 100000 in
theorem k_X6_ofContext_2 (l : Launch) (D : va_G) (κ ε : Nat → Nat) (h0 h1 h2 h3 h4 h5 h6 h7 : Nat) (sz : Nat) (p0 : Int32) (hf0 : ¬ p0 < 0) (hf1 : p0 ≤ 1) (hf2 : ¬ p0 = 0) : Met l yX6_ofContext wsX6_ofContext ({ frames := 2, cells := 0, slots := 0, locals := 47 }) (va_Pc [.ref h0, .int 1, .int p0] (Pre2 D κ ε [(h0, .inr (8, [.int 0, .int 0, .int 2, .ref h1, .ref h2, .int 0, .int 500, .int 0, .int 0, .int 0, .ref h3])), (h1, .inr (1, [.int 0, .ref (ε 1), .int 0])), (h2, .inl (κ 4, 4, .inr (.inr (.inr (.inr (sel [h4, h5, h6, h7])))))), (h4, .inl (κ 0, 14, .inl (fun _ => 0)))] sz)) (va_Qi (fun r (u : List Value) => (u[0]? = some (.int 0)) ∧ (r = 0)) (fun u t => va_P D vwCl [(h0, .inr (8, u))] t.heap ∧ va_D (va_A [(h0, .inr (8, [.int 0, .int 0, .int 2, .ref h1, .ref h2, .int 0, .int 500, .int 0, .int 0, .int 0, .ref h3])), (h1, .inr (1, [.int 0, .ref (ε 1), .int 0])), (h2, .inl (κ 4, 4, .inr (.inr (.inr (.inr (sel [h4, h5, h6, h7])))))), (h4, .inl (κ 0, 14, .inl (fun _ => 0)))] sz) [(h0, .inr (8, u))]) (va_A [(h0, .inr (8, [.int 0, .int 0, .int 2, .ref h1, .ref h2, .int 0, .int 500, .int 0, .int 0, .int 0, .ref h3])), (h1, .inr (1, [.int 0, .ref (ε 1), .int 0])), (h2, .inl (κ 4, 4, .inr (.inr (.inr (.inr (sel [h4, h5, h6, h7])))))), (h4, .inl (κ 0, 14, .inl (fun _ => 0)))] sz)) 0 0 (va_A [(h0, .inr (8, [.int 0, .int 0, .int 2, .ref h1, .ref h2, .int 0, .int 500, .int 0, .int 0, .int 0, .ref h3])), (h1, .inr (1, [.int 0, .ref (ε 1), .int 0])), (h2, .inl (κ 4, 4, .inr (.inr (.inr (.inr (sel [h4, h5, h6, h7])))))), (h4, .inl (κ 0, 14, .inl (fun _ => 0)))] sz) := by
  refine Met.ofW (cc := cX6_ofContext) (maxL := 3) (ret := (some .int)) (by decide) rfl ?_
  intro p e s m args below meth c s₁ B hml hv
  obtain ⟨rfl, hsz, hP, hK, hD0, hE9⟩ := hv
  have hx := B.exec
  have hb := B.bytes
  have hr := B.returns
  have hts := atoms_spec (ws := wsX6_ofContext) B.pre
  have hown : s.vm.findClass RX6 = some m.cls := findClass_of_methodNamed B.named
  have hlocks := B.notSynchronized
  subst hsz
  have hD := hD0.self (sz := s.heap.size)
  generalize hAe : va_A [(h0, .inr (8, [.int 0, .int 0, .int 2, .ref h1, .ref h2, .int 0, .int 500, .int 0, .int 0, .int 0, .ref h3])), (h1, .inr (1, [.int 0, .ref (ε 1), .int 0])), (h2, .inl (κ 4, 4, .inr (.inr (.inr (.inr (sel [h4, h5, h6, h7])))))), (h4, .inl (κ 0, 14, .inl (fun _ => 0)))] s.heap.size = A at hD hE9 ⊢
  have hE := hE9.1
  have hDc := hE9.2
  have hA : ∀ q : Nat, s.heap.size ≤ q → A q := fun q h => by rw [← hAe]; exact Or.inr h
  have hS : va_S A s.heap s.heap [] := va_S.rf
  have hP : va_P D vwCl [(h0, .inr (8, [.int 0, .int 0, .int 2, .ref h1, .ref h2, .int 0, .int 500, .int 0, .int 0, .int 0, .ref h3])), (h1, .inr (1, [.int 0, .ref (ε 1), .int 0])), (h2, .inl (κ 4, 4, .inr (.inr (.inr (.inr (sel [h4, h5, h6, h7])))))), (h4, .inl (κ 0, 14, .inl (fun _ => 0)))] s.heap := hP
  have hl := lv_entry [.ref h0, .int 1, .int p0] (n := 3) (Nat.le_of_ble_eq_true rfl)
  rw [lg_entry_eq]
  generalize (lg_sl [.ref h0, .int 1, .int p0] ++ List.replicate (3 - (lg_sl [.ref h0, .int 1, .int p0]).length) Slot.unset).toArray = ls at hl ⊢
  have hl : lv_has ls 3 [(0, .ref h0), (1, .int 1), (2, .int p0)] := hl
  refine lv_aload_n hx hb dX6_ofContext_0 rfl (lv_at hl 0 rfl) ?_
  refine lv_iload_n hx hb dX6_ofContext_1 rfl (lv_at hl 1 rfl) ?_
  refine lv_iconst (v := 1) hx hb dX6_ofContext_2 (by decide) ?_
  refine lv_aload_n hx hb dX6_ofContext_3 rfl (lv_at hl 0 rfl) ?_
  refine va_get (D := D) (ci := 8) (v := .int 2) (C := RX6) (T := TX6) (N := 11) hx hb hts wi_X6_ofContext_RX6 hown hK hP 0 rfl rfl 2 (by decide) (hts _ wd243_X6_ofContext) (fun _ h9 => h9) rfl dX6_ofContext_4 ?_
  refine vp_callSi (W.runS (As := [.int 1, .int 1, .int 2]) (rest := [.ref h0]) ⟨hx, hb, hml, hown, hts⟩ (k_X6_isIn_8 l D κ ε) (va_cwS 3 hts gX6_ofContext_X6_isIn rfl rfl rfl (by decide +kernel) ⟨(Nat.le_of_ble_eq_true rfl), (Nat.le_of_ble_eq_true rfl)⟩) (pre0_S (wc := []) hP hK [] rfl) rfl rfl hl.1 rfl (lv_room (Nat.le_of_ble_eq_true rfl)) dX6_ofContext_7 ⟨(Nat.le_of_ble_eq_true rfl), (Nat.le_of_ble_eq_true rfl)⟩) (fun r hw => ?_)
  rw [hw]
  refine lv_if_eq (tgt := 22) hx hb dX6_ofContext_10 (by decide) (fun h => absurd h (by decide)) (fun _ => ?_)
  refine lv_iload_n hx hb dX6_ofContext_13 rfl (lv_at hl 2 rfl) ?_
  refine lv_iconst (v := 0) hx hb dX6_ofContext_14 (by decide) ?_
  refine lv_iconst (v := 1) hx hb dX6_ofContext_15 (by decide) ?_
  refine vp_callSi (W.runS (As := [.int p0, .int 0, .int 1]) (rest := [.ref h0]) ⟨hx, hb, hml, hown, hts⟩ (k_X6_isIn_14 l D κ ε (p0) hf0 hf1) (va_cwS 3 hts gX6_ofContext_X6_isIn rfl rfl rfl (by decide +kernel) ⟨(Nat.le_of_ble_eq_true rfl), (Nat.le_of_ble_eq_true rfl)⟩) (pre0_S (wc := []) hP hK [] rfl) rfl rfl hl.1 rfl (lv_room (Nat.le_of_ble_eq_true rfl)) dX6_ofContext_16 ⟨(Nat.le_of_ble_eq_true rfl), (Nat.le_of_ble_eq_true rfl)⟩) (fun r hw => ?_)
  rw [hw]
  refine lv_if_ne (tgt := 26) hx hb dX6_ofContext_19 (by decide) (fun _ => ?_) (fun h => absurd h (by decide))
  refine lv_iconst (v := 0) hx hb dX6_ofContext_26 (by decide) ?_
  refine lv_iconst (v := 1) hx hb dX6_ofContext_27 (by decide) ?_
  have hF := va_free (wc := [(h0, .inr (8, [.int 0, .int 0, .int 2, .ref h1, .ref h2, .int 0, .int 500, .int 0, .int 0, .int 0, .ref h3]))]) hD hS hA [0] rfl
  refine va_calli (va_runV (As := [.int 0, .int 1]) (rest := []) ⟨hx, hb, hml, hown, hts⟩ (k_X6_start_0 l D κ ε h0 h1 h2 h3 s.heap.size (0) (2) (0) (500) (0) (0)) (cwV 2 hts gX6_ofContext_X6_start rfl rfl rfl (by decide +kernel) ⟨(Nat.le_of_ble_eq_true rfl), (Nat.le_of_ble_eq_true rfl)⟩) (pre2_V (q0 := 0) (ci := 8) (wc := [(h0, .inr (8, [.int 0, .int 0, .int 2, .ref h1, .ref h2, .int 0, .int 500, .int 0, .int 0, .int 0, .ref h3]))]) hP hD hK hE9 hS hA [0] (by decide) rfl rfl rfl) rfl rfl hl.1 rfl (lv_room (Nat.le_of_ble_eq_true rfl)) dX6_ofContext_28 ⟨(Nat.le_of_ble_eq_true rfl), (Nat.le_of_ble_eq_true rfl)⟩) hS (fun q _ h => hF q h) hF (fun r u1 t H locs ht hvm hw hB hz1 hk1 hS => ?_)
  try dsimp only at hw hB
  obtain ⟨hP1, hD1⟩ := hB
  rw [ht] at hP1
  obtain ⟨hP, hD⟩ := post_j (ws' := [(h0, .inr (8, [.int 0, .int 0, .int 2, .ref h1, .ref h2, .int 0, .int 500, .int 0, .int 0, .int 0, .ref h3])), (h1, .inr (1, [.int 0, .ref (ε 1), .int 0])), (h2, .inl (κ 4, 4, .inr (.inr (.inr (.inr (sel [h4, h5, h6, h7])))))), (h4, .inl (κ 0, 14, .inl (fun _ => 0)))]) (wr := [(h1, .inr (1, [.int 0, .ref (ε 1), .int 0])), (h2, .inl (κ 4, 4, .inr (.inr (.inr (.inr (sel [h4, h5, h6, h7])))))), (h4, .inl (κ 0, 14, .inl (fun _ => 0)))]) (w1 := [(h0, .inr (8, [.int 0, .int 0, .int 2, .ref h1, .ref h2, .int 0, .int 500, .int 0, .int 0, .int 0, .ref h3]))]) hP hD hF [0] rfl [1, 2, 3] rfl (by decide) (by decide) hk1 hP1 hD1 [3, 0, 1, 2] (by decide) rfl
  have hP : va_P D vwCl [(h0, .inr (8, [.int 0, .int 0, .int 2, .ref h1, .ref h2, .int 0, .int 500, .int 0, .int 0, .int 0, .ref h3])), (h1, .inr (1, [.int 0, .ref (ε 1), .int 0])), (h2, .inl (κ 4, 4, .inr (.inr (.inr (.inr (sel [h4, h5, h6, h7])))))), (h4, .inl (κ 0, 14, .inl (fun _ => 0)))] H := hP
  have hD : va_D A [(h0, .inr (8, [.int 0, .int 0, .int 2, .ref h1, .ref h2, .int 0, .int 500, .int 0, .int 0, .int 0, .ref h3])), (h1, .inr (1, [.int 0, .ref (ε 1), .int 0])), (h2, .inl (κ 4, 4, .inr (.inr (.inr (.inr (sel [h4, h5, h6, h7])))))), (h4, .inl (κ 0, 14, .inl (fun _ => 0)))] := hD
  rw [hw]
  refine lv_if_eq (tgt := 38) hx hb dX6_ofContext_31 (by decide) (fun _ => ?_) (fun h => absurd (by decide) h)
  refine lv_aload_n hx hb dX6_ofContext_38 rfl (lv_at hl 0 rfl) ?_
  refine lv_iload_n hx hb dX6_ofContext_39 rfl (lv_at hl 1 rfl) ?_
  refine lv_iload_n hx hb dX6_ofContext_40 rfl (lv_at hl 2 rfl) ?_
  refine vp_callSi (W.runV (As := [.int 1, .int p0]) (rest := []) ⟨hx, hb, hml, hown, hts⟩ (k_X6_context_0 l D κ ε h0 h1 h2 h3 h4 h5 h6 h7 (p0) (0) (0) (2) (0) (500) (0) (0) (0) hf2) (cwV 2 hts gX6_ofContext_X6_context rfl rfl rfl (by decide +kernel) ⟨(Nat.le_of_ble_eq_true rfl), (Nat.le_of_ble_eq_true rfl)⟩) (pre0_V (q0 := 0) (ci := 8) (wc := [(h0, .inr (8, [.int 0, .int 0, .int 2, .ref h1, .ref h2, .int 0, .int 500, .int 0, .int 0, .int 0, .ref h3])), (h1, .inr (1, [.int 0, .ref (ε 1), .int 0])), (h2, .inl (κ 4, 4, .inr (.inr (.inr (.inr (sel [h4, h5, h6, h7])))))), (h4, .inl (κ 0, 14, .inl (fun _ => 0)))]) hP hK [0, 1, 2, 3] rfl rfl rfl) rfl rfl hl.1 rfl (lv_room (Nat.le_of_ble_eq_true rfl)) dX6_ofContext_41 ⟨(Nat.le_of_ble_eq_true rfl), (Nat.le_of_ble_eq_true rfl)⟩) (fun r hw => ?_)
  rw [hw]
  have hP9 := hP.sub (ws' := [(h0, .inr (8, [.int 0, .int 0, .int 2, .ref h1, .ref h2, .int 0, .int 500, .int 0, .int 0, .int 0, .ref h3]))]) [0] rfl
  have hD9 := hD.sub (ws' := [(h0, .inr (8, [.int 0, .int 0, .int 2, .ref h1, .ref h2, .int 0, .int 500, .int 0, .int 0, .int 0, .ref h3]))]) [0] (by decide) rfl
  exact W.iret (v := 0) hx hb hr (fun t ht hW => ⟨⟨0, [.int 0, .int 0, .int 2, .ref h1, .ref h2, .int 0, .int 500, .int 0, .int 0, .int 0, .ref h3], rfl, ⟨rfl, rfl⟩, by rw [ht]; exact hP9, hD9⟩, hS.F ht⟩) hS.2.2 dX6_ofContext_44

set_option maxHeartbeats 4000000 in
set_option maxRecDepth 100000 in
theorem k_X6_isIn_15 (l : Launch) (D : va_G) (κ ε : Nat → Nat) : Met l yX6_isIn wsX6_isIn ({ frames := 0, cells := 0, slots := 0, locals := 0 }) (va_Pc [.int 0, .int 0, .int 1] (Pre0 D κ [])) (vp_Si (fun r => (r = 1))) 0 0 (fun _ => False) := by
  refine Met.ofW (cc := cX6_isIn) (maxL := 3) (ret := (some .boolean)) (by decide) rfl ?_
  intro p e s m args below meth c s₁ B hml hv
  obtain ⟨rfl, hP, hK⟩ := hv
  have hx := B.exec
  have hb := B.bytes
  have hr := B.returns
  have hts := atoms_spec (ws := wsX6_isIn) B.pre
  have hown : s.vm.findClass RX6 = some m.cls := findClass_of_methodNamed B.named
  have hlocks := B.notSynchronized
  have hP : va_P D vwCl [] s.heap := hP
  have hl := lv_entry [.int 0, .int 0, .int 1] (n := 3) (Nat.le_of_ble_eq_true rfl)
  rw [lg_entry_eq]
  generalize (lg_sl [.int 0, .int 0, .int 1] ++ List.replicate (3 - (lg_sl [.int 0, .int 0, .int 1]).length) Slot.unset).toArray = ls at hl ⊢
  have hl : lv_has ls 3 [(0, .int 0), (1, .int 0), (2, .int 1)] := hl
  refine lv_iload_n hx hb dX6_isIn_0 rfl (lv_at hl 0 rfl) ?_
  refine lv_iload_n hx hb dX6_isIn_1 rfl (lv_at hl 1 rfl) ?_
  refine lv_icmp_lt (tgt := 14) hx hb dX6_isIn_2 (by decide) (fun h => absurd h (by decide)) (fun _ => ?_)
  refine lv_iload_n hx hb dX6_isIn_5 rfl (lv_at hl 0 rfl) ?_
  refine lv_iload_n hx hb dX6_isIn_6 rfl (lv_at hl 2 rfl) ?_
  refine lv_icmp_gt (tgt := 14) hx hb dX6_isIn_7 (by decide) (fun h => absurd h (by decide)) (fun _ => ?_)
  refine lv_iconst (v := 1) hx hb dX6_isIn_10 (by decide) ?_
  refine lv_goto (tgt := 15) hx hb dX6_isIn_11 (by decide) ?_
  exact W.zret (v := 1) hx hb hr rfl (fun t ht hW => ⟨1, rfl, rfl, ht⟩) (fun q hq => absurd hq List.not_mem_nil) dX6_isIn_15

set_option maxHeartbeats 4000000 in
set_option maxRecDepth 100000 in
theorem k_X6_sum_0 (l : Launch) (D : va_G) (κ ε : Nat → Nat) (h0 : Nat) : Met l yX6_sum wsX6_sum ({ frames := 0, cells := 0, slots := 0, locals := 0 }) (va_Pc [.ref h0, .int 0] (Pre0 D κ [(h0, .inl (κ 0, 14, .inl (fun _ => 0)))])) (vp_Si (fun r => (r = 0))) 0 0 (fun _ => False) := by
  refine Met.ofW (cc := cX6_sum) (maxL := 4) (ret := (some .int)) (by decide) rfl ?_
  intro p e s m args below meth c s₁ B hml hv
  obtain ⟨rfl, hP, hK⟩ := hv
  have hx := B.exec
  have hb := B.bytes
  have hr := B.returns
  have hts := atoms_spec (ws := wsX6_sum) B.pre
  have hown : s.vm.findClass RX6 = some m.cls := findClass_of_methodNamed B.named
  have hlocks := B.notSynchronized
  have hP : va_P D vwCl [(h0, .inl (κ 0, 14, .inl (fun _ => 0)))] s.heap := hP
  have hl := lv_entry [.ref h0, .int 0] (n := 4) (Nat.le_of_ble_eq_true rfl)
  rw [lg_entry_eq]
  generalize (lg_sl [.ref h0, .int 0] ++ List.replicate (4 - (lg_sl [.ref h0, .int 0]).length) Slot.unset).toArray = ls at hl ⊢
  have hl : lv_has ls 4 [(0, .ref h0), (1, .int 0)] := hl
  refine lv_iconst (v := 0) hx hb dX6_sum_0 (by decide) ?_
  refine lv_istore_n (lv' := [(2, .int 0), (0, .ref h0), (1, .int 0)]) hx hb dX6_sum_1 rfl hl (by decide) rfl (fun ls hl => ?_)
  refine lv_iconst (v := 0) hx hb dX6_sum_2 (by decide) ?_
  refine lv_istore_n (lv' := [(3, .int 0), (2, .int 0), (0, .ref h0), (1, .int 0)]) hx hb dX6_sum_3 rfl hl (by decide) rfl (fun ls hl => ?_)
  refine lv_iload_n hx hb dX6_sum_4 rfl (lv_at hl 0 rfl) ?_
  refine lv_bipush (v := 14) hx hb dX6_sum_5 (by decide) ?_
  refine lv_icmp_ge (tgt := 27) hx hb dX6_sum_7 (by decide) (fun h => absurd h (by decide)) (fun _ => ?_)
  refine lv_iload_n hx hb dX6_sum_10 rfl (lv_at hl 1 rfl) ?_
  refine lv_aload_n hx hb dX6_sum_11 rfl (lv_at hl 2 rfl) ?_
  refine lv_iload_n hx hb dX6_sum_12 rfl (lv_at hl 3 rfl) ?_
  refine lv_bipush (v := 14) hx hb dX6_sum_13 (by decide) ?_
  refine lv_imul hx hb dX6_sum_15 ?_
  refine tpi (v := 0) (by decide) ?_
  refine lv_iload_n hx hb dX6_sum_16 rfl (lv_at hl 0 rfl) ?_
  refine lv_iadd hx hb dX6_sum_17 ?_
  refine tpi (v := 0) (by decide) ?_
  refine va_iald (cA := κ 0) (n := 14) (f := (fun _ => 0)) hx hb hK hP 0 0 rfl rfl (vpl (by decide)) dX6_sum_18 ?_
  refine tpi (v := 0) (by decide) ?_
  refine lv_iadd hx hb dX6_sum_19 ?_
  refine tpi (v := 0) (by decide) ?_
  refine lv_istore_n (lv' := [(2, .int 0), (3, .int 0), (0, .ref h0), (1, .int 0)]) hx hb dX6_sum_20 rfl hl (by decide) rfl (fun ls hl => ?_)
  refine lv_iinc (v := 1) (lv' := [(3, .int 1), (2, .int 0), (0, .ref h0), (1, .int 0)]) hx hb dX6_sum_21 hl (k := 1) rfl (by decide) (by decide) rfl (fun ls hl => ?_)
  refine lv_goto (tgt := 4) hx hb dX6_sum_24 (by decide) ?_
  refine lv_iload_n hx hb dX6_sum_4 rfl (lv_at hl 0 rfl) ?_
  refine lv_bipush (v := 14) hx hb dX6_sum_5 (by decide) ?_
  refine lv_icmp_ge (tgt := 27) hx hb dX6_sum_7 (by decide) (fun h => absurd h (by decide)) (fun _ => ?_)
  refine lv_iload_n hx hb dX6_sum_10 rfl (lv_at hl 1 rfl) ?_
  refine lv_aload_n hx hb dX6_sum_11 rfl (lv_at hl 2 rfl) ?_
  refine lv_iload_n hx hb dX6_sum_12 rfl (lv_at hl 3 rfl) ?_
  refine lv_bipush (v := 14) hx hb dX6_sum_13 (by decide) ?_
  refine lv_imul hx hb dX6_sum_15 ?_
  refine tpi (v := 0) (by decide) ?_
  refine lv_iload_n hx hb dX6_sum_16 rfl (lv_at hl 0 rfl) ?_
  refine lv_iadd hx hb dX6_sum_17 ?_
  refine tpi (v := 1) (by decide) ?_
  refine va_iald (cA := κ 0) (n := 14) (f := (fun _ => 0)) hx hb hK hP 0 0 rfl rfl (vpl (by decide)) dX6_sum_18 ?_
  refine tpi (v := 0) (by decide) ?_
  refine lv_iadd hx hb dX6_sum_19 ?_
  refine tpi (v := 0) (by decide) ?_
  refine lv_istore_n (lv' := [(2, .int 0), (3, .int 1), (0, .ref h0), (1, .int 0)]) hx hb dX6_sum_20 rfl hl (by decide) rfl (fun ls hl => ?_)
  refine lv_iinc (v := 2) (lv' := [(3, .int 2), (2, .int 0), (0, .ref h0), (1, .int 0)]) hx hb dX6_sum_21 hl (k := 1) rfl (by decide) (by decide) rfl (fun ls hl => ?_)
  refine lv_goto (tgt := 4) hx hb dX6_sum_24 (by decide) ?_
  refine lv_iload_n hx hb dX6_sum_4 rfl (lv_at hl 0 rfl) ?_
  refine lv_bipush (v := 14) hx hb dX6_sum_5 (by decide) ?_
  refine lv_icmp_ge (tgt := 27) hx hb dX6_sum_7 (by decide) (fun h => absurd h (by decide)) (fun _ => ?_)
  refine lv_iload_n hx hb dX6_sum_10 rfl (lv_at hl 1 rfl) ?_
  refine lv_aload_n hx hb dX6_sum_11 rfl (lv_at hl 2 rfl) ?_
  refine lv_iload_n hx hb dX6_sum_12 rfl (lv_at hl 3 rfl) ?_
  refine lv_bipush (v := 14) hx hb dX6_sum_13 (by decide) ?_
  refine lv_imul hx hb dX6_sum_15 ?_
  refine tpi (v := 0) (by decide) ?_
  refine lv_iload_n hx hb dX6_sum_16 rfl (lv_at hl 0 rfl) ?_
  refine lv_iadd hx hb dX6_sum_17 ?_
  refine tpi (v := 2) (by decide) ?_
  refine va_iald (cA := κ 0) (n := 14) (f := (fun _ => 0)) hx hb hK hP 0 0 rfl rfl (vpl (by decide)) dX6_sum_18 ?_
  refine tpi (v := 0) (by decide) ?_
  refine lv_iadd hx hb dX6_sum_19 ?_
  refine tpi (v := 0) (by decide) ?_
  refine lv_istore_n (lv' := [(2, .int 0), (3, .int 2), (0, .ref h0), (1, .int 0)]) hx hb dX6_sum_20 rfl hl (by decide) rfl (fun ls hl => ?_)
  refine lv_iinc (v := 3) (lv' := [(3, .int 3), (2, .int 0), (0, .ref h0), (1, .int 0)]) hx hb dX6_sum_21 hl (k := 1) rfl (by decide) (by decide) rfl (fun ls hl => ?_)
  refine lv_goto (tgt := 4) hx hb dX6_sum_24 (by decide) ?_
  refine lv_iload_n hx hb dX6_sum_4 rfl (lv_at hl 0 rfl) ?_
  refine lv_bipush (v := 14) hx hb dX6_sum_5 (by decide) ?_
  refine lv_icmp_ge (tgt := 27) hx hb dX6_sum_7 (by decide) (fun h => absurd h (by decide)) (fun _ => ?_)
  refine lv_iload_n hx hb dX6_sum_10 rfl (lv_at hl 1 rfl) ?_
  refine lv_aload_n hx hb dX6_sum_11 rfl (lv_at hl 2 rfl) ?_
  refine lv_iload_n hx hb dX6_sum_12 rfl (lv_at hl 3 rfl) ?_
  refine lv_bipush (v := 14) hx hb dX6_sum_13 (by decide) ?_
  refine lv_imul hx hb dX6_sum_15 ?_
  refine tpi (v := 0) (by decide) ?_
  refine lv_iload_n hx hb dX6_sum_16 rfl (lv_at hl 0 rfl) ?_
  refine lv_iadd hx hb dX6_sum_17 ?_
  refine tpi (v := 3) (by decide) ?_
  refine va_iald (cA := κ 0) (n := 14) (f := (fun _ => 0)) hx hb hK hP 0 0 rfl rfl (vpl (by decide)) dX6_sum_18 ?_
  refine tpi (v := 0) (by decide) ?_
  refine lv_iadd hx hb dX6_sum_19 ?_
  refine tpi (v := 0) (by decide) ?_
  refine lv_istore_n (lv' := [(2, .int 0), (3, .int 3), (0, .ref h0), (1, .int 0)]) hx hb dX6_sum_20 rfl hl (by decide) rfl (fun ls hl => ?_)
  refine lv_iinc (v := 4) (lv' := [(3, .int 4), (2, .int 0), (0, .ref h0), (1, .int 0)]) hx hb dX6_sum_21 hl (k := 1) rfl (by decide) (by decide) rfl (fun ls hl => ?_)
  refine lv_goto (tgt := 4) hx hb dX6_sum_24 (by decide) ?_
  refine lv_iload_n hx hb dX6_sum_4 rfl (lv_at hl 0 rfl) ?_
  refine lv_bipush (v := 14) hx hb dX6_sum_5 (by decide) ?_
  refine lv_icmp_ge (tgt := 27) hx hb dX6_sum_7 (by decide) (fun h => absurd h (by decide)) (fun _ => ?_)
  refine lv_iload_n hx hb dX6_sum_10 rfl (lv_at hl 1 rfl) ?_
  refine lv_aload_n hx hb dX6_sum_11 rfl (lv_at hl 2 rfl) ?_
  refine lv_iload_n hx hb dX6_sum_12 rfl (lv_at hl 3 rfl) ?_
  refine lv_bipush (v := 14) hx hb dX6_sum_13 (by decide) ?_
  refine lv_imul hx hb dX6_sum_15 ?_
  refine tpi (v := 0) (by decide) ?_
  refine lv_iload_n hx hb dX6_sum_16 rfl (lv_at hl 0 rfl) ?_
  refine lv_iadd hx hb dX6_sum_17 ?_
  refine tpi (v := 4) (by decide) ?_
  refine va_iald (cA := κ 0) (n := 14) (f := (fun _ => 0)) hx hb hK hP 0 0 rfl rfl (vpl (by decide)) dX6_sum_18 ?_
  refine tpi (v := 0) (by decide) ?_
  refine lv_iadd hx hb dX6_sum_19 ?_
  refine tpi (v := 0) (by decide) ?_
  refine lv_istore_n (lv' := [(2, .int 0), (3, .int 4), (0, .ref h0), (1, .int 0)]) hx hb dX6_sum_20 rfl hl (by decide) rfl (fun ls hl => ?_)
  refine lv_iinc (v := 5) (lv' := [(3, .int 5), (2, .int 0), (0, .ref h0), (1, .int 0)]) hx hb dX6_sum_21 hl (k := 1) rfl (by decide) (by decide) rfl (fun ls hl => ?_)
  refine lv_goto (tgt := 4) hx hb dX6_sum_24 (by decide) ?_
  refine lv_iload_n hx hb dX6_sum_4 rfl (lv_at hl 0 rfl) ?_
  refine lv_bipush (v := 14) hx hb dX6_sum_5 (by decide) ?_
  refine lv_icmp_ge (tgt := 27) hx hb dX6_sum_7 (by decide) (fun h => absurd h (by decide)) (fun _ => ?_)
  refine lv_iload_n hx hb dX6_sum_10 rfl (lv_at hl 1 rfl) ?_
  refine lv_aload_n hx hb dX6_sum_11 rfl (lv_at hl 2 rfl) ?_
  refine lv_iload_n hx hb dX6_sum_12 rfl (lv_at hl 3 rfl) ?_
  refine lv_bipush (v := 14) hx hb dX6_sum_13 (by decide) ?_
  refine lv_imul hx hb dX6_sum_15 ?_
  refine tpi (v := 0) (by decide) ?_
  refine lv_iload_n hx hb dX6_sum_16 rfl (lv_at hl 0 rfl) ?_
  refine lv_iadd hx hb dX6_sum_17 ?_
  refine tpi (v := 5) (by decide) ?_
  refine va_iald (cA := κ 0) (n := 14) (f := (fun _ => 0)) hx hb hK hP 0 0 rfl rfl (vpl (by decide)) dX6_sum_18 ?_
  refine tpi (v := 0) (by decide) ?_
  refine lv_iadd hx hb dX6_sum_19 ?_
  refine tpi (v := 0) (by decide) ?_
  refine lv_istore_n (lv' := [(2, .int 0), (3, .int 5), (0, .ref h0), (1, .int 0)]) hx hb dX6_sum_20 rfl hl (by decide) rfl (fun ls hl => ?_)
  refine lv_iinc (v := 6) (lv' := [(3, .int 6), (2, .int 0), (0, .ref h0), (1, .int 0)]) hx hb dX6_sum_21 hl (k := 1) rfl (by decide) (by decide) rfl (fun ls hl => ?_)
  refine lv_goto (tgt := 4) hx hb dX6_sum_24 (by decide) ?_
  refine lv_iload_n hx hb dX6_sum_4 rfl (lv_at hl 0 rfl) ?_
  refine lv_bipush (v := 14) hx hb dX6_sum_5 (by decide) ?_
  refine lv_icmp_ge (tgt := 27) hx hb dX6_sum_7 (by decide) (fun h => absurd h (by decide)) (fun _ => ?_)
  refine lv_iload_n hx hb dX6_sum_10 rfl (lv_at hl 1 rfl) ?_
  refine lv_aload_n hx hb dX6_sum_11 rfl (lv_at hl 2 rfl) ?_
  refine lv_iload_n hx hb dX6_sum_12 rfl (lv_at hl 3 rfl) ?_
  refine lv_bipush (v := 14) hx hb dX6_sum_13 (by decide) ?_
  refine lv_imul hx hb dX6_sum_15 ?_
  refine tpi (v := 0) (by decide) ?_
  refine lv_iload_n hx hb dX6_sum_16 rfl (lv_at hl 0 rfl) ?_
  refine lv_iadd hx hb dX6_sum_17 ?_
  refine tpi (v := 6) (by decide) ?_
  refine va_iald (cA := κ 0) (n := 14) (f := (fun _ => 0)) hx hb hK hP 0 0 rfl rfl (vpl (by decide)) dX6_sum_18 ?_
  refine tpi (v := 0) (by decide) ?_
  refine lv_iadd hx hb dX6_sum_19 ?_
  refine tpi (v := 0) (by decide) ?_
  refine lv_istore_n (lv' := [(2, .int 0), (3, .int 6), (0, .ref h0), (1, .int 0)]) hx hb dX6_sum_20 rfl hl (by decide) rfl (fun ls hl => ?_)
  refine lv_iinc (v := 7) (lv' := [(3, .int 7), (2, .int 0), (0, .ref h0), (1, .int 0)]) hx hb dX6_sum_21 hl (k := 1) rfl (by decide) (by decide) rfl (fun ls hl => ?_)
  refine lv_goto (tgt := 4) hx hb dX6_sum_24 (by decide) ?_
  refine lv_iload_n hx hb dX6_sum_4 rfl (lv_at hl 0 rfl) ?_
  refine lv_bipush (v := 14) hx hb dX6_sum_5 (by decide) ?_
  refine lv_icmp_ge (tgt := 27) hx hb dX6_sum_7 (by decide) (fun h => absurd h (by decide)) (fun _ => ?_)
  refine lv_iload_n hx hb dX6_sum_10 rfl (lv_at hl 1 rfl) ?_
  refine lv_aload_n hx hb dX6_sum_11 rfl (lv_at hl 2 rfl) ?_
  refine lv_iload_n hx hb dX6_sum_12 rfl (lv_at hl 3 rfl) ?_
  refine lv_bipush (v := 14) hx hb dX6_sum_13 (by decide) ?_
  refine lv_imul hx hb dX6_sum_15 ?_
  refine tpi (v := 0) (by decide) ?_
  refine lv_iload_n hx hb dX6_sum_16 rfl (lv_at hl 0 rfl) ?_
  refine lv_iadd hx hb dX6_sum_17 ?_
  refine tpi (v := 7) (by decide) ?_
  refine va_iald (cA := κ 0) (n := 14) (f := (fun _ => 0)) hx hb hK hP 0 0 rfl rfl (vpl (by decide)) dX6_sum_18 ?_
  refine tpi (v := 0) (by decide) ?_
  refine lv_iadd hx hb dX6_sum_19 ?_
  refine tpi (v := 0) (by decide) ?_
  refine lv_istore_n (lv' := [(2, .int 0), (3, .int 7), (0, .ref h0), (1, .int 0)]) hx hb dX6_sum_20 rfl hl (by decide) rfl (fun ls hl => ?_)
  refine lv_iinc (v := 8) (lv' := [(3, .int 8), (2, .int 0), (0, .ref h0), (1, .int 0)]) hx hb dX6_sum_21 hl (k := 1) rfl (by decide) (by decide) rfl (fun ls hl => ?_)
  refine lv_goto (tgt := 4) hx hb dX6_sum_24 (by decide) ?_
  refine lv_iload_n hx hb dX6_sum_4 rfl (lv_at hl 0 rfl) ?_
  refine lv_bipush (v := 14) hx hb dX6_sum_5 (by decide) ?_
  refine lv_icmp_ge (tgt := 27) hx hb dX6_sum_7 (by decide) (fun h => absurd h (by decide)) (fun _ => ?_)
  refine lv_iload_n hx hb dX6_sum_10 rfl (lv_at hl 1 rfl) ?_
  refine lv_aload_n hx hb dX6_sum_11 rfl (lv_at hl 2 rfl) ?_
  refine lv_iload_n hx hb dX6_sum_12 rfl (lv_at hl 3 rfl) ?_
  refine lv_bipush (v := 14) hx hb dX6_sum_13 (by decide) ?_
  refine lv_imul hx hb dX6_sum_15 ?_
  refine tpi (v := 0) (by decide) ?_
  refine lv_iload_n hx hb dX6_sum_16 rfl (lv_at hl 0 rfl) ?_
  refine lv_iadd hx hb dX6_sum_17 ?_
  refine tpi (v := 8) (by decide) ?_
  refine va_iald (cA := κ 0) (n := 14) (f := (fun _ => 0)) hx hb hK hP 0 0 rfl rfl (vpl (by decide)) dX6_sum_18 ?_
  refine tpi (v := 0) (by decide) ?_
  refine lv_iadd hx hb dX6_sum_19 ?_
  refine tpi (v := 0) (by decide) ?_
  refine lv_istore_n (lv' := [(2, .int 0), (3, .int 8), (0, .ref h0), (1, .int 0)]) hx hb dX6_sum_20 rfl hl (by decide) rfl (fun ls hl => ?_)
  refine lv_iinc (v := 9) (lv' := [(3, .int 9), (2, .int 0), (0, .ref h0), (1, .int 0)]) hx hb dX6_sum_21 hl (k := 1) rfl (by decide) (by decide) rfl (fun ls hl => ?_)
  refine lv_goto (tgt := 4) hx hb dX6_sum_24 (by decide) ?_
  refine lv_iload_n hx hb dX6_sum_4 rfl (lv_at hl 0 rfl) ?_
  refine lv_bipush (v := 14) hx hb dX6_sum_5 (by decide) ?_
  refine lv_icmp_ge (tgt := 27) hx hb dX6_sum_7 (by decide) (fun h => absurd h (by decide)) (fun _ => ?_)
  refine lv_iload_n hx hb dX6_sum_10 rfl (lv_at hl 1 rfl) ?_
  refine lv_aload_n hx hb dX6_sum_11 rfl (lv_at hl 2 rfl) ?_
  refine lv_iload_n hx hb dX6_sum_12 rfl (lv_at hl 3 rfl) ?_
  refine lv_bipush (v := 14) hx hb dX6_sum_13 (by decide) ?_
  refine lv_imul hx hb dX6_sum_15 ?_
  refine tpi (v := 0) (by decide) ?_
  refine lv_iload_n hx hb dX6_sum_16 rfl (lv_at hl 0 rfl) ?_
  refine lv_iadd hx hb dX6_sum_17 ?_
  refine tpi (v := 9) (by decide) ?_
  refine va_iald (cA := κ 0) (n := 14) (f := (fun _ => 0)) hx hb hK hP 0 0 rfl rfl (vpl (by decide)) dX6_sum_18 ?_
  refine tpi (v := 0) (by decide) ?_
  refine lv_iadd hx hb dX6_sum_19 ?_
  refine tpi (v := 0) (by decide) ?_
  refine lv_istore_n (lv' := [(2, .int 0), (3, .int 9), (0, .ref h0), (1, .int 0)]) hx hb dX6_sum_20 rfl hl (by decide) rfl (fun ls hl => ?_)
  refine lv_iinc (v := 10) (lv' := [(3, .int 10), (2, .int 0), (0, .ref h0), (1, .int 0)]) hx hb dX6_sum_21 hl (k := 1) rfl (by decide) (by decide) rfl (fun ls hl => ?_)
  refine lv_goto (tgt := 4) hx hb dX6_sum_24 (by decide) ?_
  refine lv_iload_n hx hb dX6_sum_4 rfl (lv_at hl 0 rfl) ?_
  refine lv_bipush (v := 14) hx hb dX6_sum_5 (by decide) ?_
  refine lv_icmp_ge (tgt := 27) hx hb dX6_sum_7 (by decide) (fun h => absurd h (by decide)) (fun _ => ?_)
  refine lv_iload_n hx hb dX6_sum_10 rfl (lv_at hl 1 rfl) ?_
  refine lv_aload_n hx hb dX6_sum_11 rfl (lv_at hl 2 rfl) ?_
  refine lv_iload_n hx hb dX6_sum_12 rfl (lv_at hl 3 rfl) ?_
  refine lv_bipush (v := 14) hx hb dX6_sum_13 (by decide) ?_
  refine lv_imul hx hb dX6_sum_15 ?_
  refine tpi (v := 0) (by decide) ?_
  refine lv_iload_n hx hb dX6_sum_16 rfl (lv_at hl 0 rfl) ?_
  refine lv_iadd hx hb dX6_sum_17 ?_
  refine tpi (v := 10) (by decide) ?_
  refine va_iald (cA := κ 0) (n := 14) (f := (fun _ => 0)) hx hb hK hP 0 0 rfl rfl (vpl (by decide)) dX6_sum_18 ?_
  refine tpi (v := 0) (by decide) ?_
  refine lv_iadd hx hb dX6_sum_19 ?_
  refine tpi (v := 0) (by decide) ?_
  refine lv_istore_n (lv' := [(2, .int 0), (3, .int 10), (0, .ref h0), (1, .int 0)]) hx hb dX6_sum_20 rfl hl (by decide) rfl (fun ls hl => ?_)
  refine lv_iinc (v := 11) (lv' := [(3, .int 11), (2, .int 0), (0, .ref h0), (1, .int 0)]) hx hb dX6_sum_21 hl (k := 1) rfl (by decide) (by decide) rfl (fun ls hl => ?_)
  refine lv_goto (tgt := 4) hx hb dX6_sum_24 (by decide) ?_
  refine lv_iload_n hx hb dX6_sum_4 rfl (lv_at hl 0 rfl) ?_
  refine lv_bipush (v := 14) hx hb dX6_sum_5 (by decide) ?_
  refine lv_icmp_ge (tgt := 27) hx hb dX6_sum_7 (by decide) (fun h => absurd h (by decide)) (fun _ => ?_)
  refine lv_iload_n hx hb dX6_sum_10 rfl (lv_at hl 1 rfl) ?_
  refine lv_aload_n hx hb dX6_sum_11 rfl (lv_at hl 2 rfl) ?_
  refine lv_iload_n hx hb dX6_sum_12 rfl (lv_at hl 3 rfl) ?_
  refine lv_bipush (v := 14) hx hb dX6_sum_13 (by decide) ?_
  refine lv_imul hx hb dX6_sum_15 ?_
  refine tpi (v := 0) (by decide) ?_
  refine lv_iload_n hx hb dX6_sum_16 rfl (lv_at hl 0 rfl) ?_
  refine lv_iadd hx hb dX6_sum_17 ?_
  refine tpi (v := 11) (by decide) ?_
  refine va_iald (cA := κ 0) (n := 14) (f := (fun _ => 0)) hx hb hK hP 0 0 rfl rfl (vpl (by decide)) dX6_sum_18 ?_
  refine tpi (v := 0) (by decide) ?_
  refine lv_iadd hx hb dX6_sum_19 ?_
  refine tpi (v := 0) (by decide) ?_
  refine lv_istore_n (lv' := [(2, .int 0), (3, .int 11), (0, .ref h0), (1, .int 0)]) hx hb dX6_sum_20 rfl hl (by decide) rfl (fun ls hl => ?_)
  refine lv_iinc (v := 12) (lv' := [(3, .int 12), (2, .int 0), (0, .ref h0), (1, .int 0)]) hx hb dX6_sum_21 hl (k := 1) rfl (by decide) (by decide) rfl (fun ls hl => ?_)
  refine lv_goto (tgt := 4) hx hb dX6_sum_24 (by decide) ?_
  refine lv_iload_n hx hb dX6_sum_4 rfl (lv_at hl 0 rfl) ?_
  refine lv_bipush (v := 14) hx hb dX6_sum_5 (by decide) ?_
  refine lv_icmp_ge (tgt := 27) hx hb dX6_sum_7 (by decide) (fun h => absurd h (by decide)) (fun _ => ?_)
  refine lv_iload_n hx hb dX6_sum_10 rfl (lv_at hl 1 rfl) ?_
  refine lv_aload_n hx hb dX6_sum_11 rfl (lv_at hl 2 rfl) ?_
  refine lv_iload_n hx hb dX6_sum_12 rfl (lv_at hl 3 rfl) ?_
  refine lv_bipush (v := 14) hx hb dX6_sum_13 (by decide) ?_
  refine lv_imul hx hb dX6_sum_15 ?_
  refine tpi (v := 0) (by decide) ?_
  refine lv_iload_n hx hb dX6_sum_16 rfl (lv_at hl 0 rfl) ?_
  refine lv_iadd hx hb dX6_sum_17 ?_
  refine tpi (v := 12) (by decide) ?_
  refine va_iald (cA := κ 0) (n := 14) (f := (fun _ => 0)) hx hb hK hP 0 0 rfl rfl (vpl (by decide)) dX6_sum_18 ?_
  refine tpi (v := 0) (by decide) ?_
  refine lv_iadd hx hb dX6_sum_19 ?_
  refine tpi (v := 0) (by decide) ?_
  refine lv_istore_n (lv' := [(2, .int 0), (3, .int 12), (0, .ref h0), (1, .int 0)]) hx hb dX6_sum_20 rfl hl (by decide) rfl (fun ls hl => ?_)
  refine lv_iinc (v := 13) (lv' := [(3, .int 13), (2, .int 0), (0, .ref h0), (1, .int 0)]) hx hb dX6_sum_21 hl (k := 1) rfl (by decide) (by decide) rfl (fun ls hl => ?_)
  refine lv_goto (tgt := 4) hx hb dX6_sum_24 (by decide) ?_
  refine lv_iload_n hx hb dX6_sum_4 rfl (lv_at hl 0 rfl) ?_
  refine lv_bipush (v := 14) hx hb dX6_sum_5 (by decide) ?_
  refine lv_icmp_ge (tgt := 27) hx hb dX6_sum_7 (by decide) (fun h => absurd h (by decide)) (fun _ => ?_)
  refine lv_iload_n hx hb dX6_sum_10 rfl (lv_at hl 1 rfl) ?_
  refine lv_aload_n hx hb dX6_sum_11 rfl (lv_at hl 2 rfl) ?_
  refine lv_iload_n hx hb dX6_sum_12 rfl (lv_at hl 3 rfl) ?_
  refine lv_bipush (v := 14) hx hb dX6_sum_13 (by decide) ?_
  refine lv_imul hx hb dX6_sum_15 ?_
  refine tpi (v := 0) (by decide) ?_
  refine lv_iload_n hx hb dX6_sum_16 rfl (lv_at hl 0 rfl) ?_
  refine lv_iadd hx hb dX6_sum_17 ?_
  refine tpi (v := 13) (by decide) ?_
  refine va_iald (cA := κ 0) (n := 14) (f := (fun _ => 0)) hx hb hK hP 0 0 rfl rfl (vpl (by decide)) dX6_sum_18 ?_
  refine tpi (v := 0) (by decide) ?_
  refine lv_iadd hx hb dX6_sum_19 ?_
  refine tpi (v := 0) (by decide) ?_
  refine lv_istore_n (lv' := [(2, .int 0), (3, .int 13), (0, .ref h0), (1, .int 0)]) hx hb dX6_sum_20 rfl hl (by decide) rfl (fun ls hl => ?_)
  refine lv_iinc (v := 14) (lv' := [(3, .int 14), (2, .int 0), (0, .ref h0), (1, .int 0)]) hx hb dX6_sum_21 hl (k := 1) rfl (by decide) (by decide) rfl (fun ls hl => ?_)
  refine lv_goto (tgt := 4) hx hb dX6_sum_24 (by decide) ?_
  refine lv_iload_n hx hb dX6_sum_4 rfl (lv_at hl 0 rfl) ?_
  refine lv_bipush (v := 14) hx hb dX6_sum_5 (by decide) ?_
  refine lv_icmp_ge (tgt := 27) hx hb dX6_sum_7 (by decide) (fun _ => ?_) (fun h => absurd (by decide) h)
  refine lv_iload_n hx hb dX6_sum_27 rfl (lv_at hl 1 rfl) ?_
  exact W.iret (v := 0) hx hb hr (fun t ht hW => ⟨0, rfl, rfl, ht⟩) (fun q hq => absurd hq List.not_mem_nil) dX6_sum_28

set_option maxHeartbeats 4000000 in
set_option maxRecDepth 100000 in
theorem k_X6_context_1 (l : Launch) (D : va_G) (κ ε : Nat → Nat) (h0 h1 h2 h3 h4 h5 h6 h7 : Nat) (p0 : Int32) (p1 : Int32) (p2 : Int32) (p3 : Int32) (p4 : Int32) (p5 : Int32) (p6 : Int32) (p7 : Int32) : Met l yX6_context wsX6_context ({ frames := 1, cells := 0, slots := 0, locals := 24 }) (va_Pc [.ref h0, .int 1, .int 0] (Pre0 D κ [(h0, .inr (8, [.int p0, .int p1, .int p2, .ref h1, .ref h2, .int p3, .int p4, .int p5, .int p6, .int 0, .ref h3])), (h1, .inr (1, [.int p7, .ref (ε 1), .int 0])), (h2, .inl (κ 4, 4, .inr (.inr (.inr (.inr (sel [h4, h5, h6, h7])))))), (h4, .inl (κ 0, 14, .inl (fun _ => 0)))])) (vp_Si (fun r => (r = 0))) 0 0 (fun _ => False) := by
  refine Met.ofW (cc := cX6_context) (maxL := 4) (ret := (some .int)) (by decide) rfl ?_
  intro p e s m args below meth c s₁ B hml hv
  obtain ⟨rfl, hP, hK⟩ := hv
  have hx := B.exec
  have hb := B.bytes
  have hr := B.returns
  have hts := atoms_spec (ws := wsX6_context) B.pre
  have hown : s.vm.findClass RX6 = some m.cls := findClass_of_methodNamed B.named
  have hlocks := B.notSynchronized
  have hP : va_P D vwCl [(h0, .inr (8, [.int p0, .int p1, .int p2, .ref h1, .ref h2, .int p3, .int p4, .int p5, .int p6, .int 0, .ref h3])), (h1, .inr (1, [.int p7, .ref (ε 1), .int 0])), (h2, .inl (κ 4, 4, .inr (.inr (.inr (.inr (sel [h4, h5, h6, h7])))))), (h4, .inl (κ 0, 14, .inl (fun _ => 0)))] s.heap := hP
  have hl := lv_entry [.ref h0, .int 1, .int 0] (n := 4) (Nat.le_of_ble_eq_true rfl)
  rw [lg_entry_eq]
  generalize (lg_sl [.ref h0, .int 1, .int 0] ++ List.replicate (4 - (lg_sl [.ref h0, .int 1, .int 0]).length) Slot.unset).toArray = ls at hl ⊢
  have hl : lv_has ls 4 [(0, .ref h0), (1, .int 1), (2, .int 0)] := hl
  refine lv_aload_n hx hb dX6_context_0 rfl (lv_at hl 0 rfl) ?_
  refine va_get (D := D) (ci := 8) (v := .ref h1) (C := RX6) (T := TX6) (N := 11) hx hb hts wi_X6_context_RX6 hown hK hP 0 rfl rfl 3 (by decide) (hts _ wd244_X6_context) (fun _ h9 => h9) rfl dX6_context_1 ?_
  refine lv_aload_n hx hb dX6_context_4 rfl (lv_at hl 0 rfl) ?_
  refine va_get (D := D) (ci := 8) (v := .ref h1) (C := RX6) (T := TX6) (N := 11) hx hb hts wi_X6_context_RX6 hown hK hP 0 rfl rfl 3 (by decide) (hts _ wd244_X6_context) (fun _ h9 => h9) rfl dX6_context_5 ?_
  refine vp_callSi (W.runV (As := []) (rest := [.ref h1]) ⟨hx, hb, hml, hown, hts⟩ (k_Jx4a65c_size_8abf5_0 l D κ ε h1 (p7)) (cwV 0 hts gX6_context_Jx4a65c_size_8abf5 rfl rfl rfl (by decide +kernel) ⟨(Nat.le_of_ble_eq_true rfl), (Nat.le_of_ble_eq_true rfl)⟩) (pre0_V (q0 := 1) (ci := 1) (wc := [(h1, .inr (1, [.int p7, .ref (ε 1), .int 0]))]) hP hK [1] rfl rfl rfl) rfl rfl hl.1 rfl (lv_room (Nat.le_of_ble_eq_true rfl)) dX6_context_8 ⟨(Nat.le_of_ble_eq_true rfl), (Nat.le_of_ble_eq_true rfl)⟩) (fun r hw => ?_)
  rw [hw]
  refine lv_iload_n hx hb dX6_context_11 rfl (lv_at hl 1 rfl) ?_
  refine lv_iconst (v := 1) hx hb dX6_context_12 (by decide) ?_
  refine lv_isub hx hb dX6_context_13 ?_
  refine tpi (v := 0) (by decide) ?_
  refine vp_callSi (W.runS (As := [.ref h1, .int 0, .int 0]) (rest := []) ⟨hx, hb, hml, hown, hts⟩ (k_X6_ahead_0 l D κ ε h1) (va_cwS 3 hts gX6_context_X6_ahead rfl rfl rfl (by decide +kernel) ⟨(Nat.le_of_ble_eq_true rfl), (Nat.le_of_ble_eq_true rfl)⟩) (pre0_S (wc := []) hP hK [] rfl) rfl rfl hl.1 rfl (lv_room (Nat.le_of_ble_eq_true rfl)) dX6_context_14 ⟨(Nat.le_of_ble_eq_true rfl), (Nat.le_of_ble_eq_true rfl)⟩) (fun r hw => ?_)
  rw [hw]
  refine lv_istore_n (lv' := [(3, .int 0), (0, .ref h0), (1, .int 1), (2, .int 0)]) hx hb dX6_context_17 rfl hl (by decide) rfl (fun ls hl => ?_)
  refine lv_iload_n hx hb dX6_context_18 rfl (lv_at hl 3 rfl) ?_
  refine lv_if_ne (tgt := 37) hx hb dX6_context_19 (by decide) (fun h => absurd (by decide) h) (fun _ => ?_)
  refine lv_aload_n hx hb dX6_context_22 rfl (lv_at hl 1 rfl) ?_
  refine va_get (D := D) (ci := 8) (v := .ref h2) (C := RX6) (T := TX6) (N := 11) hx hb hts wi_X6_context_RX6 hown hK hP 0 rfl rfl 4 (by decide) (hts _ wd245_X6_context) (fun _ h9 => h9) rfl dX6_context_23 ?_
  refine lv_iload_n hx hb dX6_context_26 rfl (lv_at hl 2 rfl) ?_
  refine lv_iconst (v := 1) hx hb dX6_context_27 (by decide) ?_
  refine lv_isub hx hb dX6_context_28 ?_
  refine tpi (v := 0) (by decide) ?_
  refine ya_ld2 hx hb hK hP 2 rfl (vpl (by decide)) (v := .ref h4) rfl dX6_context_29 ?_
  refine lv_iload_n hx hb dX6_context_30 rfl (lv_at hl 0 rfl) ?_
  refine vp_callSi (W.runS (As := [.ref h4, .int 0]) (rest := []) ⟨hx, hb, hml, hown, hts⟩ (k_X6_sum_0 l D κ ε h4) (va_cwS 2 hts gX6_context_X6_sum rfl rfl rfl (by decide +kernel) ⟨(Nat.le_of_ble_eq_true rfl), (Nat.le_of_ble_eq_true rfl)⟩) (pre0_S (wc := [(h4, .inl (κ 0, 14, .inl (fun _ => 0)))]) hP hK [3] rfl) rfl rfl hl.1 rfl (lv_room (Nat.le_of_ble_eq_true rfl)) dX6_context_31 ⟨(Nat.le_of_ble_eq_true rfl), (Nat.le_of_ble_eq_true rfl)⟩) (fun r hw => ?_)
  rw [hw]
  refine lv_goto (tgt := 49) hx hb dX6_context_34 (by decide) ?_
  exact W.iret (v := 0) hx hb hr (fun t ht hW => ⟨0, rfl, rfl, ht⟩) (fun q hq => absurd hq List.not_mem_nil) dX6_context_49

set_option maxHeartbeats 4000000 in
set_option maxRecDepth 100000 in
theorem k_X6_ofContext_3 (l : Launch) (D : va_G) (κ ε : Nat → Nat) (h0 h1 h2 h3 h4 h5 h6 h7 : Nat) (sz : Nat) : Met l yX6_ofContext wsX6_ofContext ({ frames := 2, cells := 0, slots := 0, locals := 47 }) (va_Pc [.ref h0, .int 1, .int 0] (Pre2 D κ ε [(h0, .inr (8, [.int 0, .int 0, .int 2, .ref h1, .ref h2, .int 0, .int 500, .int 0, .int 0, .int 0, .ref h3])), (h1, .inr (1, [.int 0, .ref (ε 1), .int 0])), (h2, .inl (κ 4, 4, .inr (.inr (.inr (.inr (sel [h4, h5, h6, h7])))))), (h4, .inl (κ 0, 14, .inl (fun _ => 0)))] sz)) (va_Qi (fun r (u : List Value) => (u[0]? = some (.int 0)) ∧ (r = 0)) (fun u t => va_P D vwCl [(h0, .inr (8, u))] t.heap ∧ va_D (va_A [(h0, .inr (8, [.int 0, .int 0, .int 2, .ref h1, .ref h2, .int 0, .int 500, .int 0, .int 0, .int 0, .ref h3])), (h1, .inr (1, [.int 0, .ref (ε 1), .int 0])), (h2, .inl (κ 4, 4, .inr (.inr (.inr (.inr (sel [h4, h5, h6, h7])))))), (h4, .inl (κ 0, 14, .inl (fun _ => 0)))] sz) [(h0, .inr (8, u))]) (va_A [(h0, .inr (8, [.int 0, .int 0, .int 2, .ref h1, .ref h2, .int 0, .int 500, .int 0, .int 0, .int 0, .ref h3])), (h1, .inr (1, [.int 0, .ref (ε 1), .int 0])), (h2, .inl (κ 4, 4, .inr (.inr (.inr (.inr (sel [h4, h5, h6, h7])))))), (h4, .inl (κ 0, 14, .inl (fun _ => 0)))] sz)) 0 0 (va_A [(h0, .inr (8, [.int 0, .int 0, .int 2, .ref h1, .ref h2, .int 0, .int 500, .int 0, .int 0, .int 0, .ref h3])), (h1, .inr (1, [.int 0, .ref (ε 1), .int 0])), (h2, .inl (κ 4, 4, .inr (.inr (.inr (.inr (sel [h4, h5, h6, h7])))))), (h4, .inl (κ 0, 14, .inl (fun _ => 0)))] sz) := by
  refine Met.ofW (cc := cX6_ofContext) (maxL := 3) (ret := (some .int)) (by decide) rfl ?_
  intro p e s m args below meth c s₁ B hml hv
  obtain ⟨rfl, hsz, hP, hK, hD0, hE9⟩ := hv
  have hx := B.exec
  have hb := B.bytes
  have hr := B.returns
  have hts := atoms_spec (ws := wsX6_ofContext) B.pre
  have hown : s.vm.findClass RX6 = some m.cls := findClass_of_methodNamed B.named
  have hlocks := B.notSynchronized
  subst hsz
  have hD := hD0.self (sz := s.heap.size)
  generalize hAe : va_A [(h0, .inr (8, [.int 0, .int 0, .int 2, .ref h1, .ref h2, .int 0, .int 500, .int 0, .int 0, .int 0, .ref h3])), (h1, .inr (1, [.int 0, .ref (ε 1), .int 0])), (h2, .inl (κ 4, 4, .inr (.inr (.inr (.inr (sel [h4, h5, h6, h7])))))), (h4, .inl (κ 0, 14, .inl (fun _ => 0)))] s.heap.size = A at hD hE9 ⊢
  have hE := hE9.1
  have hDc := hE9.2
  have hA : ∀ q : Nat, s.heap.size ≤ q → A q := fun q h => by rw [← hAe]; exact Or.inr h
  have hS : va_S A s.heap s.heap [] := va_S.rf
  have hP : va_P D vwCl [(h0, .inr (8, [.int 0, .int 0, .int 2, .ref h1, .ref h2, .int 0, .int 500, .int 0, .int 0, .int 0, .ref h3])), (h1, .inr (1, [.int 0, .ref (ε 1), .int 0])), (h2, .inl (κ 4, 4, .inr (.inr (.inr (.inr (sel [h4, h5, h6, h7])))))), (h4, .inl (κ 0, 14, .inl (fun _ => 0)))] s.heap := hP
  have hl := lv_entry [.ref h0, .int 1, .int 0] (n := 3) (Nat.le_of_ble_eq_true rfl)
  rw [lg_entry_eq]
  generalize (lg_sl [.ref h0, .int 1, .int 0] ++ List.replicate (3 - (lg_sl [.ref h0, .int 1, .int 0]).length) Slot.unset).toArray = ls at hl ⊢
  have hl : lv_has ls 3 [(0, .ref h0), (1, .int 1), (2, .int 0)] := hl
  refine lv_aload_n hx hb dX6_ofContext_0 rfl (lv_at hl 0 rfl) ?_
  refine lv_iload_n hx hb dX6_ofContext_1 rfl (lv_at hl 1 rfl) ?_
  refine lv_iconst (v := 1) hx hb dX6_ofContext_2 (by decide) ?_
  refine lv_aload_n hx hb dX6_ofContext_3 rfl (lv_at hl 0 rfl) ?_
  refine va_get (D := D) (ci := 8) (v := .int 2) (C := RX6) (T := TX6) (N := 11) hx hb hts wi_X6_ofContext_RX6 hown hK hP 0 rfl rfl 2 (by decide) (hts _ wd243_X6_ofContext) (fun _ h9 => h9) rfl dX6_ofContext_4 ?_
  refine vp_callSi (W.runS (As := [.int 1, .int 1, .int 2]) (rest := [.ref h0]) ⟨hx, hb, hml, hown, hts⟩ (k_X6_isIn_8 l D κ ε) (va_cwS 3 hts gX6_ofContext_X6_isIn rfl rfl rfl (by decide +kernel) ⟨(Nat.le_of_ble_eq_true rfl), (Nat.le_of_ble_eq_true rfl)⟩) (pre0_S (wc := []) hP hK [] rfl) rfl rfl hl.1 rfl (lv_room (Nat.le_of_ble_eq_true rfl)) dX6_ofContext_7 ⟨(Nat.le_of_ble_eq_true rfl), (Nat.le_of_ble_eq_true rfl)⟩) (fun r hw => ?_)
  rw [hw]
  refine lv_if_eq (tgt := 22) hx hb dX6_ofContext_10 (by decide) (fun h => absurd h (by decide)) (fun _ => ?_)
  refine lv_iload_n hx hb dX6_ofContext_13 rfl (lv_at hl 2 rfl) ?_
  refine lv_iconst (v := 0) hx hb dX6_ofContext_14 (by decide) ?_
  refine lv_iconst (v := 1) hx hb dX6_ofContext_15 (by decide) ?_
  refine vp_callSi (W.runS (As := [.int 0, .int 0, .int 1]) (rest := [.ref h0]) ⟨hx, hb, hml, hown, hts⟩ (k_X6_isIn_15 l D κ ε) (va_cwS 3 hts gX6_ofContext_X6_isIn rfl rfl rfl (by decide +kernel) ⟨(Nat.le_of_ble_eq_true rfl), (Nat.le_of_ble_eq_true rfl)⟩) (pre0_S (wc := []) hP hK [] rfl) rfl rfl hl.1 rfl (lv_room (Nat.le_of_ble_eq_true rfl)) dX6_ofContext_16 ⟨(Nat.le_of_ble_eq_true rfl), (Nat.le_of_ble_eq_true rfl)⟩) (fun r hw => ?_)
  rw [hw]
  refine lv_if_ne (tgt := 26) hx hb dX6_ofContext_19 (by decide) (fun _ => ?_) (fun h => absurd h (by decide))
  refine lv_iconst (v := 0) hx hb dX6_ofContext_26 (by decide) ?_
  refine lv_iconst (v := 1) hx hb dX6_ofContext_27 (by decide) ?_
  have hF := va_free (wc := [(h0, .inr (8, [.int 0, .int 0, .int 2, .ref h1, .ref h2, .int 0, .int 500, .int 0, .int 0, .int 0, .ref h3]))]) hD hS hA [0] rfl
  refine va_calli (va_runV (As := [.int 0, .int 1]) (rest := []) ⟨hx, hb, hml, hown, hts⟩ (k_X6_start_0 l D κ ε h0 h1 h2 h3 s.heap.size (0) (2) (0) (500) (0) (0)) (cwV 2 hts gX6_ofContext_X6_start rfl rfl rfl (by decide +kernel) ⟨(Nat.le_of_ble_eq_true rfl), (Nat.le_of_ble_eq_true rfl)⟩) (pre2_V (q0 := 0) (ci := 8) (wc := [(h0, .inr (8, [.int 0, .int 0, .int 2, .ref h1, .ref h2, .int 0, .int 500, .int 0, .int 0, .int 0, .ref h3]))]) hP hD hK hE9 hS hA [0] (by decide) rfl rfl rfl) rfl rfl hl.1 rfl (lv_room (Nat.le_of_ble_eq_true rfl)) dX6_ofContext_28 ⟨(Nat.le_of_ble_eq_true rfl), (Nat.le_of_ble_eq_true rfl)⟩) hS (fun q _ h => hF q h) hF (fun r u1 t H locs ht hvm hw hB hz1 hk1 hS => ?_)
  try dsimp only at hw hB
  obtain ⟨hP1, hD1⟩ := hB
  rw [ht] at hP1
  obtain ⟨hP, hD⟩ := post_j (ws' := [(h0, .inr (8, [.int 0, .int 0, .int 2, .ref h1, .ref h2, .int 0, .int 500, .int 0, .int 0, .int 0, .ref h3])), (h1, .inr (1, [.int 0, .ref (ε 1), .int 0])), (h2, .inl (κ 4, 4, .inr (.inr (.inr (.inr (sel [h4, h5, h6, h7])))))), (h4, .inl (κ 0, 14, .inl (fun _ => 0)))]) (wr := [(h1, .inr (1, [.int 0, .ref (ε 1), .int 0])), (h2, .inl (κ 4, 4, .inr (.inr (.inr (.inr (sel [h4, h5, h6, h7])))))), (h4, .inl (κ 0, 14, .inl (fun _ => 0)))]) (w1 := [(h0, .inr (8, [.int 0, .int 0, .int 2, .ref h1, .ref h2, .int 0, .int 500, .int 0, .int 0, .int 0, .ref h3]))]) hP hD hF [0] rfl [1, 2, 3] rfl (by decide) (by decide) hk1 hP1 hD1 [3, 0, 1, 2] (by decide) rfl
  have hP : va_P D vwCl [(h0, .inr (8, [.int 0, .int 0, .int 2, .ref h1, .ref h2, .int 0, .int 500, .int 0, .int 0, .int 0, .ref h3])), (h1, .inr (1, [.int 0, .ref (ε 1), .int 0])), (h2, .inl (κ 4, 4, .inr (.inr (.inr (.inr (sel [h4, h5, h6, h7])))))), (h4, .inl (κ 0, 14, .inl (fun _ => 0)))] H := hP
  have hD : va_D A [(h0, .inr (8, [.int 0, .int 0, .int 2, .ref h1, .ref h2, .int 0, .int 500, .int 0, .int 0, .int 0, .ref h3])), (h1, .inr (1, [.int 0, .ref (ε 1), .int 0])), (h2, .inl (κ 4, 4, .inr (.inr (.inr (.inr (sel [h4, h5, h6, h7])))))), (h4, .inl (κ 0, 14, .inl (fun _ => 0)))] := hD
  rw [hw]
  refine lv_if_eq (tgt := 38) hx hb dX6_ofContext_31 (by decide) (fun _ => ?_) (fun h => absurd (by decide) h)
  refine lv_aload_n hx hb dX6_ofContext_38 rfl (lv_at hl 0 rfl) ?_
  refine lv_iload_n hx hb dX6_ofContext_39 rfl (lv_at hl 1 rfl) ?_
  refine lv_iload_n hx hb dX6_ofContext_40 rfl (lv_at hl 2 rfl) ?_
  refine vp_callSi (W.runV (As := [.int 1, .int 0]) (rest := []) ⟨hx, hb, hml, hown, hts⟩ (k_X6_context_1 l D κ ε h0 h1 h2 h3 h4 h5 h6 h7 (0) (0) (2) (0) (500) (0) (0) (0)) (cwV 2 hts gX6_ofContext_X6_context rfl rfl rfl (by decide +kernel) ⟨(Nat.le_of_ble_eq_true rfl), (Nat.le_of_ble_eq_true rfl)⟩) (pre0_V (q0 := 0) (ci := 8) (wc := [(h0, .inr (8, [.int 0, .int 0, .int 2, .ref h1, .ref h2, .int 0, .int 500, .int 0, .int 0, .int 0, .ref h3])), (h1, .inr (1, [.int 0, .ref (ε 1), .int 0])), (h2, .inl (κ 4, 4, .inr (.inr (.inr (.inr (sel [h4, h5, h6, h7])))))), (h4, .inl (κ 0, 14, .inl (fun _ => 0)))]) hP hK [0, 1, 2, 3] rfl rfl rfl) rfl rfl hl.1 rfl (lv_room (Nat.le_of_ble_eq_true rfl)) dX6_ofContext_41 ⟨(Nat.le_of_ble_eq_true rfl), (Nat.le_of_ble_eq_true rfl)⟩) (fun r hw => ?_)
  rw [hw]
  have hP9 := hP.sub (ws' := [(h0, .inr (8, [.int 0, .int 0, .int 2, .ref h1, .ref h2, .int 0, .int 500, .int 0, .int 0, .int 0, .ref h3]))]) [0] rfl
  have hD9 := hD.sub (ws' := [(h0, .inr (8, [.int 0, .int 0, .int 2, .ref h1, .ref h2, .int 0, .int 500, .int 0, .int 0, .int 0, .ref h3]))]) [0] (by decide) rfl
  exact W.iret (v := 0) hx hb hr (fun t ht hW => ⟨⟨0, [.int 0, .int 0, .int 2, .ref h1, .ref h2, .int 0, .int 500, .int 0, .int 0, .int 0, .ref h3], rfl, ⟨rfl, rfl⟩, by rw [ht]; exact hP9, hD9⟩, hS.F ht⟩) hS.2.2 dX6_ofContext_44

set_option maxHeartbeats 4000000 in
set_option maxRecDepth 100000 in
theorem k_X5_digitAt_1 (l : Launch) (D : va_G) (κ ε : Nat → Nat) (h0 : Nat) : Met l yX5_digitAt wsX5_digitAt ({ frames := 0, cells := 0, slots := 0, locals := 0 }) (va_Pc [.ref h0, .int (-1)] (Pre0 D κ [])) (vp_Si (fun r => (r = 0))) 0 0 (fun _ => False) := by
  refine Met.ofW (cc := cX5_digitAt) (maxL := 2) (ret := (some .int)) (by decide) rfl ?_
  intro p e s m args below meth c s₁ B hml hv
  obtain ⟨rfl, hP, hK⟩ := hv
  have hx := B.exec
  have hb := B.bytes
  have hr := B.returns
  have hts := atoms_spec (ws := wsX5_digitAt) B.pre
  have hown : s.vm.findClass RX5 = some m.cls := findClass_of_methodNamed B.named
  have hlocks := B.notSynchronized
  have hP : va_P D vwCl [] s.heap := hP
  have hl := lv_entry [.ref h0, .int (-1)] (n := 2) (Nat.le_of_ble_eq_true rfl)
  rw [lg_entry_eq]
  generalize (lg_sl [.ref h0, .int (-1)] ++ List.replicate (2 - (lg_sl [.ref h0, .int (-1)]).length) Slot.unset).toArray = ls at hl ⊢
  have hl : lv_has ls 2 [(0, .ref h0), (1, .int (-1))] := hl
  refine lv_iload_n hx hb dX5_digitAt_0 rfl (lv_at hl 1 rfl) ?_
  refine lv_if_ge (tgt := 6) hx hb dX5_digitAt_1 (by decide) (fun h => absurd h (by decide)) (fun _ => ?_)
  refine lv_iconst (v := 0) hx hb dX5_digitAt_4 (by decide) ?_
  exact W.iret (v := 0) hx hb hr (fun t ht hW => ⟨0, rfl, rfl, ht⟩) (fun q hq => absurd hq List.not_mem_nil) dX5_digitAt_5

set_option maxHeartbeats 4000000 in
set_option maxRecDepth 100000 in
theorem k_X5_keyUpTo_2 (l : Launch) (D : va_G) (κ ε : Nat → Nat) (h0 h1 h2 h3 h4 h5 h6 : Nat) (p0 : Int32) (p1 : Int32) (p2 : Int32) : Met l yX5_keyUpTo wsX5_keyUpTo ({ frames := 1, cells := 0, slots := 0, locals := 21 }) (va_Pc [.ref h0, .int (-1), .int 1] (Pre0 D κ [(h0, .inr (7, [.ref h1, .ref h2, .ref h3, .ref h4, .ref h5, .ref h6, .int p0, .int p1, .int p2, .int 0]))])) (vp_Si (fun r => (r = 0))) 0 0 (fun _ => False) := by
  refine Met.ofW (cc := cX5_keyUpTo) (maxL := 5) (ret := (some .int)) (by decide) rfl ?_
  intro p e s m args below meth c s₁ B hml hv
  obtain ⟨rfl, hP, hK⟩ := hv
  have hx := B.exec
  have hb := B.bytes
  have hr := B.returns
  have hts := atoms_spec (ws := wsX5_keyUpTo) B.pre
  have hown : s.vm.findClass RX5 = some m.cls := findClass_of_methodNamed B.named
  have hlocks := B.notSynchronized
  have hP : va_P D vwCl [(h0, .inr (7, [.ref h1, .ref h2, .ref h3, .ref h4, .ref h5, .ref h6, .int p0, .int p1, .int p2, .int 0]))] s.heap := hP
  have hl := lv_entry [.ref h0, .int (-1), .int 1] (n := 5) (Nat.le_of_ble_eq_true rfl)
  rw [lg_entry_eq]
  generalize (lg_sl [.ref h0, .int (-1), .int 1] ++ List.replicate (5 - (lg_sl [.ref h0, .int (-1), .int 1]).length) Slot.unset).toArray = ls at hl ⊢
  have hl : lv_has ls 5 [(0, .ref h0), (1, .int (-1)), (2, .int 1)] := hl
  refine lv_iconst (v := 0) hx hb dX5_keyUpTo_0 (by decide) ?_
  refine lv_istore_n (lv' := [(3, .int 0), (0, .ref h0), (1, .int (-1)), (2, .int 1)]) hx hb dX5_keyUpTo_1 rfl hl (by decide) rfl (fun ls hl => ?_)
  refine lv_iload_n hx hb dX5_keyUpTo_2 rfl (lv_at hl 2 rfl) ?_
  refine lv_iload_n hx hb dX5_keyUpTo_3 rfl (lv_at hl 3 rfl) ?_
  refine lv_isub hx hb dX5_keyUpTo_4 ?_
  refine tpi (v := (-2)) (by decide) ?_
  refine lv_iconst (v := 1) hx hb dX5_keyUpTo_5 (by decide) ?_
  refine lv_iadd hx hb dX5_keyUpTo_6 ?_
  refine tpi (v := (-1)) (by decide) ?_
  refine lv_istore (lv' := [(4, .int (-1)), (3, .int 0), (0, .ref h0), (1, .int (-1)), (2, .int 1)]) hx hb dX5_keyUpTo_7 hl (by decide) rfl (fun ls hl => ?_)
  refine lv_iload hx hb dX5_keyUpTo_9 (lv_at hl 0 rfl) ?_
  refine lv_iload_n hx hb dX5_keyUpTo_11 rfl (lv_at hl 3 rfl) ?_
  refine lv_icmp_gt (tgt := 33) hx hb dX5_keyUpTo_12 (by decide) (fun h => absurd h (by decide)) (fun _ => ?_)
  refine lv_iload_n hx hb dX5_keyUpTo_15 rfl (lv_at hl 1 rfl) ?_
  refine lv_bipush (v := 14) hx hb dX5_keyUpTo_16 (by decide) ?_
  refine lv_imul hx hb dX5_keyUpTo_18 ?_
  refine tpi (v := 0) (by decide) ?_
  refine lv_aload_n hx hb dX5_keyUpTo_19 rfl (lv_at hl 2 rfl) ?_
  refine lv_iload hx hb dX5_keyUpTo_20 (lv_at hl 0 rfl) ?_
  refine vp_callSi (W.runV (As := [.int (-1)]) (rest := [.int 0]) ⟨hx, hb, hml, hown, hts⟩ (k_X5_digitAt_1 l D κ ε h0) (cwV 1 hts gX5_keyUpTo_X5_digitAt rfl rfl rfl (by decide +kernel) ⟨(Nat.le_of_ble_eq_true rfl), (Nat.le_of_ble_eq_true rfl)⟩) (pre0_V (q0 := 0) (ci := 7) (wc := []) hP hK [] rfl rfl rfl) rfl rfl hl.1 rfl (lv_room (Nat.le_of_ble_eq_true rfl)) dX5_keyUpTo_22 ⟨(Nat.le_of_ble_eq_true rfl), (Nat.le_of_ble_eq_true rfl)⟩) (fun r hw => ?_)
  rw [hw]
  refine lv_iadd hx hb dX5_keyUpTo_25 ?_
  refine tpi (v := 0) (by decide) ?_
  refine lv_istore_n (lv' := [(3, .int 0), (4, .int (-1)), (0, .ref h0), (1, .int (-1)), (2, .int 1)]) hx hb dX5_keyUpTo_26 rfl hl (by decide) rfl (fun ls hl => ?_)
  refine lv_iinc (v := 0) (lv' := [(4, .int 0), (3, .int 0), (0, .ref h0), (1, .int (-1)), (2, .int 1)]) hx hb dX5_keyUpTo_27 hl (k := 1) rfl (by decide) (by decide) rfl (fun ls hl => ?_)
  refine lv_goto (tgt := 9) hx hb dX5_keyUpTo_30 (by decide) ?_
  refine lv_iload hx hb dX5_keyUpTo_9 (lv_at hl 0 rfl) ?_
  refine lv_iload_n hx hb dX5_keyUpTo_11 rfl (lv_at hl 3 rfl) ?_
  refine lv_icmp_gt (tgt := 33) hx hb dX5_keyUpTo_12 (by decide) (fun _ => ?_) (fun h => absurd (by decide) h)
  refine lv_iload_n hx hb dX5_keyUpTo_33 rfl (lv_at hl 1 rfl) ?_
  exact W.iret (v := 0) hx hb hr (fun t ht hW => ⟨0, rfl, rfl, ht⟩) (fun q hq => absurd hq List.not_mem_nil) dX5_keyUpTo_34

set_option maxHeartbeats 4000000 in
set_option maxRecDepth 100000 in
theorem k_X5_totalBehind_1 (l : Launch) (D : va_G) (κ ε : Nat → Nat) (h0 h1 h2 h3 h4 h5 h6 h7 h8 h9 h10 h11 h12 h13 h14 h15 h16 : Nat) (sz : Nat) (p0 : Int32) (p1 : Int32) (p2 : Int32) (p3 : Int32) (p4 : Int32) (p5 : Int32) (p6 : Int32) : Met l yX5_totalBehind wsX5_totalBehind ({ frames := 2, cells := 0, slots := 0, locals := 48 }) (va_Pc [.ref h0, .int 2, .int p0] (Pre2 D κ ε [(h0, .inr (7, [.ref h1, .ref h2, .ref h3, .ref h4, .ref h5, .ref h6, .int 0, .int p1, .int p2, .int 0])), (h1, .inr (2, [.int p3, .int p4, .ref h7, .ref h8])), (h2, .inr (3, [.ref h1, .int p5, .int p6, .ref h9, .ref h10, .long 0, .int 0])), (h7, .inl (κ 3, 4, .inr (.inr (.inr (.inr (sel [h11, h12, h13, h14])))))), (h10, .inl (κ 0, 13, .inl (fun _ => 0))), (h12, .inr (6, [.ref h15, .ref h16, .int 0]))] sz)) (va_Qi (fun r (u : Unit) => ((¬ p0 = 0) ∧ (r = 0)) ∨ ((p0 = 0) ∧ (r = 0))) (fun u t => va_P D vwCl [(h0, .inr (7, [.ref h1, .ref h2, .ref h3, .ref h4, .ref h5, .ref h6, .int 0, .int p1, .int p2, .int 0])), (h1, .inr (2, [.int p3, .int p4, .ref h7, .ref h8])), (h2, .inr (3, [.ref h1, .int p5, .int p6, .ref h9, .ref h10, .long 0, .int 0])), (h7, .inl (κ 3, 4, .inr (.inr (.inr (.inr (sel [h11, h12, h13, h14])))))), (h10, .inl (κ 0, 13, .inl (fun _ => 0))), (h12, .inr (6, [.ref h15, .ref h16, .int 0]))] t.heap ∧ va_D (va_A [(h0, .inr (7, [.ref h1, .ref h2, .ref h3, .ref h4, .ref h5, .ref h6, .int 0, .int p1, .int p2, .int 0])), (h1, .inr (2, [.int p3, .int p4, .ref h7, .ref h8])), (h2, .inr (3, [.ref h1, .int p5, .int p6, .ref h9, .ref h10, .long 0, .int 0])), (h7, .inl (κ 3, 4, .inr (.inr (.inr (.inr (sel [h11, h12, h13, h14])))))), (h10, .inl (κ 0, 13, .inl (fun _ => 0))), (h12, .inr (6, [.ref h15, .ref h16, .int 0]))] sz) [(h0, .inr (7, [.ref h1, .ref h2, .ref h3, .ref h4, .ref h5, .ref h6, .int 0, .int p1, .int p2, .int 0])), (h1, .inr (2, [.int p3, .int p4, .ref h7, .ref h8])), (h2, .inr (3, [.ref h1, .int p5, .int p6, .ref h9, .ref h10, .long 0, .int 0])), (h7, .inl (κ 3, 4, .inr (.inr (.inr (.inr (sel [h11, h12, h13, h14])))))), (h10, .inl (κ 0, 13, .inl (fun _ => 0))), (h12, .inr (6, [.ref h15, .ref h16, .int 0]))]) (va_A [(h0, .inr (7, [.ref h1, .ref h2, .ref h3, .ref h4, .ref h5, .ref h6, .int 0, .int p1, .int p2, .int 0])), (h1, .inr (2, [.int p3, .int p4, .ref h7, .ref h8])), (h2, .inr (3, [.ref h1, .int p5, .int p6, .ref h9, .ref h10, .long 0, .int 0])), (h7, .inl (κ 3, 4, .inr (.inr (.inr (.inr (sel [h11, h12, h13, h14])))))), (h10, .inl (κ 0, 13, .inl (fun _ => 0))), (h12, .inr (6, [.ref h15, .ref h16, .int 0]))] sz)) 0 0 (va_A [(h0, .inr (7, [.ref h1, .ref h2, .ref h3, .ref h4, .ref h5, .ref h6, .int 0, .int p1, .int p2, .int 0])), (h1, .inr (2, [.int p3, .int p4, .ref h7, .ref h8])), (h2, .inr (3, [.ref h1, .int p5, .int p6, .ref h9, .ref h10, .long 0, .int 0])), (h7, .inl (κ 3, 4, .inr (.inr (.inr (.inr (sel [h11, h12, h13, h14])))))), (h10, .inl (κ 0, 13, .inl (fun _ => 0))), (h12, .inr (6, [.ref h15, .ref h16, .int 0]))] sz) := by
  refine Met.ofW (cc := cX5_totalBehind) (maxL := 3) (ret := (some .int)) (by decide) rfl ?_
  intro p e s m args below meth c s₁ B hml hv
  obtain ⟨rfl, hsz, hP, hK, hD0, hE9⟩ := hv
  have hx := B.exec
  have hb := B.bytes
  have hr := B.returns
  have hts := atoms_spec (ws := wsX5_totalBehind) B.pre
  have hown : s.vm.findClass RX5 = some m.cls := findClass_of_methodNamed B.named
  have hlocks := B.notSynchronized
  subst hsz
  have hD := hD0.self (sz := s.heap.size)
  generalize hAe : va_A [(h0, .inr (7, [.ref h1, .ref h2, .ref h3, .ref h4, .ref h5, .ref h6, .int 0, .int p1, .int p2, .int 0])), (h1, .inr (2, [.int p3, .int p4, .ref h7, .ref h8])), (h2, .inr (3, [.ref h1, .int p5, .int p6, .ref h9, .ref h10, .long 0, .int 0])), (h7, .inl (κ 3, 4, .inr (.inr (.inr (.inr (sel [h11, h12, h13, h14])))))), (h10, .inl (κ 0, 13, .inl (fun _ => 0))), (h12, .inr (6, [.ref h15, .ref h16, .int 0]))] s.heap.size = A at hD hE9 ⊢
  have hE := hE9.1
  have hDc := hE9.2
  have hA : ∀ q : Nat, s.heap.size ≤ q → A q := fun q h => by rw [← hAe]; exact Or.inr h
  have hS : va_S A s.heap s.heap [] := va_S.rf
  have hP : va_P D vwCl [(h0, .inr (7, [.ref h1, .ref h2, .ref h3, .ref h4, .ref h5, .ref h6, .int 0, .int p1, .int p2, .int 0])), (h1, .inr (2, [.int p3, .int p4, .ref h7, .ref h8])), (h2, .inr (3, [.ref h1, .int p5, .int p6, .ref h9, .ref h10, .long 0, .int 0])), (h7, .inl (κ 3, 4, .inr (.inr (.inr (.inr (sel [h11, h12, h13, h14])))))), (h10, .inl (κ 0, 13, .inl (fun _ => 0))), (h12, .inr (6, [.ref h15, .ref h16, .int 0]))] s.heap := hP
  have hl := lv_entry [.ref h0, .int 2, .int p0] (n := 3) (Nat.le_of_ble_eq_true rfl)
  rw [lg_entry_eq]
  generalize (lg_sl [.ref h0, .int 2, .int p0] ++ List.replicate (3 - (lg_sl [.ref h0, .int 2, .int p0]).length) Slot.unset).toArray = ls at hl ⊢
  have hl : lv_has ls 3 [(0, .ref h0), (1, .int 2), (2, .int p0)] := hl
  refine lv_aload_n hx hb dX5_totalBehind_0 rfl (lv_at hl 0 rfl) ?_
  refine va_get (D := D) (ci := 7) (v := .ref h2) (C := RX5) (T := TX5) (N := 10) hx hb hts wi_X5_totalBehind_RX5 hown hK hP 0 rfl rfl 1 (by decide) (hts _ wd235_X5_totalBehind) (fun _ h9 => h9) rfl dX5_totalBehind_1 ?_
  refine lv_aload_n hx hb dX5_totalBehind_4 rfl (lv_at hl 0 rfl) ?_
  refine va_get (D := D) (ci := 7) (v := .ref h1) (C := RX5) (T := TX5) (N := 10) hx hb hts wi_X5_totalBehind_RX5 hown hK hP 0 rfl rfl 0 (by decide) (hts _ wd236_X5_totalBehind) (fun _ h9 => h9) rfl dX5_totalBehind_5 ?_
  refine lv_iload_n hx hb dX5_totalBehind_8 rfl (lv_at hl 1 rfl) ?_
  refine va_csr (W.runV (As := [.int 2]) (rest := [.ref h2]) ⟨hx, hb, hml, hown, hts⟩ (k_X0_countsOf_1 l D κ ε h1 h7 h8 h11 h12 h13 h14 (p3) (p4)) (cwV 1 hts gX5_totalBehind_X0_countsOf rfl rfl rfl (by decide +kernel) ⟨(Nat.le_of_ble_eq_true rfl), (Nat.le_of_ble_eq_true rfl)⟩) (pre0_V (q0 := 1) (ci := 2) (wc := [(h1, .inr (2, [.int p3, .int p4, .ref h7, .ref h8])), (h7, .inl (κ 3, 4, .inr (.inr (.inr (.inr (sel [h11, h12, h13, h14]))))))]) hP hK [1, 3] rfl rfl rfl) rfl rfl hl.1 rfl (lv_room (Nat.le_of_ble_eq_true rfl)) dX5_totalBehind_9 ⟨(Nat.le_of_ble_eq_true rfl), (Nat.le_of_ble_eq_true rfl)⟩) (fun r hw => ?_)
  rw [hw]
  refine lv_aload_n hx hb dX5_totalBehind_12 rfl (lv_at hl 0 rfl) ?_
  refine lv_aload_n hx hb dX5_totalBehind_13 rfl (lv_at hl 0 rfl) ?_
  refine va_get (D := D) (ci := 7) (v := .int 0) (C := RX5) (T := TX5) (N := 10) hx hb hts wi_X5_totalBehind_RX5 hown hK hP 0 rfl rfl 6 (by decide) (hts _ wd237_X5_totalBehind) (fun _ h9 => h9) rfl dX5_totalBehind_14 ?_
  refine lv_iconst (v := 1) hx hb dX5_totalBehind_17 (by decide) ?_
  refine lv_isub hx hb dX5_totalBehind_18 ?_
  refine tpi (v := (-1)) (by decide) ?_
  refine lv_iload_n hx hb dX5_totalBehind_19 rfl (lv_at hl 1 rfl) ?_
  refine lv_iconst (v := 1) hx hb dX5_totalBehind_20 (by decide) ?_
  refine lv_isub hx hb dX5_totalBehind_21 ?_
  refine tpi (v := 1) (by decide) ?_
  refine vp_callSi (W.runV (As := [.int (-1), .int 1]) (rest := [.ref h12, .ref h2]) ⟨hx, hb, hml, hown, hts⟩ (k_X5_keyUpTo_2 l D κ ε h0 h1 h2 h3 h4 h5 h6 (0) (p1) (p2)) (cwV 2 hts gX5_totalBehind_X5_keyUpTo rfl rfl rfl (by decide +kernel) ⟨(Nat.le_of_ble_eq_true rfl), (Nat.le_of_ble_eq_true rfl)⟩) (pre0_V (q0 := 0) (ci := 7) (wc := [(h0, .inr (7, [.ref h1, .ref h2, .ref h3, .ref h4, .ref h5, .ref h6, .int 0, .int p1, .int p2, .int 0]))]) hP hK [0] rfl rfl rfl) rfl rfl hl.1 rfl (lv_room (Nat.le_of_ble_eq_true rfl)) dX5_totalBehind_22 ⟨(Nat.le_of_ble_eq_true rfl), (Nat.le_of_ble_eq_true rfl)⟩) (fun r hw => ?_)
  rw [hw]
  have hF := va_free (wc := [(h2, .inr (3, [.ref h1, .int p5, .int p6, .ref h9, .ref h10, .long 0, .int 0])), (h12, .inr (6, [.ref h15, .ref h16, .int 0])), (h10, .inl (κ 0, 13, .inl (fun _ => 0)))]) hD hS hA [2, 5, 4] rfl
  refine va_callv (va_runV (As := [.ref h12, .int 0]) (rest := []) ⟨hx, hb, hml, hown, hts⟩ (k_X1_gather_0 l D κ ε h2 h12 h1 h9 h10 h15 h16 s.heap.size (p5) (p6) (0) (0)) (cwV 2 hts gX5_totalBehind_X1_gather rfl rfl rfl (by decide +kernel) ⟨(Nat.le_of_ble_eq_true rfl), (Nat.le_of_ble_eq_true rfl)⟩) (pre2_V (q0 := 2) (ci := 3) (wc := [(h2, .inr (3, [.ref h1, .int p5, .int p6, .ref h9, .ref h10, .long 0, .int 0])), (h12, .inr (6, [.ref h15, .ref h16, .int 0])), (h10, .inl (κ 0, 13, .inl (fun _ => 0)))]) hP hD hK hE9 hS hA [2, 5, 4] (by decide) rfl rfl rfl) rfl rfl hl.1 rfl (lv_room (Nat.le_of_ble_eq_true rfl)) dX5_totalBehind_25 ⟨(Nat.le_of_ble_eq_true rfl), (Nat.le_of_ble_eq_true rfl)⟩) hS (fun q _ h => hF q h) hF (fun u1 t H locs ht hvm hw hB hz1 hk1 hS => ?_)
  try dsimp only at hw hB
  obtain ⟨hP1, hD1⟩ := hB
  rw [ht] at hP1
  obtain ⟨hP, hD⟩ := post_j (ws' := [(h0, .inr (7, [.ref h1, .ref h2, .ref h3, .ref h4, .ref h5, .ref h6, .int 0, .int p1, .int p2, .int 0])), (h1, .inr (2, [.int p3, .int p4, .ref h7, .ref h8])), (h2, .inr (3, [.ref h1, .int p5, .int p6, .ref h9, .ref h10, .long 0, .int 0])), (h7, .inl (κ 3, 4, .inr (.inr (.inr (.inr (sel [h11, h12, h13, h14])))))), (h10, .inl (κ 0, 13, .inl (fun _ => 0))), (h12, .inr (6, [.ref h15, .ref h16, .int 0]))]) (wr := [(h0, .inr (7, [.ref h1, .ref h2, .ref h3, .ref h4, .ref h5, .ref h6, .int 0, .int p1, .int p2, .int 0])), (h1, .inr (2, [.int p3, .int p4, .ref h7, .ref h8])), (h7, .inl (κ 3, 4, .inr (.inr (.inr (.inr (sel [h11, h12, h13, h14]))))))]) (w1 := [(h2, .inr (3, [.ref h1, .int p5, .int p6, .ref h9, .ref h10, .long 0, .int 0])), (h12, .inr (6, [.ref h15, .ref h16, .int 0])), (h10, .inl (κ 0, 13, .inl (fun _ => 0)))]) hP hD hF [2, 5, 4] rfl [0, 1, 3] rfl (by decide) (by decide) hk1 hP1 hD1 [0, 1, 3, 2, 5, 4] (by decide) rfl
  have hP : va_P D vwCl [(h0, .inr (7, [.ref h1, .ref h2, .ref h3, .ref h4, .ref h5, .ref h6, .int 0, .int p1, .int p2, .int 0])), (h1, .inr (2, [.int p3, .int p4, .ref h7, .ref h8])), (h2, .inr (3, [.ref h1, .int p5, .int p6, .ref h9, .ref h10, .long 0, .int 0])), (h7, .inl (κ 3, 4, .inr (.inr (.inr (.inr (sel [h11, h12, h13, h14])))))), (h10, .inl (κ 0, 13, .inl (fun _ => 0))), (h12, .inr (6, [.ref h15, .ref h16, .int 0]))] H := hP
  have hD : va_D A [(h0, .inr (7, [.ref h1, .ref h2, .ref h3, .ref h4, .ref h5, .ref h6, .int 0, .int p1, .int p2, .int 0])), (h1, .inr (2, [.int p3, .int p4, .ref h7, .ref h8])), (h2, .inr (3, [.ref h1, .int p5, .int p6, .ref h9, .ref h10, .long 0, .int 0])), (h7, .inl (κ 3, 4, .inr (.inr (.inr (.inr (sel [h11, h12, h13, h14])))))), (h10, .inl (κ 0, 13, .inl (fun _ => 0))), (h12, .inr (6, [.ref h15, .ref h16, .int 0]))] := hD
  refine lv_iload_n hx hb dX5_totalBehind_28 rfl (lv_at hl 2 rfl) ?_
  refine lv_if_ne (tgt := 43) hx hb dX5_totalBehind_29 (by decide) (fun c2 => ?_) (fun c2 => ?_)
  · skip
    refine lv_aload_n hx hb dX5_totalBehind_43 rfl (lv_at hl 0 rfl) ?_
    refine va_get (D := D) (ci := 7) (v := .ref h2) (C := RX5) (T := TX5) (N := 10) hx hb hts wi_X5_totalBehind_RX5 hown hK hP 0 rfl rfl 1 (by decide) (hts _ wd235_X5_totalBehind) (fun _ h9 => h9) rfl dX5_totalBehind_44 ?_
    refine va_get (D := D) (ci := 3) (v := .int 0) (C := RX1) (T := TX1) (N := 7) hx hb hts wi_X5_totalBehind_RX1 hown hK hP 2 rfl rfl 6 (by decide) (hts _ wd238_X5_totalBehind) (fun _ h9 => h9) rfl dX5_totalBehind_47 ?_
    have hP9 := hP
    have hD9 := hD
    exact W.iret (v := 0) hx hb hr (fun t ht hW => ⟨⟨0, (), rfl, (Or.inl ⟨c2, rfl⟩), by rw [ht]; exact hP9, hD9⟩, hS.F ht⟩) hS.2.2 dX5_totalBehind_50
  · skip
    refine lv_aload_n hx hb dX5_totalBehind_32 rfl (lv_at hl 0 rfl) ?_
    refine va_get (D := D) (ci := 7) (v := .ref h2) (C := RX5) (T := TX5) (N := 10) hx hb hts wi_X5_totalBehind_RX5 hown hK hP 0 rfl rfl 1 (by decide) (hts _ wd235_X5_totalBehind) (fun _ h9 => h9) rfl dX5_totalBehind_33 ?_
    refine va_get (D := D) (ci := 3) (v := .long 0) (C := RX1) (T := TX1) (N := 7) hx hb hts wi_X5_totalBehind_RX1 hown hK hP 2 rfl rfl 5 (by decide) (hts _ wd239_X5_totalBehind) (fun _ h9 => h9) rfl dX5_totalBehind_36 ?_
    refine lv_l2i (v := 0) hx hb dX5_totalBehind_39 (by decide) ?_
    refine lv_goto (tgt := 50) hx hb dX5_totalBehind_40 (by decide) ?_
    have hP9 := hP
    have hD9 := hD
    exact W.iret (v := 0) hx hb hr (fun t ht hW => ⟨⟨0, (), rfl, (Or.inr ⟨c2, rfl⟩), by rw [ht]; exact hP9, hD9⟩, hS.F ht⟩) hS.2.2 dX5_totalBehind_50

set_option maxHeartbeats 4000000 in
set_option maxRecDepth 100000 in
theorem k_X5_ofContext_1 (l : Launch) (hst : l.stackTraces = false) (D : va_G) (κ ε : Nat → Nat) (h0 h1 h2 h3 h4 h5 h6 h7 h8 h9 h10 h11 h12 h13 h14 h15 h16 : Nat) (sz : Nat) (p0 : Int32) : vx_Met l yX5_ofContext wsX5_ofContext ({ frames := 6, cells := 1, slots := 6, locals := 120 }) (va_Pc [.ref h0, .int 2, .int p0] (Pre2 D κ ε [(h0, .inr (7, [.ref h1, .ref h2, .ref h3, .ref h4, .ref h5, .ref h6, .int 0, .int 0, .int 0, .int 0])), (h1, .inr (2, [.int 0, .int 2, .ref h7, .ref h8])), (h2, .inr (3, [.ref h1, .int 0, .int 500, .ref h9, .ref h10, .long 0, .int 0])), (h7, .inl (κ 3, 4, .inr (.inr (.inr (.inr (sel [h11, h12, h13, h14])))))), (h10, .inl (κ 0, 13, .inl (fun _ => 0))), (h12, .inr (6, [.ref h15, .ref h16, .int 0]))] sz)) (va_Qi (fun r (u : Unit) => ((¬ p0 < 0) ∧ (p0 ≤ 1) ∧ (¬ p0 = 0) ∧ (r = 0)) ∨ ((¬ p0 < 0) ∧ (p0 ≤ 1) ∧ (p0 = 0) ∧ (r = 0))) (fun _ _ => True) (va_A [(h0, .inr (7, [.ref h1, .ref h2, .ref h3, .ref h4, .ref h5, .ref h6, .int 0, .int 0, .int 0, .int 0])), (h1, .inr (2, [.int 0, .int 2, .ref h7, .ref h8])), (h2, .inr (3, [.ref h1, .int 0, .int 500, .ref h9, .ref h10, .long 0, .int 0])), (h7, .inl (κ 3, 4, .inr (.inr (.inr (.inr (sel [h11, h12, h13, h14])))))), (h10, .inl (κ 0, 13, .inl (fun _ => 0))), (h12, .inr (6, [.ref h15, .ref h16, .int 0]))] sz)) (vx_X (fun _ : Unit => True) (fun E _ _ => ((p0 < 0) ∧ E = "java/lang/IllegalArgumentException") ∨ ((¬ p0 < 0) ∧ (¬ p0 ≤ 1) ∧ E = "java/lang/IllegalArgumentException")) (va_A [(h0, .inr (7, [.ref h1, .ref h2, .ref h3, .ref h4, .ref h5, .ref h6, .int 0, .int 0, .int 0, .int 0])), (h1, .inr (2, [.int 0, .int 2, .ref h7, .ref h8])), (h2, .inr (3, [.ref h1, .int 0, .int 500, .ref h9, .ref h10, .long 0, .int 0])), (h7, .inl (κ 3, 4, .inr (.inr (.inr (.inr (sel [h11, h12, h13, h14])))))), (h10, .inl (κ 0, 13, .inl (fun _ => 0))), (h12, .inr (6, [.ref h15, .ref h16, .int 0]))] sz)) 1 6 (va_A [(h0, .inr (7, [.ref h1, .ref h2, .ref h3, .ref h4, .ref h5, .ref h6, .int 0, .int 0, .int 0, .int 0])), (h1, .inr (2, [.int 0, .int 2, .ref h7, .ref h8])), (h2, .inr (3, [.ref h1, .int 0, .int 500, .ref h9, .ref h10, .long 0, .int 0])), (h7, .inl (κ 3, 4, .inr (.inr (.inr (.inr (sel [h11, h12, h13, h14])))))), (h10, .inl (κ 0, 13, .inl (fun _ => 0))), (h12, .inr (6, [.ref h15, .ref h16, .int 0]))] sz) := by
  refine vx_ofW (cc := cX5_ofContext) (maxL := 3) (ret := (some .int)) (by decide) rfl ?_
  intro p e s m args below meth c s₁ B hml hnx hv
  obtain ⟨rfl, hsz, hP, hK, hD0, hE9⟩ := hv
  have hx := B.exec
  have hb := B.bytes
  have hr := B.returns
  have hts := atoms_spec (ws := wsX5_ofContext) B.pre
  have hown : s.vm.findClass RX5 = some m.cls := findClass_of_methodNamed B.named
  have hlocks := B.notSynchronized
  subst hsz
  have hD := hD0.self (sz := s.heap.size)
  generalize hAe : va_A [(h0, .inr (7, [.ref h1, .ref h2, .ref h3, .ref h4, .ref h5, .ref h6, .int 0, .int 0, .int 0, .int 0])), (h1, .inr (2, [.int 0, .int 2, .ref h7, .ref h8])), (h2, .inr (3, [.ref h1, .int 0, .int 500, .ref h9, .ref h10, .long 0, .int 0])), (h7, .inl (κ 3, 4, .inr (.inr (.inr (.inr (sel [h11, h12, h13, h14])))))), (h10, .inl (κ 0, 13, .inl (fun _ => 0))), (h12, .inr (6, [.ref h15, .ref h16, .int 0]))] s.heap.size = A at hD hE9 ⊢
  have hE := hE9.1
  have hDc := hE9.2
  have hA : ∀ q : Nat, s.heap.size ≤ q → A q := fun q h => by rw [← hAe]; exact Or.inr h
  have hS : va_S A s.heap s.heap [] := va_S.rf
  have hP : va_P D vwCl [(h0, .inr (7, [.ref h1, .ref h2, .ref h3, .ref h4, .ref h5, .ref h6, .int 0, .int 0, .int 0, .int 0])), (h1, .inr (2, [.int 0, .int 2, .ref h7, .ref h8])), (h2, .inr (3, [.ref h1, .int 0, .int 500, .ref h9, .ref h10, .long 0, .int 0])), (h7, .inl (κ 3, 4, .inr (.inr (.inr (.inr (sel [h11, h12, h13, h14])))))), (h10, .inl (κ 0, 13, .inl (fun _ => 0))), (h12, .inr (6, [.ref h15, .ref h16, .int 0]))] s.heap := hP
  have hl := lv_entry [.ref h0, .int 2, .int p0] (n := 3) (Nat.le_of_ble_eq_true rfl)
  rw [lg_entry_eq]
  generalize (lg_sl [.ref h0, .int 2, .int p0] ++ List.replicate (3 - (lg_sl [.ref h0, .int 2, .int p0]).length) Slot.unset).toArray = ls at hl ⊢
  have hl : lv_has ls 3 [(0, .ref h0), (1, .int 2), (2, .int p0)] := hl
  refine lv_aload_n hx hb dX5_ofContext_0 rfl (lv_at hl 0 rfl) ?_
  refine lv_iload_n hx hb dX5_ofContext_1 rfl (lv_at hl 1 rfl) ?_
  refine vp_callSi (W.runV (As := [.int 2]) (rest := []) ⟨hx, hb, hml, hown, hts⟩ (k_X5_isOrder_1 l D κ ε h0 h1 h2 h3 h4 h5 h6 h7 h8 (0) (0) (0) (0)) (cwV 1 hts gX5_ofContext_X5_isOrder rfl rfl rfl (by decide +kernel) ⟨(Nat.le_of_ble_eq_true rfl), (Nat.le_of_ble_eq_true rfl)⟩) (pre0_V (q0 := 0) (ci := 7) (wc := [(h0, .inr (7, [.ref h1, .ref h2, .ref h3, .ref h4, .ref h5, .ref h6, .int 0, .int 0, .int 0, .int 0])), (h1, .inr (2, [.int 0, .int 2, .ref h7, .ref h8]))]) hP hK [0, 1] rfl rfl rfl) rfl rfl hl.1 rfl (lv_room (Nat.le_of_ble_eq_true rfl)) dX5_ofContext_2 ⟨(Nat.le_of_ble_eq_true rfl), (Nat.le_of_ble_eq_true rfl)⟩) (fun r hw => ?_)
  rw [hw]
  refine lv_if_eq (tgt := 17) hx hb dX5_ofContext_5 (by decide) (fun h => absurd h (by decide)) (fun _ => ?_)
  refine lv_iload_n hx hb dX5_ofContext_8 rfl (lv_at hl 2 rfl) ?_
  refine lv_if_lt (tgt := 17) hx hb dX5_ofContext_9 (by decide) (fun c1 => ?_) (fun c1 => ?_)
  · skip
    exact vx_throwS (names := ["java/lang/RuntimeException", "java/lang/Exception"]) (sa := ε 22) hx hb hst hown (by decide +kernel) (by decide +kernel) (hts _ wd240_X5_ofContext) (hts _ wd241_X5_ofContext) (hE.2.2.2.2.2.2.1 _ (List.mem_of_getElem? (i := 12) rfl)) (vx_hat (B := [.castable "java/lang/IllegalArgumentException" "java/lang/IllegalArgumentException", .declares (Bundle.initS "java/lang/RuntimeException"), .declares (Bundle.initS "java/lang/Exception"), .declares (Bundle.initS "java/lang/Throwable")]) (fun w hw => hts w (at1_X5_ofContext_82 w hw)) at2_RX5_82 (vx_c (va_Nw.use rfl hE.2.2.2.2.2.2.2.2.2.2.2.2.2.2.1) (vx_c (va_Nw.use rfl hDc.1) (vx_c (va_Nw.use rfl hDc.2.1) (vx_c (va_Nw.use rfl hDc.2.2) vx_n))))) at2_RX5_82g hE.1 hE.2.1 hS (by rw [hml]; exact hl.1) dX5_ofContext_17 dX5_ofContext_20 dX5_ofContext_21 dX5_ofContext_23 dX5_ofContext_26 (fun x hx => (hnx x hx).elim) (by decide) (by decide) (Nat.le_of_ble_eq_true rfl) (Nat.le_of_ble_eq_true rfl) hlocks (fun t _ h1 h2 => ⟨(), trivial, (Or.inl ⟨c1, rfl⟩), thF (H0 := s.heap) hS h1 h2⟩) hS.2.2 (Nat.le_of_ble_eq_true rfl) (Nat.le_of_ble_eq_true rfl)
  · skip
    refine lv_iload_n hx hb dX5_ofContext_12 rfl (lv_at hl 2 rfl) ?_
    refine lv_iconst (v := 1) hx hb dX5_ofContext_13 (by decide) ?_
    refine lv_icmp_le (tgt := 27) hx hb dX5_ofContext_14 (by decide) (fun c2 => ?_) (fun c2 => ?_)
    · skip
      refine lv_aload_n hx hb dX5_ofContext_27 rfl (lv_at hl 0 rfl) ?_
      refine lv_iload_n hx hb dX5_ofContext_28 rfl (lv_at hl 1 rfl) ?_
      refine lv_iload_n hx hb dX5_ofContext_29 rfl (lv_at hl 2 rfl) ?_
      have hF := va_free (wc := [(h0, .inr (7, [.ref h1, .ref h2, .ref h3, .ref h4, .ref h5, .ref h6, .int 0, .int 0, .int 0, .int 0])), (h1, .inr (2, [.int 0, .int 2, .ref h7, .ref h8])), (h2, .inr (3, [.ref h1, .int 0, .int 500, .ref h9, .ref h10, .long 0, .int 0])), (h7, .inl (κ 3, 4, .inr (.inr (.inr (.inr (sel [h11, h12, h13, h14])))))), (h10, .inl (κ 0, 13, .inl (fun _ => 0))), (h12, .inr (6, [.ref h15, .ref h16, .int 0]))]) hD hS hA [0, 1, 2, 3, 4, 5] rfl
      refine va_calli (va_runV (As := [.int 2, .int p0]) (rest := []) ⟨hx, hb, hml, hown, hts⟩ (k_X5_totalBehind_1 l D κ ε h0 h1 h2 h3 h4 h5 h6 h7 h8 h9 h10 h11 h12 h13 h14 h15 h16 s.heap.size (p0) (0) (0) (0) (2) (0) (500)) (cwV 2 hts gX5_ofContext_X5_totalBehind rfl rfl rfl (by decide +kernel) ⟨(Nat.le_of_ble_eq_true rfl), (Nat.le_of_ble_eq_true rfl)⟩) (pre2_V (q0 := 0) (ci := 7) (wc := [(h0, .inr (7, [.ref h1, .ref h2, .ref h3, .ref h4, .ref h5, .ref h6, .int 0, .int 0, .int 0, .int 0])), (h1, .inr (2, [.int 0, .int 2, .ref h7, .ref h8])), (h2, .inr (3, [.ref h1, .int 0, .int 500, .ref h9, .ref h10, .long 0, .int 0])), (h7, .inl (κ 3, 4, .inr (.inr (.inr (.inr (sel [h11, h12, h13, h14])))))), (h10, .inl (κ 0, 13, .inl (fun _ => 0))), (h12, .inr (6, [.ref h15, .ref h16, .int 0]))]) hP hD hK hE9 hS hA [0, 1, 2, 3, 4, 5] (by decide) rfl rfl rfl) rfl rfl hl.1 rfl (lv_room (Nat.le_of_ble_eq_true rfl)) dX5_ofContext_30 ⟨(Nat.le_of_ble_eq_true rfl), (Nat.le_of_ble_eq_true rfl)⟩) hS (fun q _ h => hF q h) hF (fun r u3 t H locs ht hvm hw hB hz1 hk1 hS => ?_)
      try dsimp only at hw hB
      obtain ⟨hP1, hD1⟩ := hB
      rw [ht] at hP1
      obtain ⟨hP, hD⟩ := post_j (ws' := [(h0, .inr (7, [.ref h1, .ref h2, .ref h3, .ref h4, .ref h5, .ref h6, .int 0, .int 0, .int 0, .int 0])), (h1, .inr (2, [.int 0, .int 2, .ref h7, .ref h8])), (h2, .inr (3, [.ref h1, .int 0, .int 500, .ref h9, .ref h10, .long 0, .int 0])), (h7, .inl (κ 3, 4, .inr (.inr (.inr (.inr (sel [h11, h12, h13, h14])))))), (h10, .inl (κ 0, 13, .inl (fun _ => 0))), (h12, .inr (6, [.ref h15, .ref h16, .int 0]))]) (wr := []) (w1 := [(h0, .inr (7, [.ref h1, .ref h2, .ref h3, .ref h4, .ref h5, .ref h6, .int 0, .int 0, .int 0, .int 0])), (h1, .inr (2, [.int 0, .int 2, .ref h7, .ref h8])), (h2, .inr (3, [.ref h1, .int 0, .int 500, .ref h9, .ref h10, .long 0, .int 0])), (h7, .inl (κ 3, 4, .inr (.inr (.inr (.inr (sel [h11, h12, h13, h14])))))), (h10, .inl (κ 0, 13, .inl (fun _ => 0))), (h12, .inr (6, [.ref h15, .ref h16, .int 0]))]) hP hD hF [0, 1, 2, 3, 4, 5] rfl [] rfl (by decide) (by decide) hk1 hP1 hD1 [0, 1, 2, 3, 4, 5] (by decide) rfl
      have hP : va_P D vwCl [(h0, .inr (7, [.ref h1, .ref h2, .ref h3, .ref h4, .ref h5, .ref h6, .int 0, .int 0, .int 0, .int 0])), (h1, .inr (2, [.int 0, .int 2, .ref h7, .ref h8])), (h2, .inr (3, [.ref h1, .int 0, .int 500, .ref h9, .ref h10, .long 0, .int 0])), (h7, .inl (κ 3, 4, .inr (.inr (.inr (.inr (sel [h11, h12, h13, h14])))))), (h10, .inl (κ 0, 13, .inl (fun _ => 0))), (h12, .inr (6, [.ref h15, .ref h16, .int 0]))] H := hP
      have hD : va_D A [(h0, .inr (7, [.ref h1, .ref h2, .ref h3, .ref h4, .ref h5, .ref h6, .int 0, .int 0, .int 0, .int 0])), (h1, .inr (2, [.int 0, .int 2, .ref h7, .ref h8])), (h2, .inr (3, [.ref h1, .int 0, .int 500, .ref h9, .ref h10, .long 0, .int 0])), (h7, .inl (κ 3, 4, .inr (.inr (.inr (.inr (sel [h11, h12, h13, h14])))))), (h10, .inl (κ 0, 13, .inl (fun _ => 0))), (h12, .inr (6, [.ref h15, .ref h16, .int 0]))] := hD
      rcases hw with ⟨c4, rfl⟩ | ⟨c5, rfl⟩
      · skip
        refine W.widen (k := 1) (n := 6) (Nat.le_of_ble_eq_true rfl) (Nat.le_of_ble_eq_true rfl) ?_
        refine vx_ret ?_
        exact W.iret (v := 0) hx hb hr (fun t ht hW => ⟨⟨0, (), rfl, (Or.inl ⟨c1, c2, c4, rfl⟩), trivial⟩, hS.F ht⟩) hS.2.2 dX5_ofContext_33
      · skip
        refine W.widen (k := 1) (n := 6) (Nat.le_of_ble_eq_true rfl) (Nat.le_of_ble_eq_true rfl) ?_
        refine vx_ret ?_
        exact W.iret (v := 0) hx hb hr (fun t ht hW => ⟨⟨0, (), rfl, (Or.inr ⟨c1, c2, c5, rfl⟩), trivial⟩, hS.F ht⟩) hS.2.2 dX5_ofContext_33
    · skip
      exact vx_throwS (names := ["java/lang/RuntimeException", "java/lang/Exception"]) (sa := ε 22) hx hb hst hown (by decide +kernel) (by decide +kernel) (hts _ wd240_X5_ofContext) (hts _ wd241_X5_ofContext) (hE.2.2.2.2.2.2.1 _ (List.mem_of_getElem? (i := 12) rfl)) (vx_hat (B := [.castable "java/lang/IllegalArgumentException" "java/lang/IllegalArgumentException", .declares (Bundle.initS "java/lang/RuntimeException"), .declares (Bundle.initS "java/lang/Exception"), .declares (Bundle.initS "java/lang/Throwable")]) (fun w hw => hts w (at1_X5_ofContext_82 w hw)) at2_RX5_82 (vx_c (va_Nw.use rfl hE.2.2.2.2.2.2.2.2.2.2.2.2.2.2.1) (vx_c (va_Nw.use rfl hDc.1) (vx_c (va_Nw.use rfl hDc.2.1) (vx_c (va_Nw.use rfl hDc.2.2) vx_n))))) at2_RX5_82g hE.1 hE.2.1 hS (by rw [hml]; exact hl.1) dX5_ofContext_17 dX5_ofContext_20 dX5_ofContext_21 dX5_ofContext_23 dX5_ofContext_26 (fun x hx => (hnx x hx).elim) (by decide) (by decide) (Nat.le_of_ble_eq_true rfl) (Nat.le_of_ble_eq_true rfl) hlocks (fun t _ h1 h2 => ⟨(), trivial, (Or.inr ⟨c1, c2, rfl⟩), thF (H0 := s.heap) hS h1 h2⟩) hS.2.2 (Nat.le_of_ble_eq_true rfl) (Nat.le_of_ble_eq_true rfl)

set_option maxHeartbeats 4000000 in
set_option maxRecDepth 100000 in
theorem k_L_ofContext_1 (l : Launch) (hst : l.stackTraces = false) (D : va_G) (κ ε : Nat → Nat) (h0 h1 h2 h3 h4 h5 h6 h7 h8 h9 h10 h11 h12 h13 h14 h15 h16 h17 : Nat) (sz : Nat) (p0 : Int32) : Met l yL_ofContext wsL_ofContext ({ frames := 7, cells := 1, slots := 6, locals := 142 }) (va_Pc [.ref h0, .int 2, .int p0, .ref h1] (Pre2 D κ ε [(h0, .inr (7, [.ref h2, .ref h3, .ref h4, .ref h5, .ref h6, .ref h7, .int 0, .int 0, .int 0, .int 0])), (h1, .inl (κ 2, 1, .inr (.inl (fun _ => 0)))), (h2, .inr (2, [.int 0, .int 2, .ref h8, .ref h9])), (h3, .inr (3, [.ref h2, .int 0, .int 500, .ref h10, .ref h11, .long 0, .int 0])), (h8, .inl (κ 3, 4, .inr (.inr (.inr (.inr (sel [h12, h13, h14, h15])))))), (h11, .inl (κ 0, 13, .inl (fun _ => 0))), (h13, .inr (6, [.ref h16, .ref h17, .int 0]))] sz)) (va_Qi (fun r (u : Nat → Int64) => ((p0 < 0) ∧ (r = 1)) ∨ ((¬ p0 < 0) ∧ (¬ p0 ≤ 1) ∧ (r = 1)) ∨ ((¬ p0 < 0) ∧ (p0 ≤ 1) ∧ (¬ p0 = 0) ∧ (u 0 = 0) ∧ (r = 0)) ∨ ((¬ p0 < 0) ∧ (p0 ≤ 1) ∧ (p0 = 0) ∧ (u 0 = 0) ∧ (r = 0))) (fun u t => va_P D vwCl [(h1, .inl (κ 2, 1, .inr (.inl u)))] t.heap ∧ va_D (va_A [(h0, .inr (7, [.ref h2, .ref h3, .ref h4, .ref h5, .ref h6, .ref h7, .int 0, .int 0, .int 0, .int 0])), (h1, .inl (κ 2, 1, .inr (.inl (fun _ => 0)))), (h2, .inr (2, [.int 0, .int 2, .ref h8, .ref h9])), (h3, .inr (3, [.ref h2, .int 0, .int 500, .ref h10, .ref h11, .long 0, .int 0])), (h8, .inl (κ 3, 4, .inr (.inr (.inr (.inr (sel [h12, h13, h14, h15])))))), (h11, .inl (κ 0, 13, .inl (fun _ => 0))), (h13, .inr (6, [.ref h16, .ref h17, .int 0]))] sz) [(h1, .inl (κ 2, 1, .inr (.inl u)))]) (va_A [(h0, .inr (7, [.ref h2, .ref h3, .ref h4, .ref h5, .ref h6, .ref h7, .int 0, .int 0, .int 0, .int 0])), (h1, .inl (κ 2, 1, .inr (.inl (fun _ => 0)))), (h2, .inr (2, [.int 0, .int 2, .ref h8, .ref h9])), (h3, .inr (3, [.ref h2, .int 0, .int 500, .ref h10, .ref h11, .long 0, .int 0])), (h8, .inl (κ 3, 4, .inr (.inr (.inr (.inr (sel [h12, h13, h14, h15])))))), (h11, .inl (κ 0, 13, .inl (fun _ => 0))), (h13, .inr (6, [.ref h16, .ref h17, .int 0]))] sz)) 1 6 (va_A [(h0, .inr (7, [.ref h2, .ref h3, .ref h4, .ref h5, .ref h6, .ref h7, .int 0, .int 0, .int 0, .int 0])), (h1, .inl (κ 2, 1, .inr (.inl (fun _ => 0)))), (h2, .inr (2, [.int 0, .int 2, .ref h8, .ref h9])), (h3, .inr (3, [.ref h2, .int 0, .int 500, .ref h10, .ref h11, .long 0, .int 0])), (h8, .inl (κ 3, 4, .inr (.inr (.inr (.inr (sel [h12, h13, h14, h15])))))), (h11, .inl (κ 0, 13, .inl (fun _ => 0))), (h13, .inr (6, [.ref h16, .ref h17, .int 0]))] sz) := by
  refine va_MetW (cc := cL_ofContext) (maxL := 5) (ret := (some .int)) (hh := [(0, 10, 13, 19)]) (by decide) rfl ?_
  intro p e s m args below meth c s₁ B hml hv
  obtain ⟨rfl, hsz, hP, hK, hD0, hE9⟩ := hv
  have hx := B.exec
  have hb := B.bytes
  have hr := B.returns
  have hts := atoms_spec (ws := wsL_ofContext) B.pre
  have hown : s.vm.findClass RL = some m.cls := findClass_of_methodNamed B.named
  have hlocks := B.notSynchronized
  have htab : c.exceptionTable.toList = tableOf [(0, 10, 13, 19)] := vx_table (x := yL_ofContext) B (hts (.codeWith yL_ofContext cL_ofContext 5 (some .int) [(0, 10, 13, 19)]) List.mem_cons_self)
  subst hsz
  have hD := hD0.self (sz := s.heap.size)
  generalize hAe : va_A [(h0, .inr (7, [.ref h2, .ref h3, .ref h4, .ref h5, .ref h6, .ref h7, .int 0, .int 0, .int 0, .int 0])), (h1, .inl (κ 2, 1, .inr (.inl (fun _ => 0)))), (h2, .inr (2, [.int 0, .int 2, .ref h8, .ref h9])), (h3, .inr (3, [.ref h2, .int 0, .int 500, .ref h10, .ref h11, .long 0, .int 0])), (h8, .inl (κ 3, 4, .inr (.inr (.inr (.inr (sel [h12, h13, h14, h15])))))), (h11, .inl (κ 0, 13, .inl (fun _ => 0))), (h13, .inr (6, [.ref h16, .ref h17, .int 0]))] s.heap.size = A at hD hE9 ⊢
  have hE := hE9.1
  have hDc := hE9.2
  have hA : ∀ q : Nat, s.heap.size ≤ q → A q := fun q h => by rw [← hAe]; exact Or.inr h
  have hS : va_S A s.heap s.heap [] := va_S.rf
  have hP : va_P D vwCl [(h0, .inr (7, [.ref h2, .ref h3, .ref h4, .ref h5, .ref h6, .ref h7, .int 0, .int 0, .int 0, .int 0])), (h1, .inl (κ 2, 1, .inr (.inl (fun _ => 0)))), (h2, .inr (2, [.int 0, .int 2, .ref h8, .ref h9])), (h3, .inr (3, [.ref h2, .int 0, .int 500, .ref h10, .ref h11, .long 0, .int 0])), (h8, .inl (κ 3, 4, .inr (.inr (.inr (.inr (sel [h12, h13, h14, h15])))))), (h11, .inl (κ 0, 13, .inl (fun _ => 0))), (h13, .inr (6, [.ref h16, .ref h17, .int 0]))] s.heap := hP
  have hl := lv_entry [.ref h0, .int 2, .int p0, .ref h1] (n := 5) (Nat.le_of_ble_eq_true rfl)
  rw [lg_entry_eq]
  generalize (lg_sl [.ref h0, .int 2, .int p0, .ref h1] ++ List.replicate (5 - (lg_sl [.ref h0, .int 2, .int p0, .ref h1]).length) Slot.unset).toArray = ls at hl ⊢
  have hl : lv_has ls 5 [(0, .ref h0), (1, .int 2), (2, .int p0), (3, .ref h1)] := hl
  refine lv_aload_n hx hb dL_ofContext_0 rfl (lv_at hl 3 rfl) ?_
  refine lv_iconst (v := 0) hx hb dL_ofContext_1 (by decide) ?_
  refine lv_aload_n hx hb dL_ofContext_2 rfl (lv_at hl 0 rfl) ?_
  refine lv_iload_n hx hb dL_ofContext_3 rfl (lv_at hl 1 rfl) ?_
  refine lv_iload_n hx hb dL_ofContext_4 rfl (lv_at hl 2 rfl) ?_
  have hF := va_free (wc := [(h0, .inr (7, [.ref h2, .ref h3, .ref h4, .ref h5, .ref h6, .ref h7, .int 0, .int 0, .int 0, .int 0])), (h2, .inr (2, [.int 0, .int 2, .ref h8, .ref h9])), (h3, .inr (3, [.ref h2, .int 0, .int 500, .ref h10, .ref h11, .long 0, .int 0])), (h8, .inl (κ 3, 4, .inr (.inr (.inr (.inr (sel [h12, h13, h14, h15])))))), (h11, .inl (κ 0, 13, .inl (fun _ => 0))), (h13, .inr (6, [.ref h16, .ref h17, .int 0]))]) hD hS hA [0, 2, 3, 4, 5, 6] rfl
  refine vx_calli (vx_runV (As := [.int 2, .int p0]) (rest := [.int 0, .ref h1]) ⟨hx, hb, hml, hown, hts⟩ (k_X5_ofContext_1 l hst D κ ε h0 h2 h3 h4 h5 h6 h7 h8 h9 h10 h11 h12 h13 h14 h15 h16 h17 s.heap.size (p0)) (cwV 2 hts gL_ofContext_X5_ofContext rfl rfl rfl (by decide +kernel) ⟨(Nat.le_of_ble_eq_true rfl), (Nat.le_of_ble_eq_true rfl)⟩) (pre2_V (q0 := 0) (ci := 7) (wc := [(h0, .inr (7, [.ref h2, .ref h3, .ref h4, .ref h5, .ref h6, .ref h7, .int 0, .int 0, .int 0, .int 0])), (h2, .inr (2, [.int 0, .int 2, .ref h8, .ref h9])), (h3, .inr (3, [.ref h2, .int 0, .int 500, .ref h10, .ref h11, .long 0, .int 0])), (h8, .inl (κ 3, 4, .inr (.inr (.inr (.inr (sel [h12, h13, h14, h15])))))), (h11, .inl (κ 0, 13, .inl (fun _ => 0))), (h13, .inr (6, [.ref h16, .ref h17, .int 0]))]) hP hD hK hE9 hS hA [0, 2, 3, 4, 5, 6] (by decide) rfl rfl rfl) rfl rfl hl.1 rfl (lv_room (Nat.le_of_ble_eq_true rfl)) dL_ofContext_5 ⟨(Nat.le_of_ble_eq_true rfl), (Nat.le_of_ble_eq_true rfl)⟩) hS (fun q _ h => hF q h) hF (fun q _ h => hF q h) (fun E9 ce q9 u t H locs ht hvm hw hB hz1 hk1 hS hce hcv hcl => ?_) (fun r u t H locs ht hvm hw hB hz1 hk1 hS => ?_)
  · try dsimp only at hB
    have hP1 : va_P D vwCl [] H := P_nil
    obtain ⟨hP, hD⟩ := post_j (ws' := [(h1, .inl (κ 2, 1, .inr (.inl (fun _ => 0))))]) (wr := [(h1, .inl (κ 2, 1, .inr (.inl (fun _ => 0))))]) (w1 := []) hP hD hF [0, 2, 3, 4, 5, 6] rfl [1] rfl (by decide) (by decide) hk1 hP1 D_nil [0] (by decide) rfl
    have hP : va_P D vwCl [(h1, .inl (κ 2, 1, .inr (.inl (fun _ => 0))))] H := hP
    have hD : va_D A [(h1, .inl (κ 2, 1, .inr (.inl (fun _ => 0))))] := hD
    rcases hB with ⟨c2, rfl⟩ | ⟨c3, c4, rfl⟩
    · skip
      refine vx_catch (name := "java/lang/IllegalArgumentException") hown [] ⟨0, 10, 13, 19⟩ [] (htab.trans rfl) (fun z hz => nomatch hz) (by decide) (by decide) (hts _ wd242_L_ofContext) (va_Nw.use rfl hE.2.2.2.2.2.2.2.2.2.2.2.2.2.2.1) hce hcv hcl ?_
      refine lv_astore (lv' := [(4, .ref q9), (0, .ref h0), (1, .int 2), (2, .int p0), (3, .ref h1)]) hx hb dL_ofContext_13 hl (by decide) rfl (fun ls hl => ?_)
      refine lv_iconst (v := 1) hx hb dL_ofContext_15 (by decide) ?_
      have hP9 := hP.sub (ws' := [(h1, .inl (κ 2, 1, .inr (.inl (fun _ => 0))))]) [0] rfl
      have hD9 := hD.sub (ws' := [(h1, .inl (κ 2, 1, .inr (.inl (fun _ => 0))))]) [0] (by decide) rfl
      refine W.widen (k := 1) (n := 6) (Nat.le_of_ble_eq_true rfl) (Nat.le_of_ble_eq_true rfl) ?_
      exact W.iret (v := 1) hx hb hr (fun t ht hW => ⟨⟨1, (fun _ => 0), rfl, (Or.inl ⟨c2, rfl⟩), by rw [ht]; exact hP9, hD9⟩, hS.F ht⟩) hS.2.2 dL_ofContext_16
    · skip
      refine vx_catch (name := "java/lang/IllegalArgumentException") hown [] ⟨0, 10, 13, 19⟩ [] (htab.trans rfl) (fun z hz => nomatch hz) (by decide) (by decide) (hts _ wd242_L_ofContext) (va_Nw.use rfl hE.2.2.2.2.2.2.2.2.2.2.2.2.2.2.1) hce hcv hcl ?_
      refine lv_astore (lv' := [(4, .ref q9), (0, .ref h0), (1, .int 2), (2, .int p0), (3, .ref h1)]) hx hb dL_ofContext_13 hl (by decide) rfl (fun ls hl => ?_)
      refine lv_iconst (v := 1) hx hb dL_ofContext_15 (by decide) ?_
      have hP9 := hP.sub (ws' := [(h1, .inl (κ 2, 1, .inr (.inl (fun _ => 0))))]) [0] rfl
      have hD9 := hD.sub (ws' := [(h1, .inl (κ 2, 1, .inr (.inl (fun _ => 0))))]) [0] (by decide) rfl
      refine W.widen (k := 1) (n := 6) (Nat.le_of_ble_eq_true rfl) (Nat.le_of_ble_eq_true rfl) ?_
      exact W.iret (v := 1) hx hb hr (fun t ht hW => ⟨⟨1, (fun _ => 0), rfl, (Or.inr (Or.inl ⟨c3, c4, rfl⟩)), by rw [ht]; exact hP9, hD9⟩, hS.F ht⟩) hS.2.2 dL_ofContext_16
  · try dsimp only at hw hB
    have hP1 : va_P D vwCl [] H := P_nil
    obtain ⟨hP, hD⟩ := post_j (ws' := [(h1, .inl (κ 2, 1, .inr (.inl (fun _ => 0))))]) (wr := [(h1, .inl (κ 2, 1, .inr (.inl (fun _ => 0))))]) (w1 := []) hP hD hF [0, 2, 3, 4, 5, 6] rfl [1] rfl (by decide) (by decide) hk1 hP1 D_nil [0] (by decide) rfl
    have hP : va_P D vwCl [(h1, .inl (κ 2, 1, .inr (.inl (fun _ => 0))))] H := hP
    have hD : va_D A [(h1, .inl (κ 2, 1, .inr (.inl (fun _ => 0))))] := hD
    rcases hw with ⟨c5, c6, c7, rfl⟩ | ⟨c8, c9, c10, rfl⟩
    · skip
      refine lv_i2l (v := 0) hx hb dL_ofContext_8 (by decide) ?_
      refine va_last (cA := κ 2) (n := 1) (f := (fun _ => 0)) hx hb hK hP hD hS 0 2 rfl rfl (vpl (by decide)) dL_ofContext_9 (fun H locs hP hD hS => ?_)
      have hP : va_P D vwCl [(h1, .inl (κ 2, 1, .inr (.inl (vp_updL (fun _ => 0) 0 0))))] H := hP
      have hD : va_D A [(h1, .inl (κ 2, 1, .inr (.inl (vp_updL (fun _ => 0) 0 0))))] := hD
      refine lv_goto (tgt := 17) hx hb dL_ofContext_10 (by decide) ?_
      refine lv_iconst (v := 0) hx hb dL_ofContext_17 (by decide) ?_
      have hP9 := hP.sub (ws' := [(h1, .inl (κ 2, 1, .inr (.inl (vp_updL (fun _ => 0) 0 0))))]) [0] rfl
      have hD9 := hD.sub (ws' := [(h1, .inl (κ 2, 1, .inr (.inl (vp_updL (fun _ => 0) 0 0))))]) [0] (by decide) rfl
      refine W.widen (k := 1) (n := 6) (Nat.le_of_ble_eq_true rfl) (Nat.le_of_ble_eq_true rfl) ?_
      exact W.iret (v := 0) hx hb hr (fun t ht hW => ⟨⟨0, (vp_updL (fun _ => 0) 0 0), rfl, (Or.inr (Or.inr (Or.inl ⟨c5, c6, c7, rfl, rfl⟩))), by rw [ht]; exact hP9, hD9⟩, hS.F ht⟩) hS.2.2 dL_ofContext_18
    · skip
      refine lv_i2l (v := 0) hx hb dL_ofContext_8 (by decide) ?_
      refine va_last (cA := κ 2) (n := 1) (f := (fun _ => 0)) hx hb hK hP hD hS 0 2 rfl rfl (vpl (by decide)) dL_ofContext_9 (fun H locs hP hD hS => ?_)
      have hP : va_P D vwCl [(h1, .inl (κ 2, 1, .inr (.inl (vp_updL (fun _ => 0) 0 0))))] H := hP
      have hD : va_D A [(h1, .inl (κ 2, 1, .inr (.inl (vp_updL (fun _ => 0) 0 0))))] := hD
      refine lv_goto (tgt := 17) hx hb dL_ofContext_10 (by decide) ?_
      refine lv_iconst (v := 0) hx hb dL_ofContext_17 (by decide) ?_
      have hP9 := hP.sub (ws' := [(h1, .inl (κ 2, 1, .inr (.inl (vp_updL (fun _ => 0) 0 0))))]) [0] rfl
      have hD9 := hD.sub (ws' := [(h1, .inl (κ 2, 1, .inr (.inl (vp_updL (fun _ => 0) 0 0))))]) [0] (by decide) rfl
      refine W.widen (k := 1) (n := 6) (Nat.le_of_ble_eq_true rfl) (Nat.le_of_ble_eq_true rfl) ?_
      exact W.iret (v := 0) hx hb hr (fun t ht hW => ⟨⟨0, (vp_updL (fun _ => 0) 0 0), rfl, (Or.inr (Or.inr (Or.inr ⟨c8, c9, c10, rfl, rfl⟩))), by rw [ht]; exact hP9, hD9⟩, hS.F ht⟩) hS.2.2 dL_ofContext_18

set_option maxHeartbeats 4000000 in
set_option maxRecDepth 100000 in
theorem k_X6_ofContext_4 (l : Launch) (D : va_G) (κ ε : Nat → Nat) (h0 h1 h2 h3 : Nat) (sz : Nat) (p0 : Int32) (hf0 : p0 < 0) : Met l yX6_ofContext wsX6_ofContext ({ frames := 2, cells := 0, slots := 0, locals := 44 }) (va_Pc [.ref h0, .int 2, .int p0] (Pre2 D κ ε [(h0, .inr (8, [.int 0, .int 0, .int 2, .ref h1, .ref h2, .int 0, .int 500, .int 0, .int 0, .int 0, .ref h3]))] sz)) (va_Qi (fun r (u : List Value) => (u[0]? = some (.int 1)) ∧ (r = 0)) (fun u t => va_P D vwCl [(h0, .inr (8, u))] t.heap ∧ va_D (va_A [(h0, .inr (8, [.int 0, .int 0, .int 2, .ref h1, .ref h2, .int 0, .int 500, .int 0, .int 0, .int 0, .ref h3]))] sz) [(h0, .inr (8, u))]) (va_A [(h0, .inr (8, [.int 0, .int 0, .int 2, .ref h1, .ref h2, .int 0, .int 500, .int 0, .int 0, .int 0, .ref h3]))] sz)) 0 0 (va_A [(h0, .inr (8, [.int 0, .int 0, .int 2, .ref h1, .ref h2, .int 0, .int 500, .int 0, .int 0, .int 0, .ref h3]))] sz) := by
  refine Met.ofW (cc := cX6_ofContext) (maxL := 3) (ret := (some .int)) (by decide) rfl ?_
  intro p e s m args below meth c s₁ B hml hv
  obtain ⟨rfl, hsz, hP, hK, hD0, hE9⟩ := hv
  have hx := B.exec
  have hb := B.bytes
  have hr := B.returns
  have hts := atoms_spec (ws := wsX6_ofContext) B.pre
  have hown : s.vm.findClass RX6 = some m.cls := findClass_of_methodNamed B.named
  have hlocks := B.notSynchronized
  subst hsz
  have hD := hD0.self (sz := s.heap.size)
  generalize hAe : va_A [(h0, .inr (8, [.int 0, .int 0, .int 2, .ref h1, .ref h2, .int 0, .int 500, .int 0, .int 0, .int 0, .ref h3]))] s.heap.size = A at hD hE9 ⊢
  have hE := hE9.1
  have hDc := hE9.2
  have hA : ∀ q : Nat, s.heap.size ≤ q → A q := fun q h => by rw [← hAe]; exact Or.inr h
  have hS : va_S A s.heap s.heap [] := va_S.rf
  have hP : va_P D vwCl [(h0, .inr (8, [.int 0, .int 0, .int 2, .ref h1, .ref h2, .int 0, .int 500, .int 0, .int 0, .int 0, .ref h3]))] s.heap := hP
  have hl := lv_entry [.ref h0, .int 2, .int p0] (n := 3) (Nat.le_of_ble_eq_true rfl)
  rw [lg_entry_eq]
  generalize (lg_sl [.ref h0, .int 2, .int p0] ++ List.replicate (3 - (lg_sl [.ref h0, .int 2, .int p0]).length) Slot.unset).toArray = ls at hl ⊢
  have hl : lv_has ls 3 [(0, .ref h0), (1, .int 2), (2, .int p0)] := hl
  refine lv_aload_n hx hb dX6_ofContext_0 rfl (lv_at hl 0 rfl) ?_
  refine lv_iload_n hx hb dX6_ofContext_1 rfl (lv_at hl 1 rfl) ?_
  refine lv_iconst (v := 1) hx hb dX6_ofContext_2 (by decide) ?_
  refine lv_aload_n hx hb dX6_ofContext_3 rfl (lv_at hl 0 rfl) ?_
  refine va_get (D := D) (ci := 8) (v := .int 2) (C := RX6) (T := TX6) (N := 11) hx hb hts wi_X6_ofContext_RX6 hown hK hP 0 rfl rfl 2 (by decide) (hts _ wd243_X6_ofContext) (fun _ h9 => h9) rfl dX6_ofContext_4 ?_
  refine vp_callSi (W.runS (As := [.int 2, .int 1, .int 2]) (rest := [.ref h0]) ⟨hx, hb, hml, hown, hts⟩ (k_X6_isIn_9 l D κ ε) (va_cwS 3 hts gX6_ofContext_X6_isIn rfl rfl rfl (by decide +kernel) ⟨(Nat.le_of_ble_eq_true rfl), (Nat.le_of_ble_eq_true rfl)⟩) (pre0_S (wc := []) hP hK [] rfl) rfl rfl hl.1 rfl (lv_room (Nat.le_of_ble_eq_true rfl)) dX6_ofContext_7 ⟨(Nat.le_of_ble_eq_true rfl), (Nat.le_of_ble_eq_true rfl)⟩) (fun r hw => ?_)
  rw [hw]
  refine lv_if_eq (tgt := 22) hx hb dX6_ofContext_10 (by decide) (fun h => absurd h (by decide)) (fun _ => ?_)
  refine lv_iload_n hx hb dX6_ofContext_13 rfl (lv_at hl 2 rfl) ?_
  refine lv_iconst (v := 0) hx hb dX6_ofContext_14 (by decide) ?_
  refine lv_iconst (v := 1) hx hb dX6_ofContext_15 (by decide) ?_
  refine vp_callSi (W.runS (As := [.int p0, .int 0, .int 1]) (rest := [.ref h0]) ⟨hx, hb, hml, hown, hts⟩ (k_X6_isIn_12 l D κ ε (p0) hf0) (va_cwS 3 hts gX6_ofContext_X6_isIn rfl rfl rfl (by decide +kernel) ⟨(Nat.le_of_ble_eq_true rfl), (Nat.le_of_ble_eq_true rfl)⟩) (pre0_S (wc := []) hP hK [] rfl) rfl rfl hl.1 rfl (lv_room (Nat.le_of_ble_eq_true rfl)) dX6_ofContext_16 ⟨(Nat.le_of_ble_eq_true rfl), (Nat.le_of_ble_eq_true rfl)⟩) (fun r hw => ?_)
  rw [hw]
  refine lv_if_ne (tgt := 26) hx hb dX6_ofContext_19 (by decide) (fun h => absurd (by decide) h) (fun _ => ?_)
  refine lv_iconst (v := 1) hx hb dX6_ofContext_22 (by decide) ?_
  refine lv_goto (tgt := 27) hx hb dX6_ofContext_23 (by decide) ?_
  refine lv_iconst (v := 1) hx hb dX6_ofContext_27 (by decide) ?_
  have hF := va_free (wc := [(h0, .inr (8, [.int 0, .int 0, .int 2, .ref h1, .ref h2, .int 0, .int 500, .int 0, .int 0, .int 0, .ref h3]))]) hD hS hA [0] rfl
  refine va_calli (va_runV (As := [.int 1, .int 1]) (rest := []) ⟨hx, hb, hml, hown, hts⟩ (k_X6_start_1 l D κ ε h0 h1 h2 h3 s.heap.size (0) (2) (0) (500) (0) (0)) (cwV 2 hts gX6_ofContext_X6_start rfl rfl rfl (by decide +kernel) ⟨(Nat.le_of_ble_eq_true rfl), (Nat.le_of_ble_eq_true rfl)⟩) (pre2_V (q0 := 0) (ci := 8) (wc := [(h0, .inr (8, [.int 0, .int 0, .int 2, .ref h1, .ref h2, .int 0, .int 500, .int 0, .int 0, .int 0, .ref h3]))]) hP hD hK hE9 hS hA [0] (by decide) rfl rfl rfl) rfl rfl hl.1 rfl (lv_room (Nat.le_of_ble_eq_true rfl)) dX6_ofContext_28 ⟨(Nat.le_of_ble_eq_true rfl), (Nat.le_of_ble_eq_true rfl)⟩) hS (fun q _ h => hF q h) hF (fun r u1 t H locs ht hvm hw hB hz1 hk1 hS => ?_)
  try dsimp only at hw hB
  obtain ⟨hP1, hD1⟩ := hB
  rw [ht] at hP1
  obtain ⟨hP, hD⟩ := post_j (ws' := [(h0, .inr (8, [.int 1, .int 0, .int 2, .ref h1, .ref h2, .int 0, .int 500, .int 0, .int 0, .int 0, .ref h3]))]) (wr := []) (w1 := [(h0, .inr (8, [.int 1, .int 0, .int 2, .ref h1, .ref h2, .int 0, .int 500, .int 0, .int 0, .int 0, .ref h3]))]) hP hD hF [0] rfl [] rfl (by decide) (by decide) hk1 hP1 hD1 [0] (by decide) rfl
  have hP : va_P D vwCl [(h0, .inr (8, [.int 1, .int 0, .int 2, .ref h1, .ref h2, .int 0, .int 500, .int 0, .int 0, .int 0, .ref h3]))] H := hP
  have hD : va_D A [(h0, .inr (8, [.int 1, .int 0, .int 2, .ref h1, .ref h2, .int 0, .int 500, .int 0, .int 0, .int 0, .ref h3]))] := hD
  rw [hw]
  refine lv_if_eq (tgt := 38) hx hb dX6_ofContext_31 (by decide) (fun h => absurd h (by decide)) (fun _ => ?_)
  refine lv_iconst (v := 0) hx hb dX6_ofContext_34 (by decide) ?_
  refine lv_goto (tgt := 44) hx hb dX6_ofContext_35 (by decide) ?_
  have hP9 := hP.sub (ws' := [(h0, .inr (8, [.int 1, .int 0, .int 2, .ref h1, .ref h2, .int 0, .int 500, .int 0, .int 0, .int 0, .ref h3]))]) [0] rfl
  have hD9 := hD.sub (ws' := [(h0, .inr (8, [.int 1, .int 0, .int 2, .ref h1, .ref h2, .int 0, .int 500, .int 0, .int 0, .int 0, .ref h3]))]) [0] (by decide) rfl
  exact W.iret (v := 0) hx hb hr (fun t ht hW => ⟨⟨0, [.int 1, .int 0, .int 2, .ref h1, .ref h2, .int 0, .int 500, .int 0, .int 0, .int 0, .ref h3], rfl, ⟨rfl, rfl⟩, by rw [ht]; exact hP9, hD9⟩, hS.F ht⟩) hS.2.2 dX6_ofContext_44

set_option maxHeartbeats 4000000 in
set_option maxRecDepth 100000 in
theorem k_X6_ofContext_5 (l : Launch) (D : va_G) (κ ε : Nat → Nat) (h0 h1 h2 h3 : Nat) (sz : Nat) (p0 : Int32) (hf0 : ¬ p0 < 0) (hf1 : ¬ p0 ≤ 1) : Met l yX6_ofContext wsX6_ofContext ({ frames := 2, cells := 0, slots := 0, locals := 44 }) (va_Pc [.ref h0, .int 2, .int p0] (Pre2 D κ ε [(h0, .inr (8, [.int 0, .int 0, .int 2, .ref h1, .ref h2, .int 0, .int 500, .int 0, .int 0, .int 0, .ref h3]))] sz)) (va_Qi (fun r (u : List Value) => (u[0]? = some (.int 1)) ∧ (r = 0)) (fun u t => va_P D vwCl [(h0, .inr (8, u))] t.heap ∧ va_D (va_A [(h0, .inr (8, [.int 0, .int 0, .int 2, .ref h1, .ref h2, .int 0, .int 500, .int 0, .int 0, .int 0, .ref h3]))] sz) [(h0, .inr (8, u))]) (va_A [(h0, .inr (8, [.int 0, .int 0, .int 2, .ref h1, .ref h2, .int 0, .int 500, .int 0, .int 0, .int 0, .ref h3]))] sz)) 0 0 (va_A [(h0, .inr (8, [.int 0, .int 0, .int 2, .ref h1, .ref h2, .int 0, .int 500, .int 0, .int 0, .int 0, .ref h3]))] sz) := by
  refine Met.ofW (cc := cX6_ofContext) (maxL := 3) (ret := (some .int)) (by decide) rfl ?_
  intro p e s m args below meth c s₁ B hml hv
  obtain ⟨rfl, hsz, hP, hK, hD0, hE9⟩ := hv
  have hx := B.exec
  have hb := B.bytes
  have hr := B.returns
  have hts := atoms_spec (ws := wsX6_ofContext) B.pre
  have hown : s.vm.findClass RX6 = some m.cls := findClass_of_methodNamed B.named
  have hlocks := B.notSynchronized
  subst hsz
  have hD := hD0.self (sz := s.heap.size)
  generalize hAe : va_A [(h0, .inr (8, [.int 0, .int 0, .int 2, .ref h1, .ref h2, .int 0, .int 500, .int 0, .int 0, .int 0, .ref h3]))] s.heap.size = A at hD hE9 ⊢
  have hE := hE9.1
  have hDc := hE9.2
  have hA : ∀ q : Nat, s.heap.size ≤ q → A q := fun q h => by rw [← hAe]; exact Or.inr h
  have hS : va_S A s.heap s.heap [] := va_S.rf
  have hP : va_P D vwCl [(h0, .inr (8, [.int 0, .int 0, .int 2, .ref h1, .ref h2, .int 0, .int 500, .int 0, .int 0, .int 0, .ref h3]))] s.heap := hP
  have hl := lv_entry [.ref h0, .int 2, .int p0] (n := 3) (Nat.le_of_ble_eq_true rfl)
  rw [lg_entry_eq]
  generalize (lg_sl [.ref h0, .int 2, .int p0] ++ List.replicate (3 - (lg_sl [.ref h0, .int 2, .int p0]).length) Slot.unset).toArray = ls at hl ⊢
  have hl : lv_has ls 3 [(0, .ref h0), (1, .int 2), (2, .int p0)] := hl
  refine lv_aload_n hx hb dX6_ofContext_0 rfl (lv_at hl 0 rfl) ?_
  refine lv_iload_n hx hb dX6_ofContext_1 rfl (lv_at hl 1 rfl) ?_
  refine lv_iconst (v := 1) hx hb dX6_ofContext_2 (by decide) ?_
  refine lv_aload_n hx hb dX6_ofContext_3 rfl (lv_at hl 0 rfl) ?_
  refine va_get (D := D) (ci := 8) (v := .int 2) (C := RX6) (T := TX6) (N := 11) hx hb hts wi_X6_ofContext_RX6 hown hK hP 0 rfl rfl 2 (by decide) (hts _ wd243_X6_ofContext) (fun _ h9 => h9) rfl dX6_ofContext_4 ?_
  refine vp_callSi (W.runS (As := [.int 2, .int 1, .int 2]) (rest := [.ref h0]) ⟨hx, hb, hml, hown, hts⟩ (k_X6_isIn_9 l D κ ε) (va_cwS 3 hts gX6_ofContext_X6_isIn rfl rfl rfl (by decide +kernel) ⟨(Nat.le_of_ble_eq_true rfl), (Nat.le_of_ble_eq_true rfl)⟩) (pre0_S (wc := []) hP hK [] rfl) rfl rfl hl.1 rfl (lv_room (Nat.le_of_ble_eq_true rfl)) dX6_ofContext_7 ⟨(Nat.le_of_ble_eq_true rfl), (Nat.le_of_ble_eq_true rfl)⟩) (fun r hw => ?_)
  rw [hw]
  refine lv_if_eq (tgt := 22) hx hb dX6_ofContext_10 (by decide) (fun h => absurd h (by decide)) (fun _ => ?_)
  refine lv_iload_n hx hb dX6_ofContext_13 rfl (lv_at hl 2 rfl) ?_
  refine lv_iconst (v := 0) hx hb dX6_ofContext_14 (by decide) ?_
  refine lv_iconst (v := 1) hx hb dX6_ofContext_15 (by decide) ?_
  refine vp_callSi (W.runS (As := [.int p0, .int 0, .int 1]) (rest := [.ref h0]) ⟨hx, hb, hml, hown, hts⟩ (k_X6_isIn_13 l D κ ε (p0) hf0 hf1) (va_cwS 3 hts gX6_ofContext_X6_isIn rfl rfl rfl (by decide +kernel) ⟨(Nat.le_of_ble_eq_true rfl), (Nat.le_of_ble_eq_true rfl)⟩) (pre0_S (wc := []) hP hK [] rfl) rfl rfl hl.1 rfl (lv_room (Nat.le_of_ble_eq_true rfl)) dX6_ofContext_16 ⟨(Nat.le_of_ble_eq_true rfl), (Nat.le_of_ble_eq_true rfl)⟩) (fun r hw => ?_)
  rw [hw]
  refine lv_if_ne (tgt := 26) hx hb dX6_ofContext_19 (by decide) (fun h => absurd (by decide) h) (fun _ => ?_)
  refine lv_iconst (v := 1) hx hb dX6_ofContext_22 (by decide) ?_
  refine lv_goto (tgt := 27) hx hb dX6_ofContext_23 (by decide) ?_
  refine lv_iconst (v := 1) hx hb dX6_ofContext_27 (by decide) ?_
  have hF := va_free (wc := [(h0, .inr (8, [.int 0, .int 0, .int 2, .ref h1, .ref h2, .int 0, .int 500, .int 0, .int 0, .int 0, .ref h3]))]) hD hS hA [0] rfl
  refine va_calli (va_runV (As := [.int 1, .int 1]) (rest := []) ⟨hx, hb, hml, hown, hts⟩ (k_X6_start_1 l D κ ε h0 h1 h2 h3 s.heap.size (0) (2) (0) (500) (0) (0)) (cwV 2 hts gX6_ofContext_X6_start rfl rfl rfl (by decide +kernel) ⟨(Nat.le_of_ble_eq_true rfl), (Nat.le_of_ble_eq_true rfl)⟩) (pre2_V (q0 := 0) (ci := 8) (wc := [(h0, .inr (8, [.int 0, .int 0, .int 2, .ref h1, .ref h2, .int 0, .int 500, .int 0, .int 0, .int 0, .ref h3]))]) hP hD hK hE9 hS hA [0] (by decide) rfl rfl rfl) rfl rfl hl.1 rfl (lv_room (Nat.le_of_ble_eq_true rfl)) dX6_ofContext_28 ⟨(Nat.le_of_ble_eq_true rfl), (Nat.le_of_ble_eq_true rfl)⟩) hS (fun q _ h => hF q h) hF (fun r u1 t H locs ht hvm hw hB hz1 hk1 hS => ?_)
  try dsimp only at hw hB
  obtain ⟨hP1, hD1⟩ := hB
  rw [ht] at hP1
  obtain ⟨hP, hD⟩ := post_j (ws' := [(h0, .inr (8, [.int 1, .int 0, .int 2, .ref h1, .ref h2, .int 0, .int 500, .int 0, .int 0, .int 0, .ref h3]))]) (wr := []) (w1 := [(h0, .inr (8, [.int 1, .int 0, .int 2, .ref h1, .ref h2, .int 0, .int 500, .int 0, .int 0, .int 0, .ref h3]))]) hP hD hF [0] rfl [] rfl (by decide) (by decide) hk1 hP1 hD1 [0] (by decide) rfl
  have hP : va_P D vwCl [(h0, .inr (8, [.int 1, .int 0, .int 2, .ref h1, .ref h2, .int 0, .int 500, .int 0, .int 0, .int 0, .ref h3]))] H := hP
  have hD : va_D A [(h0, .inr (8, [.int 1, .int 0, .int 2, .ref h1, .ref h2, .int 0, .int 500, .int 0, .int 0, .int 0, .ref h3]))] := hD
  rw [hw]
  refine lv_if_eq (tgt := 38) hx hb dX6_ofContext_31 (by decide) (fun h => absurd h (by decide)) (fun _ => ?_)
  refine lv_iconst (v := 0) hx hb dX6_ofContext_34 (by decide) ?_
  refine lv_goto (tgt := 44) hx hb dX6_ofContext_35 (by decide) ?_
  have hP9 := hP.sub (ws' := [(h0, .inr (8, [.int 1, .int 0, .int 2, .ref h1, .ref h2, .int 0, .int 500, .int 0, .int 0, .int 0, .ref h3]))]) [0] rfl
  have hD9 := hD.sub (ws' := [(h0, .inr (8, [.int 1, .int 0, .int 2, .ref h1, .ref h2, .int 0, .int 500, .int 0, .int 0, .int 0, .ref h3]))]) [0] (by decide) rfl
  exact W.iret (v := 0) hx hb hr (fun t ht hW => ⟨⟨0, [.int 1, .int 0, .int 2, .ref h1, .ref h2, .int 0, .int 500, .int 0, .int 0, .int 0, .ref h3], rfl, ⟨rfl, rfl⟩, by rw [ht]; exact hP9, hD9⟩, hS.F ht⟩) hS.2.2 dX6_ofContext_44

set_option maxHeartbeats 4000000 in
set_option maxRecDepth 100000 in
theorem k_X6_sorts_1 (l : Launch) (D : va_G) (κ ε : Nat → Nat) (h0 : Nat) : Met l yX6_sorts wsX6_sorts ({ frames := 0, cells := 0, slots := 0, locals := 0 }) (va_Pc [.ref h0, .int 0] (Pre0 D κ [(h0, .inl (κ 0, 196, .inl (fun _ => 0)))])) (vp_Si (fun r => (r = 0))) 0 0 (fun _ => False) := by
  refine Met.ofW (cc := cX6_sorts) (maxL := 4) (ret := (some .int)) (by decide) rfl ?_
  intro p e s m args below meth c s₁ B hml hv
  obtain ⟨rfl, hP, hK⟩ := hv
  have hx := B.exec
  have hb := B.bytes
  have hr := B.returns
  have hts := atoms_spec (ws := wsX6_sorts) B.pre
  have hown : s.vm.findClass RX6 = some m.cls := findClass_of_methodNamed B.named
  have hlocks := B.notSynchronized
  have hP : va_P D vwCl [(h0, .inl (κ 0, 196, .inl (fun _ => 0)))] s.heap := hP
  have hl := lv_entry [.ref h0, .int 0] (n := 4) (Nat.le_of_ble_eq_true rfl)
  rw [lg_entry_eq]
  generalize (lg_sl [.ref h0, .int 0] ++ List.replicate (4 - (lg_sl [.ref h0, .int 0]).length) Slot.unset).toArray = ls at hl ⊢
  have hl : lv_has ls 4 [(0, .ref h0), (1, .int 0)] := hl
  refine lv_iconst (v := 0) hx hb dX6_sorts_0 (by decide) ?_
  refine lv_istore_n (lv' := [(2, .int 0), (0, .ref h0), (1, .int 0)]) hx hb dX6_sorts_1 rfl hl (by decide) rfl (fun ls hl => ?_)
  refine lv_iconst (v := 0) hx hb dX6_sorts_2 (by decide) ?_
  refine lv_istore_n (lv' := [(3, .int 0), (2, .int 0), (0, .ref h0), (1, .int 0)]) hx hb dX6_sorts_3 rfl hl (by decide) rfl (fun ls hl => ?_)
  refine lv_iload_n hx hb dX6_sorts_4 rfl (lv_at hl 0 rfl) ?_
  refine lv_bipush (v := 14) hx hb dX6_sorts_5 (by decide) ?_
  refine lv_icmp_ge (tgt := 35) hx hb dX6_sorts_7 (by decide) (fun h => absurd h (by decide)) (fun _ => ?_)
  refine lv_iload_n hx hb dX6_sorts_10 rfl (lv_at hl 1 rfl) ?_
  refine lv_aload_n hx hb dX6_sorts_11 rfl (lv_at hl 2 rfl) ?_
  refine lv_iload_n hx hb dX6_sorts_12 rfl (lv_at hl 3 rfl) ?_
  refine lv_bipush (v := 14) hx hb dX6_sorts_13 (by decide) ?_
  refine lv_imul hx hb dX6_sorts_15 ?_
  refine tpi (v := 0) (by decide) ?_
  refine lv_iload_n hx hb dX6_sorts_16 rfl (lv_at hl 0 rfl) ?_
  refine lv_iadd hx hb dX6_sorts_17 ?_
  refine tpi (v := 0) (by decide) ?_
  refine va_iald (cA := κ 0) (n := 196) (f := (fun _ => 0)) hx hb hK hP 0 0 rfl rfl (vpl (by decide)) dX6_sorts_18 ?_
  refine tpi (v := 0) (by decide) ?_
  refine lv_if_le (tgt := 26) hx hb dX6_sorts_19 (by decide) (fun _ => ?_) (fun h => absurd (by decide) h)
  refine lv_iconst (v := 0) hx hb dX6_sorts_26 (by decide) ?_
  refine lv_iadd hx hb dX6_sorts_27 ?_
  refine tpi (v := 0) (by decide) ?_
  refine lv_istore_n (lv' := [(2, .int 0), (3, .int 0), (0, .ref h0), (1, .int 0)]) hx hb dX6_sorts_28 rfl hl (by decide) rfl (fun ls hl => ?_)
  refine lv_iinc (v := 1) (lv' := [(3, .int 1), (2, .int 0), (0, .ref h0), (1, .int 0)]) hx hb dX6_sorts_29 hl (k := 1) rfl (by decide) (by decide) rfl (fun ls hl => ?_)
  refine lv_goto (tgt := 4) hx hb dX6_sorts_32 (by decide) ?_
  refine lv_iload_n hx hb dX6_sorts_4 rfl (lv_at hl 0 rfl) ?_
  refine lv_bipush (v := 14) hx hb dX6_sorts_5 (by decide) ?_
  refine lv_icmp_ge (tgt := 35) hx hb dX6_sorts_7 (by decide) (fun h => absurd h (by decide)) (fun _ => ?_)
  refine lv_iload_n hx hb dX6_sorts_10 rfl (lv_at hl 1 rfl) ?_
  refine lv_aload_n hx hb dX6_sorts_11 rfl (lv_at hl 2 rfl) ?_
  refine lv_iload_n hx hb dX6_sorts_12 rfl (lv_at hl 3 rfl) ?_
  refine lv_bipush (v := 14) hx hb dX6_sorts_13 (by decide) ?_
  refine lv_imul hx hb dX6_sorts_15 ?_
  refine tpi (v := 0) (by decide) ?_
  refine lv_iload_n hx hb dX6_sorts_16 rfl (lv_at hl 0 rfl) ?_
  refine lv_iadd hx hb dX6_sorts_17 ?_
  refine tpi (v := 1) (by decide) ?_
  refine va_iald (cA := κ 0) (n := 196) (f := (fun _ => 0)) hx hb hK hP 0 0 rfl rfl (vpl (by decide)) dX6_sorts_18 ?_
  refine tpi (v := 0) (by decide) ?_
  refine lv_if_le (tgt := 26) hx hb dX6_sorts_19 (by decide) (fun _ => ?_) (fun h => absurd (by decide) h)
  refine lv_iconst (v := 0) hx hb dX6_sorts_26 (by decide) ?_
  refine lv_iadd hx hb dX6_sorts_27 ?_
  refine tpi (v := 0) (by decide) ?_
  refine lv_istore_n (lv' := [(2, .int 0), (3, .int 1), (0, .ref h0), (1, .int 0)]) hx hb dX6_sorts_28 rfl hl (by decide) rfl (fun ls hl => ?_)
  refine lv_iinc (v := 2) (lv' := [(3, .int 2), (2, .int 0), (0, .ref h0), (1, .int 0)]) hx hb dX6_sorts_29 hl (k := 1) rfl (by decide) (by decide) rfl (fun ls hl => ?_)
  refine lv_goto (tgt := 4) hx hb dX6_sorts_32 (by decide) ?_
  refine lv_iload_n hx hb dX6_sorts_4 rfl (lv_at hl 0 rfl) ?_
  refine lv_bipush (v := 14) hx hb dX6_sorts_5 (by decide) ?_
  refine lv_icmp_ge (tgt := 35) hx hb dX6_sorts_7 (by decide) (fun h => absurd h (by decide)) (fun _ => ?_)
  refine lv_iload_n hx hb dX6_sorts_10 rfl (lv_at hl 1 rfl) ?_
  refine lv_aload_n hx hb dX6_sorts_11 rfl (lv_at hl 2 rfl) ?_
  refine lv_iload_n hx hb dX6_sorts_12 rfl (lv_at hl 3 rfl) ?_
  refine lv_bipush (v := 14) hx hb dX6_sorts_13 (by decide) ?_
  refine lv_imul hx hb dX6_sorts_15 ?_
  refine tpi (v := 0) (by decide) ?_
  refine lv_iload_n hx hb dX6_sorts_16 rfl (lv_at hl 0 rfl) ?_
  refine lv_iadd hx hb dX6_sorts_17 ?_
  refine tpi (v := 2) (by decide) ?_
  refine va_iald (cA := κ 0) (n := 196) (f := (fun _ => 0)) hx hb hK hP 0 0 rfl rfl (vpl (by decide)) dX6_sorts_18 ?_
  refine tpi (v := 0) (by decide) ?_
  refine lv_if_le (tgt := 26) hx hb dX6_sorts_19 (by decide) (fun _ => ?_) (fun h => absurd (by decide) h)
  refine lv_iconst (v := 0) hx hb dX6_sorts_26 (by decide) ?_
  refine lv_iadd hx hb dX6_sorts_27 ?_
  refine tpi (v := 0) (by decide) ?_
  refine lv_istore_n (lv' := [(2, .int 0), (3, .int 2), (0, .ref h0), (1, .int 0)]) hx hb dX6_sorts_28 rfl hl (by decide) rfl (fun ls hl => ?_)
  refine lv_iinc (v := 3) (lv' := [(3, .int 3), (2, .int 0), (0, .ref h0), (1, .int 0)]) hx hb dX6_sorts_29 hl (k := 1) rfl (by decide) (by decide) rfl (fun ls hl => ?_)
  refine lv_goto (tgt := 4) hx hb dX6_sorts_32 (by decide) ?_
  refine lv_iload_n hx hb dX6_sorts_4 rfl (lv_at hl 0 rfl) ?_
  refine lv_bipush (v := 14) hx hb dX6_sorts_5 (by decide) ?_
  refine lv_icmp_ge (tgt := 35) hx hb dX6_sorts_7 (by decide) (fun h => absurd h (by decide)) (fun _ => ?_)
  refine lv_iload_n hx hb dX6_sorts_10 rfl (lv_at hl 1 rfl) ?_
  refine lv_aload_n hx hb dX6_sorts_11 rfl (lv_at hl 2 rfl) ?_
  refine lv_iload_n hx hb dX6_sorts_12 rfl (lv_at hl 3 rfl) ?_
  refine lv_bipush (v := 14) hx hb dX6_sorts_13 (by decide) ?_
  refine lv_imul hx hb dX6_sorts_15 ?_
  refine tpi (v := 0) (by decide) ?_
  refine lv_iload_n hx hb dX6_sorts_16 rfl (lv_at hl 0 rfl) ?_
  refine lv_iadd hx hb dX6_sorts_17 ?_
  refine tpi (v := 3) (by decide) ?_
  refine va_iald (cA := κ 0) (n := 196) (f := (fun _ => 0)) hx hb hK hP 0 0 rfl rfl (vpl (by decide)) dX6_sorts_18 ?_
  refine tpi (v := 0) (by decide) ?_
  refine lv_if_le (tgt := 26) hx hb dX6_sorts_19 (by decide) (fun _ => ?_) (fun h => absurd (by decide) h)
  refine lv_iconst (v := 0) hx hb dX6_sorts_26 (by decide) ?_
  refine lv_iadd hx hb dX6_sorts_27 ?_
  refine tpi (v := 0) (by decide) ?_
  refine lv_istore_n (lv' := [(2, .int 0), (3, .int 3), (0, .ref h0), (1, .int 0)]) hx hb dX6_sorts_28 rfl hl (by decide) rfl (fun ls hl => ?_)
  refine lv_iinc (v := 4) (lv' := [(3, .int 4), (2, .int 0), (0, .ref h0), (1, .int 0)]) hx hb dX6_sorts_29 hl (k := 1) rfl (by decide) (by decide) rfl (fun ls hl => ?_)
  refine lv_goto (tgt := 4) hx hb dX6_sorts_32 (by decide) ?_
  refine lv_iload_n hx hb dX6_sorts_4 rfl (lv_at hl 0 rfl) ?_
  refine lv_bipush (v := 14) hx hb dX6_sorts_5 (by decide) ?_
  refine lv_icmp_ge (tgt := 35) hx hb dX6_sorts_7 (by decide) (fun h => absurd h (by decide)) (fun _ => ?_)
  refine lv_iload_n hx hb dX6_sorts_10 rfl (lv_at hl 1 rfl) ?_
  refine lv_aload_n hx hb dX6_sorts_11 rfl (lv_at hl 2 rfl) ?_
  refine lv_iload_n hx hb dX6_sorts_12 rfl (lv_at hl 3 rfl) ?_
  refine lv_bipush (v := 14) hx hb dX6_sorts_13 (by decide) ?_
  refine lv_imul hx hb dX6_sorts_15 ?_
  refine tpi (v := 0) (by decide) ?_
  refine lv_iload_n hx hb dX6_sorts_16 rfl (lv_at hl 0 rfl) ?_
  refine lv_iadd hx hb dX6_sorts_17 ?_
  refine tpi (v := 4) (by decide) ?_
  refine va_iald (cA := κ 0) (n := 196) (f := (fun _ => 0)) hx hb hK hP 0 0 rfl rfl (vpl (by decide)) dX6_sorts_18 ?_
  refine tpi (v := 0) (by decide) ?_
  refine lv_if_le (tgt := 26) hx hb dX6_sorts_19 (by decide) (fun _ => ?_) (fun h => absurd (by decide) h)
  refine lv_iconst (v := 0) hx hb dX6_sorts_26 (by decide) ?_
  refine lv_iadd hx hb dX6_sorts_27 ?_
  refine tpi (v := 0) (by decide) ?_
  refine lv_istore_n (lv' := [(2, .int 0), (3, .int 4), (0, .ref h0), (1, .int 0)]) hx hb dX6_sorts_28 rfl hl (by decide) rfl (fun ls hl => ?_)
  refine lv_iinc (v := 5) (lv' := [(3, .int 5), (2, .int 0), (0, .ref h0), (1, .int 0)]) hx hb dX6_sorts_29 hl (k := 1) rfl (by decide) (by decide) rfl (fun ls hl => ?_)
  refine lv_goto (tgt := 4) hx hb dX6_sorts_32 (by decide) ?_
  refine lv_iload_n hx hb dX6_sorts_4 rfl (lv_at hl 0 rfl) ?_
  refine lv_bipush (v := 14) hx hb dX6_sorts_5 (by decide) ?_
  refine lv_icmp_ge (tgt := 35) hx hb dX6_sorts_7 (by decide) (fun h => absurd h (by decide)) (fun _ => ?_)
  refine lv_iload_n hx hb dX6_sorts_10 rfl (lv_at hl 1 rfl) ?_
  refine lv_aload_n hx hb dX6_sorts_11 rfl (lv_at hl 2 rfl) ?_
  refine lv_iload_n hx hb dX6_sorts_12 rfl (lv_at hl 3 rfl) ?_
  refine lv_bipush (v := 14) hx hb dX6_sorts_13 (by decide) ?_
  refine lv_imul hx hb dX6_sorts_15 ?_
  refine tpi (v := 0) (by decide) ?_
  refine lv_iload_n hx hb dX6_sorts_16 rfl (lv_at hl 0 rfl) ?_
  refine lv_iadd hx hb dX6_sorts_17 ?_
  refine tpi (v := 5) (by decide) ?_
  refine va_iald (cA := κ 0) (n := 196) (f := (fun _ => 0)) hx hb hK hP 0 0 rfl rfl (vpl (by decide)) dX6_sorts_18 ?_
  refine tpi (v := 0) (by decide) ?_
  refine lv_if_le (tgt := 26) hx hb dX6_sorts_19 (by decide) (fun _ => ?_) (fun h => absurd (by decide) h)
  refine lv_iconst (v := 0) hx hb dX6_sorts_26 (by decide) ?_
  refine lv_iadd hx hb dX6_sorts_27 ?_
  refine tpi (v := 0) (by decide) ?_
  refine lv_istore_n (lv' := [(2, .int 0), (3, .int 5), (0, .ref h0), (1, .int 0)]) hx hb dX6_sorts_28 rfl hl (by decide) rfl (fun ls hl => ?_)
  refine lv_iinc (v := 6) (lv' := [(3, .int 6), (2, .int 0), (0, .ref h0), (1, .int 0)]) hx hb dX6_sorts_29 hl (k := 1) rfl (by decide) (by decide) rfl (fun ls hl => ?_)
  refine lv_goto (tgt := 4) hx hb dX6_sorts_32 (by decide) ?_
  refine lv_iload_n hx hb dX6_sorts_4 rfl (lv_at hl 0 rfl) ?_
  refine lv_bipush (v := 14) hx hb dX6_sorts_5 (by decide) ?_
  refine lv_icmp_ge (tgt := 35) hx hb dX6_sorts_7 (by decide) (fun h => absurd h (by decide)) (fun _ => ?_)
  refine lv_iload_n hx hb dX6_sorts_10 rfl (lv_at hl 1 rfl) ?_
  refine lv_aload_n hx hb dX6_sorts_11 rfl (lv_at hl 2 rfl) ?_
  refine lv_iload_n hx hb dX6_sorts_12 rfl (lv_at hl 3 rfl) ?_
  refine lv_bipush (v := 14) hx hb dX6_sorts_13 (by decide) ?_
  refine lv_imul hx hb dX6_sorts_15 ?_
  refine tpi (v := 0) (by decide) ?_
  refine lv_iload_n hx hb dX6_sorts_16 rfl (lv_at hl 0 rfl) ?_
  refine lv_iadd hx hb dX6_sorts_17 ?_
  refine tpi (v := 6) (by decide) ?_
  refine va_iald (cA := κ 0) (n := 196) (f := (fun _ => 0)) hx hb hK hP 0 0 rfl rfl (vpl (by decide)) dX6_sorts_18 ?_
  refine tpi (v := 0) (by decide) ?_
  refine lv_if_le (tgt := 26) hx hb dX6_sorts_19 (by decide) (fun _ => ?_) (fun h => absurd (by decide) h)
  refine lv_iconst (v := 0) hx hb dX6_sorts_26 (by decide) ?_
  refine lv_iadd hx hb dX6_sorts_27 ?_
  refine tpi (v := 0) (by decide) ?_
  refine lv_istore_n (lv' := [(2, .int 0), (3, .int 6), (0, .ref h0), (1, .int 0)]) hx hb dX6_sorts_28 rfl hl (by decide) rfl (fun ls hl => ?_)
  refine lv_iinc (v := 7) (lv' := [(3, .int 7), (2, .int 0), (0, .ref h0), (1, .int 0)]) hx hb dX6_sorts_29 hl (k := 1) rfl (by decide) (by decide) rfl (fun ls hl => ?_)
  refine lv_goto (tgt := 4) hx hb dX6_sorts_32 (by decide) ?_
  refine lv_iload_n hx hb dX6_sorts_4 rfl (lv_at hl 0 rfl) ?_
  refine lv_bipush (v := 14) hx hb dX6_sorts_5 (by decide) ?_
  refine lv_icmp_ge (tgt := 35) hx hb dX6_sorts_7 (by decide) (fun h => absurd h (by decide)) (fun _ => ?_)
  refine lv_iload_n hx hb dX6_sorts_10 rfl (lv_at hl 1 rfl) ?_
  refine lv_aload_n hx hb dX6_sorts_11 rfl (lv_at hl 2 rfl) ?_
  refine lv_iload_n hx hb dX6_sorts_12 rfl (lv_at hl 3 rfl) ?_
  refine lv_bipush (v := 14) hx hb dX6_sorts_13 (by decide) ?_
  refine lv_imul hx hb dX6_sorts_15 ?_
  refine tpi (v := 0) (by decide) ?_
  refine lv_iload_n hx hb dX6_sorts_16 rfl (lv_at hl 0 rfl) ?_
  refine lv_iadd hx hb dX6_sorts_17 ?_
  refine tpi (v := 7) (by decide) ?_
  refine va_iald (cA := κ 0) (n := 196) (f := (fun _ => 0)) hx hb hK hP 0 0 rfl rfl (vpl (by decide)) dX6_sorts_18 ?_
  refine tpi (v := 0) (by decide) ?_
  refine lv_if_le (tgt := 26) hx hb dX6_sorts_19 (by decide) (fun _ => ?_) (fun h => absurd (by decide) h)
  refine lv_iconst (v := 0) hx hb dX6_sorts_26 (by decide) ?_
  refine lv_iadd hx hb dX6_sorts_27 ?_
  refine tpi (v := 0) (by decide) ?_
  refine lv_istore_n (lv' := [(2, .int 0), (3, .int 7), (0, .ref h0), (1, .int 0)]) hx hb dX6_sorts_28 rfl hl (by decide) rfl (fun ls hl => ?_)
  refine lv_iinc (v := 8) (lv' := [(3, .int 8), (2, .int 0), (0, .ref h0), (1, .int 0)]) hx hb dX6_sorts_29 hl (k := 1) rfl (by decide) (by decide) rfl (fun ls hl => ?_)
  refine lv_goto (tgt := 4) hx hb dX6_sorts_32 (by decide) ?_
  refine lv_iload_n hx hb dX6_sorts_4 rfl (lv_at hl 0 rfl) ?_
  refine lv_bipush (v := 14) hx hb dX6_sorts_5 (by decide) ?_
  refine lv_icmp_ge (tgt := 35) hx hb dX6_sorts_7 (by decide) (fun h => absurd h (by decide)) (fun _ => ?_)
  refine lv_iload_n hx hb dX6_sorts_10 rfl (lv_at hl 1 rfl) ?_
  refine lv_aload_n hx hb dX6_sorts_11 rfl (lv_at hl 2 rfl) ?_
  refine lv_iload_n hx hb dX6_sorts_12 rfl (lv_at hl 3 rfl) ?_
  refine lv_bipush (v := 14) hx hb dX6_sorts_13 (by decide) ?_
  refine lv_imul hx hb dX6_sorts_15 ?_
  refine tpi (v := 0) (by decide) ?_
  refine lv_iload_n hx hb dX6_sorts_16 rfl (lv_at hl 0 rfl) ?_
  refine lv_iadd hx hb dX6_sorts_17 ?_
  refine tpi (v := 8) (by decide) ?_
  refine va_iald (cA := κ 0) (n := 196) (f := (fun _ => 0)) hx hb hK hP 0 0 rfl rfl (vpl (by decide)) dX6_sorts_18 ?_
  refine tpi (v := 0) (by decide) ?_
  refine lv_if_le (tgt := 26) hx hb dX6_sorts_19 (by decide) (fun _ => ?_) (fun h => absurd (by decide) h)
  refine lv_iconst (v := 0) hx hb dX6_sorts_26 (by decide) ?_
  refine lv_iadd hx hb dX6_sorts_27 ?_
  refine tpi (v := 0) (by decide) ?_
  refine lv_istore_n (lv' := [(2, .int 0), (3, .int 8), (0, .ref h0), (1, .int 0)]) hx hb dX6_sorts_28 rfl hl (by decide) rfl (fun ls hl => ?_)
  refine lv_iinc (v := 9) (lv' := [(3, .int 9), (2, .int 0), (0, .ref h0), (1, .int 0)]) hx hb dX6_sorts_29 hl (k := 1) rfl (by decide) (by decide) rfl (fun ls hl => ?_)
  refine lv_goto (tgt := 4) hx hb dX6_sorts_32 (by decide) ?_
  refine lv_iload_n hx hb dX6_sorts_4 rfl (lv_at hl 0 rfl) ?_
  refine lv_bipush (v := 14) hx hb dX6_sorts_5 (by decide) ?_
  refine lv_icmp_ge (tgt := 35) hx hb dX6_sorts_7 (by decide) (fun h => absurd h (by decide)) (fun _ => ?_)
  refine lv_iload_n hx hb dX6_sorts_10 rfl (lv_at hl 1 rfl) ?_
  refine lv_aload_n hx hb dX6_sorts_11 rfl (lv_at hl 2 rfl) ?_
  refine lv_iload_n hx hb dX6_sorts_12 rfl (lv_at hl 3 rfl) ?_
  refine lv_bipush (v := 14) hx hb dX6_sorts_13 (by decide) ?_
  refine lv_imul hx hb dX6_sorts_15 ?_
  refine tpi (v := 0) (by decide) ?_
  refine lv_iload_n hx hb dX6_sorts_16 rfl (lv_at hl 0 rfl) ?_
  refine lv_iadd hx hb dX6_sorts_17 ?_
  refine tpi (v := 9) (by decide) ?_
  refine va_iald (cA := κ 0) (n := 196) (f := (fun _ => 0)) hx hb hK hP 0 0 rfl rfl (vpl (by decide)) dX6_sorts_18 ?_
  refine tpi (v := 0) (by decide) ?_
  refine lv_if_le (tgt := 26) hx hb dX6_sorts_19 (by decide) (fun _ => ?_) (fun h => absurd (by decide) h)
  refine lv_iconst (v := 0) hx hb dX6_sorts_26 (by decide) ?_
  refine lv_iadd hx hb dX6_sorts_27 ?_
  refine tpi (v := 0) (by decide) ?_
  refine lv_istore_n (lv' := [(2, .int 0), (3, .int 9), (0, .ref h0), (1, .int 0)]) hx hb dX6_sorts_28 rfl hl (by decide) rfl (fun ls hl => ?_)
  refine lv_iinc (v := 10) (lv' := [(3, .int 10), (2, .int 0), (0, .ref h0), (1, .int 0)]) hx hb dX6_sorts_29 hl (k := 1) rfl (by decide) (by decide) rfl (fun ls hl => ?_)
  refine lv_goto (tgt := 4) hx hb dX6_sorts_32 (by decide) ?_
  refine lv_iload_n hx hb dX6_sorts_4 rfl (lv_at hl 0 rfl) ?_
  refine lv_bipush (v := 14) hx hb dX6_sorts_5 (by decide) ?_
  refine lv_icmp_ge (tgt := 35) hx hb dX6_sorts_7 (by decide) (fun h => absurd h (by decide)) (fun _ => ?_)
  refine lv_iload_n hx hb dX6_sorts_10 rfl (lv_at hl 1 rfl) ?_
  refine lv_aload_n hx hb dX6_sorts_11 rfl (lv_at hl 2 rfl) ?_
  refine lv_iload_n hx hb dX6_sorts_12 rfl (lv_at hl 3 rfl) ?_
  refine lv_bipush (v := 14) hx hb dX6_sorts_13 (by decide) ?_
  refine lv_imul hx hb dX6_sorts_15 ?_
  refine tpi (v := 0) (by decide) ?_
  refine lv_iload_n hx hb dX6_sorts_16 rfl (lv_at hl 0 rfl) ?_
  refine lv_iadd hx hb dX6_sorts_17 ?_
  refine tpi (v := 10) (by decide) ?_
  refine va_iald (cA := κ 0) (n := 196) (f := (fun _ => 0)) hx hb hK hP 0 0 rfl rfl (vpl (by decide)) dX6_sorts_18 ?_
  refine tpi (v := 0) (by decide) ?_
  refine lv_if_le (tgt := 26) hx hb dX6_sorts_19 (by decide) (fun _ => ?_) (fun h => absurd (by decide) h)
  refine lv_iconst (v := 0) hx hb dX6_sorts_26 (by decide) ?_
  refine lv_iadd hx hb dX6_sorts_27 ?_
  refine tpi (v := 0) (by decide) ?_
  refine lv_istore_n (lv' := [(2, .int 0), (3, .int 10), (0, .ref h0), (1, .int 0)]) hx hb dX6_sorts_28 rfl hl (by decide) rfl (fun ls hl => ?_)
  refine lv_iinc (v := 11) (lv' := [(3, .int 11), (2, .int 0), (0, .ref h0), (1, .int 0)]) hx hb dX6_sorts_29 hl (k := 1) rfl (by decide) (by decide) rfl (fun ls hl => ?_)
  refine lv_goto (tgt := 4) hx hb dX6_sorts_32 (by decide) ?_
  refine lv_iload_n hx hb dX6_sorts_4 rfl (lv_at hl 0 rfl) ?_
  refine lv_bipush (v := 14) hx hb dX6_sorts_5 (by decide) ?_
  refine lv_icmp_ge (tgt := 35) hx hb dX6_sorts_7 (by decide) (fun h => absurd h (by decide)) (fun _ => ?_)
  refine lv_iload_n hx hb dX6_sorts_10 rfl (lv_at hl 1 rfl) ?_
  refine lv_aload_n hx hb dX6_sorts_11 rfl (lv_at hl 2 rfl) ?_
  refine lv_iload_n hx hb dX6_sorts_12 rfl (lv_at hl 3 rfl) ?_
  refine lv_bipush (v := 14) hx hb dX6_sorts_13 (by decide) ?_
  refine lv_imul hx hb dX6_sorts_15 ?_
  refine tpi (v := 0) (by decide) ?_
  refine lv_iload_n hx hb dX6_sorts_16 rfl (lv_at hl 0 rfl) ?_
  refine lv_iadd hx hb dX6_sorts_17 ?_
  refine tpi (v := 11) (by decide) ?_
  refine va_iald (cA := κ 0) (n := 196) (f := (fun _ => 0)) hx hb hK hP 0 0 rfl rfl (vpl (by decide)) dX6_sorts_18 ?_
  refine tpi (v := 0) (by decide) ?_
  refine lv_if_le (tgt := 26) hx hb dX6_sorts_19 (by decide) (fun _ => ?_) (fun h => absurd (by decide) h)
  refine lv_iconst (v := 0) hx hb dX6_sorts_26 (by decide) ?_
  refine lv_iadd hx hb dX6_sorts_27 ?_
  refine tpi (v := 0) (by decide) ?_
  refine lv_istore_n (lv' := [(2, .int 0), (3, .int 11), (0, .ref h0), (1, .int 0)]) hx hb dX6_sorts_28 rfl hl (by decide) rfl (fun ls hl => ?_)
  refine lv_iinc (v := 12) (lv' := [(3, .int 12), (2, .int 0), (0, .ref h0), (1, .int 0)]) hx hb dX6_sorts_29 hl (k := 1) rfl (by decide) (by decide) rfl (fun ls hl => ?_)
  refine lv_goto (tgt := 4) hx hb dX6_sorts_32 (by decide) ?_
  refine lv_iload_n hx hb dX6_sorts_4 rfl (lv_at hl 0 rfl) ?_
  refine lv_bipush (v := 14) hx hb dX6_sorts_5 (by decide) ?_
  refine lv_icmp_ge (tgt := 35) hx hb dX6_sorts_7 (by decide) (fun h => absurd h (by decide)) (fun _ => ?_)
  refine lv_iload_n hx hb dX6_sorts_10 rfl (lv_at hl 1 rfl) ?_
  refine lv_aload_n hx hb dX6_sorts_11 rfl (lv_at hl 2 rfl) ?_
  refine lv_iload_n hx hb dX6_sorts_12 rfl (lv_at hl 3 rfl) ?_
  refine lv_bipush (v := 14) hx hb dX6_sorts_13 (by decide) ?_
  refine lv_imul hx hb dX6_sorts_15 ?_
  refine tpi (v := 0) (by decide) ?_
  refine lv_iload_n hx hb dX6_sorts_16 rfl (lv_at hl 0 rfl) ?_
  refine lv_iadd hx hb dX6_sorts_17 ?_
  refine tpi (v := 12) (by decide) ?_
  refine va_iald (cA := κ 0) (n := 196) (f := (fun _ => 0)) hx hb hK hP 0 0 rfl rfl (vpl (by decide)) dX6_sorts_18 ?_
  refine tpi (v := 0) (by decide) ?_
  refine lv_if_le (tgt := 26) hx hb dX6_sorts_19 (by decide) (fun _ => ?_) (fun h => absurd (by decide) h)
  refine lv_iconst (v := 0) hx hb dX6_sorts_26 (by decide) ?_
  refine lv_iadd hx hb dX6_sorts_27 ?_
  refine tpi (v := 0) (by decide) ?_
  refine lv_istore_n (lv' := [(2, .int 0), (3, .int 12), (0, .ref h0), (1, .int 0)]) hx hb dX6_sorts_28 rfl hl (by decide) rfl (fun ls hl => ?_)
  refine lv_iinc (v := 13) (lv' := [(3, .int 13), (2, .int 0), (0, .ref h0), (1, .int 0)]) hx hb dX6_sorts_29 hl (k := 1) rfl (by decide) (by decide) rfl (fun ls hl => ?_)
  refine lv_goto (tgt := 4) hx hb dX6_sorts_32 (by decide) ?_
  refine lv_iload_n hx hb dX6_sorts_4 rfl (lv_at hl 0 rfl) ?_
  refine lv_bipush (v := 14) hx hb dX6_sorts_5 (by decide) ?_
  refine lv_icmp_ge (tgt := 35) hx hb dX6_sorts_7 (by decide) (fun h => absurd h (by decide)) (fun _ => ?_)
  refine lv_iload_n hx hb dX6_sorts_10 rfl (lv_at hl 1 rfl) ?_
  refine lv_aload_n hx hb dX6_sorts_11 rfl (lv_at hl 2 rfl) ?_
  refine lv_iload_n hx hb dX6_sorts_12 rfl (lv_at hl 3 rfl) ?_
  refine lv_bipush (v := 14) hx hb dX6_sorts_13 (by decide) ?_
  refine lv_imul hx hb dX6_sorts_15 ?_
  refine tpi (v := 0) (by decide) ?_
  refine lv_iload_n hx hb dX6_sorts_16 rfl (lv_at hl 0 rfl) ?_
  refine lv_iadd hx hb dX6_sorts_17 ?_
  refine tpi (v := 13) (by decide) ?_
  refine va_iald (cA := κ 0) (n := 196) (f := (fun _ => 0)) hx hb hK hP 0 0 rfl rfl (vpl (by decide)) dX6_sorts_18 ?_
  refine tpi (v := 0) (by decide) ?_
  refine lv_if_le (tgt := 26) hx hb dX6_sorts_19 (by decide) (fun _ => ?_) (fun h => absurd (by decide) h)
  refine lv_iconst (v := 0) hx hb dX6_sorts_26 (by decide) ?_
  refine lv_iadd hx hb dX6_sorts_27 ?_
  refine tpi (v := 0) (by decide) ?_
  refine lv_istore_n (lv' := [(2, .int 0), (3, .int 13), (0, .ref h0), (1, .int 0)]) hx hb dX6_sorts_28 rfl hl (by decide) rfl (fun ls hl => ?_)
  refine lv_iinc (v := 14) (lv' := [(3, .int 14), (2, .int 0), (0, .ref h0), (1, .int 0)]) hx hb dX6_sorts_29 hl (k := 1) rfl (by decide) (by decide) rfl (fun ls hl => ?_)
  refine lv_goto (tgt := 4) hx hb dX6_sorts_32 (by decide) ?_
  refine lv_iload_n hx hb dX6_sorts_4 rfl (lv_at hl 0 rfl) ?_
  refine lv_bipush (v := 14) hx hb dX6_sorts_5 (by decide) ?_
  refine lv_icmp_ge (tgt := 35) hx hb dX6_sorts_7 (by decide) (fun _ => ?_) (fun h => absurd (by decide) h)
  refine lv_iload_n hx hb dX6_sorts_35 rfl (lv_at hl 1 rfl) ?_
  exact W.iret (v := 0) hx hb hr (fun t ht hW => ⟨0, rfl, rfl, ht⟩) (fun q hq => absurd hq List.not_mem_nil) dX6_sorts_36

set_option maxHeartbeats 4000000 in
set_option maxRecDepth 100000 in
theorem k_X6_context_2 (l : Launch) (D : va_G) (κ ε : Nat → Nat) (h0 h1 h2 h3 h4 h5 h6 h7 : Nat) (p0 : Int32) (p1 : Int32) (p2 : Int32) (p3 : Int32) (p4 : Int32) (p5 : Int32) (p6 : Int32) (p7 : Int32) (p8 : Int32) (hf0 : ¬ p0 = 0) : Met l yX6_context wsX6_context ({ frames := 1, cells := 0, slots := 0, locals := 24 }) (va_Pc [.ref h0, .int 2, .int p0] (Pre0 D κ [(h0, .inr (8, [.int p1, .int p2, .int p3, .ref h1, .ref h2, .int p4, .int p5, .int p6, .int p7, .int 0, .ref h3])), (h1, .inr (1, [.int p8, .ref (ε 1), .int 0])), (h2, .inl (κ 4, 4, .inr (.inr (.inr (.inr (sel [h4, h5, h6, h7])))))), (h5, .inl (κ 0, 196, .inl (fun _ => 0)))])) (vp_Si (fun r => (r = 0))) 0 0 (fun _ => False) := by
  refine Met.ofW (cc := cX6_context) (maxL := 4) (ret := (some .int)) (by decide) rfl ?_
  intro p e s m args below meth c s₁ B hml hv
  obtain ⟨rfl, hP, hK⟩ := hv
  have hx := B.exec
  have hb := B.bytes
  have hr := B.returns
  have hts := atoms_spec (ws := wsX6_context) B.pre
  have hown : s.vm.findClass RX6 = some m.cls := findClass_of_methodNamed B.named
  have hlocks := B.notSynchronized
  have hP : va_P D vwCl [(h0, .inr (8, [.int p1, .int p2, .int p3, .ref h1, .ref h2, .int p4, .int p5, .int p6, .int p7, .int 0, .ref h3])), (h1, .inr (1, [.int p8, .ref (ε 1), .int 0])), (h2, .inl (κ 4, 4, .inr (.inr (.inr (.inr (sel [h4, h5, h6, h7])))))), (h5, .inl (κ 0, 196, .inl (fun _ => 0)))] s.heap := hP
  have hl := lv_entry [.ref h0, .int 2, .int p0] (n := 4) (Nat.le_of_ble_eq_true rfl)
  rw [lg_entry_eq]
  generalize (lg_sl [.ref h0, .int 2, .int p0] ++ List.replicate (4 - (lg_sl [.ref h0, .int 2, .int p0]).length) Slot.unset).toArray = ls at hl ⊢
  have hl : lv_has ls 4 [(0, .ref h0), (1, .int 2), (2, .int p0)] := hl
  refine lv_aload_n hx hb dX6_context_0 rfl (lv_at hl 0 rfl) ?_
  refine va_get (D := D) (ci := 8) (v := .ref h1) (C := RX6) (T := TX6) (N := 11) hx hb hts wi_X6_context_RX6 hown hK hP 0 rfl rfl 3 (by decide) (hts _ wd244_X6_context) (fun _ h9 => h9) rfl dX6_context_1 ?_
  refine lv_aload_n hx hb dX6_context_4 rfl (lv_at hl 0 rfl) ?_
  refine va_get (D := D) (ci := 8) (v := .ref h1) (C := RX6) (T := TX6) (N := 11) hx hb hts wi_X6_context_RX6 hown hK hP 0 rfl rfl 3 (by decide) (hts _ wd244_X6_context) (fun _ h9 => h9) rfl dX6_context_5 ?_
  refine vp_callSi (W.runV (As := []) (rest := [.ref h1]) ⟨hx, hb, hml, hown, hts⟩ (k_Jx4a65c_size_8abf5_0 l D κ ε h1 (p8)) (cwV 0 hts gX6_context_Jx4a65c_size_8abf5 rfl rfl rfl (by decide +kernel) ⟨(Nat.le_of_ble_eq_true rfl), (Nat.le_of_ble_eq_true rfl)⟩) (pre0_V (q0 := 1) (ci := 1) (wc := [(h1, .inr (1, [.int p8, .ref (ε 1), .int 0]))]) hP hK [1] rfl rfl rfl) rfl rfl hl.1 rfl (lv_room (Nat.le_of_ble_eq_true rfl)) dX6_context_8 ⟨(Nat.le_of_ble_eq_true rfl), (Nat.le_of_ble_eq_true rfl)⟩) (fun r hw => ?_)
  rw [hw]
  refine lv_iload_n hx hb dX6_context_11 rfl (lv_at hl 1 rfl) ?_
  refine lv_iconst (v := 1) hx hb dX6_context_12 (by decide) ?_
  refine lv_isub hx hb dX6_context_13 ?_
  refine tpi (v := 1) (by decide) ?_
  refine vp_callSi (W.runS (As := [.ref h1, .int 0, .int 1]) (rest := []) ⟨hx, hb, hml, hown, hts⟩ (k_X6_ahead_1 l D κ ε h1) (va_cwS 3 hts gX6_context_X6_ahead rfl rfl rfl (by decide +kernel) ⟨(Nat.le_of_ble_eq_true rfl), (Nat.le_of_ble_eq_true rfl)⟩) (pre0_S (wc := []) hP hK [] rfl) rfl rfl hl.1 rfl (lv_room (Nat.le_of_ble_eq_true rfl)) dX6_context_14 ⟨(Nat.le_of_ble_eq_true rfl), (Nat.le_of_ble_eq_true rfl)⟩) (fun r hw => ?_)
  rw [hw]
  refine lv_istore_n (lv' := [(3, .int 0), (0, .ref h0), (1, .int 2), (2, .int p0)]) hx hb dX6_context_17 rfl hl (by decide) rfl (fun ls hl => ?_)
  refine lv_iload_n hx hb dX6_context_18 rfl (lv_at hl 3 rfl) ?_
  refine lv_if_ne (tgt := 37) hx hb dX6_context_19 (by decide) (fun _ => ?_) (fun h => absurd h hf0)
  refine lv_aload_n hx hb dX6_context_37 rfl (lv_at hl 1 rfl) ?_
  refine va_get (D := D) (ci := 8) (v := .ref h2) (C := RX6) (T := TX6) (N := 11) hx hb hts wi_X6_context_RX6 hown hK hP 0 rfl rfl 4 (by decide) (hts _ wd245_X6_context) (fun _ h9 => h9) rfl dX6_context_38 ?_
  refine lv_iload_n hx hb dX6_context_41 rfl (lv_at hl 2 rfl) ?_
  refine lv_iconst (v := 1) hx hb dX6_context_42 (by decide) ?_
  refine lv_isub hx hb dX6_context_43 ?_
  refine tpi (v := 1) (by decide) ?_
  refine ya_ld2 hx hb hK hP 2 rfl (vpl (by decide)) (v := .ref h5) rfl dX6_context_44 ?_
  refine lv_iload_n hx hb dX6_context_45 rfl (lv_at hl 0 rfl) ?_
  refine vp_callSi (W.runS (As := [.ref h5, .int 0]) (rest := []) ⟨hx, hb, hml, hown, hts⟩ (k_X6_sorts_1 l D κ ε h5) (va_cwS 2 hts gX6_context_X6_sorts rfl rfl rfl (by decide +kernel) ⟨(Nat.le_of_ble_eq_true rfl), (Nat.le_of_ble_eq_true rfl)⟩) (pre0_S (wc := [(h5, .inl (κ 0, 196, .inl (fun _ => 0)))]) hP hK [3] rfl) rfl rfl hl.1 rfl (lv_room (Nat.le_of_ble_eq_true rfl)) dX6_context_46 ⟨(Nat.le_of_ble_eq_true rfl), (Nat.le_of_ble_eq_true rfl)⟩) (fun r hw => ?_)
  rw [hw]
  exact W.iret (v := 0) hx hb hr (fun t ht hW => ⟨0, rfl, rfl, ht⟩) (fun q hq => absurd hq List.not_mem_nil) dX6_context_49

set_option maxHeartbeats 4000000 in
set_option maxRecDepth 100000 in
theorem k_X6_ofContext_6 (l : Launch) (D : va_G) (κ ε : Nat → Nat) (h0 h1 h2 h3 h4 h5 h6 h7 : Nat) (sz : Nat) (p0 : Int32) (hf0 : ¬ p0 < 0) (hf1 : p0 ≤ 1) (hf2 : ¬ p0 = 0) : Met l yX6_ofContext wsX6_ofContext ({ frames := 2, cells := 0, slots := 0, locals := 47 }) (va_Pc [.ref h0, .int 2, .int p0] (Pre2 D κ ε [(h0, .inr (8, [.int 0, .int 0, .int 2, .ref h1, .ref h2, .int 0, .int 500, .int 0, .int 0, .int 0, .ref h3])), (h1, .inr (1, [.int 0, .ref (ε 1), .int 0])), (h2, .inl (κ 4, 4, .inr (.inr (.inr (.inr (sel [h4, h5, h6, h7])))))), (h5, .inl (κ 0, 196, .inl (fun _ => 0)))] sz)) (va_Qi (fun r (u : List Value) => (u[0]? = some (.int 0)) ∧ (r = 0)) (fun u t => va_P D vwCl [(h0, .inr (8, u))] t.heap ∧ va_D (va_A [(h0, .inr (8, [.int 0, .int 0, .int 2, .ref h1, .ref h2, .int 0, .int 500, .int 0, .int 0, .int 0, .ref h3])), (h1, .inr (1, [.int 0, .ref (ε 1), .int 0])), (h2, .inl (κ 4, 4, .inr (.inr (.inr (.inr (sel [h4, h5, h6, h7])))))), (h5, .inl (κ 0, 196, .inl (fun _ => 0)))] sz) [(h0, .inr (8, u))]) (va_A [(h0, .inr (8, [.int 0, .int 0, .int 2, .ref h1, .ref h2, .int 0, .int 500, .int 0, .int 0, .int 0, .ref h3])), (h1, .inr (1, [.int 0, .ref (ε 1), .int 0])), (h2, .inl (κ 4, 4, .inr (.inr (.inr (.inr (sel [h4, h5, h6, h7])))))), (h5, .inl (κ 0, 196, .inl (fun _ => 0)))] sz)) 0 0 (va_A [(h0, .inr (8, [.int 0, .int 0, .int 2, .ref h1, .ref h2, .int 0, .int 500, .int 0, .int 0, .int 0, .ref h3])), (h1, .inr (1, [.int 0, .ref (ε 1), .int 0])), (h2, .inl (κ 4, 4, .inr (.inr (.inr (.inr (sel [h4, h5, h6, h7])))))), (h5, .inl (κ 0, 196, .inl (fun _ => 0)))] sz) := by
  refine Met.ofW (cc := cX6_ofContext) (maxL := 3) (ret := (some .int)) (by decide) rfl ?_
  intro p e s m args below meth c s₁ B hml hv
  obtain ⟨rfl, hsz, hP, hK, hD0, hE9⟩ := hv
  have hx := B.exec
  have hb := B.bytes
  have hr := B.returns
  have hts := atoms_spec (ws := wsX6_ofContext) B.pre
  have hown : s.vm.findClass RX6 = some m.cls := findClass_of_methodNamed B.named
  have hlocks := B.notSynchronized
  subst hsz
  have hD := hD0.self (sz := s.heap.size)
  generalize hAe : va_A [(h0, .inr (8, [.int 0, .int 0, .int 2, .ref h1, .ref h2, .int 0, .int 500, .int 0, .int 0, .int 0, .ref h3])), (h1, .inr (1, [.int 0, .ref (ε 1), .int 0])), (h2, .inl (κ 4, 4, .inr (.inr (.inr (.inr (sel [h4, h5, h6, h7])))))), (h5, .inl (κ 0, 196, .inl (fun _ => 0)))] s.heap.size = A at hD hE9 ⊢
  have hE := hE9.1
  have hDc := hE9.2
  have hA : ∀ q : Nat, s.heap.size ≤ q → A q := fun q h => by rw [← hAe]; exact Or.inr h
  have hS : va_S A s.heap s.heap [] := va_S.rf
  have hP : va_P D vwCl [(h0, .inr (8, [.int 0, .int 0, .int 2, .ref h1, .ref h2, .int 0, .int 500, .int 0, .int 0, .int 0, .ref h3])), (h1, .inr (1, [.int 0, .ref (ε 1), .int 0])), (h2, .inl (κ 4, 4, .inr (.inr (.inr (.inr (sel [h4, h5, h6, h7])))))), (h5, .inl (κ 0, 196, .inl (fun _ => 0)))] s.heap := hP
  have hl := lv_entry [.ref h0, .int 2, .int p0] (n := 3) (Nat.le_of_ble_eq_true rfl)
  rw [lg_entry_eq]
  generalize (lg_sl [.ref h0, .int 2, .int p0] ++ List.replicate (3 - (lg_sl [.ref h0, .int 2, .int p0]).length) Slot.unset).toArray = ls at hl ⊢
  have hl : lv_has ls 3 [(0, .ref h0), (1, .int 2), (2, .int p0)] := hl
  refine lv_aload_n hx hb dX6_ofContext_0 rfl (lv_at hl 0 rfl) ?_
  refine lv_iload_n hx hb dX6_ofContext_1 rfl (lv_at hl 1 rfl) ?_
  refine lv_iconst (v := 1) hx hb dX6_ofContext_2 (by decide) ?_
  refine lv_aload_n hx hb dX6_ofContext_3 rfl (lv_at hl 0 rfl) ?_
  refine va_get (D := D) (ci := 8) (v := .int 2) (C := RX6) (T := TX6) (N := 11) hx hb hts wi_X6_ofContext_RX6 hown hK hP 0 rfl rfl 2 (by decide) (hts _ wd243_X6_ofContext) (fun _ h9 => h9) rfl dX6_ofContext_4 ?_
  refine vp_callSi (W.runS (As := [.int 2, .int 1, .int 2]) (rest := [.ref h0]) ⟨hx, hb, hml, hown, hts⟩ (k_X6_isIn_9 l D κ ε) (va_cwS 3 hts gX6_ofContext_X6_isIn rfl rfl rfl (by decide +kernel) ⟨(Nat.le_of_ble_eq_true rfl), (Nat.le_of_ble_eq_true rfl)⟩) (pre0_S (wc := []) hP hK [] rfl) rfl rfl hl.1 rfl (lv_room (Nat.le_of_ble_eq_true rfl)) dX6_ofContext_7 ⟨(Nat.le_of_ble_eq_true rfl), (Nat.le_of_ble_eq_true rfl)⟩) (fun r hw => ?_)
  rw [hw]
  refine lv_if_eq (tgt := 22) hx hb dX6_ofContext_10 (by decide) (fun h => absurd h (by decide)) (fun _ => ?_)
  refine lv_iload_n hx hb dX6_ofContext_13 rfl (lv_at hl 2 rfl) ?_
  refine lv_iconst (v := 0) hx hb dX6_ofContext_14 (by decide) ?_
  refine lv_iconst (v := 1) hx hb dX6_ofContext_15 (by decide) ?_
  refine vp_callSi (W.runS (As := [.int p0, .int 0, .int 1]) (rest := [.ref h0]) ⟨hx, hb, hml, hown, hts⟩ (k_X6_isIn_14 l D κ ε (p0) hf0 hf1) (va_cwS 3 hts gX6_ofContext_X6_isIn rfl rfl rfl (by decide +kernel) ⟨(Nat.le_of_ble_eq_true rfl), (Nat.le_of_ble_eq_true rfl)⟩) (pre0_S (wc := []) hP hK [] rfl) rfl rfl hl.1 rfl (lv_room (Nat.le_of_ble_eq_true rfl)) dX6_ofContext_16 ⟨(Nat.le_of_ble_eq_true rfl), (Nat.le_of_ble_eq_true rfl)⟩) (fun r hw => ?_)
  rw [hw]
  refine lv_if_ne (tgt := 26) hx hb dX6_ofContext_19 (by decide) (fun _ => ?_) (fun h => absurd h (by decide))
  refine lv_iconst (v := 0) hx hb dX6_ofContext_26 (by decide) ?_
  refine lv_iconst (v := 1) hx hb dX6_ofContext_27 (by decide) ?_
  have hF := va_free (wc := [(h0, .inr (8, [.int 0, .int 0, .int 2, .ref h1, .ref h2, .int 0, .int 500, .int 0, .int 0, .int 0, .ref h3]))]) hD hS hA [0] rfl
  refine va_calli (va_runV (As := [.int 0, .int 1]) (rest := []) ⟨hx, hb, hml, hown, hts⟩ (k_X6_start_0 l D κ ε h0 h1 h2 h3 s.heap.size (0) (2) (0) (500) (0) (0)) (cwV 2 hts gX6_ofContext_X6_start rfl rfl rfl (by decide +kernel) ⟨(Nat.le_of_ble_eq_true rfl), (Nat.le_of_ble_eq_true rfl)⟩) (pre2_V (q0 := 0) (ci := 8) (wc := [(h0, .inr (8, [.int 0, .int 0, .int 2, .ref h1, .ref h2, .int 0, .int 500, .int 0, .int 0, .int 0, .ref h3]))]) hP hD hK hE9 hS hA [0] (by decide) rfl rfl rfl) rfl rfl hl.1 rfl (lv_room (Nat.le_of_ble_eq_true rfl)) dX6_ofContext_28 ⟨(Nat.le_of_ble_eq_true rfl), (Nat.le_of_ble_eq_true rfl)⟩) hS (fun q _ h => hF q h) hF (fun r u1 t H locs ht hvm hw hB hz1 hk1 hS => ?_)
  try dsimp only at hw hB
  obtain ⟨hP1, hD1⟩ := hB
  rw [ht] at hP1
  obtain ⟨hP, hD⟩ := post_j (ws' := [(h0, .inr (8, [.int 0, .int 0, .int 2, .ref h1, .ref h2, .int 0, .int 500, .int 0, .int 0, .int 0, .ref h3])), (h1, .inr (1, [.int 0, .ref (ε 1), .int 0])), (h2, .inl (κ 4, 4, .inr (.inr (.inr (.inr (sel [h4, h5, h6, h7])))))), (h5, .inl (κ 0, 196, .inl (fun _ => 0)))]) (wr := [(h1, .inr (1, [.int 0, .ref (ε 1), .int 0])), (h2, .inl (κ 4, 4, .inr (.inr (.inr (.inr (sel [h4, h5, h6, h7])))))), (h5, .inl (κ 0, 196, .inl (fun _ => 0)))]) (w1 := [(h0, .inr (8, [.int 0, .int 0, .int 2, .ref h1, .ref h2, .int 0, .int 500, .int 0, .int 0, .int 0, .ref h3]))]) hP hD hF [0] rfl [1, 2, 3] rfl (by decide) (by decide) hk1 hP1 hD1 [3, 0, 1, 2] (by decide) rfl
  have hP : va_P D vwCl [(h0, .inr (8, [.int 0, .int 0, .int 2, .ref h1, .ref h2, .int 0, .int 500, .int 0, .int 0, .int 0, .ref h3])), (h1, .inr (1, [.int 0, .ref (ε 1), .int 0])), (h2, .inl (κ 4, 4, .inr (.inr (.inr (.inr (sel [h4, h5, h6, h7])))))), (h5, .inl (κ 0, 196, .inl (fun _ => 0)))] H := hP
  have hD : va_D A [(h0, .inr (8, [.int 0, .int 0, .int 2, .ref h1, .ref h2, .int 0, .int 500, .int 0, .int 0, .int 0, .ref h3])), (h1, .inr (1, [.int 0, .ref (ε 1), .int 0])), (h2, .inl (κ 4, 4, .inr (.inr (.inr (.inr (sel [h4, h5, h6, h7])))))), (h5, .inl (κ 0, 196, .inl (fun _ => 0)))] := hD
  rw [hw]
  refine lv_if_eq (tgt := 38) hx hb dX6_ofContext_31 (by decide) (fun _ => ?_) (fun h => absurd (by decide) h)
  refine lv_aload_n hx hb dX6_ofContext_38 rfl (lv_at hl 0 rfl) ?_
  refine lv_iload_n hx hb dX6_ofContext_39 rfl (lv_at hl 1 rfl) ?_
  refine lv_iload_n hx hb dX6_ofContext_40 rfl (lv_at hl 2 rfl) ?_
  refine vp_callSi (W.runV (As := [.int 2, .int p0]) (rest := []) ⟨hx, hb, hml, hown, hts⟩ (k_X6_context_2 l D κ ε h0 h1 h2 h3 h4 h5 h6 h7 (p0) (0) (0) (2) (0) (500) (0) (0) (0) hf2) (cwV 2 hts gX6_ofContext_X6_context rfl rfl rfl (by decide +kernel) ⟨(Nat.le_of_ble_eq_true rfl), (Nat.le_of_ble_eq_true rfl)⟩) (pre0_V (q0 := 0) (ci := 8) (wc := [(h0, .inr (8, [.int 0, .int 0, .int 2, .ref h1, .ref h2, .int 0, .int 500, .int 0, .int 0, .int 0, .ref h3])), (h1, .inr (1, [.int 0, .ref (ε 1), .int 0])), (h2, .inl (κ 4, 4, .inr (.inr (.inr (.inr (sel [h4, h5, h6, h7])))))), (h5, .inl (κ 0, 196, .inl (fun _ => 0)))]) hP hK [0, 1, 2, 3] rfl rfl rfl) rfl rfl hl.1 rfl (lv_room (Nat.le_of_ble_eq_true rfl)) dX6_ofContext_41 ⟨(Nat.le_of_ble_eq_true rfl), (Nat.le_of_ble_eq_true rfl)⟩) (fun r hw => ?_)
  rw [hw]
  have hP9 := hP.sub (ws' := [(h0, .inr (8, [.int 0, .int 0, .int 2, .ref h1, .ref h2, .int 0, .int 500, .int 0, .int 0, .int 0, .ref h3]))]) [0] rfl
  have hD9 := hD.sub (ws' := [(h0, .inr (8, [.int 0, .int 0, .int 2, .ref h1, .ref h2, .int 0, .int 500, .int 0, .int 0, .int 0, .ref h3]))]) [0] (by decide) rfl
  exact W.iret (v := 0) hx hb hr (fun t ht hW => ⟨⟨0, [.int 0, .int 0, .int 2, .ref h1, .ref h2, .int 0, .int 500, .int 0, .int 0, .int 0, .ref h3], rfl, ⟨rfl, rfl⟩, by rw [ht]; exact hP9, hD9⟩, hS.F ht⟩) hS.2.2 dX6_ofContext_44

set_option maxHeartbeats 4000000 in
set_option maxRecDepth 100000 in
theorem k_X6_sum_1 (l : Launch) (D : va_G) (κ ε : Nat → Nat) (h0 : Nat) : Met l yX6_sum wsX6_sum ({ frames := 0, cells := 0, slots := 0, locals := 0 }) (va_Pc [.ref h0, .int 0] (Pre0 D κ [(h0, .inl (κ 0, 196, .inl (fun _ => 0)))])) (vp_Si (fun r => (r = 0))) 0 0 (fun _ => False) := by
  refine Met.ofW (cc := cX6_sum) (maxL := 4) (ret := (some .int)) (by decide) rfl ?_
  intro p e s m args below meth c s₁ B hml hv
  obtain ⟨rfl, hP, hK⟩ := hv
  have hx := B.exec
  have hb := B.bytes
  have hr := B.returns
  have hts := atoms_spec (ws := wsX6_sum) B.pre
  have hown : s.vm.findClass RX6 = some m.cls := findClass_of_methodNamed B.named
  have hlocks := B.notSynchronized
  have hP : va_P D vwCl [(h0, .inl (κ 0, 196, .inl (fun _ => 0)))] s.heap := hP
  have hl := lv_entry [.ref h0, .int 0] (n := 4) (Nat.le_of_ble_eq_true rfl)
  rw [lg_entry_eq]
  generalize (lg_sl [.ref h0, .int 0] ++ List.replicate (4 - (lg_sl [.ref h0, .int 0]).length) Slot.unset).toArray = ls at hl ⊢
  have hl : lv_has ls 4 [(0, .ref h0), (1, .int 0)] := hl
  refine lv_iconst (v := 0) hx hb dX6_sum_0 (by decide) ?_
  refine lv_istore_n (lv' := [(2, .int 0), (0, .ref h0), (1, .int 0)]) hx hb dX6_sum_1 rfl hl (by decide) rfl (fun ls hl => ?_)
  refine lv_iconst (v := 0) hx hb dX6_sum_2 (by decide) ?_
  refine lv_istore_n (lv' := [(3, .int 0), (2, .int 0), (0, .ref h0), (1, .int 0)]) hx hb dX6_sum_3 rfl hl (by decide) rfl (fun ls hl => ?_)
  refine lv_iload_n hx hb dX6_sum_4 rfl (lv_at hl 0 rfl) ?_
  refine lv_bipush (v := 14) hx hb dX6_sum_5 (by decide) ?_
  refine lv_icmp_ge (tgt := 27) hx hb dX6_sum_7 (by decide) (fun h => absurd h (by decide)) (fun _ => ?_)
  refine lv_iload_n hx hb dX6_sum_10 rfl (lv_at hl 1 rfl) ?_
  refine lv_aload_n hx hb dX6_sum_11 rfl (lv_at hl 2 rfl) ?_
  refine lv_iload_n hx hb dX6_sum_12 rfl (lv_at hl 3 rfl) ?_
  refine lv_bipush (v := 14) hx hb dX6_sum_13 (by decide) ?_
  refine lv_imul hx hb dX6_sum_15 ?_
  refine tpi (v := 0) (by decide) ?_
  refine lv_iload_n hx hb dX6_sum_16 rfl (lv_at hl 0 rfl) ?_
  refine lv_iadd hx hb dX6_sum_17 ?_
  refine tpi (v := 0) (by decide) ?_
  refine va_iald (cA := κ 0) (n := 196) (f := (fun _ => 0)) hx hb hK hP 0 0 rfl rfl (vpl (by decide)) dX6_sum_18 ?_
  refine tpi (v := 0) (by decide) ?_
  refine lv_iadd hx hb dX6_sum_19 ?_
  refine tpi (v := 0) (by decide) ?_
  refine lv_istore_n (lv' := [(2, .int 0), (3, .int 0), (0, .ref h0), (1, .int 0)]) hx hb dX6_sum_20 rfl hl (by decide) rfl (fun ls hl => ?_)
  refine lv_iinc (v := 1) (lv' := [(3, .int 1), (2, .int 0), (0, .ref h0), (1, .int 0)]) hx hb dX6_sum_21 hl (k := 1) rfl (by decide) (by decide) rfl (fun ls hl => ?_)
  refine lv_goto (tgt := 4) hx hb dX6_sum_24 (by decide) ?_
  refine lv_iload_n hx hb dX6_sum_4 rfl (lv_at hl 0 rfl) ?_
  refine lv_bipush (v := 14) hx hb dX6_sum_5 (by decide) ?_
  refine lv_icmp_ge (tgt := 27) hx hb dX6_sum_7 (by decide) (fun h => absurd h (by decide)) (fun _ => ?_)
  refine lv_iload_n hx hb dX6_sum_10 rfl (lv_at hl 1 rfl) ?_
  refine lv_aload_n hx hb dX6_sum_11 rfl (lv_at hl 2 rfl) ?_
  refine lv_iload_n hx hb dX6_sum_12 rfl (lv_at hl 3 rfl) ?_
  refine lv_bipush (v := 14) hx hb dX6_sum_13 (by decide) ?_
  refine lv_imul hx hb dX6_sum_15 ?_
  refine tpi (v := 0) (by decide) ?_
  refine lv_iload_n hx hb dX6_sum_16 rfl (lv_at hl 0 rfl) ?_
  refine lv_iadd hx hb dX6_sum_17 ?_
  refine tpi (v := 1) (by decide) ?_
  refine va_iald (cA := κ 0) (n := 196) (f := (fun _ => 0)) hx hb hK hP 0 0 rfl rfl (vpl (by decide)) dX6_sum_18 ?_
  refine tpi (v := 0) (by decide) ?_
  refine lv_iadd hx hb dX6_sum_19 ?_
  refine tpi (v := 0) (by decide) ?_
  refine lv_istore_n (lv' := [(2, .int 0), (3, .int 1), (0, .ref h0), (1, .int 0)]) hx hb dX6_sum_20 rfl hl (by decide) rfl (fun ls hl => ?_)
  refine lv_iinc (v := 2) (lv' := [(3, .int 2), (2, .int 0), (0, .ref h0), (1, .int 0)]) hx hb dX6_sum_21 hl (k := 1) rfl (by decide) (by decide) rfl (fun ls hl => ?_)
  refine lv_goto (tgt := 4) hx hb dX6_sum_24 (by decide) ?_
  refine lv_iload_n hx hb dX6_sum_4 rfl (lv_at hl 0 rfl) ?_
  refine lv_bipush (v := 14) hx hb dX6_sum_5 (by decide) ?_
  refine lv_icmp_ge (tgt := 27) hx hb dX6_sum_7 (by decide) (fun h => absurd h (by decide)) (fun _ => ?_)
  refine lv_iload_n hx hb dX6_sum_10 rfl (lv_at hl 1 rfl) ?_
  refine lv_aload_n hx hb dX6_sum_11 rfl (lv_at hl 2 rfl) ?_
  refine lv_iload_n hx hb dX6_sum_12 rfl (lv_at hl 3 rfl) ?_
  refine lv_bipush (v := 14) hx hb dX6_sum_13 (by decide) ?_
  refine lv_imul hx hb dX6_sum_15 ?_
  refine tpi (v := 0) (by decide) ?_
  refine lv_iload_n hx hb dX6_sum_16 rfl (lv_at hl 0 rfl) ?_
  refine lv_iadd hx hb dX6_sum_17 ?_
  refine tpi (v := 2) (by decide) ?_
  refine va_iald (cA := κ 0) (n := 196) (f := (fun _ => 0)) hx hb hK hP 0 0 rfl rfl (vpl (by decide)) dX6_sum_18 ?_
  refine tpi (v := 0) (by decide) ?_
  refine lv_iadd hx hb dX6_sum_19 ?_
  refine tpi (v := 0) (by decide) ?_
  refine lv_istore_n (lv' := [(2, .int 0), (3, .int 2), (0, .ref h0), (1, .int 0)]) hx hb dX6_sum_20 rfl hl (by decide) rfl (fun ls hl => ?_)
  refine lv_iinc (v := 3) (lv' := [(3, .int 3), (2, .int 0), (0, .ref h0), (1, .int 0)]) hx hb dX6_sum_21 hl (k := 1) rfl (by decide) (by decide) rfl (fun ls hl => ?_)
  refine lv_goto (tgt := 4) hx hb dX6_sum_24 (by decide) ?_
  refine lv_iload_n hx hb dX6_sum_4 rfl (lv_at hl 0 rfl) ?_
  refine lv_bipush (v := 14) hx hb dX6_sum_5 (by decide) ?_
  refine lv_icmp_ge (tgt := 27) hx hb dX6_sum_7 (by decide) (fun h => absurd h (by decide)) (fun _ => ?_)
  refine lv_iload_n hx hb dX6_sum_10 rfl (lv_at hl 1 rfl) ?_
  refine lv_aload_n hx hb dX6_sum_11 rfl (lv_at hl 2 rfl) ?_
  refine lv_iload_n hx hb dX6_sum_12 rfl (lv_at hl 3 rfl) ?_
  refine lv_bipush (v := 14) hx hb dX6_sum_13 (by decide) ?_
  refine lv_imul hx hb dX6_sum_15 ?_
  refine tpi (v := 0) (by decide) ?_
  refine lv_iload_n hx hb dX6_sum_16 rfl (lv_at hl 0 rfl) ?_
  refine lv_iadd hx hb dX6_sum_17 ?_
  refine tpi (v := 3) (by decide) ?_
  refine va_iald (cA := κ 0) (n := 196) (f := (fun _ => 0)) hx hb hK hP 0 0 rfl rfl (vpl (by decide)) dX6_sum_18 ?_
  refine tpi (v := 0) (by decide) ?_
  refine lv_iadd hx hb dX6_sum_19 ?_
  refine tpi (v := 0) (by decide) ?_
  refine lv_istore_n (lv' := [(2, .int 0), (3, .int 3), (0, .ref h0), (1, .int 0)]) hx hb dX6_sum_20 rfl hl (by decide) rfl (fun ls hl => ?_)
  refine lv_iinc (v := 4) (lv' := [(3, .int 4), (2, .int 0), (0, .ref h0), (1, .int 0)]) hx hb dX6_sum_21 hl (k := 1) rfl (by decide) (by decide) rfl (fun ls hl => ?_)
  refine lv_goto (tgt := 4) hx hb dX6_sum_24 (by decide) ?_
  refine lv_iload_n hx hb dX6_sum_4 rfl (lv_at hl 0 rfl) ?_
  refine lv_bipush (v := 14) hx hb dX6_sum_5 (by decide) ?_
  refine lv_icmp_ge (tgt := 27) hx hb dX6_sum_7 (by decide) (fun h => absurd h (by decide)) (fun _ => ?_)
  refine lv_iload_n hx hb dX6_sum_10 rfl (lv_at hl 1 rfl) ?_
  refine lv_aload_n hx hb dX6_sum_11 rfl (lv_at hl 2 rfl) ?_
  refine lv_iload_n hx hb dX6_sum_12 rfl (lv_at hl 3 rfl) ?_
  refine lv_bipush (v := 14) hx hb dX6_sum_13 (by decide) ?_
  refine lv_imul hx hb dX6_sum_15 ?_
  refine tpi (v := 0) (by decide) ?_
  refine lv_iload_n hx hb dX6_sum_16 rfl (lv_at hl 0 rfl) ?_
  refine lv_iadd hx hb dX6_sum_17 ?_
  refine tpi (v := 4) (by decide) ?_
  refine va_iald (cA := κ 0) (n := 196) (f := (fun _ => 0)) hx hb hK hP 0 0 rfl rfl (vpl (by decide)) dX6_sum_18 ?_
  refine tpi (v := 0) (by decide) ?_
  refine lv_iadd hx hb dX6_sum_19 ?_
  refine tpi (v := 0) (by decide) ?_
  refine lv_istore_n (lv' := [(2, .int 0), (3, .int 4), (0, .ref h0), (1, .int 0)]) hx hb dX6_sum_20 rfl hl (by decide) rfl (fun ls hl => ?_)
  refine lv_iinc (v := 5) (lv' := [(3, .int 5), (2, .int 0), (0, .ref h0), (1, .int 0)]) hx hb dX6_sum_21 hl (k := 1) rfl (by decide) (by decide) rfl (fun ls hl => ?_)
  refine lv_goto (tgt := 4) hx hb dX6_sum_24 (by decide) ?_
  refine lv_iload_n hx hb dX6_sum_4 rfl (lv_at hl 0 rfl) ?_
  refine lv_bipush (v := 14) hx hb dX6_sum_5 (by decide) ?_
  refine lv_icmp_ge (tgt := 27) hx hb dX6_sum_7 (by decide) (fun h => absurd h (by decide)) (fun _ => ?_)
  refine lv_iload_n hx hb dX6_sum_10 rfl (lv_at hl 1 rfl) ?_
  refine lv_aload_n hx hb dX6_sum_11 rfl (lv_at hl 2 rfl) ?_
  refine lv_iload_n hx hb dX6_sum_12 rfl (lv_at hl 3 rfl) ?_
  refine lv_bipush (v := 14) hx hb dX6_sum_13 (by decide) ?_
  refine lv_imul hx hb dX6_sum_15 ?_
  refine tpi (v := 0) (by decide) ?_
  refine lv_iload_n hx hb dX6_sum_16 rfl (lv_at hl 0 rfl) ?_
  refine lv_iadd hx hb dX6_sum_17 ?_
  refine tpi (v := 5) (by decide) ?_
  refine va_iald (cA := κ 0) (n := 196) (f := (fun _ => 0)) hx hb hK hP 0 0 rfl rfl (vpl (by decide)) dX6_sum_18 ?_
  refine tpi (v := 0) (by decide) ?_
  refine lv_iadd hx hb dX6_sum_19 ?_
  refine tpi (v := 0) (by decide) ?_
  refine lv_istore_n (lv' := [(2, .int 0), (3, .int 5), (0, .ref h0), (1, .int 0)]) hx hb dX6_sum_20 rfl hl (by decide) rfl (fun ls hl => ?_)
  refine lv_iinc (v := 6) (lv' := [(3, .int 6), (2, .int 0), (0, .ref h0), (1, .int 0)]) hx hb dX6_sum_21 hl (k := 1) rfl (by decide) (by decide) rfl (fun ls hl => ?_)
  refine lv_goto (tgt := 4) hx hb dX6_sum_24 (by decide) ?_
  refine lv_iload_n hx hb dX6_sum_4 rfl (lv_at hl 0 rfl) ?_
  refine lv_bipush (v := 14) hx hb dX6_sum_5 (by decide) ?_
  refine lv_icmp_ge (tgt := 27) hx hb dX6_sum_7 (by decide) (fun h => absurd h (by decide)) (fun _ => ?_)
  refine lv_iload_n hx hb dX6_sum_10 rfl (lv_at hl 1 rfl) ?_
  refine lv_aload_n hx hb dX6_sum_11 rfl (lv_at hl 2 rfl) ?_
  refine lv_iload_n hx hb dX6_sum_12 rfl (lv_at hl 3 rfl) ?_
  refine lv_bipush (v := 14) hx hb dX6_sum_13 (by decide) ?_
  refine lv_imul hx hb dX6_sum_15 ?_
  refine tpi (v := 0) (by decide) ?_
  refine lv_iload_n hx hb dX6_sum_16 rfl (lv_at hl 0 rfl) ?_
  refine lv_iadd hx hb dX6_sum_17 ?_
  refine tpi (v := 6) (by decide) ?_
  refine va_iald (cA := κ 0) (n := 196) (f := (fun _ => 0)) hx hb hK hP 0 0 rfl rfl (vpl (by decide)) dX6_sum_18 ?_
  refine tpi (v := 0) (by decide) ?_
  refine lv_iadd hx hb dX6_sum_19 ?_
  refine tpi (v := 0) (by decide) ?_
  refine lv_istore_n (lv' := [(2, .int 0), (3, .int 6), (0, .ref h0), (1, .int 0)]) hx hb dX6_sum_20 rfl hl (by decide) rfl (fun ls hl => ?_)
  refine lv_iinc (v := 7) (lv' := [(3, .int 7), (2, .int 0), (0, .ref h0), (1, .int 0)]) hx hb dX6_sum_21 hl (k := 1) rfl (by decide) (by decide) rfl (fun ls hl => ?_)
  refine lv_goto (tgt := 4) hx hb dX6_sum_24 (by decide) ?_
  refine lv_iload_n hx hb dX6_sum_4 rfl (lv_at hl 0 rfl) ?_
  refine lv_bipush (v := 14) hx hb dX6_sum_5 (by decide) ?_
  refine lv_icmp_ge (tgt := 27) hx hb dX6_sum_7 (by decide) (fun h => absurd h (by decide)) (fun _ => ?_)
  refine lv_iload_n hx hb dX6_sum_10 rfl (lv_at hl 1 rfl) ?_
  refine lv_aload_n hx hb dX6_sum_11 rfl (lv_at hl 2 rfl) ?_
  refine lv_iload_n hx hb dX6_sum_12 rfl (lv_at hl 3 rfl) ?_
  refine lv_bipush (v := 14) hx hb dX6_sum_13 (by decide) ?_
  refine lv_imul hx hb dX6_sum_15 ?_
  refine tpi (v := 0) (by decide) ?_
  refine lv_iload_n hx hb dX6_sum_16 rfl (lv_at hl 0 rfl) ?_
  refine lv_iadd hx hb dX6_sum_17 ?_
  refine tpi (v := 7) (by decide) ?_
  refine va_iald (cA := κ 0) (n := 196) (f := (fun _ => 0)) hx hb hK hP 0 0 rfl rfl (vpl (by decide)) dX6_sum_18 ?_
  refine tpi (v := 0) (by decide) ?_
  refine lv_iadd hx hb dX6_sum_19 ?_
  refine tpi (v := 0) (by decide) ?_
  refine lv_istore_n (lv' := [(2, .int 0), (3, .int 7), (0, .ref h0), (1, .int 0)]) hx hb dX6_sum_20 rfl hl (by decide) rfl (fun ls hl => ?_)
  refine lv_iinc (v := 8) (lv' := [(3, .int 8), (2, .int 0), (0, .ref h0), (1, .int 0)]) hx hb dX6_sum_21 hl (k := 1) rfl (by decide) (by decide) rfl (fun ls hl => ?_)
  refine lv_goto (tgt := 4) hx hb dX6_sum_24 (by decide) ?_
  refine lv_iload_n hx hb dX6_sum_4 rfl (lv_at hl 0 rfl) ?_
  refine lv_bipush (v := 14) hx hb dX6_sum_5 (by decide) ?_
  refine lv_icmp_ge (tgt := 27) hx hb dX6_sum_7 (by decide) (fun h => absurd h (by decide)) (fun _ => ?_)
  refine lv_iload_n hx hb dX6_sum_10 rfl (lv_at hl 1 rfl) ?_
  refine lv_aload_n hx hb dX6_sum_11 rfl (lv_at hl 2 rfl) ?_
  refine lv_iload_n hx hb dX6_sum_12 rfl (lv_at hl 3 rfl) ?_
  refine lv_bipush (v := 14) hx hb dX6_sum_13 (by decide) ?_
  refine lv_imul hx hb dX6_sum_15 ?_
  refine tpi (v := 0) (by decide) ?_
  refine lv_iload_n hx hb dX6_sum_16 rfl (lv_at hl 0 rfl) ?_
  refine lv_iadd hx hb dX6_sum_17 ?_
  refine tpi (v := 8) (by decide) ?_
  refine va_iald (cA := κ 0) (n := 196) (f := (fun _ => 0)) hx hb hK hP 0 0 rfl rfl (vpl (by decide)) dX6_sum_18 ?_
  refine tpi (v := 0) (by decide) ?_
  refine lv_iadd hx hb dX6_sum_19 ?_
  refine tpi (v := 0) (by decide) ?_
  refine lv_istore_n (lv' := [(2, .int 0), (3, .int 8), (0, .ref h0), (1, .int 0)]) hx hb dX6_sum_20 rfl hl (by decide) rfl (fun ls hl => ?_)
  refine lv_iinc (v := 9) (lv' := [(3, .int 9), (2, .int 0), (0, .ref h0), (1, .int 0)]) hx hb dX6_sum_21 hl (k := 1) rfl (by decide) (by decide) rfl (fun ls hl => ?_)
  refine lv_goto (tgt := 4) hx hb dX6_sum_24 (by decide) ?_
  refine lv_iload_n hx hb dX6_sum_4 rfl (lv_at hl 0 rfl) ?_
  refine lv_bipush (v := 14) hx hb dX6_sum_5 (by decide) ?_
  refine lv_icmp_ge (tgt := 27) hx hb dX6_sum_7 (by decide) (fun h => absurd h (by decide)) (fun _ => ?_)
  refine lv_iload_n hx hb dX6_sum_10 rfl (lv_at hl 1 rfl) ?_
  refine lv_aload_n hx hb dX6_sum_11 rfl (lv_at hl 2 rfl) ?_
  refine lv_iload_n hx hb dX6_sum_12 rfl (lv_at hl 3 rfl) ?_
  refine lv_bipush (v := 14) hx hb dX6_sum_13 (by decide) ?_
  refine lv_imul hx hb dX6_sum_15 ?_
  refine tpi (v := 0) (by decide) ?_
  refine lv_iload_n hx hb dX6_sum_16 rfl (lv_at hl 0 rfl) ?_
  refine lv_iadd hx hb dX6_sum_17 ?_
  refine tpi (v := 9) (by decide) ?_
  refine va_iald (cA := κ 0) (n := 196) (f := (fun _ => 0)) hx hb hK hP 0 0 rfl rfl (vpl (by decide)) dX6_sum_18 ?_
  refine tpi (v := 0) (by decide) ?_
  refine lv_iadd hx hb dX6_sum_19 ?_
  refine tpi (v := 0) (by decide) ?_
  refine lv_istore_n (lv' := [(2, .int 0), (3, .int 9), (0, .ref h0), (1, .int 0)]) hx hb dX6_sum_20 rfl hl (by decide) rfl (fun ls hl => ?_)
  refine lv_iinc (v := 10) (lv' := [(3, .int 10), (2, .int 0), (0, .ref h0), (1, .int 0)]) hx hb dX6_sum_21 hl (k := 1) rfl (by decide) (by decide) rfl (fun ls hl => ?_)
  refine lv_goto (tgt := 4) hx hb dX6_sum_24 (by decide) ?_
  refine lv_iload_n hx hb dX6_sum_4 rfl (lv_at hl 0 rfl) ?_
  refine lv_bipush (v := 14) hx hb dX6_sum_5 (by decide) ?_
  refine lv_icmp_ge (tgt := 27) hx hb dX6_sum_7 (by decide) (fun h => absurd h (by decide)) (fun _ => ?_)
  refine lv_iload_n hx hb dX6_sum_10 rfl (lv_at hl 1 rfl) ?_
  refine lv_aload_n hx hb dX6_sum_11 rfl (lv_at hl 2 rfl) ?_
  refine lv_iload_n hx hb dX6_sum_12 rfl (lv_at hl 3 rfl) ?_
  refine lv_bipush (v := 14) hx hb dX6_sum_13 (by decide) ?_
  refine lv_imul hx hb dX6_sum_15 ?_
  refine tpi (v := 0) (by decide) ?_
  refine lv_iload_n hx hb dX6_sum_16 rfl (lv_at hl 0 rfl) ?_
  refine lv_iadd hx hb dX6_sum_17 ?_
  refine tpi (v := 10) (by decide) ?_
  refine va_iald (cA := κ 0) (n := 196) (f := (fun _ => 0)) hx hb hK hP 0 0 rfl rfl (vpl (by decide)) dX6_sum_18 ?_
  refine tpi (v := 0) (by decide) ?_
  refine lv_iadd hx hb dX6_sum_19 ?_
  refine tpi (v := 0) (by decide) ?_
  refine lv_istore_n (lv' := [(2, .int 0), (3, .int 10), (0, .ref h0), (1, .int 0)]) hx hb dX6_sum_20 rfl hl (by decide) rfl (fun ls hl => ?_)
  refine lv_iinc (v := 11) (lv' := [(3, .int 11), (2, .int 0), (0, .ref h0), (1, .int 0)]) hx hb dX6_sum_21 hl (k := 1) rfl (by decide) (by decide) rfl (fun ls hl => ?_)
  refine lv_goto (tgt := 4) hx hb dX6_sum_24 (by decide) ?_
  refine lv_iload_n hx hb dX6_sum_4 rfl (lv_at hl 0 rfl) ?_
  refine lv_bipush (v := 14) hx hb dX6_sum_5 (by decide) ?_
  refine lv_icmp_ge (tgt := 27) hx hb dX6_sum_7 (by decide) (fun h => absurd h (by decide)) (fun _ => ?_)
  refine lv_iload_n hx hb dX6_sum_10 rfl (lv_at hl 1 rfl) ?_
  refine lv_aload_n hx hb dX6_sum_11 rfl (lv_at hl 2 rfl) ?_
  refine lv_iload_n hx hb dX6_sum_12 rfl (lv_at hl 3 rfl) ?_
  refine lv_bipush (v := 14) hx hb dX6_sum_13 (by decide) ?_
  refine lv_imul hx hb dX6_sum_15 ?_
  refine tpi (v := 0) (by decide) ?_
  refine lv_iload_n hx hb dX6_sum_16 rfl (lv_at hl 0 rfl) ?_
  refine lv_iadd hx hb dX6_sum_17 ?_
  refine tpi (v := 11) (by decide) ?_
  refine va_iald (cA := κ 0) (n := 196) (f := (fun _ => 0)) hx hb hK hP 0 0 rfl rfl (vpl (by decide)) dX6_sum_18 ?_
  refine tpi (v := 0) (by decide) ?_
  refine lv_iadd hx hb dX6_sum_19 ?_
  refine tpi (v := 0) (by decide) ?_
  refine lv_istore_n (lv' := [(2, .int 0), (3, .int 11), (0, .ref h0), (1, .int 0)]) hx hb dX6_sum_20 rfl hl (by decide) rfl (fun ls hl => ?_)
  refine lv_iinc (v := 12) (lv' := [(3, .int 12), (2, .int 0), (0, .ref h0), (1, .int 0)]) hx hb dX6_sum_21 hl (k := 1) rfl (by decide) (by decide) rfl (fun ls hl => ?_)
  refine lv_goto (tgt := 4) hx hb dX6_sum_24 (by decide) ?_
  refine lv_iload_n hx hb dX6_sum_4 rfl (lv_at hl 0 rfl) ?_
  refine lv_bipush (v := 14) hx hb dX6_sum_5 (by decide) ?_
  refine lv_icmp_ge (tgt := 27) hx hb dX6_sum_7 (by decide) (fun h => absurd h (by decide)) (fun _ => ?_)
  refine lv_iload_n hx hb dX6_sum_10 rfl (lv_at hl 1 rfl) ?_
  refine lv_aload_n hx hb dX6_sum_11 rfl (lv_at hl 2 rfl) ?_
  refine lv_iload_n hx hb dX6_sum_12 rfl (lv_at hl 3 rfl) ?_
  refine lv_bipush (v := 14) hx hb dX6_sum_13 (by decide) ?_
  refine lv_imul hx hb dX6_sum_15 ?_
  refine tpi (v := 0) (by decide) ?_
  refine lv_iload_n hx hb dX6_sum_16 rfl (lv_at hl 0 rfl) ?_
  refine lv_iadd hx hb dX6_sum_17 ?_
  refine tpi (v := 12) (by decide) ?_
  refine va_iald (cA := κ 0) (n := 196) (f := (fun _ => 0)) hx hb hK hP 0 0 rfl rfl (vpl (by decide)) dX6_sum_18 ?_
  refine tpi (v := 0) (by decide) ?_
  refine lv_iadd hx hb dX6_sum_19 ?_
  refine tpi (v := 0) (by decide) ?_
  refine lv_istore_n (lv' := [(2, .int 0), (3, .int 12), (0, .ref h0), (1, .int 0)]) hx hb dX6_sum_20 rfl hl (by decide) rfl (fun ls hl => ?_)
  refine lv_iinc (v := 13) (lv' := [(3, .int 13), (2, .int 0), (0, .ref h0), (1, .int 0)]) hx hb dX6_sum_21 hl (k := 1) rfl (by decide) (by decide) rfl (fun ls hl => ?_)
  refine lv_goto (tgt := 4) hx hb dX6_sum_24 (by decide) ?_
  refine lv_iload_n hx hb dX6_sum_4 rfl (lv_at hl 0 rfl) ?_
  refine lv_bipush (v := 14) hx hb dX6_sum_5 (by decide) ?_
  refine lv_icmp_ge (tgt := 27) hx hb dX6_sum_7 (by decide) (fun h => absurd h (by decide)) (fun _ => ?_)
  refine lv_iload_n hx hb dX6_sum_10 rfl (lv_at hl 1 rfl) ?_
  refine lv_aload_n hx hb dX6_sum_11 rfl (lv_at hl 2 rfl) ?_
  refine lv_iload_n hx hb dX6_sum_12 rfl (lv_at hl 3 rfl) ?_
  refine lv_bipush (v := 14) hx hb dX6_sum_13 (by decide) ?_
  refine lv_imul hx hb dX6_sum_15 ?_
  refine tpi (v := 0) (by decide) ?_
  refine lv_iload_n hx hb dX6_sum_16 rfl (lv_at hl 0 rfl) ?_
  refine lv_iadd hx hb dX6_sum_17 ?_
  refine tpi (v := 13) (by decide) ?_
  refine va_iald (cA := κ 0) (n := 196) (f := (fun _ => 0)) hx hb hK hP 0 0 rfl rfl (vpl (by decide)) dX6_sum_18 ?_
  refine tpi (v := 0) (by decide) ?_
  refine lv_iadd hx hb dX6_sum_19 ?_
  refine tpi (v := 0) (by decide) ?_
  refine lv_istore_n (lv' := [(2, .int 0), (3, .int 13), (0, .ref h0), (1, .int 0)]) hx hb dX6_sum_20 rfl hl (by decide) rfl (fun ls hl => ?_)
  refine lv_iinc (v := 14) (lv' := [(3, .int 14), (2, .int 0), (0, .ref h0), (1, .int 0)]) hx hb dX6_sum_21 hl (k := 1) rfl (by decide) (by decide) rfl (fun ls hl => ?_)
  refine lv_goto (tgt := 4) hx hb dX6_sum_24 (by decide) ?_
  refine lv_iload_n hx hb dX6_sum_4 rfl (lv_at hl 0 rfl) ?_
  refine lv_bipush (v := 14) hx hb dX6_sum_5 (by decide) ?_
  refine lv_icmp_ge (tgt := 27) hx hb dX6_sum_7 (by decide) (fun _ => ?_) (fun h => absurd (by decide) h)
  refine lv_iload_n hx hb dX6_sum_27 rfl (lv_at hl 1 rfl) ?_
  exact W.iret (v := 0) hx hb hr (fun t ht hW => ⟨0, rfl, rfl, ht⟩) (fun q hq => absurd hq List.not_mem_nil) dX6_sum_28

set_option maxHeartbeats 4000000 in
set_option maxRecDepth 100000 in
theorem k_X6_context_3 (l : Launch) (D : va_G) (κ ε : Nat → Nat) (h0 h1 h2 h3 h4 h5 h6 h7 : Nat) (p0 : Int32) (p1 : Int32) (p2 : Int32) (p3 : Int32) (p4 : Int32) (p5 : Int32) (p6 : Int32) (p7 : Int32) : Met l yX6_context wsX6_context ({ frames := 1, cells := 0, slots := 0, locals := 24 }) (va_Pc [.ref h0, .int 2, .int 0] (Pre0 D κ [(h0, .inr (8, [.int p0, .int p1, .int p2, .ref h1, .ref h2, .int p3, .int p4, .int p5, .int p6, .int 0, .ref h3])), (h1, .inr (1, [.int p7, .ref (ε 1), .int 0])), (h2, .inl (κ 4, 4, .inr (.inr (.inr (.inr (sel [h4, h5, h6, h7])))))), (h5, .inl (κ 0, 196, .inl (fun _ => 0)))])) (vp_Si (fun r => (r = 0))) 0 0 (fun _ => False) := by
  refine Met.ofW (cc := cX6_context) (maxL := 4) (ret := (some .int)) (by decide) rfl ?_
  intro p e s m args below meth c s₁ B hml hv
  obtain ⟨rfl, hP, hK⟩ := hv
  have hx := B.exec
  have hb := B.bytes
  have hr := B.returns
  have hts := atoms_spec (ws := wsX6_context) B.pre
  have hown : s.vm.findClass RX6 = some m.cls := findClass_of_methodNamed B.named
  have hlocks := B.notSynchronized
  have hP : va_P D vwCl [(h0, .inr (8, [.int p0, .int p1, .int p2, .ref h1, .ref h2, .int p3, .int p4, .int p5, .int p6, .int 0, .ref h3])), (h1, .inr (1, [.int p7, .ref (ε 1), .int 0])), (h2, .inl (κ 4, 4, .inr (.inr (.inr (.inr (sel [h4, h5, h6, h7])))))), (h5, .inl (κ 0, 196, .inl (fun _ => 0)))] s.heap := hP
  have hl := lv_entry [.ref h0, .int 2, .int 0] (n := 4) (Nat.le_of_ble_eq_true rfl)
  rw [lg_entry_eq]
  generalize (lg_sl [.ref h0, .int 2, .int 0] ++ List.replicate (4 - (lg_sl [.ref h0, .int 2, .int 0]).length) Slot.unset).toArray = ls at hl ⊢
  have hl : lv_has ls 4 [(0, .ref h0), (1, .int 2), (2, .int 0)] := hl
  refine lv_aload_n hx hb dX6_context_0 rfl (lv_at hl 0 rfl) ?_
  refine va_get (D := D) (ci := 8) (v := .ref h1) (C := RX6) (T := TX6) (N := 11) hx hb hts wi_X6_context_RX6 hown hK hP 0 rfl rfl 3 (by decide) (hts _ wd244_X6_context) (fun _ h9 => h9) rfl dX6_context_1 ?_
  refine lv_aload_n hx hb dX6_context_4 rfl (lv_at hl 0 rfl) ?_
  refine va_get (D := D) (ci := 8) (v := .ref h1) (C := RX6) (T := TX6) (N := 11) hx hb hts wi_X6_context_RX6 hown hK hP 0 rfl rfl 3 (by decide) (hts _ wd244_X6_context) (fun _ h9 => h9) rfl dX6_context_5 ?_
  refine vp_callSi (W.runV (As := []) (rest := [.ref h1]) ⟨hx, hb, hml, hown, hts⟩ (k_Jx4a65c_size_8abf5_0 l D κ ε h1 (p7)) (cwV 0 hts gX6_context_Jx4a65c_size_8abf5 rfl rfl rfl (by decide +kernel) ⟨(Nat.le_of_ble_eq_true rfl), (Nat.le_of_ble_eq_true rfl)⟩) (pre0_V (q0 := 1) (ci := 1) (wc := [(h1, .inr (1, [.int p7, .ref (ε 1), .int 0]))]) hP hK [1] rfl rfl rfl) rfl rfl hl.1 rfl (lv_room (Nat.le_of_ble_eq_true rfl)) dX6_context_8 ⟨(Nat.le_of_ble_eq_true rfl), (Nat.le_of_ble_eq_true rfl)⟩) (fun r hw => ?_)
  rw [hw]
  refine lv_iload_n hx hb dX6_context_11 rfl (lv_at hl 1 rfl) ?_
  refine lv_iconst (v := 1) hx hb dX6_context_12 (by decide) ?_
  refine lv_isub hx hb dX6_context_13 ?_
  refine tpi (v := 1) (by decide) ?_
  refine vp_callSi (W.runS (As := [.ref h1, .int 0, .int 1]) (rest := []) ⟨hx, hb, hml, hown, hts⟩ (k_X6_ahead_1 l D κ ε h1) (va_cwS 3 hts gX6_context_X6_ahead rfl rfl rfl (by decide +kernel) ⟨(Nat.le_of_ble_eq_true rfl), (Nat.le_of_ble_eq_true rfl)⟩) (pre0_S (wc := []) hP hK [] rfl) rfl rfl hl.1 rfl (lv_room (Nat.le_of_ble_eq_true rfl)) dX6_context_14 ⟨(Nat.le_of_ble_eq_true rfl), (Nat.le_of_ble_eq_true rfl)⟩) (fun r hw => ?_)
  rw [hw]
  refine lv_istore_n (lv' := [(3, .int 0), (0, .ref h0), (1, .int 2), (2, .int 0)]) hx hb dX6_context_17 rfl hl (by decide) rfl (fun ls hl => ?_)
  refine lv_iload_n hx hb dX6_context_18 rfl (lv_at hl 3 rfl) ?_
  refine lv_if_ne (tgt := 37) hx hb dX6_context_19 (by decide) (fun h => absurd (by decide) h) (fun _ => ?_)
  refine lv_aload_n hx hb dX6_context_22 rfl (lv_at hl 1 rfl) ?_
  refine va_get (D := D) (ci := 8) (v := .ref h2) (C := RX6) (T := TX6) (N := 11) hx hb hts wi_X6_context_RX6 hown hK hP 0 rfl rfl 4 (by decide) (hts _ wd245_X6_context) (fun _ h9 => h9) rfl dX6_context_23 ?_
  refine lv_iload_n hx hb dX6_context_26 rfl (lv_at hl 2 rfl) ?_
  refine lv_iconst (v := 1) hx hb dX6_context_27 (by decide) ?_
  refine lv_isub hx hb dX6_context_28 ?_
  refine tpi (v := 1) (by decide) ?_
  refine ya_ld2 hx hb hK hP 2 rfl (vpl (by decide)) (v := .ref h5) rfl dX6_context_29 ?_
  refine lv_iload_n hx hb dX6_context_30 rfl (lv_at hl 0 rfl) ?_
  refine vp_callSi (W.runS (As := [.ref h5, .int 0]) (rest := []) ⟨hx, hb, hml, hown, hts⟩ (k_X6_sum_1 l D κ ε h5) (va_cwS 2 hts gX6_context_X6_sum rfl rfl rfl (by decide +kernel) ⟨(Nat.le_of_ble_eq_true rfl), (Nat.le_of_ble_eq_true rfl)⟩) (pre0_S (wc := [(h5, .inl (κ 0, 196, .inl (fun _ => 0)))]) hP hK [3] rfl) rfl rfl hl.1 rfl (lv_room (Nat.le_of_ble_eq_true rfl)) dX6_context_31 ⟨(Nat.le_of_ble_eq_true rfl), (Nat.le_of_ble_eq_true rfl)⟩) (fun r hw => ?_)
  rw [hw]
  refine lv_goto (tgt := 49) hx hb dX6_context_34 (by decide) ?_
  exact W.iret (v := 0) hx hb hr (fun t ht hW => ⟨0, rfl, rfl, ht⟩) (fun q hq => absurd hq List.not_mem_nil) dX6_context_49

set_option maxHeartbeats 4000000 in
set_option maxRecDepth 100000 in
theorem k_X6_ofContext_7 (l : Launch) (D : va_G) (κ ε : Nat → Nat) (h0 h1 h2 h3 h4 h5 h6 h7 : Nat) (sz : Nat) : Met l yX6_ofContext wsX6_ofContext ({ frames := 2, cells := 0, slots := 0, locals := 47 }) (va_Pc [.ref h0, .int 2, .int 0] (Pre2 D κ ε [(h0, .inr (8, [.int 0, .int 0, .int 2, .ref h1, .ref h2, .int 0, .int 500, .int 0, .int 0, .int 0, .ref h3])), (h1, .inr (1, [.int 0, .ref (ε 1), .int 0])), (h2, .inl (κ 4, 4, .inr (.inr (.inr (.inr (sel [h4, h5, h6, h7])))))), (h5, .inl (κ 0, 196, .inl (fun _ => 0)))] sz)) (va_Qi (fun r (u : List Value) => (u[0]? = some (.int 0)) ∧ (r = 0)) (fun u t => va_P D vwCl [(h0, .inr (8, u))] t.heap ∧ va_D (va_A [(h0, .inr (8, [.int 0, .int 0, .int 2, .ref h1, .ref h2, .int 0, .int 500, .int 0, .int 0, .int 0, .ref h3])), (h1, .inr (1, [.int 0, .ref (ε 1), .int 0])), (h2, .inl (κ 4, 4, .inr (.inr (.inr (.inr (sel [h4, h5, h6, h7])))))), (h5, .inl (κ 0, 196, .inl (fun _ => 0)))] sz) [(h0, .inr (8, u))]) (va_A [(h0, .inr (8, [.int 0, .int 0, .int 2, .ref h1, .ref h2, .int 0, .int 500, .int 0, .int 0, .int 0, .ref h3])), (h1, .inr (1, [.int 0, .ref (ε 1), .int 0])), (h2, .inl (κ 4, 4, .inr (.inr (.inr (.inr (sel [h4, h5, h6, h7])))))), (h5, .inl (κ 0, 196, .inl (fun _ => 0)))] sz)) 0 0 (va_A [(h0, .inr (8, [.int 0, .int 0, .int 2, .ref h1, .ref h2, .int 0, .int 500, .int 0, .int 0, .int 0, .ref h3])), (h1, .inr (1, [.int 0, .ref (ε 1), .int 0])), (h2, .inl (κ 4, 4, .inr (.inr (.inr (.inr (sel [h4, h5, h6, h7])))))), (h5, .inl (κ 0, 196, .inl (fun _ => 0)))] sz) := by
  refine Met.ofW (cc := cX6_ofContext) (maxL := 3) (ret := (some .int)) (by decide) rfl ?_
  intro p e s m args below meth c s₁ B hml hv
  obtain ⟨rfl, hsz, hP, hK, hD0, hE9⟩ := hv
  have hx := B.exec
  have hb := B.bytes
  have hr := B.returns
  have hts := atoms_spec (ws := wsX6_ofContext) B.pre
  have hown : s.vm.findClass RX6 = some m.cls := findClass_of_methodNamed B.named
  have hlocks := B.notSynchronized
  subst hsz
  have hD := hD0.self (sz := s.heap.size)
  generalize hAe : va_A [(h0, .inr (8, [.int 0, .int 0, .int 2, .ref h1, .ref h2, .int 0, .int 500, .int 0, .int 0, .int 0, .ref h3])), (h1, .inr (1, [.int 0, .ref (ε 1), .int 0])), (h2, .inl (κ 4, 4, .inr (.inr (.inr (.inr (sel [h4, h5, h6, h7])))))), (h5, .inl (κ 0, 196, .inl (fun _ => 0)))] s.heap.size = A at hD hE9 ⊢
  have hE := hE9.1
  have hDc := hE9.2
  have hA : ∀ q : Nat, s.heap.size ≤ q → A q := fun q h => by rw [← hAe]; exact Or.inr h
  have hS : va_S A s.heap s.heap [] := va_S.rf
  have hP : va_P D vwCl [(h0, .inr (8, [.int 0, .int 0, .int 2, .ref h1, .ref h2, .int 0, .int 500, .int 0, .int 0, .int 0, .ref h3])), (h1, .inr (1, [.int 0, .ref (ε 1), .int 0])), (h2, .inl (κ 4, 4, .inr (.inr (.inr (.inr (sel [h4, h5, h6, h7])))))), (h5, .inl (κ 0, 196, .inl (fun _ => 0)))] s.heap := hP
  have hl := lv_entry [.ref h0, .int 2, .int 0] (n := 3) (Nat.le_of_ble_eq_true rfl)
  rw [lg_entry_eq]
  generalize (lg_sl [.ref h0, .int 2, .int 0] ++ List.replicate (3 - (lg_sl [.ref h0, .int 2, .int 0]).length) Slot.unset).toArray = ls at hl ⊢
  have hl : lv_has ls 3 [(0, .ref h0), (1, .int 2), (2, .int 0)] := hl
  refine lv_aload_n hx hb dX6_ofContext_0 rfl (lv_at hl 0 rfl) ?_
  refine lv_iload_n hx hb dX6_ofContext_1 rfl (lv_at hl 1 rfl) ?_
  refine lv_iconst (v := 1) hx hb dX6_ofContext_2 (by decide) ?_
  refine lv_aload_n hx hb dX6_ofContext_3 rfl (lv_at hl 0 rfl) ?_
  refine va_get (D := D) (ci := 8) (v := .int 2) (C := RX6) (T := TX6) (N := 11) hx hb hts wi_X6_ofContext_RX6 hown hK hP 0 rfl rfl 2 (by decide) (hts _ wd243_X6_ofContext) (fun _ h9 => h9) rfl dX6_ofContext_4 ?_
  refine vp_callSi (W.runS (As := [.int 2, .int 1, .int 2]) (rest := [.ref h0]) ⟨hx, hb, hml, hown, hts⟩ (k_X6_isIn_9 l D κ ε) (va_cwS 3 hts gX6_ofContext_X6_isIn rfl rfl rfl (by decide +kernel) ⟨(Nat.le_of_ble_eq_true rfl), (Nat.le_of_ble_eq_true rfl)⟩) (pre0_S (wc := []) hP hK [] rfl) rfl rfl hl.1 rfl (lv_room (Nat.le_of_ble_eq_true rfl)) dX6_ofContext_7 ⟨(Nat.le_of_ble_eq_true rfl), (Nat.le_of_ble_eq_true rfl)⟩) (fun r hw => ?_)
  rw [hw]
  refine lv_if_eq (tgt := 22) hx hb dX6_ofContext_10 (by decide) (fun h => absurd h (by decide)) (fun _ => ?_)
  refine lv_iload_n hx hb dX6_ofContext_13 rfl (lv_at hl 2 rfl) ?_
  refine lv_iconst (v := 0) hx hb dX6_ofContext_14 (by decide) ?_
  refine lv_iconst (v := 1) hx hb dX6_ofContext_15 (by decide) ?_
  refine vp_callSi (W.runS (As := [.int 0, .int 0, .int 1]) (rest := [.ref h0]) ⟨hx, hb, hml, hown, hts⟩ (k_X6_isIn_15 l D κ ε) (va_cwS 3 hts gX6_ofContext_X6_isIn rfl rfl rfl (by decide +kernel) ⟨(Nat.le_of_ble_eq_true rfl), (Nat.le_of_ble_eq_true rfl)⟩) (pre0_S (wc := []) hP hK [] rfl) rfl rfl hl.1 rfl (lv_room (Nat.le_of_ble_eq_true rfl)) dX6_ofContext_16 ⟨(Nat.le_of_ble_eq_true rfl), (Nat.le_of_ble_eq_true rfl)⟩) (fun r hw => ?_)
  rw [hw]
  refine lv_if_ne (tgt := 26) hx hb dX6_ofContext_19 (by decide) (fun _ => ?_) (fun h => absurd h (by decide))
  refine lv_iconst (v := 0) hx hb dX6_ofContext_26 (by decide) ?_
  refine lv_iconst (v := 1) hx hb dX6_ofContext_27 (by decide) ?_
  have hF := va_free (wc := [(h0, .inr (8, [.int 0, .int 0, .int 2, .ref h1, .ref h2, .int 0, .int 500, .int 0, .int 0, .int 0, .ref h3]))]) hD hS hA [0] rfl
  refine va_calli (va_runV (As := [.int 0, .int 1]) (rest := []) ⟨hx, hb, hml, hown, hts⟩ (k_X6_start_0 l D κ ε h0 h1 h2 h3 s.heap.size (0) (2) (0) (500) (0) (0)) (cwV 2 hts gX6_ofContext_X6_start rfl rfl rfl (by decide +kernel) ⟨(Nat.le_of_ble_eq_true rfl), (Nat.le_of_ble_eq_true rfl)⟩) (pre2_V (q0 := 0) (ci := 8) (wc := [(h0, .inr (8, [.int 0, .int 0, .int 2, .ref h1, .ref h2, .int 0, .int 500, .int 0, .int 0, .int 0, .ref h3]))]) hP hD hK hE9 hS hA [0] (by decide) rfl rfl rfl) rfl rfl hl.1 rfl (lv_room (Nat.le_of_ble_eq_true rfl)) dX6_ofContext_28 ⟨(Nat.le_of_ble_eq_true rfl), (Nat.le_of_ble_eq_true rfl)⟩) hS (fun q _ h => hF q h) hF (fun r u1 t H locs ht hvm hw hB hz1 hk1 hS => ?_)
  try dsimp only at hw hB
  obtain ⟨hP1, hD1⟩ := hB
  rw [ht] at hP1
  obtain ⟨hP, hD⟩ := post_j (ws' := [(h0, .inr (8, [.int 0, .int 0, .int 2, .ref h1, .ref h2, .int 0, .int 500, .int 0, .int 0, .int 0, .ref h3])), (h1, .inr (1, [.int 0, .ref (ε 1), .int 0])), (h2, .inl (κ 4, 4, .inr (.inr (.inr (.inr (sel [h4, h5, h6, h7])))))), (h5, .inl (κ 0, 196, .inl (fun _ => 0)))]) (wr := [(h1, .inr (1, [.int 0, .ref (ε 1), .int 0])), (h2, .inl (κ 4, 4, .inr (.inr (.inr (.inr (sel [h4, h5, h6, h7])))))), (h5, .inl (κ 0, 196, .inl (fun _ => 0)))]) (w1 := [(h0, .inr (8, [.int 0, .int 0, .int 2, .ref h1, .ref h2, .int 0, .int 500, .int 0, .int 0, .int 0, .ref h3]))]) hP hD hF [0] rfl [1, 2, 3] rfl (by decide) (by decide) hk1 hP1 hD1 [3, 0, 1, 2] (by decide) rfl
  have hP : va_P D vwCl [(h0, .inr (8, [.int 0, .int 0, .int 2, .ref h1, .ref h2, .int 0, .int 500, .int 0, .int 0, .int 0, .ref h3])), (h1, .inr (1, [.int 0, .ref (ε 1), .int 0])), (h2, .inl (κ 4, 4, .inr (.inr (.inr (.inr (sel [h4, h5, h6, h7])))))), (h5, .inl (κ 0, 196, .inl (fun _ => 0)))] H := hP
  have hD : va_D A [(h0, .inr (8, [.int 0, .int 0, .int 2, .ref h1, .ref h2, .int 0, .int 500, .int 0, .int 0, .int 0, .ref h3])), (h1, .inr (1, [.int 0, .ref (ε 1), .int 0])), (h2, .inl (κ 4, 4, .inr (.inr (.inr (.inr (sel [h4, h5, h6, h7])))))), (h5, .inl (κ 0, 196, .inl (fun _ => 0)))] := hD
  rw [hw]
  refine lv_if_eq (tgt := 38) hx hb dX6_ofContext_31 (by decide) (fun _ => ?_) (fun h => absurd (by decide) h)
  refine lv_aload_n hx hb dX6_ofContext_38 rfl (lv_at hl 0 rfl) ?_
  refine lv_iload_n hx hb dX6_ofContext_39 rfl (lv_at hl 1 rfl) ?_
  refine lv_iload_n hx hb dX6_ofContext_40 rfl (lv_at hl 2 rfl) ?_
  refine vp_callSi (W.runV (As := [.int 2, .int 0]) (rest := []) ⟨hx, hb, hml, hown, hts⟩ (k_X6_context_3 l D κ ε h0 h1 h2 h3 h4 h5 h6 h7 (0) (0) (2) (0) (500) (0) (0) (0)) (cwV 2 hts gX6_ofContext_X6_context rfl rfl rfl (by decide +kernel) ⟨(Nat.le_of_ble_eq_true rfl), (Nat.le_of_ble_eq_true rfl)⟩) (pre0_V (q0 := 0) (ci := 8) (wc := [(h0, .inr (8, [.int 0, .int 0, .int 2, .ref h1, .ref h2, .int 0, .int 500, .int 0, .int 0, .int 0, .ref h3])), (h1, .inr (1, [.int 0, .ref (ε 1), .int 0])), (h2, .inl (κ 4, 4, .inr (.inr (.inr (.inr (sel [h4, h5, h6, h7])))))), (h5, .inl (κ 0, 196, .inl (fun _ => 0)))]) hP hK [0, 1, 2, 3] rfl rfl rfl) rfl rfl hl.1 rfl (lv_room (Nat.le_of_ble_eq_true rfl)) dX6_ofContext_41 ⟨(Nat.le_of_ble_eq_true rfl), (Nat.le_of_ble_eq_true rfl)⟩) (fun r hw => ?_)
  rw [hw]
  have hP9 := hP.sub (ws' := [(h0, .inr (8, [.int 0, .int 0, .int 2, .ref h1, .ref h2, .int 0, .int 500, .int 0, .int 0, .int 0, .ref h3]))]) [0] rfl
  have hD9 := hD.sub (ws' := [(h0, .inr (8, [.int 0, .int 0, .int 2, .ref h1, .ref h2, .int 0, .int 500, .int 0, .int 0, .int 0, .ref h3]))]) [0] (by decide) rfl
  exact W.iret (v := 0) hx hb hr (fun t ht hW => ⟨⟨0, [.int 0, .int 0, .int 2, .ref h1, .ref h2, .int 0, .int 500, .int 0, .int 0, .int 0, .ref h3], rfl, ⟨rfl, rfl⟩, by rw [ht]; exact hP9, hD9⟩, hS.F ht⟩) hS.2.2 dX6_ofContext_44

set_option maxHeartbeats 4000000 in
set_option maxRecDepth 100000 in
theorem k_X5_ofContext_2 (l : Launch) (hst : l.stackTraces = false) (D : va_G) (κ ε : Nat → Nat) (h0 h1 h2 h3 h4 h5 h6 h7 h8 : Nat) (sz : Nat) (p0 : Int32) (p1 : Int32) (hf0 : ¬ p0 = 1) (hf1 : ¬ p0 = 2) : vx_Met l yX5_ofContext wsX5_ofContext ({ frames := 6, cells := 1, slots := 6, locals := 120 }) (va_Pc [.ref h0, .int p0, .int p1] (Pre2 D κ ε [(h0, .inr (7, [.ref h1, .ref h2, .ref h3, .ref h4, .ref h5, .ref h6, .int 0, .int 0, .int 0, .int 0])), (h1, .inr (2, [.int 0, .int 2, .ref h7, .ref h8]))] sz)) (va_Qi (fun r (u : Unit) => False) (fun _ _ => True) (va_A [(h0, .inr (7, [.ref h1, .ref h2, .ref h3, .ref h4, .ref h5, .ref h6, .int 0, .int 0, .int 0, .int 0])), (h1, .inr (2, [.int 0, .int 2, .ref h7, .ref h8]))] sz)) (vx_X (fun _ : Unit => True) (fun E _ _ => ((p0 < 1) ∧ E = "java/lang/IllegalArgumentException") ∨ ((¬ p0 < 1) ∧ E = "java/lang/IllegalArgumentException")) (va_A [(h0, .inr (7, [.ref h1, .ref h2, .ref h3, .ref h4, .ref h5, .ref h6, .int 0, .int 0, .int 0, .int 0])), (h1, .inr (2, [.int 0, .int 2, .ref h7, .ref h8]))] sz)) 1 6 (va_A [(h0, .inr (7, [.ref h1, .ref h2, .ref h3, .ref h4, .ref h5, .ref h6, .int 0, .int 0, .int 0, .int 0])), (h1, .inr (2, [.int 0, .int 2, .ref h7, .ref h8]))] sz) := by
  refine vx_ofW (cc := cX5_ofContext) (maxL := 3) (ret := (some .int)) (by decide) rfl ?_
  intro p e s m args below meth c s₁ B hml hnx hv
  obtain ⟨rfl, hsz, hP, hK, hD0, hE9⟩ := hv
  have hx := B.exec
  have hb := B.bytes
  have hr := B.returns
  have hts := atoms_spec (ws := wsX5_ofContext) B.pre
  have hown : s.vm.findClass RX5 = some m.cls := findClass_of_methodNamed B.named
  have hlocks := B.notSynchronized
  subst hsz
  have hD := hD0.self (sz := s.heap.size)
  generalize hAe : va_A [(h0, .inr (7, [.ref h1, .ref h2, .ref h3, .ref h4, .ref h5, .ref h6, .int 0, .int 0, .int 0, .int 0])), (h1, .inr (2, [.int 0, .int 2, .ref h7, .ref h8]))] s.heap.size = A at hD hE9 ⊢
  have hE := hE9.1
  have hDc := hE9.2
  have hA : ∀ q : Nat, s.heap.size ≤ q → A q := fun q h => by rw [← hAe]; exact Or.inr h
  have hS : va_S A s.heap s.heap [] := va_S.rf
  have hP : va_P D vwCl [(h0, .inr (7, [.ref h1, .ref h2, .ref h3, .ref h4, .ref h5, .ref h6, .int 0, .int 0, .int 0, .int 0])), (h1, .inr (2, [.int 0, .int 2, .ref h7, .ref h8]))] s.heap := hP
  have hl := lv_entry [.ref h0, .int p0, .int p1] (n := 3) (Nat.le_of_ble_eq_true rfl)
  rw [lg_entry_eq]
  generalize (lg_sl [.ref h0, .int p0, .int p1] ++ List.replicate (3 - (lg_sl [.ref h0, .int p0, .int p1]).length) Slot.unset).toArray = ls at hl ⊢
  have hl : lv_has ls 3 [(0, .ref h0), (1, .int p0), (2, .int p1)] := hl
  refine lv_aload_n hx hb dX5_ofContext_0 rfl (lv_at hl 0 rfl) ?_
  refine lv_iload_n hx hb dX5_ofContext_1 rfl (lv_at hl 1 rfl) ?_
  refine vp_callSi (W.runV (As := [.int p0]) (rest := []) ⟨hx, hb, hml, hown, hts⟩ (k_X5_isOrder_2 l D κ ε h0 h1 h2 h3 h4 h5 h6 h7 h8 (p0) (0) (0) (0) (0) hf0 hf1) (cwV 1 hts gX5_ofContext_X5_isOrder rfl rfl rfl (by decide +kernel) ⟨(Nat.le_of_ble_eq_true rfl), (Nat.le_of_ble_eq_true rfl)⟩) (pre0_V (q0 := 0) (ci := 7) (wc := [(h0, .inr (7, [.ref h1, .ref h2, .ref h3, .ref h4, .ref h5, .ref h6, .int 0, .int 0, .int 0, .int 0])), (h1, .inr (2, [.int 0, .int 2, .ref h7, .ref h8]))]) hP hK [0, 1] rfl rfl rfl) rfl rfl hl.1 rfl (lv_room (Nat.le_of_ble_eq_true rfl)) dX5_ofContext_2 ⟨(Nat.le_of_ble_eq_true rfl), (Nat.le_of_ble_eq_true rfl)⟩) (fun r hw => ?_)
  rcases hw with ⟨c1, rfl⟩ | ⟨c2, rfl⟩
  · skip
    refine lv_if_eq (tgt := 17) hx hb dX5_ofContext_5 (by decide) (fun _ => ?_) (fun h => absurd (by decide) h)
    exact vx_throwS (names := ["java/lang/RuntimeException", "java/lang/Exception"]) (sa := ε 22) hx hb hst hown (by decide +kernel) (by decide +kernel) (hts _ wd240_X5_ofContext) (hts _ wd241_X5_ofContext) (hE.2.2.2.2.2.2.1 _ (List.mem_of_getElem? (i := 12) rfl)) (vx_hat (B := [.castable "java/lang/IllegalArgumentException" "java/lang/IllegalArgumentException", .declares (Bundle.initS "java/lang/RuntimeException"), .declares (Bundle.initS "java/lang/Exception"), .declares (Bundle.initS "java/lang/Throwable")]) (fun w hw => hts w (at1_X5_ofContext_82 w hw)) at2_RX5_82 (vx_c (va_Nw.use rfl hE.2.2.2.2.2.2.2.2.2.2.2.2.2.2.1) (vx_c (va_Nw.use rfl hDc.1) (vx_c (va_Nw.use rfl hDc.2.1) (vx_c (va_Nw.use rfl hDc.2.2) vx_n))))) at2_RX5_82g hE.1 hE.2.1 hS (by rw [hml]; exact hl.1) dX5_ofContext_17 dX5_ofContext_20 dX5_ofContext_21 dX5_ofContext_23 dX5_ofContext_26 (fun x hx => (hnx x hx).elim) (by decide) (by decide) (Nat.le_of_ble_eq_true rfl) (Nat.le_of_ble_eq_true rfl) hlocks (fun t _ h1 h2 => ⟨(), trivial, (Or.inl ⟨c1, rfl⟩), thF (H0 := s.heap) hS h1 h2⟩) hS.2.2 (Nat.le_of_ble_eq_true rfl) (Nat.le_of_ble_eq_true rfl)
  · skip
    refine lv_if_eq (tgt := 17) hx hb dX5_ofContext_5 (by decide) (fun _ => ?_) (fun h => absurd (by decide) h)
    exact vx_throwS (names := ["java/lang/RuntimeException", "java/lang/Exception"]) (sa := ε 22) hx hb hst hown (by decide +kernel) (by decide +kernel) (hts _ wd240_X5_ofContext) (hts _ wd241_X5_ofContext) (hE.2.2.2.2.2.2.1 _ (List.mem_of_getElem? (i := 12) rfl)) (vx_hat (B := [.castable "java/lang/IllegalArgumentException" "java/lang/IllegalArgumentException", .declares (Bundle.initS "java/lang/RuntimeException"), .declares (Bundle.initS "java/lang/Exception"), .declares (Bundle.initS "java/lang/Throwable")]) (fun w hw => hts w (at1_X5_ofContext_82 w hw)) at2_RX5_82 (vx_c (va_Nw.use rfl hE.2.2.2.2.2.2.2.2.2.2.2.2.2.2.1) (vx_c (va_Nw.use rfl hDc.1) (vx_c (va_Nw.use rfl hDc.2.1) (vx_c (va_Nw.use rfl hDc.2.2) vx_n))))) at2_RX5_82g hE.1 hE.2.1 hS (by rw [hml]; exact hl.1) dX5_ofContext_17 dX5_ofContext_20 dX5_ofContext_21 dX5_ofContext_23 dX5_ofContext_26 (fun x hx => (hnx x hx).elim) (by decide) (by decide) (Nat.le_of_ble_eq_true rfl) (Nat.le_of_ble_eq_true rfl) hlocks (fun t _ h1 h2 => ⟨(), trivial, (Or.inr ⟨c2, rfl⟩), thF (H0 := s.heap) hS h1 h2⟩) hS.2.2 (Nat.le_of_ble_eq_true rfl) (Nat.le_of_ble_eq_true rfl)

set_option maxHeartbeats 4000000 in
set_option maxRecDepth 100000 in
theorem k_L_ofContext_2 (l : Launch) (hst : l.stackTraces = false) (D : va_G) (κ ε : Nat → Nat) (h0 h1 h2 h3 h4 h5 h6 h7 h8 h9 : Nat) (sz : Nat) (p0 : Int32) (p1 : Int32) (hf0 : ¬ p0 = 1) (hf1 : ¬ p0 = 2) : Met l yL_ofContext wsL_ofContext ({ frames := 7, cells := 1, slots := 6, locals := 142 }) (va_Pc [.ref h0, .int p0, .int p1, .ref h1] (Pre2 D κ ε [(h0, .inr (7, [.ref h2, .ref h3, .ref h4, .ref h5, .ref h6, .ref h7, .int 0, .int 0, .int 0, .int 0])), (h1, .inl (κ 2, 1, .inr (.inl (fun _ => 0)))), (h2, .inr (2, [.int 0, .int 2, .ref h8, .ref h9]))] sz)) (va_Qi (fun r (u : Nat → Int64) => ((p0 < 1) ∧ (r = 1)) ∨ ((¬ p0 < 1) ∧ (r = 1))) (fun u t => va_P D vwCl [(h1, .inl (κ 2, 1, .inr (.inl u)))] t.heap ∧ va_D (va_A [(h0, .inr (7, [.ref h2, .ref h3, .ref h4, .ref h5, .ref h6, .ref h7, .int 0, .int 0, .int 0, .int 0])), (h1, .inl (κ 2, 1, .inr (.inl (fun _ => 0)))), (h2, .inr (2, [.int 0, .int 2, .ref h8, .ref h9]))] sz) [(h1, .inl (κ 2, 1, .inr (.inl u)))]) (va_A [(h0, .inr (7, [.ref h2, .ref h3, .ref h4, .ref h5, .ref h6, .ref h7, .int 0, .int 0, .int 0, .int 0])), (h1, .inl (κ 2, 1, .inr (.inl (fun _ => 0)))), (h2, .inr (2, [.int 0, .int 2, .ref h8, .ref h9]))] sz)) 1 6 (va_A [(h0, .inr (7, [.ref h2, .ref h3, .ref h4, .ref h5, .ref h6, .ref h7, .int 0, .int 0, .int 0, .int 0])), (h1, .inl (κ 2, 1, .inr (.inl (fun _ => 0)))), (h2, .inr (2, [.int 0, .int 2, .ref h8, .ref h9]))] sz) := by
  refine va_MetW (cc := cL_ofContext) (maxL := 5) (ret := (some .int)) (hh := [(0, 10, 13, 19)]) (by decide) rfl ?_
  intro p e s m args below meth c s₁ B hml hv
  obtain ⟨rfl, hsz, hP, hK, hD0, hE9⟩ := hv
  have hx := B.exec
  have hb := B.bytes
  have hr := B.returns
  have hts := atoms_spec (ws := wsL_ofContext) B.pre
  have hown : s.vm.findClass RL = some m.cls := findClass_of_methodNamed B.named
  have hlocks := B.notSynchronized
  have htab : c.exceptionTable.toList = tableOf [(0, 10, 13, 19)] := vx_table (x := yL_ofContext) B (hts (.codeWith yL_ofContext cL_ofContext 5 (some .int) [(0, 10, 13, 19)]) List.mem_cons_self)
  subst hsz
  have hD := hD0.self (sz := s.heap.size)
  generalize hAe : va_A [(h0, .inr (7, [.ref h2, .ref h3, .ref h4, .ref h5, .ref h6, .ref h7, .int 0, .int 0, .int 0, .int 0])), (h1, .inl (κ 2, 1, .inr (.inl (fun _ => 0)))), (h2, .inr (2, [.int 0, .int 2, .ref h8, .ref h9]))] s.heap.size = A at hD hE9 ⊢
  have hE := hE9.1
  have hDc := hE9.2
  have hA : ∀ q : Nat, s.heap.size ≤ q → A q := fun q h => by rw [← hAe]; exact Or.inr h
  have hS : va_S A s.heap s.heap [] := va_S.rf
  have hP : va_P D vwCl [(h0, .inr (7, [.ref h2, .ref h3, .ref h4, .ref h5, .ref h6, .ref h7, .int 0, .int 0, .int 0, .int 0])), (h1, .inl (κ 2, 1, .inr (.inl (fun _ => 0)))), (h2, .inr (2, [.int 0, .int 2, .ref h8, .ref h9]))] s.heap := hP
  have hl := lv_entry [.ref h0, .int p0, .int p1, .ref h1] (n := 5) (Nat.le_of_ble_eq_true rfl)
  rw [lg_entry_eq]
  generalize (lg_sl [.ref h0, .int p0, .int p1, .ref h1] ++ List.replicate (5 - (lg_sl [.ref h0, .int p0, .int p1, .ref h1]).length) Slot.unset).toArray = ls at hl ⊢
  have hl : lv_has ls 5 [(0, .ref h0), (1, .int p0), (2, .int p1), (3, .ref h1)] := hl
  refine lv_aload_n hx hb dL_ofContext_0 rfl (lv_at hl 3 rfl) ?_
  refine lv_iconst (v := 0) hx hb dL_ofContext_1 (by decide) ?_
  refine lv_aload_n hx hb dL_ofContext_2 rfl (lv_at hl 0 rfl) ?_
  refine lv_iload_n hx hb dL_ofContext_3 rfl (lv_at hl 1 rfl) ?_
  refine lv_iload_n hx hb dL_ofContext_4 rfl (lv_at hl 2 rfl) ?_
  have hF := va_free (wc := [(h0, .inr (7, [.ref h2, .ref h3, .ref h4, .ref h5, .ref h6, .ref h7, .int 0, .int 0, .int 0, .int 0])), (h2, .inr (2, [.int 0, .int 2, .ref h8, .ref h9]))]) hD hS hA [0, 2] rfl
  refine vx_calli (vx_runV (As := [.int p0, .int p1]) (rest := [.int 0, .ref h1]) ⟨hx, hb, hml, hown, hts⟩ (k_X5_ofContext_2 l hst D κ ε h0 h2 h3 h4 h5 h6 h7 h8 h9 s.heap.size (p0) (p1) hf0 hf1) (cwV 2 hts gL_ofContext_X5_ofContext rfl rfl rfl (by decide +kernel) ⟨(Nat.le_of_ble_eq_true rfl), (Nat.le_of_ble_eq_true rfl)⟩) (pre2_V (q0 := 0) (ci := 7) (wc := [(h0, .inr (7, [.ref h2, .ref h3, .ref h4, .ref h5, .ref h6, .ref h7, .int 0, .int 0, .int 0, .int 0])), (h2, .inr (2, [.int 0, .int 2, .ref h8, .ref h9]))]) hP hD hK hE9 hS hA [0, 2] (by decide) rfl rfl rfl) rfl rfl hl.1 rfl (lv_room (Nat.le_of_ble_eq_true rfl)) dL_ofContext_5 ⟨(Nat.le_of_ble_eq_true rfl), (Nat.le_of_ble_eq_true rfl)⟩) hS (fun q _ h => hF q h) hF (fun q _ h => hF q h) (fun E9 ce q9 u t H locs ht hvm hw hB hz1 hk1 hS hce hcv hcl => ?_) (fun r u t H locs ht hvm hw hB hz1 hk1 hS => ?_)
  · try dsimp only at hB
    have hP1 : va_P D vwCl [] H := P_nil
    obtain ⟨hP, hD⟩ := post_j (ws' := [(h1, .inl (κ 2, 1, .inr (.inl (fun _ => 0))))]) (wr := [(h1, .inl (κ 2, 1, .inr (.inl (fun _ => 0))))]) (w1 := []) hP hD hF [0, 2] rfl [1] rfl (by decide) (by decide) hk1 hP1 D_nil [0] (by decide) rfl
    have hP : va_P D vwCl [(h1, .inl (κ 2, 1, .inr (.inl (fun _ => 0))))] H := hP
    have hD : va_D A [(h1, .inl (κ 2, 1, .inr (.inl (fun _ => 0))))] := hD
    rcases hB with ⟨c2, rfl⟩ | ⟨c3, rfl⟩
    · skip
      refine vx_catch (name := "java/lang/IllegalArgumentException") hown [] ⟨0, 10, 13, 19⟩ [] (htab.trans rfl) (fun z hz => nomatch hz) (by decide) (by decide) (hts _ wd242_L_ofContext) (va_Nw.use rfl hE.2.2.2.2.2.2.2.2.2.2.2.2.2.2.1) hce hcv hcl ?_
      refine lv_astore (lv' := [(4, .ref q9), (0, .ref h0), (1, .int p0), (2, .int p1), (3, .ref h1)]) hx hb dL_ofContext_13 hl (by decide) rfl (fun ls hl => ?_)
      refine lv_iconst (v := 1) hx hb dL_ofContext_15 (by decide) ?_
      have hP9 := hP.sub (ws' := [(h1, .inl (κ 2, 1, .inr (.inl (fun _ => 0))))]) [0] rfl
      have hD9 := hD.sub (ws' := [(h1, .inl (κ 2, 1, .inr (.inl (fun _ => 0))))]) [0] (by decide) rfl
      refine W.widen (k := 1) (n := 6) (Nat.le_of_ble_eq_true rfl) (Nat.le_of_ble_eq_true rfl) ?_
      exact W.iret (v := 1) hx hb hr (fun t ht hW => ⟨⟨1, (fun _ => 0), rfl, (Or.inl ⟨c2, rfl⟩), by rw [ht]; exact hP9, hD9⟩, hS.F ht⟩) hS.2.2 dL_ofContext_16
    · skip
      refine vx_catch (name := "java/lang/IllegalArgumentException") hown [] ⟨0, 10, 13, 19⟩ [] (htab.trans rfl) (fun z hz => nomatch hz) (by decide) (by decide) (hts _ wd242_L_ofContext) (va_Nw.use rfl hE.2.2.2.2.2.2.2.2.2.2.2.2.2.2.1) hce hcv hcl ?_
      refine lv_astore (lv' := [(4, .ref q9), (0, .ref h0), (1, .int p0), (2, .int p1), (3, .ref h1)]) hx hb dL_ofContext_13 hl (by decide) rfl (fun ls hl => ?_)
      refine lv_iconst (v := 1) hx hb dL_ofContext_15 (by decide) ?_
      have hP9 := hP.sub (ws' := [(h1, .inl (κ 2, 1, .inr (.inl (fun _ => 0))))]) [0] rfl
      have hD9 := hD.sub (ws' := [(h1, .inl (κ 2, 1, .inr (.inl (fun _ => 0))))]) [0] (by decide) rfl
      refine W.widen (k := 1) (n := 6) (Nat.le_of_ble_eq_true rfl) (Nat.le_of_ble_eq_true rfl) ?_
      exact W.iret (v := 1) hx hb hr (fun t ht hW => ⟨⟨1, (fun _ => 0), rfl, (Or.inr ⟨c3, rfl⟩), by rw [ht]; exact hP9, hD9⟩, hS.F ht⟩) hS.2.2 dL_ofContext_16
  · exact False.elim hw

set_option maxHeartbeats 4000000 in
set_option maxRecDepth 100000 in
theorem k_X6_ofContext_8 (l : Launch) (D : va_G) (κ ε : Nat → Nat) (h0 h1 h2 h3 : Nat) (sz : Nat) (p0 : Int32) (p1 : Int32) (hf0 : p0 < 1) : Met l yX6_ofContext wsX6_ofContext ({ frames := 2, cells := 0, slots := 0, locals := 44 }) (va_Pc [.ref h0, .int p0, .int p1] (Pre2 D κ ε [(h0, .inr (8, [.int 0, .int 0, .int 2, .ref h1, .ref h2, .int 0, .int 500, .int 0, .int 0, .int 0, .ref h3]))] sz)) (va_Qi (fun r (u : List Value) => (u[0]? = some (.int 1)) ∧ (r = 0)) (fun u t => va_P D vwCl [(h0, .inr (8, u))] t.heap ∧ va_D (va_A [(h0, .inr (8, [.int 0, .int 0, .int 2, .ref h1, .ref h2, .int 0, .int 500, .int 0, .int 0, .int 0, .ref h3]))] sz) [(h0, .inr (8, u))]) (va_A [(h0, .inr (8, [.int 0, .int 0, .int 2, .ref h1, .ref h2, .int 0, .int 500, .int 0, .int 0, .int 0, .ref h3]))] sz)) 0 0 (va_A [(h0, .inr (8, [.int 0, .int 0, .int 2, .ref h1, .ref h2, .int 0, .int 500, .int 0, .int 0, .int 0, .ref h3]))] sz) := by
  refine Met.ofW (cc := cX6_ofContext) (maxL := 3) (ret := (some .int)) (by decide) rfl ?_
  intro p e s m args below meth c s₁ B hml hv
  obtain ⟨rfl, hsz, hP, hK, hD0, hE9⟩ := hv
  have hx := B.exec
  have hb := B.bytes
  have hr := B.returns
  have hts := atoms_spec (ws := wsX6_ofContext) B.pre
  have hown : s.vm.findClass RX6 = some m.cls := findClass_of_methodNamed B.named
  have hlocks := B.notSynchronized
  subst hsz
  have hD := hD0.self (sz := s.heap.size)
  generalize hAe : va_A [(h0, .inr (8, [.int 0, .int 0, .int 2, .ref h1, .ref h2, .int 0, .int 500, .int 0, .int 0, .int 0, .ref h3]))] s.heap.size = A at hD hE9 ⊢
  have hE := hE9.1
  have hDc := hE9.2
  have hA : ∀ q : Nat, s.heap.size ≤ q → A q := fun q h => by rw [← hAe]; exact Or.inr h
  have hS : va_S A s.heap s.heap [] := va_S.rf
  have hP : va_P D vwCl [(h0, .inr (8, [.int 0, .int 0, .int 2, .ref h1, .ref h2, .int 0, .int 500, .int 0, .int 0, .int 0, .ref h3]))] s.heap := hP
  have hl := lv_entry [.ref h0, .int p0, .int p1] (n := 3) (Nat.le_of_ble_eq_true rfl)
  rw [lg_entry_eq]
  generalize (lg_sl [.ref h0, .int p0, .int p1] ++ List.replicate (3 - (lg_sl [.ref h0, .int p0, .int p1]).length) Slot.unset).toArray = ls at hl ⊢
  have hl : lv_has ls 3 [(0, .ref h0), (1, .int p0), (2, .int p1)] := hl
  refine lv_aload_n hx hb dX6_ofContext_0 rfl (lv_at hl 0 rfl) ?_
  refine lv_iload_n hx hb dX6_ofContext_1 rfl (lv_at hl 1 rfl) ?_
  refine lv_iconst (v := 1) hx hb dX6_ofContext_2 (by decide) ?_
  refine lv_aload_n hx hb dX6_ofContext_3 rfl (lv_at hl 0 rfl) ?_
  refine va_get (D := D) (ci := 8) (v := .int 2) (C := RX6) (T := TX6) (N := 11) hx hb hts wi_X6_ofContext_RX6 hown hK hP 0 rfl rfl 2 (by decide) (hts _ wd243_X6_ofContext) (fun _ h9 => h9) rfl dX6_ofContext_4 ?_
  refine vp_callSi (W.runS (As := [.int p0, .int 1, .int 2]) (rest := [.ref h0]) ⟨hx, hb, hml, hown, hts⟩ (k_X6_isIn_10 l D κ ε (p0) hf0) (va_cwS 3 hts gX6_ofContext_X6_isIn rfl rfl rfl (by decide +kernel) ⟨(Nat.le_of_ble_eq_true rfl), (Nat.le_of_ble_eq_true rfl)⟩) (pre0_S (wc := []) hP hK [] rfl) rfl rfl hl.1 rfl (lv_room (Nat.le_of_ble_eq_true rfl)) dX6_ofContext_7 ⟨(Nat.le_of_ble_eq_true rfl), (Nat.le_of_ble_eq_true rfl)⟩) (fun r hw => ?_)
  rw [hw]
  refine lv_if_eq (tgt := 22) hx hb dX6_ofContext_10 (by decide) (fun _ => ?_) (fun h => absurd (by decide) h)
  refine lv_iconst (v := 1) hx hb dX6_ofContext_22 (by decide) ?_
  refine lv_goto (tgt := 27) hx hb dX6_ofContext_23 (by decide) ?_
  refine lv_iconst (v := 1) hx hb dX6_ofContext_27 (by decide) ?_
  have hF := va_free (wc := [(h0, .inr (8, [.int 0, .int 0, .int 2, .ref h1, .ref h2, .int 0, .int 500, .int 0, .int 0, .int 0, .ref h3]))]) hD hS hA [0] rfl
  refine va_calli (va_runV (As := [.int 1, .int 1]) (rest := []) ⟨hx, hb, hml, hown, hts⟩ (k_X6_start_1 l D κ ε h0 h1 h2 h3 s.heap.size (0) (2) (0) (500) (0) (0)) (cwV 2 hts gX6_ofContext_X6_start rfl rfl rfl (by decide +kernel) ⟨(Nat.le_of_ble_eq_true rfl), (Nat.le_of_ble_eq_true rfl)⟩) (pre2_V (q0 := 0) (ci := 8) (wc := [(h0, .inr (8, [.int 0, .int 0, .int 2, .ref h1, .ref h2, .int 0, .int 500, .int 0, .int 0, .int 0, .ref h3]))]) hP hD hK hE9 hS hA [0] (by decide) rfl rfl rfl) rfl rfl hl.1 rfl (lv_room (Nat.le_of_ble_eq_true rfl)) dX6_ofContext_28 ⟨(Nat.le_of_ble_eq_true rfl), (Nat.le_of_ble_eq_true rfl)⟩) hS (fun q _ h => hF q h) hF (fun r u1 t H locs ht hvm hw hB hz1 hk1 hS => ?_)
  try dsimp only at hw hB
  obtain ⟨hP1, hD1⟩ := hB
  rw [ht] at hP1
  obtain ⟨hP, hD⟩ := post_j (ws' := [(h0, .inr (8, [.int 1, .int 0, .int 2, .ref h1, .ref h2, .int 0, .int 500, .int 0, .int 0, .int 0, .ref h3]))]) (wr := []) (w1 := [(h0, .inr (8, [.int 1, .int 0, .int 2, .ref h1, .ref h2, .int 0, .int 500, .int 0, .int 0, .int 0, .ref h3]))]) hP hD hF [0] rfl [] rfl (by decide) (by decide) hk1 hP1 hD1 [0] (by decide) rfl
  have hP : va_P D vwCl [(h0, .inr (8, [.int 1, .int 0, .int 2, .ref h1, .ref h2, .int 0, .int 500, .int 0, .int 0, .int 0, .ref h3]))] H := hP
  have hD : va_D A [(h0, .inr (8, [.int 1, .int 0, .int 2, .ref h1, .ref h2, .int 0, .int 500, .int 0, .int 0, .int 0, .ref h3]))] := hD
  rw [hw]
  refine lv_if_eq (tgt := 38) hx hb dX6_ofContext_31 (by decide) (fun h => absurd h (by decide)) (fun _ => ?_)
  refine lv_iconst (v := 0) hx hb dX6_ofContext_34 (by decide) ?_
  refine lv_goto (tgt := 44) hx hb dX6_ofContext_35 (by decide) ?_
  have hP9 := hP.sub (ws' := [(h0, .inr (8, [.int 1, .int 0, .int 2, .ref h1, .ref h2, .int 0, .int 500, .int 0, .int 0, .int 0, .ref h3]))]) [0] rfl
  have hD9 := hD.sub (ws' := [(h0, .inr (8, [.int 1, .int 0, .int 2, .ref h1, .ref h2, .int 0, .int 500, .int 0, .int 0, .int 0, .ref h3]))]) [0] (by decide) rfl
  exact W.iret (v := 0) hx hb hr (fun t ht hW => ⟨⟨0, [.int 1, .int 0, .int 2, .ref h1, .ref h2, .int 0, .int 500, .int 0, .int 0, .int 0, .ref h3], rfl, ⟨rfl, rfl⟩, by rw [ht]; exact hP9, hD9⟩, hS.F ht⟩) hS.2.2 dX6_ofContext_44

set_option maxHeartbeats 4000000 in
set_option maxRecDepth 100000 in
theorem k_X6_ofContext_9 (l : Launch) (D : va_G) (κ ε : Nat → Nat) (h0 h1 h2 h3 : Nat) (sz : Nat) (p0 : Int32) (p1 : Int32) (hf0 : ¬ p0 = 1) (hf1 : ¬ p0 = 2) (hf2 : ¬ p0 < 1) : Met l yX6_ofContext wsX6_ofContext ({ frames := 2, cells := 0, slots := 0, locals := 44 }) (va_Pc [.ref h0, .int p0, .int p1] (Pre2 D κ ε [(h0, .inr (8, [.int 0, .int 0, .int 2, .ref h1, .ref h2, .int 0, .int 500, .int 0, .int 0, .int 0, .ref h3]))] sz)) (va_Qi (fun r (u : List Value) => (u[0]? = some (.int 1)) ∧ (r = 0)) (fun u t => va_P D vwCl [(h0, .inr (8, u))] t.heap ∧ va_D (va_A [(h0, .inr (8, [.int 0, .int 0, .int 2, .ref h1, .ref h2, .int 0, .int 500, .int 0, .int 0, .int 0, .ref h3]))] sz) [(h0, .inr (8, u))]) (va_A [(h0, .inr (8, [.int 0, .int 0, .int 2, .ref h1, .ref h2, .int 0, .int 500, .int 0, .int 0, .int 0, .ref h3]))] sz)) 0 0 (va_A [(h0, .inr (8, [.int 0, .int 0, .int 2, .ref h1, .ref h2, .int 0, .int 500, .int 0, .int 0, .int 0, .ref h3]))] sz) := by
  refine Met.ofW (cc := cX6_ofContext) (maxL := 3) (ret := (some .int)) (by decide) rfl ?_
  intro p e s m args below meth c s₁ B hml hv
  obtain ⟨rfl, hsz, hP, hK, hD0, hE9⟩ := hv
  have hx := B.exec
  have hb := B.bytes
  have hr := B.returns
  have hts := atoms_spec (ws := wsX6_ofContext) B.pre
  have hown : s.vm.findClass RX6 = some m.cls := findClass_of_methodNamed B.named
  have hlocks := B.notSynchronized
  subst hsz
  have hD := hD0.self (sz := s.heap.size)
  generalize hAe : va_A [(h0, .inr (8, [.int 0, .int 0, .int 2, .ref h1, .ref h2, .int 0, .int 500, .int 0, .int 0, .int 0, .ref h3]))] s.heap.size = A at hD hE9 ⊢
  have hE := hE9.1
  have hDc := hE9.2
  have hA : ∀ q : Nat, s.heap.size ≤ q → A q := fun q h => by rw [← hAe]; exact Or.inr h
  have hS : va_S A s.heap s.heap [] := va_S.rf
  have hP : va_P D vwCl [(h0, .inr (8, [.int 0, .int 0, .int 2, .ref h1, .ref h2, .int 0, .int 500, .int 0, .int 0, .int 0, .ref h3]))] s.heap := hP
  have hl := lv_entry [.ref h0, .int p0, .int p1] (n := 3) (Nat.le_of_ble_eq_true rfl)
  rw [lg_entry_eq]
  generalize (lg_sl [.ref h0, .int p0, .int p1] ++ List.replicate (3 - (lg_sl [.ref h0, .int p0, .int p1]).length) Slot.unset).toArray = ls at hl ⊢
  have hl : lv_has ls 3 [(0, .ref h0), (1, .int p0), (2, .int p1)] := hl
  refine lv_aload_n hx hb dX6_ofContext_0 rfl (lv_at hl 0 rfl) ?_
  refine lv_iload_n hx hb dX6_ofContext_1 rfl (lv_at hl 1 rfl) ?_
  refine lv_iconst (v := 1) hx hb dX6_ofContext_2 (by decide) ?_
  refine lv_aload_n hx hb dX6_ofContext_3 rfl (lv_at hl 0 rfl) ?_
  refine va_get (D := D) (ci := 8) (v := .int 2) (C := RX6) (T := TX6) (N := 11) hx hb hts wi_X6_ofContext_RX6 hown hK hP 0 rfl rfl 2 (by decide) (hts _ wd243_X6_ofContext) (fun _ h9 => h9) rfl dX6_ofContext_4 ?_
  refine vp_callSi (W.runS (As := [.int p0, .int 1, .int 2]) (rest := [.ref h0]) ⟨hx, hb, hml, hown, hts⟩ (k_X6_isIn_11 l D κ ε (p0) hf0 hf1 hf2) (va_cwS 3 hts gX6_ofContext_X6_isIn rfl rfl rfl (by decide +kernel) ⟨(Nat.le_of_ble_eq_true rfl), (Nat.le_of_ble_eq_true rfl)⟩) (pre0_S (wc := []) hP hK [] rfl) rfl rfl hl.1 rfl (lv_room (Nat.le_of_ble_eq_true rfl)) dX6_ofContext_7 ⟨(Nat.le_of_ble_eq_true rfl), (Nat.le_of_ble_eq_true rfl)⟩) (fun r hw => ?_)
  rw [hw]
  refine lv_if_eq (tgt := 22) hx hb dX6_ofContext_10 (by decide) (fun _ => ?_) (fun h => absurd (by decide) h)
  refine lv_iconst (v := 1) hx hb dX6_ofContext_22 (by decide) ?_
  refine lv_goto (tgt := 27) hx hb dX6_ofContext_23 (by decide) ?_
  refine lv_iconst (v := 1) hx hb dX6_ofContext_27 (by decide) ?_
  have hF := va_free (wc := [(h0, .inr (8, [.int 0, .int 0, .int 2, .ref h1, .ref h2, .int 0, .int 500, .int 0, .int 0, .int 0, .ref h3]))]) hD hS hA [0] rfl
  refine va_calli (va_runV (As := [.int 1, .int 1]) (rest := []) ⟨hx, hb, hml, hown, hts⟩ (k_X6_start_1 l D κ ε h0 h1 h2 h3 s.heap.size (0) (2) (0) (500) (0) (0)) (cwV 2 hts gX6_ofContext_X6_start rfl rfl rfl (by decide +kernel) ⟨(Nat.le_of_ble_eq_true rfl), (Nat.le_of_ble_eq_true rfl)⟩) (pre2_V (q0 := 0) (ci := 8) (wc := [(h0, .inr (8, [.int 0, .int 0, .int 2, .ref h1, .ref h2, .int 0, .int 500, .int 0, .int 0, .int 0, .ref h3]))]) hP hD hK hE9 hS hA [0] (by decide) rfl rfl rfl) rfl rfl hl.1 rfl (lv_room (Nat.le_of_ble_eq_true rfl)) dX6_ofContext_28 ⟨(Nat.le_of_ble_eq_true rfl), (Nat.le_of_ble_eq_true rfl)⟩) hS (fun q _ h => hF q h) hF (fun r u1 t H locs ht hvm hw hB hz1 hk1 hS => ?_)
  try dsimp only at hw hB
  obtain ⟨hP1, hD1⟩ := hB
  rw [ht] at hP1
  obtain ⟨hP, hD⟩ := post_j (ws' := [(h0, .inr (8, [.int 1, .int 0, .int 2, .ref h1, .ref h2, .int 0, .int 500, .int 0, .int 0, .int 0, .ref h3]))]) (wr := []) (w1 := [(h0, .inr (8, [.int 1, .int 0, .int 2, .ref h1, .ref h2, .int 0, .int 500, .int 0, .int 0, .int 0, .ref h3]))]) hP hD hF [0] rfl [] rfl (by decide) (by decide) hk1 hP1 hD1 [0] (by decide) rfl
  have hP : va_P D vwCl [(h0, .inr (8, [.int 1, .int 0, .int 2, .ref h1, .ref h2, .int 0, .int 500, .int 0, .int 0, .int 0, .ref h3]))] H := hP
  have hD : va_D A [(h0, .inr (8, [.int 1, .int 0, .int 2, .ref h1, .ref h2, .int 0, .int 500, .int 0, .int 0, .int 0, .ref h3]))] := hD
  rw [hw]
  refine lv_if_eq (tgt := 38) hx hb dX6_ofContext_31 (by decide) (fun h => absurd h (by decide)) (fun _ => ?_)
  refine lv_iconst (v := 0) hx hb dX6_ofContext_34 (by decide) ?_
  refine lv_goto (tgt := 44) hx hb dX6_ofContext_35 (by decide) ?_
  have hP9 := hP.sub (ws' := [(h0, .inr (8, [.int 1, .int 0, .int 2, .ref h1, .ref h2, .int 0, .int 500, .int 0, .int 0, .int 0, .ref h3]))]) [0] rfl
  have hD9 := hD.sub (ws' := [(h0, .inr (8, [.int 1, .int 0, .int 2, .ref h1, .ref h2, .int 0, .int 500, .int 0, .int 0, .int 0, .ref h3]))]) [0] (by decide) rfl
  exact W.iret (v := 0) hx hb hr (fun t ht hW => ⟨⟨0, [.int 1, .int 0, .int 2, .ref h1, .ref h2, .int 0, .int 500, .int 0, .int 0, .int 0, .ref h3], rfl, ⟨rfl, rfl⟩, by rw [ht]; exact hP9, hD9⟩, hS.F ht⟩) hS.2.2 dX6_ofContext_44

set_option maxHeartbeats 4000000 in
set_option maxRecDepth 100000 in
theorem case_13 {p : Program} {e : Env} {s : State} {m : MethodId} {below : List Frame} {meth : Method} {c : Code} (l : Launch) (hst : l.stackTraces = false) {b : Nat} {xs : Nat → Int32} (C0 : lw_At p s m meth c b 4 xs) (D : va_G) (κ ε : Nat → Nat) (hK : va_K D vwCl (tys κ) s) (hE9 : En2 ε (fun q : Nat => s.heap.size ≤ q) s s.heap) (qx qm qo : Nat) (ux um : Nat → Nat) {H : Heap} {locs : List Loc} (hP : va_P D vwCl [(qx, .inr (7, [.ref (ux 0), .ref (ux 27), .ref (ux 30), .ref (ux 31), .ref (ux 35), .ref (ux 36), .int 0, .int 0, .int 0, .int 0])), ((ux 0), .inr (2, [.int 0, .int 2, .ref (ux 1), .ref (ux 2)])), ((ux 1), .inl (κ 3, 4, .inr (.inr (.inr (.inr (sel [(ux 3), (ux 9), (ux 15), (ux 21)])))))), ((ux 3), .inr (6, [.ref (ux 4), .ref (ux 5), .int 0])), ((ux 9), .inr (6, [.ref (ux 10), .ref (ux 11), .int 0])), ((ux 27), .inr (3, [.ref (ux 0), .int 0, .int 500, .ref (ux 28), .ref (ux 29), .long 0, .int 0])), ((ux 29), .inl (κ 0, 13, .inl (fun _ => 0))), (qm, .inr (8, [.int 0, .int 0, .int 2, .ref (um 0), .ref (um 1), .int 0, .int 500, .int 0, .int 0, .int 0, .ref (um 6)])), ((um 0), .inr (1, [.int 0, .ref (ε 1), .int 0])), ((um 1), .inl (κ 4, 4, .inr (.inr (.inr (.inr (sel [(um 2), (um 3), (um 4), (um 5)])))))), ((um 2), .inl (κ 0, 14, .inl (fun _ => 0))), ((um 3), .inl (κ 0, 196, .inl (fun _ => 0))), (qo, .inl (κ 2, 1, .inr (.inl (fun _ => 0))))] H) (hD : va_D (fun q : Nat => s.heap.size ≤ q) [(qx, .inr (7, [.ref (ux 0), .ref (ux 27), .ref (ux 30), .ref (ux 31), .ref (ux 35), .ref (ux 36), .int 0, .int 0, .int 0, .int 0])), ((ux 0), .inr (2, [.int 0, .int 2, .ref (ux 1), .ref (ux 2)])), ((ux 1), .inl (κ 3, 4, .inr (.inr (.inr (.inr (sel [(ux 3), (ux 9), (ux 15), (ux 21)])))))), ((ux 3), .inr (6, [.ref (ux 4), .ref (ux 5), .int 0])), ((ux 9), .inr (6, [.ref (ux 10), .ref (ux 11), .int 0])), ((ux 27), .inr (3, [.ref (ux 0), .int 0, .int 500, .ref (ux 28), .ref (ux 29), .long 0, .int 0])), ((ux 29), .inl (κ 0, 13, .inl (fun _ => 0))), (qm, .inr (8, [.int 0, .int 0, .int 2, .ref (um 0), .ref (um 1), .int 0, .int 500, .int 0, .int 0, .int 0, .ref (um 6)])), ((um 0), .inr (1, [.int 0, .ref (ε 1), .int 0])), ((um 1), .inl (κ 4, 4, .inr (.inr (.inr (.inr (sel [(um 2), (um 3), (um 4), (um 5)])))))), ((um 2), .inl (κ 0, 14, .inl (fun _ => 0))), ((um 3), .inl (κ 0, 196, .inl (fun _ => 0))), (qo, .inl (κ 2, 1, .inr (.inl (fun _ => 0))))]) (hS : va_S (fun q : Nat => s.heap.size ≤ q) s.heap H locs) {ls : Array Slot} (hl : lv_has ls 9 [(0, .ref b), (1, .ref qx), (2, .ref qm), (3, .ref qo), (4, .int 0)]) : W p l e room_1 s m #[Value.ref b] below meth c H locs 100 120000 (lw_Z below #[Value.ref b] s) (F0 m 756 ls []) := by
  obtain ⟨hx, hb, hr, hml, hown0, hts0, hX, hbl, hlocks, hgv⟩ := id C0
  have hts : ∀ w ∈ wsL_law, w.before #[Value.ref b] s = true := fun w h => hts0 w (wsL_law_in w h)
  have hown : s.vm.findClass RL = some m.cls := hown0
  have hE := hE9.1
  have hDc := hE9.2
  have hA : ∀ q : Nat, s.heap.size ≤ q → (fun q : Nat => s.heap.size ≤ q) q := fun _ h => h
  have hbA : ¬ (fun q : Nat => s.heap.size ≤ q) b := Nat.not_le.mpr hbl
  by_cases e1 : (xs 1) = 1
  · skip
    refine lv_aload_n hx hb dL_law_756 rfl (lv_at hl 1 rfl) ?_
    refine lv_aload_n hx hb dL_law_757 rfl (lv_at hl 0 rfl) ?_
    refine lv_iload hx hb dL_law_758 (lv_at hl 4 rfl) ?_
    refine lv_iconst (v := 1) hx hb dL_law_760 (by decide) ?_
    refine lv_iadd hx hb dL_law_761 ?_
    refine tpi (v := 1) (by decide) ?_
    refine va_sld hx hb hX hbl hbA hS (vpl (by decide)) dL_law_762 ?_
    refine tpi (v := (xs 1)) rfl ?_
    refine tpi (v := 1) e1 ?_
    refine lv_aload_n hx hb dL_law_763 rfl (lv_at hl 0 rfl) ?_
    refine lv_iload hx hb dL_law_764 (lv_at hl 4 rfl) ?_
    refine lv_iconst (v := 2) hx hb dL_law_766 (by decide) ?_
    refine lv_iadd hx hb dL_law_767 ?_
    refine tpi (v := 2) (by decide) ?_
    refine va_sld hx hb hX hbl hbA hS (vpl (by decide)) dL_law_768 ?_
    refine tpi (v := (xs 2)) rfl ?_
    refine lv_aload_n hx hb dL_law_769 rfl (lv_at hl 3 rfl) ?_
    have hF := va_free (wc := [(qx, .inr (7, [.ref (ux 0), .ref (ux 27), .ref (ux 30), .ref (ux 31), .ref (ux 35), .ref (ux 36), .int 0, .int 0, .int 0, .int 0])), (qo, .inl (κ 2, 1, .inr (.inl (fun _ => 0)))), ((ux 0), .inr (2, [.int 0, .int 2, .ref (ux 1), .ref (ux 2)])), ((ux 27), .inr (3, [.ref (ux 0), .int 0, .int 500, .ref (ux 28), .ref (ux 29), .long 0, .int 0])), ((ux 1), .inl (κ 3, 4, .inr (.inr (.inr (.inr (sel [(ux 3), (ux 9), (ux 15), (ux 21)])))))), ((ux 29), .inl (κ 0, 13, .inl (fun _ => 0))), ((ux 3), .inr (6, [.ref (ux 4), .ref (ux 5), .int 0]))]) hD hS hA [0, 12, 1, 5, 2, 6, 3] rfl
    refine va_calli (vx_runSW (As := [.ref qx, .int 1, .int (xs 2), .ref qo]) (rest := []) ⟨hx, hb, hml, hown, hts⟩ (k_L_ofContext_0 l hst D κ ε qx qo (ux 0) (ux 27) (ux 30) (ux 31) (ux 35) (ux 36) (ux 1) (ux 2) (ux 28) (ux 29) (ux 3) (ux 9) (ux 15) (ux 21) (ux 4) (ux 5) H.size ((xs 2))) (vx_cwSW 4 hts gL_law_L_ofContext rfl rfl rfl (by decide +kernel) ⟨(Nat.le_of_ble_eq_true rfl), (Nat.le_of_ble_eq_true rfl)⟩) (pre2_S (wc := [(qx, .inr (7, [.ref (ux 0), .ref (ux 27), .ref (ux 30), .ref (ux 31), .ref (ux 35), .ref (ux 36), .int 0, .int 0, .int 0, .int 0])), (qo, .inl (κ 2, 1, .inr (.inl (fun _ => 0)))), ((ux 0), .inr (2, [.int 0, .int 2, .ref (ux 1), .ref (ux 2)])), ((ux 27), .inr (3, [.ref (ux 0), .int 0, .int 500, .ref (ux 28), .ref (ux 29), .long 0, .int 0])), ((ux 1), .inl (κ 3, 4, .inr (.inr (.inr (.inr (sel [(ux 3), (ux 9), (ux 15), (ux 21)])))))), ((ux 29), .inl (κ 0, 13, .inl (fun _ => 0))), ((ux 3), .inr (6, [.ref (ux 4), .ref (ux 5), .int 0]))]) hP hD hK hE9 hS hA [0, 12, 1, 5, 2, 6, 3] (by decide) rfl) rfl rfl hl.1 rfl (lv_room (Nat.le_of_ble_eq_true rfl)) dL_law_770 ⟨(Nat.le_of_ble_eq_true rfl), (Nat.le_of_ble_eq_true rfl)⟩) hS (fun q _ h => hF q h) hF (fun r u2 t H locs ht hvm hw hB hz1 hk1 hS => ?_)
    try dsimp only at hw hB
    obtain ⟨hP1, hD1⟩ := hB
    rw [ht] at hP1
    obtain ⟨hP, hD⟩ := post_j (ws' := [((ux 9), .inr (6, [.ref (ux 10), .ref (ux 11), .int 0])), (qm, .inr (8, [.int 0, .int 0, .int 2, .ref (um 0), .ref (um 1), .int 0, .int 500, .int 0, .int 0, .int 0, .ref (um 6)])), ((um 0), .inr (1, [.int 0, .ref (ε 1), .int 0])), ((um 1), .inl (κ 4, 4, .inr (.inr (.inr (.inr (sel [(um 2), (um 3), (um 4), (um 5)])))))), ((um 2), .inl (κ 0, 14, .inl (fun _ => 0))), ((um 3), .inl (κ 0, 196, .inl (fun _ => 0))), (qo, .inl (κ 2, 1, .inr (.inl u2)))]) (wr := [((ux 9), .inr (6, [.ref (ux 10), .ref (ux 11), .int 0])), (qm, .inr (8, [.int 0, .int 0, .int 2, .ref (um 0), .ref (um 1), .int 0, .int 500, .int 0, .int 0, .int 0, .ref (um 6)])), ((um 0), .inr (1, [.int 0, .ref (ε 1), .int 0])), ((um 1), .inl (κ 4, 4, .inr (.inr (.inr (.inr (sel [(um 2), (um 3), (um 4), (um 5)])))))), ((um 2), .inl (κ 0, 14, .inl (fun _ => 0))), ((um 3), .inl (κ 0, 196, .inl (fun _ => 0)))]) (w1 := [(qo, .inl (κ 2, 1, .inr (.inl u2)))]) hP hD hF [0, 12, 1, 5, 2, 6, 3] rfl [4, 7, 8, 9, 10, 11] rfl (by decide) (by decide) hk1 hP1 hD1 [0, 1, 2, 3, 4, 5, 6] (by decide) rfl
    have hP : va_P D vwCl [((ux 9), .inr (6, [.ref (ux 10), .ref (ux 11), .int 0])), (qm, .inr (8, [.int 0, .int 0, .int 2, .ref (um 0), .ref (um 1), .int 0, .int 500, .int 0, .int 0, .int 0, .ref (um 6)])), ((um 0), .inr (1, [.int 0, .ref (ε 1), .int 0])), ((um 1), .inl (κ 4, 4, .inr (.inr (.inr (.inr (sel [(um 2), (um 3), (um 4), (um 5)])))))), ((um 2), .inl (κ 0, 14, .inl (fun _ => 0))), ((um 3), .inl (κ 0, 196, .inl (fun _ => 0))), (qo, .inl (κ 2, 1, .inr (.inl u2)))] H := hP
    have hD : va_D (fun q : Nat => s.heap.size ≤ q) [((ux 9), .inr (6, [.ref (ux 10), .ref (ux 11), .int 0])), (qm, .inr (8, [.int 0, .int 0, .int 2, .ref (um 0), .ref (um 1), .int 0, .int 500, .int 0, .int 0, .int 0, .ref (um 6)])), ((um 0), .inr (1, [.int 0, .ref (ε 1), .int 0])), ((um 1), .inl (κ 4, 4, .inr (.inr (.inr (.inr (sel [(um 2), (um 3), (um 4), (um 5)])))))), ((um 2), .inl (κ 0, 14, .inl (fun _ => 0))), ((um 3), .inl (κ 0, 196, .inl (fun _ => 0))), (qo, .inl (κ 2, 1, .inr (.inl u2)))] := hD
    rcases hw with ⟨c3, rfl⟩ | ⟨c4, c5, rfl⟩ | ⟨c6, c7, c8, hu9, rfl⟩ | ⟨c10, c11, c12, hu13, rfl⟩
    · skip
      refine lv_istore (lv' := [(5, .int 1), (0, .ref b), (1, .ref qx), (2, .ref qm), (3, .ref qo), (4, .int 0)]) hx hb dL_law_773 hl (by decide) rfl (fun ls hl => ?_)
      refine lv_aload_n hx hb dL_law_775 rfl (lv_at hl 3 rfl) ?_
      refine lv_aload_n hx hb dL_law_776 rfl (lv_at hl 1 rfl) ?_
      refine lv_iload hx hb dL_law_777 (lv_at hl 5 rfl) ?_
      refine lv_iconst (v := 1) hx hb dL_law_779 (by decide) ?_
      refine lv_iadd hx hb dL_law_780 ?_
      refine tpi (v := 1) (by decide) ?_
      refine va_sld hx hb hX hbl hbA hS (vpl (by decide)) dL_law_781 ?_
      refine tpi (v := (xs 1)) rfl ?_
      refine tpi (v := 1) e1 ?_
      refine lv_aload_n hx hb dL_law_782 rfl (lv_at hl 1 rfl) ?_
      refine lv_iload hx hb dL_law_783 (lv_at hl 5 rfl) ?_
      refine lv_iconst (v := 2) hx hb dL_law_785 (by decide) ?_
      refine lv_iadd hx hb dL_law_786 ?_
      refine tpi (v := 2) (by decide) ?_
      refine va_sld hx hb hX hbl hbA hS (vpl (by decide)) dL_law_787 ?_
      refine tpi (v := (xs 2)) rfl ?_
      have hF := va_free (wc := [(qm, .inr (8, [.int 0, .int 0, .int 2, .ref (um 0), .ref (um 1), .int 0, .int 500, .int 0, .int 0, .int 0, .ref (um 6)]))]) hD hS hA [1] rfl
      refine va_calli (va_runV (As := [.int 1, .int (xs 2)]) (rest := []) ⟨hx, hb, hml, hown, hts⟩ (k_X6_ofContext_0 l D κ ε qm (um 0) (um 1) (um 6) H.size ((xs 2)) c3) (cwV 2 hts gL_law_X6_ofContext rfl rfl rfl (by decide +kernel) ⟨(Nat.le_of_ble_eq_true rfl), (Nat.le_of_ble_eq_true rfl)⟩) (pre2_V (q0 := 1) (ci := 8) (wc := [(qm, .inr (8, [.int 0, .int 0, .int 2, .ref (um 0), .ref (um 1), .int 0, .int 500, .int 0, .int 0, .int 0, .ref (um 6)]))]) hP hD hK hE9 hS hA [1] (by decide) rfl rfl rfl) rfl rfl hl.1 rfl (lv_room (Nat.le_of_ble_eq_true rfl)) dL_law_788 ⟨(Nat.le_of_ble_eq_true rfl), (Nat.le_of_ble_eq_true rfl)⟩) hS (fun q _ h => hF q h) hF (fun r u14 t H locs ht hvm hw hB hz1 hk1 hS => ?_)
      try dsimp only at hw hB
      obtain ⟨hP1, hD1⟩ := hB
      rw [ht] at hP1
      obtain ⟨hP, hD⟩ := post_j (ws' := [((ux 9), .inr (6, [.ref (ux 10), .ref (ux 11), .int 0])), (qm, .inr (8, u14)), ((um 0), .inr (1, [.int 0, .ref (ε 1), .int 0])), ((um 1), .inl (κ 4, 4, .inr (.inr (.inr (.inr (sel [(um 2), (um 3), (um 4), (um 5)])))))), ((um 2), .inl (κ 0, 14, .inl (fun _ => 0))), ((um 3), .inl (κ 0, 196, .inl (fun _ => 0))), (qo, .inl (κ 2, 1, .inr (.inl u2)))]) (wr := [((ux 9), .inr (6, [.ref (ux 10), .ref (ux 11), .int 0])), ((um 0), .inr (1, [.int 0, .ref (ε 1), .int 0])), ((um 1), .inl (κ 4, 4, .inr (.inr (.inr (.inr (sel [(um 2), (um 3), (um 4), (um 5)])))))), ((um 2), .inl (κ 0, 14, .inl (fun _ => 0))), ((um 3), .inl (κ 0, 196, .inl (fun _ => 0))), (qo, .inl (κ 2, 1, .inr (.inl u2)))]) (w1 := [(qm, .inr (8, u14))]) hP hD hF [1] rfl [0, 2, 3, 4, 5, 6] rfl (by decide) (by decide) hk1 hP1 hD1 [0, 6, 1, 2, 3, 4, 5] (by decide) rfl
      have hP : va_P D vwCl [((ux 9), .inr (6, [.ref (ux 10), .ref (ux 11), .int 0])), (qm, .inr (8, u14)), ((um 0), .inr (1, [.int 0, .ref (ε 1), .int 0])), ((um 1), .inl (κ 4, 4, .inr (.inr (.inr (.inr (sel [(um 2), (um 3), (um 4), (um 5)])))))), ((um 2), .inl (κ 0, 14, .inl (fun _ => 0))), ((um 3), .inl (κ 0, 196, .inl (fun _ => 0))), (qo, .inl (κ 2, 1, .inr (.inl u2)))] H := hP
      have hD : va_D (fun q : Nat => s.heap.size ≤ q) [((ux 9), .inr (6, [.ref (ux 10), .ref (ux 11), .int 0])), (qm, .inr (8, u14)), ((um 0), .inr (1, [.int 0, .ref (ε 1), .int 0])), ((um 1), .inl (κ 4, 4, .inr (.inr (.inr (.inr (sel [(um 2), (um 3), (um 4), (um 5)])))))), ((um 2), .inl (κ 0, 14, .inl (fun _ => 0))), ((um 3), .inl (κ 0, 196, .inl (fun _ => 0))), (qo, .inl (κ 2, 1, .inr (.inl u2)))] := hD
      obtain ⟨hu15, rfl⟩ := hw
      refine lv_istore (lv' := [(6, .int 0), (5, .int 1), (0, .ref b), (1, .ref qx), (2, .ref qm), (3, .ref qo), (4, .int 0)]) hx hb dL_law_791 hl (by decide) rfl (fun ls hl => ?_)
      refine lv_aload_n hx hb dL_law_793 rfl (lv_at hl 4 rfl) ?_
      refine vp_callSi (W.runV (As := []) (rest := []) ⟨hx, hb, hml, hown, hts⟩ (k_thrown l D κ qm u14 (1) hu15) (cwV 0 hts gL_law_X6_thrown rfl rfl rfl (by decide +kernel) ⟨(Nat.le_of_ble_eq_true rfl), (Nat.le_of_ble_eq_true rfl)⟩) (pre0_V (q0 := 1) (ci := 8) (wc := [(qm, .inr (8, u14))]) hP hK [1] rfl rfl rfl) rfl rfl hl.1 rfl (lv_room (Nat.le_of_ble_eq_true rfl)) dL_law_794 ⟨(Nat.le_of_ble_eq_true rfl), (Nat.le_of_ble_eq_true rfl)⟩) (fun r hw => ?_)
      subst hw
      refine lv_iload hx hb dL_law_797 (lv_at hl 1 rfl) ?_
      refine lv_icmp_eq (tgt := 804) hx hb dL_law_799 (by decide) (fun _ => ?_) (fun h => absurd (by decide) h)
      refine lv_iload hx hb dL_law_804 (lv_at hl 1 rfl) ?_
      refine lv_if_ne (tgt := 821) hx hb dL_law_806 (by decide) (fun _ => ?_) (fun h => absurd h (by decide))
      refine lv_goto (tgt := 1677) hx hb dL_law_821 (by decide) ?_
      exact law_end C0 (Nat.le_of_ble_eq_true rfl) (Nat.le_of_ble_eq_true rfl) hS (lv_sub hl [2, 6] rfl)
    · skip
      refine lv_istore (lv' := [(5, .int 1), (0, .ref b), (1, .ref qx), (2, .ref qm), (3, .ref qo), (4, .int 0)]) hx hb dL_law_773 hl (by decide) rfl (fun ls hl => ?_)
      refine lv_aload_n hx hb dL_law_775 rfl (lv_at hl 3 rfl) ?_
      refine lv_aload_n hx hb dL_law_776 rfl (lv_at hl 1 rfl) ?_
      refine lv_iload hx hb dL_law_777 (lv_at hl 5 rfl) ?_
      refine lv_iconst (v := 1) hx hb dL_law_779 (by decide) ?_
      refine lv_iadd hx hb dL_law_780 ?_
      refine tpi (v := 1) (by decide) ?_
      refine va_sld hx hb hX hbl hbA hS (vpl (by decide)) dL_law_781 ?_
      refine tpi (v := (xs 1)) rfl ?_
      refine tpi (v := 1) e1 ?_
      refine lv_aload_n hx hb dL_law_782 rfl (lv_at hl 1 rfl) ?_
      refine lv_iload hx hb dL_law_783 (lv_at hl 5 rfl) ?_
      refine lv_iconst (v := 2) hx hb dL_law_785 (by decide) ?_
      refine lv_iadd hx hb dL_law_786 ?_
      refine tpi (v := 2) (by decide) ?_
      refine va_sld hx hb hX hbl hbA hS (vpl (by decide)) dL_law_787 ?_
      refine tpi (v := (xs 2)) rfl ?_
      have hF := va_free (wc := [(qm, .inr (8, [.int 0, .int 0, .int 2, .ref (um 0), .ref (um 1), .int 0, .int 500, .int 0, .int 0, .int 0, .ref (um 6)]))]) hD hS hA [1] rfl
      refine va_calli (va_runV (As := [.int 1, .int (xs 2)]) (rest := []) ⟨hx, hb, hml, hown, hts⟩ (k_X6_ofContext_1 l D κ ε qm (um 0) (um 1) (um 6) H.size ((xs 2)) c4 c5) (cwV 2 hts gL_law_X6_ofContext rfl rfl rfl (by decide +kernel) ⟨(Nat.le_of_ble_eq_true rfl), (Nat.le_of_ble_eq_true rfl)⟩) (pre2_V (q0 := 1) (ci := 8) (wc := [(qm, .inr (8, [.int 0, .int 0, .int 2, .ref (um 0), .ref (um 1), .int 0, .int 500, .int 0, .int 0, .int 0, .ref (um 6)]))]) hP hD hK hE9 hS hA [1] (by decide) rfl rfl rfl) rfl rfl hl.1 rfl (lv_room (Nat.le_of_ble_eq_true rfl)) dL_law_788 ⟨(Nat.le_of_ble_eq_true rfl), (Nat.le_of_ble_eq_true rfl)⟩) hS (fun q _ h => hF q h) hF (fun r u16 t H locs ht hvm hw hB hz1 hk1 hS => ?_)
      try dsimp only at hw hB
      obtain ⟨hP1, hD1⟩ := hB
      rw [ht] at hP1
      obtain ⟨hP, hD⟩ := post_j (ws' := [((ux 9), .inr (6, [.ref (ux 10), .ref (ux 11), .int 0])), (qm, .inr (8, u16)), ((um 0), .inr (1, [.int 0, .ref (ε 1), .int 0])), ((um 1), .inl (κ 4, 4, .inr (.inr (.inr (.inr (sel [(um 2), (um 3), (um 4), (um 5)])))))), ((um 2), .inl (κ 0, 14, .inl (fun _ => 0))), ((um 3), .inl (κ 0, 196, .inl (fun _ => 0))), (qo, .inl (κ 2, 1, .inr (.inl u2)))]) (wr := [((ux 9), .inr (6, [.ref (ux 10), .ref (ux 11), .int 0])), ((um 0), .inr (1, [.int 0, .ref (ε 1), .int 0])), ((um 1), .inl (κ 4, 4, .inr (.inr (.inr (.inr (sel [(um 2), (um 3), (um 4), (um 5)])))))), ((um 2), .inl (κ 0, 14, .inl (fun _ => 0))), ((um 3), .inl (κ 0, 196, .inl (fun _ => 0))), (qo, .inl (κ 2, 1, .inr (.inl u2)))]) (w1 := [(qm, .inr (8, u16))]) hP hD hF [1] rfl [0, 2, 3, 4, 5, 6] rfl (by decide) (by decide) hk1 hP1 hD1 [0, 6, 1, 2, 3, 4, 5] (by decide) rfl
      have hP : va_P D vwCl [((ux 9), .inr (6, [.ref (ux 10), .ref (ux 11), .int 0])), (qm, .inr (8, u16)), ((um 0), .inr (1, [.int 0, .ref (ε 1), .int 0])), ((um 1), .inl (κ 4, 4, .inr (.inr (.inr (.inr (sel [(um 2), (um 3), (um 4), (um 5)])))))), ((um 2), .inl (κ 0, 14, .inl (fun _ => 0))), ((um 3), .inl (κ 0, 196, .inl (fun _ => 0))), (qo, .inl (κ 2, 1, .inr (.inl u2)))] H := hP
      have hD : va_D (fun q : Nat => s.heap.size ≤ q) [((ux 9), .inr (6, [.ref (ux 10), .ref (ux 11), .int 0])), (qm, .inr (8, u16)), ((um 0), .inr (1, [.int 0, .ref (ε 1), .int 0])), ((um 1), .inl (κ 4, 4, .inr (.inr (.inr (.inr (sel [(um 2), (um 3), (um 4), (um 5)])))))), ((um 2), .inl (κ 0, 14, .inl (fun _ => 0))), ((um 3), .inl (κ 0, 196, .inl (fun _ => 0))), (qo, .inl (κ 2, 1, .inr (.inl u2)))] := hD
      obtain ⟨hu17, rfl⟩ := hw
      refine lv_istore (lv' := [(6, .int 0), (5, .int 1), (0, .ref b), (1, .ref qx), (2, .ref qm), (3, .ref qo), (4, .int 0)]) hx hb dL_law_791 hl (by decide) rfl (fun ls hl => ?_)
      refine lv_aload_n hx hb dL_law_793 rfl (lv_at hl 4 rfl) ?_
      refine vp_callSi (W.runV (As := []) (rest := []) ⟨hx, hb, hml, hown, hts⟩ (k_thrown l D κ qm u16 (1) hu17) (cwV 0 hts gL_law_X6_thrown rfl rfl rfl (by decide +kernel) ⟨(Nat.le_of_ble_eq_true rfl), (Nat.le_of_ble_eq_true rfl)⟩) (pre0_V (q0 := 1) (ci := 8) (wc := [(qm, .inr (8, u16))]) hP hK [1] rfl rfl rfl) rfl rfl hl.1 rfl (lv_room (Nat.le_of_ble_eq_true rfl)) dL_law_794 ⟨(Nat.le_of_ble_eq_true rfl), (Nat.le_of_ble_eq_true rfl)⟩) (fun r hw => ?_)
      subst hw
      refine lv_iload hx hb dL_law_797 (lv_at hl 1 rfl) ?_
      refine lv_icmp_eq (tgt := 804) hx hb dL_law_799 (by decide) (fun _ => ?_) (fun h => absurd (by decide) h)
      refine lv_iload hx hb dL_law_804 (lv_at hl 1 rfl) ?_
      refine lv_if_ne (tgt := 821) hx hb dL_law_806 (by decide) (fun _ => ?_) (fun h => absurd h (by decide))
      refine lv_goto (tgt := 1677) hx hb dL_law_821 (by decide) ?_
      exact law_end C0 (Nat.le_of_ble_eq_true rfl) (Nat.le_of_ble_eq_true rfl) hS (lv_sub hl [2, 6] rfl)
    · skip
      refine lv_istore (lv' := [(5, .int 0), (0, .ref b), (1, .ref qx), (2, .ref qm), (3, .ref qo), (4, .int 0)]) hx hb dL_law_773 hl (by decide) rfl (fun ls hl => ?_)
      refine lv_aload_n hx hb dL_law_775 rfl (lv_at hl 3 rfl) ?_
      refine lv_aload_n hx hb dL_law_776 rfl (lv_at hl 1 rfl) ?_
      refine lv_iload hx hb dL_law_777 (lv_at hl 5 rfl) ?_
      refine lv_iconst (v := 1) hx hb dL_law_779 (by decide) ?_
      refine lv_iadd hx hb dL_law_780 ?_
      refine tpi (v := 1) (by decide) ?_
      refine va_sld hx hb hX hbl hbA hS (vpl (by decide)) dL_law_781 ?_
      refine tpi (v := (xs 1)) rfl ?_
      refine tpi (v := 1) e1 ?_
      refine lv_aload_n hx hb dL_law_782 rfl (lv_at hl 1 rfl) ?_
      refine lv_iload hx hb dL_law_783 (lv_at hl 5 rfl) ?_
      refine lv_iconst (v := 2) hx hb dL_law_785 (by decide) ?_
      refine lv_iadd hx hb dL_law_786 ?_
      refine tpi (v := 2) (by decide) ?_
      refine va_sld hx hb hX hbl hbA hS (vpl (by decide)) dL_law_787 ?_
      refine tpi (v := (xs 2)) rfl ?_
      have hF := va_free (wc := [(qm, .inr (8, [.int 0, .int 0, .int 2, .ref (um 0), .ref (um 1), .int 0, .int 500, .int 0, .int 0, .int 0, .ref (um 6)])), ((um 0), .inr (1, [.int 0, .ref (ε 1), .int 0])), ((um 1), .inl (κ 4, 4, .inr (.inr (.inr (.inr (sel [(um 2), (um 3), (um 4), (um 5)])))))), ((um 2), .inl (κ 0, 14, .inl (fun _ => 0)))]) hD hS hA [1, 2, 3, 4] rfl
      refine va_calli (va_runV (As := [.int 1, .int (xs 2)]) (rest := []) ⟨hx, hb, hml, hown, hts⟩ (k_X6_ofContext_2 l D κ ε qm (um 0) (um 1) (um 6) (um 2) (um 3) (um 4) (um 5) H.size ((xs 2)) c6 c7 c8) (cwV 2 hts gL_law_X6_ofContext rfl rfl rfl (by decide +kernel) ⟨(Nat.le_of_ble_eq_true rfl), (Nat.le_of_ble_eq_true rfl)⟩) (pre2_V (q0 := 1) (ci := 8) (wc := [(qm, .inr (8, [.int 0, .int 0, .int 2, .ref (um 0), .ref (um 1), .int 0, .int 500, .int 0, .int 0, .int 0, .ref (um 6)])), ((um 0), .inr (1, [.int 0, .ref (ε 1), .int 0])), ((um 1), .inl (κ 4, 4, .inr (.inr (.inr (.inr (sel [(um 2), (um 3), (um 4), (um 5)])))))), ((um 2), .inl (κ 0, 14, .inl (fun _ => 0)))]) hP hD hK hE9 hS hA [1, 2, 3, 4] (by decide) rfl rfl rfl) rfl rfl hl.1 rfl (lv_room (Nat.le_of_ble_eq_true rfl)) dL_law_788 ⟨(Nat.le_of_ble_eq_true rfl), (Nat.le_of_ble_eq_true rfl)⟩) hS (fun q _ h => hF q h) hF (fun r u18 t H locs ht hvm hw hB hz1 hk1 hS => ?_)
      try dsimp only at hw hB
      obtain ⟨hP1, hD1⟩ := hB
      rw [ht] at hP1
      obtain ⟨hP, hD⟩ := post_j (ws' := [((ux 9), .inr (6, [.ref (ux 10), .ref (ux 11), .int 0])), (qm, .inr (8, u18)), ((um 3), .inl (κ 0, 196, .inl (fun _ => 0))), (qo, .inl (κ 2, 1, .inr (.inl u2)))]) (wr := [((ux 9), .inr (6, [.ref (ux 10), .ref (ux 11), .int 0])), ((um 3), .inl (κ 0, 196, .inl (fun _ => 0))), (qo, .inl (κ 2, 1, .inr (.inl u2)))]) (w1 := [(qm, .inr (8, u18))]) hP hD hF [1, 2, 3, 4] rfl [0, 5, 6] rfl (by decide) (by decide) hk1 hP1 hD1 [0, 3, 1, 2] (by decide) rfl
      have hP : va_P D vwCl [((ux 9), .inr (6, [.ref (ux 10), .ref (ux 11), .int 0])), (qm, .inr (8, u18)), ((um 3), .inl (κ 0, 196, .inl (fun _ => 0))), (qo, .inl (κ 2, 1, .inr (.inl u2)))] H := hP
      have hD : va_D (fun q : Nat => s.heap.size ≤ q) [((ux 9), .inr (6, [.ref (ux 10), .ref (ux 11), .int 0])), (qm, .inr (8, u18)), ((um 3), .inl (κ 0, 196, .inl (fun _ => 0))), (qo, .inl (κ 2, 1, .inr (.inl u2)))] := hD
      obtain ⟨hu19, rfl⟩ := hw
      refine lv_istore (lv' := [(6, .int 0), (5, .int 0), (0, .ref b), (1, .ref qx), (2, .ref qm), (3, .ref qo), (4, .int 0)]) hx hb dL_law_791 hl (by decide) rfl (fun ls hl => ?_)
      refine lv_aload_n hx hb dL_law_793 rfl (lv_at hl 4 rfl) ?_
      refine vp_callSi (W.runV (As := []) (rest := []) ⟨hx, hb, hml, hown, hts⟩ (k_thrown l D κ qm u18 (0) hu19) (cwV 0 hts gL_law_X6_thrown rfl rfl rfl (by decide +kernel) ⟨(Nat.le_of_ble_eq_true rfl), (Nat.le_of_ble_eq_true rfl)⟩) (pre0_V (q0 := 1) (ci := 8) (wc := [(qm, .inr (8, u18))]) hP hK [1] rfl rfl rfl) rfl rfl hl.1 rfl (lv_room (Nat.le_of_ble_eq_true rfl)) dL_law_794 ⟨(Nat.le_of_ble_eq_true rfl), (Nat.le_of_ble_eq_true rfl)⟩) (fun r hw => ?_)
      subst hw
      refine lv_iload hx hb dL_law_797 (lv_at hl 1 rfl) ?_
      refine lv_icmp_eq (tgt := 804) hx hb dL_law_799 (by decide) (fun _ => ?_) (fun h => absurd (by decide) h)
      refine lv_iload hx hb dL_law_804 (lv_at hl 1 rfl) ?_
      refine lv_if_ne (tgt := 821) hx hb dL_law_806 (by decide) (fun h => absurd (by decide) h) (fun _ => ?_)
      refine lv_aload_n hx hb dL_law_809 rfl (lv_at hl 5 rfl) ?_
      refine lv_iconst (v := 0) hx hb dL_law_810 (by decide) ?_
      refine va_lald (cA := κ 2) (n := 1) (f := u2) hx hb hK hP 3 2 rfl rfl (vpl (by decide)) dL_law_811 ?_
      refine tpl (v := 0) hu9 ?_
      refine lv_iload hx hb dL_law_812 (lv_at hl 0 rfl) ?_
      refine lv_i2l (v := 0) hx hb dL_law_814 (by decide) ?_
      refine W.lcmp hx hb dL_law_815 ?_
      refine tpi (v := 0) (by decide) ?_
      refine lv_if_eq (tgt := 821) hx hb dL_law_816 (by decide) (fun _ => ?_) (fun h => absurd (by decide) h)
      refine lv_goto (tgt := 1677) hx hb dL_law_821 (by decide) ?_
      exact law_end C0 (Nat.le_of_ble_eq_true rfl) (Nat.le_of_ble_eq_true rfl) hS (lv_sub hl [2, 6] rfl)
    · skip
      refine lv_istore (lv' := [(5, .int 0), (0, .ref b), (1, .ref qx), (2, .ref qm), (3, .ref qo), (4, .int 0)]) hx hb dL_law_773 hl (by decide) rfl (fun ls hl => ?_)
      refine lv_aload_n hx hb dL_law_775 rfl (lv_at hl 3 rfl) ?_
      refine lv_aload_n hx hb dL_law_776 rfl (lv_at hl 1 rfl) ?_
      refine lv_iload hx hb dL_law_777 (lv_at hl 5 rfl) ?_
      refine lv_iconst (v := 1) hx hb dL_law_779 (by decide) ?_
      refine lv_iadd hx hb dL_law_780 ?_
      refine tpi (v := 1) (by decide) ?_
      refine va_sld hx hb hX hbl hbA hS (vpl (by decide)) dL_law_781 ?_
      refine tpi (v := (xs 1)) rfl ?_
      refine tpi (v := 1) e1 ?_
      refine lv_aload_n hx hb dL_law_782 rfl (lv_at hl 1 rfl) ?_
      refine lv_iload hx hb dL_law_783 (lv_at hl 5 rfl) ?_
      refine lv_iconst (v := 2) hx hb dL_law_785 (by decide) ?_
      refine lv_iadd hx hb dL_law_786 ?_
      refine tpi (v := 2) (by decide) ?_
      refine va_sld hx hb hX hbl hbA hS (vpl (by decide)) dL_law_787 ?_
      refine tpi (v := (xs 2)) rfl ?_
      refine tpi (v := 0) c12 ?_
      have hF := va_free (wc := [(qm, .inr (8, [.int 0, .int 0, .int 2, .ref (um 0), .ref (um 1), .int 0, .int 500, .int 0, .int 0, .int 0, .ref (um 6)])), ((um 0), .inr (1, [.int 0, .ref (ε 1), .int 0])), ((um 1), .inl (κ 4, 4, .inr (.inr (.inr (.inr (sel [(um 2), (um 3), (um 4), (um 5)])))))), ((um 2), .inl (κ 0, 14, .inl (fun _ => 0)))]) hD hS hA [1, 2, 3, 4] rfl
      refine va_calli (va_runV (As := [.int 1, .int 0]) (rest := []) ⟨hx, hb, hml, hown, hts⟩ (k_X6_ofContext_3 l D κ ε qm (um 0) (um 1) (um 6) (um 2) (um 3) (um 4) (um 5) H.size) (cwV 2 hts gL_law_X6_ofContext rfl rfl rfl (by decide +kernel) ⟨(Nat.le_of_ble_eq_true rfl), (Nat.le_of_ble_eq_true rfl)⟩) (pre2_V (q0 := 1) (ci := 8) (wc := [(qm, .inr (8, [.int 0, .int 0, .int 2, .ref (um 0), .ref (um 1), .int 0, .int 500, .int 0, .int 0, .int 0, .ref (um 6)])), ((um 0), .inr (1, [.int 0, .ref (ε 1), .int 0])), ((um 1), .inl (κ 4, 4, .inr (.inr (.inr (.inr (sel [(um 2), (um 3), (um 4), (um 5)])))))), ((um 2), .inl (κ 0, 14, .inl (fun _ => 0)))]) hP hD hK hE9 hS hA [1, 2, 3, 4] (by decide) rfl rfl rfl) rfl rfl hl.1 rfl (lv_room (Nat.le_of_ble_eq_true rfl)) dL_law_788 ⟨(Nat.le_of_ble_eq_true rfl), (Nat.le_of_ble_eq_true rfl)⟩) hS (fun q _ h => hF q h) hF (fun r u20 t H locs ht hvm hw hB hz1 hk1 hS => ?_)
      try dsimp only at hw hB
      obtain ⟨hP1, hD1⟩ := hB
      rw [ht] at hP1
      obtain ⟨hP, hD⟩ := post_j (ws' := [((ux 9), .inr (6, [.ref (ux 10), .ref (ux 11), .int 0])), (qm, .inr (8, u20)), ((um 3), .inl (κ 0, 196, .inl (fun _ => 0))), (qo, .inl (κ 2, 1, .inr (.inl u2)))]) (wr := [((ux 9), .inr (6, [.ref (ux 10), .ref (ux 11), .int 0])), ((um 3), .inl (κ 0, 196, .inl (fun _ => 0))), (qo, .inl (κ 2, 1, .inr (.inl u2)))]) (w1 := [(qm, .inr (8, u20))]) hP hD hF [1, 2, 3, 4] rfl [0, 5, 6] rfl (by decide) (by decide) hk1 hP1 hD1 [0, 3, 1, 2] (by decide) rfl
      have hP : va_P D vwCl [((ux 9), .inr (6, [.ref (ux 10), .ref (ux 11), .int 0])), (qm, .inr (8, u20)), ((um 3), .inl (κ 0, 196, .inl (fun _ => 0))), (qo, .inl (κ 2, 1, .inr (.inl u2)))] H := hP
      have hD : va_D (fun q : Nat => s.heap.size ≤ q) [((ux 9), .inr (6, [.ref (ux 10), .ref (ux 11), .int 0])), (qm, .inr (8, u20)), ((um 3), .inl (κ 0, 196, .inl (fun _ => 0))), (qo, .inl (κ 2, 1, .inr (.inl u2)))] := hD
      obtain ⟨hu21, rfl⟩ := hw
      refine lv_istore (lv' := [(6, .int 0), (5, .int 0), (0, .ref b), (1, .ref qx), (2, .ref qm), (3, .ref qo), (4, .int 0)]) hx hb dL_law_791 hl (by decide) rfl (fun ls hl => ?_)
      refine lv_aload_n hx hb dL_law_793 rfl (lv_at hl 4 rfl) ?_
      refine vp_callSi (W.runV (As := []) (rest := []) ⟨hx, hb, hml, hown, hts⟩ (k_thrown l D κ qm u20 (0) hu21) (cwV 0 hts gL_law_X6_thrown rfl rfl rfl (by decide +kernel) ⟨(Nat.le_of_ble_eq_true rfl), (Nat.le_of_ble_eq_true rfl)⟩) (pre0_V (q0 := 1) (ci := 8) (wc := [(qm, .inr (8, u20))]) hP hK [1] rfl rfl rfl) rfl rfl hl.1 rfl (lv_room (Nat.le_of_ble_eq_true rfl)) dL_law_794 ⟨(Nat.le_of_ble_eq_true rfl), (Nat.le_of_ble_eq_true rfl)⟩) (fun r hw => ?_)
      subst hw
      refine lv_iload hx hb dL_law_797 (lv_at hl 1 rfl) ?_
      refine lv_icmp_eq (tgt := 804) hx hb dL_law_799 (by decide) (fun _ => ?_) (fun h => absurd (by decide) h)
      refine lv_iload hx hb dL_law_804 (lv_at hl 1 rfl) ?_
      refine lv_if_ne (tgt := 821) hx hb dL_law_806 (by decide) (fun h => absurd (by decide) h) (fun _ => ?_)
      refine lv_aload_n hx hb dL_law_809 rfl (lv_at hl 5 rfl) ?_
      refine lv_iconst (v := 0) hx hb dL_law_810 (by decide) ?_
      refine va_lald (cA := κ 2) (n := 1) (f := u2) hx hb hK hP 3 2 rfl rfl (vpl (by decide)) dL_law_811 ?_
      refine tpl (v := 0) hu13 ?_
      refine lv_iload hx hb dL_law_812 (lv_at hl 0 rfl) ?_
      refine lv_i2l (v := 0) hx hb dL_law_814 (by decide) ?_
      refine W.lcmp hx hb dL_law_815 ?_
      refine tpi (v := 0) (by decide) ?_
      refine lv_if_eq (tgt := 821) hx hb dL_law_816 (by decide) (fun _ => ?_) (fun h => absurd (by decide) h)
      refine lv_goto (tgt := 1677) hx hb dL_law_821 (by decide) ?_
      exact law_end C0 (Nat.le_of_ble_eq_true rfl) (Nat.le_of_ble_eq_true rfl) hS (lv_sub hl [2, 6] rfl)
  · skip
    by_cases e22 : (xs 1) = 2
    · skip
      refine lv_aload_n hx hb dL_law_756 rfl (lv_at hl 1 rfl) ?_
      refine lv_aload_n hx hb dL_law_757 rfl (lv_at hl 0 rfl) ?_
      refine lv_iload hx hb dL_law_758 (lv_at hl 4 rfl) ?_
      refine lv_iconst (v := 1) hx hb dL_law_760 (by decide) ?_
      refine lv_iadd hx hb dL_law_761 ?_
      refine tpi (v := 1) (by decide) ?_
      refine va_sld hx hb hX hbl hbA hS (vpl (by decide)) dL_law_762 ?_
      refine tpi (v := (xs 1)) rfl ?_
      refine tpi (v := 2) e22 ?_
      refine lv_aload_n hx hb dL_law_763 rfl (lv_at hl 0 rfl) ?_
      refine lv_iload hx hb dL_law_764 (lv_at hl 4 rfl) ?_
      refine lv_iconst (v := 2) hx hb dL_law_766 (by decide) ?_
      refine lv_iadd hx hb dL_law_767 ?_
      refine tpi (v := 2) (by decide) ?_
      refine va_sld hx hb hX hbl hbA hS (vpl (by decide)) dL_law_768 ?_
      refine tpi (v := (xs 2)) rfl ?_
      refine lv_aload_n hx hb dL_law_769 rfl (lv_at hl 3 rfl) ?_
      have hF := va_free (wc := [(qx, .inr (7, [.ref (ux 0), .ref (ux 27), .ref (ux 30), .ref (ux 31), .ref (ux 35), .ref (ux 36), .int 0, .int 0, .int 0, .int 0])), (qo, .inl (κ 2, 1, .inr (.inl (fun _ => 0)))), ((ux 0), .inr (2, [.int 0, .int 2, .ref (ux 1), .ref (ux 2)])), ((ux 27), .inr (3, [.ref (ux 0), .int 0, .int 500, .ref (ux 28), .ref (ux 29), .long 0, .int 0])), ((ux 1), .inl (κ 3, 4, .inr (.inr (.inr (.inr (sel [(ux 3), (ux 9), (ux 15), (ux 21)])))))), ((ux 29), .inl (κ 0, 13, .inl (fun _ => 0))), ((ux 9), .inr (6, [.ref (ux 10), .ref (ux 11), .int 0]))]) hD hS hA [0, 12, 1, 5, 2, 6, 4] rfl
      refine va_calli (vx_runSW (As := [.ref qx, .int 2, .int (xs 2), .ref qo]) (rest := []) ⟨hx, hb, hml, hown, hts⟩ (k_L_ofContext_1 l hst D κ ε qx qo (ux 0) (ux 27) (ux 30) (ux 31) (ux 35) (ux 36) (ux 1) (ux 2) (ux 28) (ux 29) (ux 3) (ux 9) (ux 15) (ux 21) (ux 10) (ux 11) H.size ((xs 2))) (vx_cwSW 4 hts gL_law_L_ofContext rfl rfl rfl (by decide +kernel) ⟨(Nat.le_of_ble_eq_true rfl), (Nat.le_of_ble_eq_true rfl)⟩) (pre2_S (wc := [(qx, .inr (7, [.ref (ux 0), .ref (ux 27), .ref (ux 30), .ref (ux 31), .ref (ux 35), .ref (ux 36), .int 0, .int 0, .int 0, .int 0])), (qo, .inl (κ 2, 1, .inr (.inl (fun _ => 0)))), ((ux 0), .inr (2, [.int 0, .int 2, .ref (ux 1), .ref (ux 2)])), ((ux 27), .inr (3, [.ref (ux 0), .int 0, .int 500, .ref (ux 28), .ref (ux 29), .long 0, .int 0])), ((ux 1), .inl (κ 3, 4, .inr (.inr (.inr (.inr (sel [(ux 3), (ux 9), (ux 15), (ux 21)])))))), ((ux 29), .inl (κ 0, 13, .inl (fun _ => 0))), ((ux 9), .inr (6, [.ref (ux 10), .ref (ux 11), .int 0]))]) hP hD hK hE9 hS hA [0, 12, 1, 5, 2, 6, 4] (by decide) rfl) rfl rfl hl.1 rfl (lv_room (Nat.le_of_ble_eq_true rfl)) dL_law_770 ⟨(Nat.le_of_ble_eq_true rfl), (Nat.le_of_ble_eq_true rfl)⟩) hS (fun q _ h => hF q h) hF (fun r u23 t H locs ht hvm hw hB hz1 hk1 hS => ?_)
      try dsimp only at hw hB
      obtain ⟨hP1, hD1⟩ := hB
      rw [ht] at hP1
      obtain ⟨hP, hD⟩ := post_j (ws' := [((ux 3), .inr (6, [.ref (ux 4), .ref (ux 5), .int 0])), (qm, .inr (8, [.int 0, .int 0, .int 2, .ref (um 0), .ref (um 1), .int 0, .int 500, .int 0, .int 0, .int 0, .ref (um 6)])), ((um 0), .inr (1, [.int 0, .ref (ε 1), .int 0])), ((um 1), .inl (κ 4, 4, .inr (.inr (.inr (.inr (sel [(um 2), (um 3), (um 4), (um 5)])))))), ((um 2), .inl (κ 0, 14, .inl (fun _ => 0))), ((um 3), .inl (κ 0, 196, .inl (fun _ => 0))), (qo, .inl (κ 2, 1, .inr (.inl u23)))]) (wr := [((ux 3), .inr (6, [.ref (ux 4), .ref (ux 5), .int 0])), (qm, .inr (8, [.int 0, .int 0, .int 2, .ref (um 0), .ref (um 1), .int 0, .int 500, .int 0, .int 0, .int 0, .ref (um 6)])), ((um 0), .inr (1, [.int 0, .ref (ε 1), .int 0])), ((um 1), .inl (κ 4, 4, .inr (.inr (.inr (.inr (sel [(um 2), (um 3), (um 4), (um 5)])))))), ((um 2), .inl (κ 0, 14, .inl (fun _ => 0))), ((um 3), .inl (κ 0, 196, .inl (fun _ => 0)))]) (w1 := [(qo, .inl (κ 2, 1, .inr (.inl u23)))]) hP hD hF [0, 12, 1, 5, 2, 6, 4] rfl [3, 7, 8, 9, 10, 11] rfl (by decide) (by decide) hk1 hP1 hD1 [0, 1, 2, 3, 4, 5, 6] (by decide) rfl
      have hP : va_P D vwCl [((ux 3), .inr (6, [.ref (ux 4), .ref (ux 5), .int 0])), (qm, .inr (8, [.int 0, .int 0, .int 2, .ref (um 0), .ref (um 1), .int 0, .int 500, .int 0, .int 0, .int 0, .ref (um 6)])), ((um 0), .inr (1, [.int 0, .ref (ε 1), .int 0])), ((um 1), .inl (κ 4, 4, .inr (.inr (.inr (.inr (sel [(um 2), (um 3), (um 4), (um 5)])))))), ((um 2), .inl (κ 0, 14, .inl (fun _ => 0))), ((um 3), .inl (κ 0, 196, .inl (fun _ => 0))), (qo, .inl (κ 2, 1, .inr (.inl u23)))] H := hP
      have hD : va_D (fun q : Nat => s.heap.size ≤ q) [((ux 3), .inr (6, [.ref (ux 4), .ref (ux 5), .int 0])), (qm, .inr (8, [.int 0, .int 0, .int 2, .ref (um 0), .ref (um 1), .int 0, .int 500, .int 0, .int 0, .int 0, .ref (um 6)])), ((um 0), .inr (1, [.int 0, .ref (ε 1), .int 0])), ((um 1), .inl (κ 4, 4, .inr (.inr (.inr (.inr (sel [(um 2), (um 3), (um 4), (um 5)])))))), ((um 2), .inl (κ 0, 14, .inl (fun _ => 0))), ((um 3), .inl (κ 0, 196, .inl (fun _ => 0))), (qo, .inl (κ 2, 1, .inr (.inl u23)))] := hD
      rcases hw with ⟨c24, rfl⟩ | ⟨c25, c26, rfl⟩ | ⟨c27, c28, c29, hu30, rfl⟩ | ⟨c31, c32, c33, hu34, rfl⟩
      · skip
        refine lv_istore (lv' := [(5, .int 1), (0, .ref b), (1, .ref qx), (2, .ref qm), (3, .ref qo), (4, .int 0)]) hx hb dL_law_773 hl (by decide) rfl (fun ls hl => ?_)
        refine lv_aload_n hx hb dL_law_775 rfl (lv_at hl 3 rfl) ?_
        refine lv_aload_n hx hb dL_law_776 rfl (lv_at hl 1 rfl) ?_
        refine lv_iload hx hb dL_law_777 (lv_at hl 5 rfl) ?_
        refine lv_iconst (v := 1) hx hb dL_law_779 (by decide) ?_
        refine lv_iadd hx hb dL_law_780 ?_
        refine tpi (v := 1) (by decide) ?_
        refine va_sld hx hb hX hbl hbA hS (vpl (by decide)) dL_law_781 ?_
        refine tpi (v := (xs 1)) rfl ?_
        refine tpi (v := 2) e22 ?_
        refine lv_aload_n hx hb dL_law_782 rfl (lv_at hl 1 rfl) ?_
        refine lv_iload hx hb dL_law_783 (lv_at hl 5 rfl) ?_
        refine lv_iconst (v := 2) hx hb dL_law_785 (by decide) ?_
        refine lv_iadd hx hb dL_law_786 ?_
        refine tpi (v := 2) (by decide) ?_
        refine va_sld hx hb hX hbl hbA hS (vpl (by decide)) dL_law_787 ?_
        refine tpi (v := (xs 2)) rfl ?_
        have hF := va_free (wc := [(qm, .inr (8, [.int 0, .int 0, .int 2, .ref (um 0), .ref (um 1), .int 0, .int 500, .int 0, .int 0, .int 0, .ref (um 6)]))]) hD hS hA [1] rfl
        refine va_calli (va_runV (As := [.int 2, .int (xs 2)]) (rest := []) ⟨hx, hb, hml, hown, hts⟩ (k_X6_ofContext_4 l D κ ε qm (um 0) (um 1) (um 6) H.size ((xs 2)) c24) (cwV 2 hts gL_law_X6_ofContext rfl rfl rfl (by decide +kernel) ⟨(Nat.le_of_ble_eq_true rfl), (Nat.le_of_ble_eq_true rfl)⟩) (pre2_V (q0 := 1) (ci := 8) (wc := [(qm, .inr (8, [.int 0, .int 0, .int 2, .ref (um 0), .ref (um 1), .int 0, .int 500, .int 0, .int 0, .int 0, .ref (um 6)]))]) hP hD hK hE9 hS hA [1] (by decide) rfl rfl rfl) rfl rfl hl.1 rfl (lv_room (Nat.le_of_ble_eq_true rfl)) dL_law_788 ⟨(Nat.le_of_ble_eq_true rfl), (Nat.le_of_ble_eq_true rfl)⟩) hS (fun q _ h => hF q h) hF (fun r u35 t H locs ht hvm hw hB hz1 hk1 hS => ?_)
        try dsimp only at hw hB
        obtain ⟨hP1, hD1⟩ := hB
        rw [ht] at hP1
        obtain ⟨hP, hD⟩ := post_j (ws' := [((ux 3), .inr (6, [.ref (ux 4), .ref (ux 5), .int 0])), (qm, .inr (8, u35)), ((um 0), .inr (1, [.int 0, .ref (ε 1), .int 0])), ((um 1), .inl (κ 4, 4, .inr (.inr (.inr (.inr (sel [(um 2), (um 3), (um 4), (um 5)])))))), ((um 2), .inl (κ 0, 14, .inl (fun _ => 0))), ((um 3), .inl (κ 0, 196, .inl (fun _ => 0))), (qo, .inl (κ 2, 1, .inr (.inl u23)))]) (wr := [((ux 3), .inr (6, [.ref (ux 4), .ref (ux 5), .int 0])), ((um 0), .inr (1, [.int 0, .ref (ε 1), .int 0])), ((um 1), .inl (κ 4, 4, .inr (.inr (.inr (.inr (sel [(um 2), (um 3), (um 4), (um 5)])))))), ((um 2), .inl (κ 0, 14, .inl (fun _ => 0))), ((um 3), .inl (κ 0, 196, .inl (fun _ => 0))), (qo, .inl (κ 2, 1, .inr (.inl u23)))]) (w1 := [(qm, .inr (8, u35))]) hP hD hF [1] rfl [0, 2, 3, 4, 5, 6] rfl (by decide) (by decide) hk1 hP1 hD1 [0, 6, 1, 2, 3, 4, 5] (by decide) rfl
        have hP : va_P D vwCl [((ux 3), .inr (6, [.ref (ux 4), .ref (ux 5), .int 0])), (qm, .inr (8, u35)), ((um 0), .inr (1, [.int 0, .ref (ε 1), .int 0])), ((um 1), .inl (κ 4, 4, .inr (.inr (.inr (.inr (sel [(um 2), (um 3), (um 4), (um 5)])))))), ((um 2), .inl (κ 0, 14, .inl (fun _ => 0))), ((um 3), .inl (κ 0, 196, .inl (fun _ => 0))), (qo, .inl (κ 2, 1, .inr (.inl u23)))] H := hP
        have hD : va_D (fun q : Nat => s.heap.size ≤ q) [((ux 3), .inr (6, [.ref (ux 4), .ref (ux 5), .int 0])), (qm, .inr (8, u35)), ((um 0), .inr (1, [.int 0, .ref (ε 1), .int 0])), ((um 1), .inl (κ 4, 4, .inr (.inr (.inr (.inr (sel [(um 2), (um 3), (um 4), (um 5)])))))), ((um 2), .inl (κ 0, 14, .inl (fun _ => 0))), ((um 3), .inl (κ 0, 196, .inl (fun _ => 0))), (qo, .inl (κ 2, 1, .inr (.inl u23)))] := hD
        obtain ⟨hu36, rfl⟩ := hw
        refine lv_istore (lv' := [(6, .int 0), (5, .int 1), (0, .ref b), (1, .ref qx), (2, .ref qm), (3, .ref qo), (4, .int 0)]) hx hb dL_law_791 hl (by decide) rfl (fun ls hl => ?_)
        refine lv_aload_n hx hb dL_law_793 rfl (lv_at hl 4 rfl) ?_
        refine vp_callSi (W.runV (As := []) (rest := []) ⟨hx, hb, hml, hown, hts⟩ (k_thrown l D κ qm u35 (1) hu36) (cwV 0 hts gL_law_X6_thrown rfl rfl rfl (by decide +kernel) ⟨(Nat.le_of_ble_eq_true rfl), (Nat.le_of_ble_eq_true rfl)⟩) (pre0_V (q0 := 1) (ci := 8) (wc := [(qm, .inr (8, u35))]) hP hK [1] rfl rfl rfl) rfl rfl hl.1 rfl (lv_room (Nat.le_of_ble_eq_true rfl)) dL_law_794 ⟨(Nat.le_of_ble_eq_true rfl), (Nat.le_of_ble_eq_true rfl)⟩) (fun r hw => ?_)
        subst hw
        refine lv_iload hx hb dL_law_797 (lv_at hl 1 rfl) ?_
        refine lv_icmp_eq (tgt := 804) hx hb dL_law_799 (by decide) (fun _ => ?_) (fun h => absurd (by decide) h)
        refine lv_iload hx hb dL_law_804 (lv_at hl 1 rfl) ?_
        refine lv_if_ne (tgt := 821) hx hb dL_law_806 (by decide) (fun _ => ?_) (fun h => absurd h (by decide))
        refine lv_goto (tgt := 1677) hx hb dL_law_821 (by decide) ?_
        exact law_end C0 (Nat.le_of_ble_eq_true rfl) (Nat.le_of_ble_eq_true rfl) hS (lv_sub hl [2, 6] rfl)
      · skip
        refine lv_istore (lv' := [(5, .int 1), (0, .ref b), (1, .ref qx), (2, .ref qm), (3, .ref qo), (4, .int 0)]) hx hb dL_law_773 hl (by decide) rfl (fun ls hl => ?_)
        refine lv_aload_n hx hb dL_law_775 rfl (lv_at hl 3 rfl) ?_
        refine lv_aload_n hx hb dL_law_776 rfl (lv_at hl 1 rfl) ?_
        refine lv_iload hx hb dL_law_777 (lv_at hl 5 rfl) ?_
        refine lv_iconst (v := 1) hx hb dL_law_779 (by decide) ?_
        refine lv_iadd hx hb dL_law_780 ?_
        refine tpi (v := 1) (by decide) ?_
        refine va_sld hx hb hX hbl hbA hS (vpl (by decide)) dL_law_781 ?_
        refine tpi (v := (xs 1)) rfl ?_
        refine tpi (v := 2) e22 ?_
        refine lv_aload_n hx hb dL_law_782 rfl (lv_at hl 1 rfl) ?_
        refine lv_iload hx hb dL_law_783 (lv_at hl 5 rfl) ?_
        refine lv_iconst (v := 2) hx hb dL_law_785 (by decide) ?_
        refine lv_iadd hx hb dL_law_786 ?_
        refine tpi (v := 2) (by decide) ?_
        refine va_sld hx hb hX hbl hbA hS (vpl (by decide)) dL_law_787 ?_
        refine tpi (v := (xs 2)) rfl ?_
        have hF := va_free (wc := [(qm, .inr (8, [.int 0, .int 0, .int 2, .ref (um 0), .ref (um 1), .int 0, .int 500, .int 0, .int 0, .int 0, .ref (um 6)]))]) hD hS hA [1] rfl
        refine va_calli (va_runV (As := [.int 2, .int (xs 2)]) (rest := []) ⟨hx, hb, hml, hown, hts⟩ (k_X6_ofContext_5 l D κ ε qm (um 0) (um 1) (um 6) H.size ((xs 2)) c25 c26) (cwV 2 hts gL_law_X6_ofContext rfl rfl rfl (by decide +kernel) ⟨(Nat.le_of_ble_eq_true rfl), (Nat.le_of_ble_eq_true rfl)⟩) (pre2_V (q0 := 1) (ci := 8) (wc := [(qm, .inr (8, [.int 0, .int 0, .int 2, .ref (um 0), .ref (um 1), .int 0, .int 500, .int 0, .int 0, .int 0, .ref (um 6)]))]) hP hD hK hE9 hS hA [1] (by decide) rfl rfl rfl) rfl rfl hl.1 rfl (lv_room (Nat.le_of_ble_eq_true rfl)) dL_law_788 ⟨(Nat.le_of_ble_eq_true rfl), (Nat.le_of_ble_eq_true rfl)⟩) hS (fun q _ h => hF q h) hF (fun r u37 t H locs ht hvm hw hB hz1 hk1 hS => ?_)
        try dsimp only at hw hB
        obtain ⟨hP1, hD1⟩ := hB
        rw [ht] at hP1
        obtain ⟨hP, hD⟩ := post_j (ws' := [((ux 3), .inr (6, [.ref (ux 4), .ref (ux 5), .int 0])), (qm, .inr (8, u37)), ((um 0), .inr (1, [.int 0, .ref (ε 1), .int 0])), ((um 1), .inl (κ 4, 4, .inr (.inr (.inr (.inr (sel [(um 2), (um 3), (um 4), (um 5)])))))), ((um 2), .inl (κ 0, 14, .inl (fun _ => 0))), ((um 3), .inl (κ 0, 196, .inl (fun _ => 0))), (qo, .inl (κ 2, 1, .inr (.inl u23)))]) (wr := [((ux 3), .inr (6, [.ref (ux 4), .ref (ux 5), .int 0])), ((um 0), .inr (1, [.int 0, .ref (ε 1), .int 0])), ((um 1), .inl (κ 4, 4, .inr (.inr (.inr (.inr (sel [(um 2), (um 3), (um 4), (um 5)])))))), ((um 2), .inl (κ 0, 14, .inl (fun _ => 0))), ((um 3), .inl (κ 0, 196, .inl (fun _ => 0))), (qo, .inl (κ 2, 1, .inr (.inl u23)))]) (w1 := [(qm, .inr (8, u37))]) hP hD hF [1] rfl [0, 2, 3, 4, 5, 6] rfl (by decide) (by decide) hk1 hP1 hD1 [0, 6, 1, 2, 3, 4, 5] (by decide) rfl
        have hP : va_P D vwCl [((ux 3), .inr (6, [.ref (ux 4), .ref (ux 5), .int 0])), (qm, .inr (8, u37)), ((um 0), .inr (1, [.int 0, .ref (ε 1), .int 0])), ((um 1), .inl (κ 4, 4, .inr (.inr (.inr (.inr (sel [(um 2), (um 3), (um 4), (um 5)])))))), ((um 2), .inl (κ 0, 14, .inl (fun _ => 0))), ((um 3), .inl (κ 0, 196, .inl (fun _ => 0))), (qo, .inl (κ 2, 1, .inr (.inl u23)))] H := hP
        have hD : va_D (fun q : Nat => s.heap.size ≤ q) [((ux 3), .inr (6, [.ref (ux 4), .ref (ux 5), .int 0])), (qm, .inr (8, u37)), ((um 0), .inr (1, [.int 0, .ref (ε 1), .int 0])), ((um 1), .inl (κ 4, 4, .inr (.inr (.inr (.inr (sel [(um 2), (um 3), (um 4), (um 5)])))))), ((um 2), .inl (κ 0, 14, .inl (fun _ => 0))), ((um 3), .inl (κ 0, 196, .inl (fun _ => 0))), (qo, .inl (κ 2, 1, .inr (.inl u23)))] := hD
        obtain ⟨hu38, rfl⟩ := hw
        refine lv_istore (lv' := [(6, .int 0), (5, .int 1), (0, .ref b), (1, .ref qx), (2, .ref qm), (3, .ref qo), (4, .int 0)]) hx hb dL_law_791 hl (by decide) rfl (fun ls hl => ?_)
        refine lv_aload_n hx hb dL_law_793 rfl (lv_at hl 4 rfl) ?_
        refine vp_callSi (W.runV (As := []) (rest := []) ⟨hx, hb, hml, hown, hts⟩ (k_thrown l D κ qm u37 (1) hu38) (cwV 0 hts gL_law_X6_thrown rfl rfl rfl (by decide +kernel) ⟨(Nat.le_of_ble_eq_true rfl), (Nat.le_of_ble_eq_true rfl)⟩) (pre0_V (q0 := 1) (ci := 8) (wc := [(qm, .inr (8, u37))]) hP hK [1] rfl rfl rfl) rfl rfl hl.1 rfl (lv_room (Nat.le_of_ble_eq_true rfl)) dL_law_794 ⟨(Nat.le_of_ble_eq_true rfl), (Nat.le_of_ble_eq_true rfl)⟩) (fun r hw => ?_)
        subst hw
        refine lv_iload hx hb dL_law_797 (lv_at hl 1 rfl) ?_
        refine lv_icmp_eq (tgt := 804) hx hb dL_law_799 (by decide) (fun _ => ?_) (fun h => absurd (by decide) h)
        refine lv_iload hx hb dL_law_804 (lv_at hl 1 rfl) ?_
        refine lv_if_ne (tgt := 821) hx hb dL_law_806 (by decide) (fun _ => ?_) (fun h => absurd h (by decide))
        refine lv_goto (tgt := 1677) hx hb dL_law_821 (by decide) ?_
        exact law_end C0 (Nat.le_of_ble_eq_true rfl) (Nat.le_of_ble_eq_true rfl) hS (lv_sub hl [2, 6] rfl)
      · skip
        refine lv_istore (lv' := [(5, .int 0), (0, .ref b), (1, .ref qx), (2, .ref qm), (3, .ref qo), (4, .int 0)]) hx hb dL_law_773 hl (by decide) rfl (fun ls hl => ?_)
        refine lv_aload_n hx hb dL_law_775 rfl (lv_at hl 3 rfl) ?_
        refine lv_aload_n hx hb dL_law_776 rfl (lv_at hl 1 rfl) ?_
        refine lv_iload hx hb dL_law_777 (lv_at hl 5 rfl) ?_
        refine lv_iconst (v := 1) hx hb dL_law_779 (by decide) ?_
        refine lv_iadd hx hb dL_law_780 ?_
        refine tpi (v := 1) (by decide) ?_
        refine va_sld hx hb hX hbl hbA hS (vpl (by decide)) dL_law_781 ?_
        refine tpi (v := (xs 1)) rfl ?_
        refine tpi (v := 2) e22 ?_
        refine lv_aload_n hx hb dL_law_782 rfl (lv_at hl 1 rfl) ?_
        refine lv_iload hx hb dL_law_783 (lv_at hl 5 rfl) ?_
        refine lv_iconst (v := 2) hx hb dL_law_785 (by decide) ?_
        refine lv_iadd hx hb dL_law_786 ?_
        refine tpi (v := 2) (by decide) ?_
        refine va_sld hx hb hX hbl hbA hS (vpl (by decide)) dL_law_787 ?_
        refine tpi (v := (xs 2)) rfl ?_
        have hF := va_free (wc := [(qm, .inr (8, [.int 0, .int 0, .int 2, .ref (um 0), .ref (um 1), .int 0, .int 500, .int 0, .int 0, .int 0, .ref (um 6)])), ((um 0), .inr (1, [.int 0, .ref (ε 1), .int 0])), ((um 1), .inl (κ 4, 4, .inr (.inr (.inr (.inr (sel [(um 2), (um 3), (um 4), (um 5)])))))), ((um 3), .inl (κ 0, 196, .inl (fun _ => 0)))]) hD hS hA [1, 2, 3, 5] rfl
        refine va_calli (va_runV (As := [.int 2, .int (xs 2)]) (rest := []) ⟨hx, hb, hml, hown, hts⟩ (k_X6_ofContext_6 l D κ ε qm (um 0) (um 1) (um 6) (um 2) (um 3) (um 4) (um 5) H.size ((xs 2)) c27 c28 c29) (cwV 2 hts gL_law_X6_ofContext rfl rfl rfl (by decide +kernel) ⟨(Nat.le_of_ble_eq_true rfl), (Nat.le_of_ble_eq_true rfl)⟩) (pre2_V (q0 := 1) (ci := 8) (wc := [(qm, .inr (8, [.int 0, .int 0, .int 2, .ref (um 0), .ref (um 1), .int 0, .int 500, .int 0, .int 0, .int 0, .ref (um 6)])), ((um 0), .inr (1, [.int 0, .ref (ε 1), .int 0])), ((um 1), .inl (κ 4, 4, .inr (.inr (.inr (.inr (sel [(um 2), (um 3), (um 4), (um 5)])))))), ((um 3), .inl (κ 0, 196, .inl (fun _ => 0)))]) hP hD hK hE9 hS hA [1, 2, 3, 5] (by decide) rfl rfl rfl) rfl rfl hl.1 rfl (lv_room (Nat.le_of_ble_eq_true rfl)) dL_law_788 ⟨(Nat.le_of_ble_eq_true rfl), (Nat.le_of_ble_eq_true rfl)⟩) hS (fun q _ h => hF q h) hF (fun r u39 t H locs ht hvm hw hB hz1 hk1 hS => ?_)
        try dsimp only at hw hB
        obtain ⟨hP1, hD1⟩ := hB
        rw [ht] at hP1
        obtain ⟨hP, hD⟩ := post_j (ws' := [((ux 3), .inr (6, [.ref (ux 4), .ref (ux 5), .int 0])), (qm, .inr (8, u39)), ((um 2), .inl (κ 0, 14, .inl (fun _ => 0))), (qo, .inl (κ 2, 1, .inr (.inl u23)))]) (wr := [((ux 3), .inr (6, [.ref (ux 4), .ref (ux 5), .int 0])), ((um 2), .inl (κ 0, 14, .inl (fun _ => 0))), (qo, .inl (κ 2, 1, .inr (.inl u23)))]) (w1 := [(qm, .inr (8, u39))]) hP hD hF [1, 2, 3, 5] rfl [0, 4, 6] rfl (by decide) (by decide) hk1 hP1 hD1 [0, 3, 1, 2] (by decide) rfl
        have hP : va_P D vwCl [((ux 3), .inr (6, [.ref (ux 4), .ref (ux 5), .int 0])), (qm, .inr (8, u39)), ((um 2), .inl (κ 0, 14, .inl (fun _ => 0))), (qo, .inl (κ 2, 1, .inr (.inl u23)))] H := hP
        have hD : va_D (fun q : Nat => s.heap.size ≤ q) [((ux 3), .inr (6, [.ref (ux 4), .ref (ux 5), .int 0])), (qm, .inr (8, u39)), ((um 2), .inl (κ 0, 14, .inl (fun _ => 0))), (qo, .inl (κ 2, 1, .inr (.inl u23)))] := hD
        obtain ⟨hu40, rfl⟩ := hw
        refine lv_istore (lv' := [(6, .int 0), (5, .int 0), (0, .ref b), (1, .ref qx), (2, .ref qm), (3, .ref qo), (4, .int 0)]) hx hb dL_law_791 hl (by decide) rfl (fun ls hl => ?_)
        refine lv_aload_n hx hb dL_law_793 rfl (lv_at hl 4 rfl) ?_
        refine vp_callSi (W.runV (As := []) (rest := []) ⟨hx, hb, hml, hown, hts⟩ (k_thrown l D κ qm u39 (0) hu40) (cwV 0 hts gL_law_X6_thrown rfl rfl rfl (by decide +kernel) ⟨(Nat.le_of_ble_eq_true rfl), (Nat.le_of_ble_eq_true rfl)⟩) (pre0_V (q0 := 1) (ci := 8) (wc := [(qm, .inr (8, u39))]) hP hK [1] rfl rfl rfl) rfl rfl hl.1 rfl (lv_room (Nat.le_of_ble_eq_true rfl)) dL_law_794 ⟨(Nat.le_of_ble_eq_true rfl), (Nat.le_of_ble_eq_true rfl)⟩) (fun r hw => ?_)
        subst hw
        refine lv_iload hx hb dL_law_797 (lv_at hl 1 rfl) ?_
        refine lv_icmp_eq (tgt := 804) hx hb dL_law_799 (by decide) (fun _ => ?_) (fun h => absurd (by decide) h)
        refine lv_iload hx hb dL_law_804 (lv_at hl 1 rfl) ?_
        refine lv_if_ne (tgt := 821) hx hb dL_law_806 (by decide) (fun h => absurd (by decide) h) (fun _ => ?_)
        refine lv_aload_n hx hb dL_law_809 rfl (lv_at hl 5 rfl) ?_
        refine lv_iconst (v := 0) hx hb dL_law_810 (by decide) ?_
        refine va_lald (cA := κ 2) (n := 1) (f := u23) hx hb hK hP 3 2 rfl rfl (vpl (by decide)) dL_law_811 ?_
        refine tpl (v := 0) hu30 ?_
        refine lv_iload hx hb dL_law_812 (lv_at hl 0 rfl) ?_
        refine lv_i2l (v := 0) hx hb dL_law_814 (by decide) ?_
        refine W.lcmp hx hb dL_law_815 ?_
        refine tpi (v := 0) (by decide) ?_
        refine lv_if_eq (tgt := 821) hx hb dL_law_816 (by decide) (fun _ => ?_) (fun h => absurd (by decide) h)
        refine lv_goto (tgt := 1677) hx hb dL_law_821 (by decide) ?_
        exact law_end C0 (Nat.le_of_ble_eq_true rfl) (Nat.le_of_ble_eq_true rfl) hS (lv_sub hl [2, 6] rfl)
      · skip
        refine lv_istore (lv' := [(5, .int 0), (0, .ref b), (1, .ref qx), (2, .ref qm), (3, .ref qo), (4, .int 0)]) hx hb dL_law_773 hl (by decide) rfl (fun ls hl => ?_)
        refine lv_aload_n hx hb dL_law_775 rfl (lv_at hl 3 rfl) ?_
        refine lv_aload_n hx hb dL_law_776 rfl (lv_at hl 1 rfl) ?_
        refine lv_iload hx hb dL_law_777 (lv_at hl 5 rfl) ?_
        refine lv_iconst (v := 1) hx hb dL_law_779 (by decide) ?_
        refine lv_iadd hx hb dL_law_780 ?_
        refine tpi (v := 1) (by decide) ?_
        refine va_sld hx hb hX hbl hbA hS (vpl (by decide)) dL_law_781 ?_
        refine tpi (v := (xs 1)) rfl ?_
        refine tpi (v := 2) e22 ?_
        refine lv_aload_n hx hb dL_law_782 rfl (lv_at hl 1 rfl) ?_
        refine lv_iload hx hb dL_law_783 (lv_at hl 5 rfl) ?_
        refine lv_iconst (v := 2) hx hb dL_law_785 (by decide) ?_
        refine lv_iadd hx hb dL_law_786 ?_
        refine tpi (v := 2) (by decide) ?_
        refine va_sld hx hb hX hbl hbA hS (vpl (by decide)) dL_law_787 ?_
        refine tpi (v := (xs 2)) rfl ?_
        refine tpi (v := 0) c33 ?_
        have hF := va_free (wc := [(qm, .inr (8, [.int 0, .int 0, .int 2, .ref (um 0), .ref (um 1), .int 0, .int 500, .int 0, .int 0, .int 0, .ref (um 6)])), ((um 0), .inr (1, [.int 0, .ref (ε 1), .int 0])), ((um 1), .inl (κ 4, 4, .inr (.inr (.inr (.inr (sel [(um 2), (um 3), (um 4), (um 5)])))))), ((um 3), .inl (κ 0, 196, .inl (fun _ => 0)))]) hD hS hA [1, 2, 3, 5] rfl
        refine va_calli (va_runV (As := [.int 2, .int 0]) (rest := []) ⟨hx, hb, hml, hown, hts⟩ (k_X6_ofContext_7 l D κ ε qm (um 0) (um 1) (um 6) (um 2) (um 3) (um 4) (um 5) H.size) (cwV 2 hts gL_law_X6_ofContext rfl rfl rfl (by decide +kernel) ⟨(Nat.le_of_ble_eq_true rfl), (Nat.le_of_ble_eq_true rfl)⟩) (pre2_V (q0 := 1) (ci := 8) (wc := [(qm, .inr (8, [.int 0, .int 0, .int 2, .ref (um 0), .ref (um 1), .int 0, .int 500, .int 0, .int 0, .int 0, .ref (um 6)])), ((um 0), .inr (1, [.int 0, .ref (ε 1), .int 0])), ((um 1), .inl (κ 4, 4, .inr (.inr (.inr (.inr (sel [(um 2), (um 3), (um 4), (um 5)])))))), ((um 3), .inl (κ 0, 196, .inl (fun _ => 0)))]) hP hD hK hE9 hS hA [1, 2, 3, 5] (by decide) rfl rfl rfl) rfl rfl hl.1 rfl (lv_room (Nat.le_of_ble_eq_true rfl)) dL_law_788 ⟨(Nat.le_of_ble_eq_true rfl), (Nat.le_of_ble_eq_true rfl)⟩) hS (fun q _ h => hF q h) hF (fun r u41 t H locs ht hvm hw hB hz1 hk1 hS => ?_)
        try dsimp only at hw hB
        obtain ⟨hP1, hD1⟩ := hB
        rw [ht] at hP1
        obtain ⟨hP, hD⟩ := post_j (ws' := [((ux 3), .inr (6, [.ref (ux 4), .ref (ux 5), .int 0])), (qm, .inr (8, u41)), ((um 2), .inl (κ 0, 14, .inl (fun _ => 0))), (qo, .inl (κ 2, 1, .inr (.inl u23)))]) (wr := [((ux 3), .inr (6, [.ref (ux 4), .ref (ux 5), .int 0])), ((um 2), .inl (κ 0, 14, .inl (fun _ => 0))), (qo, .inl (κ 2, 1, .inr (.inl u23)))]) (w1 := [(qm, .inr (8, u41))]) hP hD hF [1, 2, 3, 5] rfl [0, 4, 6] rfl (by decide) (by decide) hk1 hP1 hD1 [0, 3, 1, 2] (by decide) rfl
        have hP : va_P D vwCl [((ux 3), .inr (6, [.ref (ux 4), .ref (ux 5), .int 0])), (qm, .inr (8, u41)), ((um 2), .inl (κ 0, 14, .inl (fun _ => 0))), (qo, .inl (κ 2, 1, .inr (.inl u23)))] H := hP
        have hD : va_D (fun q : Nat => s.heap.size ≤ q) [((ux 3), .inr (6, [.ref (ux 4), .ref (ux 5), .int 0])), (qm, .inr (8, u41)), ((um 2), .inl (κ 0, 14, .inl (fun _ => 0))), (qo, .inl (κ 2, 1, .inr (.inl u23)))] := hD
        obtain ⟨hu42, rfl⟩ := hw
        refine lv_istore (lv' := [(6, .int 0), (5, .int 0), (0, .ref b), (1, .ref qx), (2, .ref qm), (3, .ref qo), (4, .int 0)]) hx hb dL_law_791 hl (by decide) rfl (fun ls hl => ?_)
        refine lv_aload_n hx hb dL_law_793 rfl (lv_at hl 4 rfl) ?_
        refine vp_callSi (W.runV (As := []) (rest := []) ⟨hx, hb, hml, hown, hts⟩ (k_thrown l D κ qm u41 (0) hu42) (cwV 0 hts gL_law_X6_thrown rfl rfl rfl (by decide +kernel) ⟨(Nat.le_of_ble_eq_true rfl), (Nat.le_of_ble_eq_true rfl)⟩) (pre0_V (q0 := 1) (ci := 8) (wc := [(qm, .inr (8, u41))]) hP hK [1] rfl rfl rfl) rfl rfl hl.1 rfl (lv_room (Nat.le_of_ble_eq_true rfl)) dL_law_794 ⟨(Nat.le_of_ble_eq_true rfl), (Nat.le_of_ble_eq_true rfl)⟩) (fun r hw => ?_)
        subst hw
        refine lv_iload hx hb dL_law_797 (lv_at hl 1 rfl) ?_
        refine lv_icmp_eq (tgt := 804) hx hb dL_law_799 (by decide) (fun _ => ?_) (fun h => absurd (by decide) h)
        refine lv_iload hx hb dL_law_804 (lv_at hl 1 rfl) ?_
        refine lv_if_ne (tgt := 821) hx hb dL_law_806 (by decide) (fun h => absurd (by decide) h) (fun _ => ?_)
        refine lv_aload_n hx hb dL_law_809 rfl (lv_at hl 5 rfl) ?_
        refine lv_iconst (v := 0) hx hb dL_law_810 (by decide) ?_
        refine va_lald (cA := κ 2) (n := 1) (f := u23) hx hb hK hP 3 2 rfl rfl (vpl (by decide)) dL_law_811 ?_
        refine tpl (v := 0) hu34 ?_
        refine lv_iload hx hb dL_law_812 (lv_at hl 0 rfl) ?_
        refine lv_i2l (v := 0) hx hb dL_law_814 (by decide) ?_
        refine W.lcmp hx hb dL_law_815 ?_
        refine tpi (v := 0) (by decide) ?_
        refine lv_if_eq (tgt := 821) hx hb dL_law_816 (by decide) (fun _ => ?_) (fun h => absurd (by decide) h)
        refine lv_goto (tgt := 1677) hx hb dL_law_821 (by decide) ?_
        exact law_end C0 (Nat.le_of_ble_eq_true rfl) (Nat.le_of_ble_eq_true rfl) hS (lv_sub hl [2, 6] rfl)
    · skip
      refine lv_aload_n hx hb dL_law_756 rfl (lv_at hl 1 rfl) ?_
      refine lv_aload_n hx hb dL_law_757 rfl (lv_at hl 0 rfl) ?_
      refine lv_iload hx hb dL_law_758 (lv_at hl 4 rfl) ?_
      refine lv_iconst (v := 1) hx hb dL_law_760 (by decide) ?_
      refine lv_iadd hx hb dL_law_761 ?_
      refine tpi (v := 1) (by decide) ?_
      refine va_sld hx hb hX hbl hbA hS (vpl (by decide)) dL_law_762 ?_
      refine tpi (v := (xs 1)) rfl ?_
      refine lv_aload_n hx hb dL_law_763 rfl (lv_at hl 0 rfl) ?_
      refine lv_iload hx hb dL_law_764 (lv_at hl 4 rfl) ?_
      refine lv_iconst (v := 2) hx hb dL_law_766 (by decide) ?_
      refine lv_iadd hx hb dL_law_767 ?_
      refine tpi (v := 2) (by decide) ?_
      refine va_sld hx hb hX hbl hbA hS (vpl (by decide)) dL_law_768 ?_
      refine tpi (v := (xs 2)) rfl ?_
      refine lv_aload_n hx hb dL_law_769 rfl (lv_at hl 3 rfl) ?_
      have hF := va_free (wc := [(qx, .inr (7, [.ref (ux 0), .ref (ux 27), .ref (ux 30), .ref (ux 31), .ref (ux 35), .ref (ux 36), .int 0, .int 0, .int 0, .int 0])), (qo, .inl (κ 2, 1, .inr (.inl (fun _ => 0)))), ((ux 0), .inr (2, [.int 0, .int 2, .ref (ux 1), .ref (ux 2)]))]) hD hS hA [0, 12, 1] rfl
      refine va_calli (vx_runSW (As := [.ref qx, .int (xs 1), .int (xs 2), .ref qo]) (rest := []) ⟨hx, hb, hml, hown, hts⟩ (k_L_ofContext_2 l hst D κ ε qx qo (ux 0) (ux 27) (ux 30) (ux 31) (ux 35) (ux 36) (ux 1) (ux 2) H.size ((xs 1)) ((xs 2)) e1 e22) (vx_cwSW 4 hts gL_law_L_ofContext rfl rfl rfl (by decide +kernel) ⟨(Nat.le_of_ble_eq_true rfl), (Nat.le_of_ble_eq_true rfl)⟩) (pre2_S (wc := [(qx, .inr (7, [.ref (ux 0), .ref (ux 27), .ref (ux 30), .ref (ux 31), .ref (ux 35), .ref (ux 36), .int 0, .int 0, .int 0, .int 0])), (qo, .inl (κ 2, 1, .inr (.inl (fun _ => 0)))), ((ux 0), .inr (2, [.int 0, .int 2, .ref (ux 1), .ref (ux 2)]))]) hP hD hK hE9 hS hA [0, 12, 1] (by decide) rfl) rfl rfl hl.1 rfl (lv_room (Nat.le_of_ble_eq_true rfl)) dL_law_770 ⟨(Nat.le_of_ble_eq_true rfl), (Nat.le_of_ble_eq_true rfl)⟩) hS (fun q _ h => hF q h) hF (fun r u43 t H locs ht hvm hw hB hz1 hk1 hS => ?_)
      try dsimp only at hw hB
      obtain ⟨hP1, hD1⟩ := hB
      rw [ht] at hP1
      obtain ⟨hP, hD⟩ := post_j (ws' := [((ux 1), .inl (κ 3, 4, .inr (.inr (.inr (.inr (sel [(ux 3), (ux 9), (ux 15), (ux 21)])))))), ((ux 3), .inr (6, [.ref (ux 4), .ref (ux 5), .int 0])), ((ux 9), .inr (6, [.ref (ux 10), .ref (ux 11), .int 0])), ((ux 27), .inr (3, [.ref (ux 0), .int 0, .int 500, .ref (ux 28), .ref (ux 29), .long 0, .int 0])), ((ux 29), .inl (κ 0, 13, .inl (fun _ => 0))), (qm, .inr (8, [.int 0, .int 0, .int 2, .ref (um 0), .ref (um 1), .int 0, .int 500, .int 0, .int 0, .int 0, .ref (um 6)])), ((um 0), .inr (1, [.int 0, .ref (ε 1), .int 0])), ((um 1), .inl (κ 4, 4, .inr (.inr (.inr (.inr (sel [(um 2), (um 3), (um 4), (um 5)])))))), ((um 2), .inl (κ 0, 14, .inl (fun _ => 0))), ((um 3), .inl (κ 0, 196, .inl (fun _ => 0))), (qo, .inl (κ 2, 1, .inr (.inl u43)))]) (wr := [((ux 1), .inl (κ 3, 4, .inr (.inr (.inr (.inr (sel [(ux 3), (ux 9), (ux 15), (ux 21)])))))), ((ux 3), .inr (6, [.ref (ux 4), .ref (ux 5), .int 0])), ((ux 9), .inr (6, [.ref (ux 10), .ref (ux 11), .int 0])), ((ux 27), .inr (3, [.ref (ux 0), .int 0, .int 500, .ref (ux 28), .ref (ux 29), .long 0, .int 0])), ((ux 29), .inl (κ 0, 13, .inl (fun _ => 0))), (qm, .inr (8, [.int 0, .int 0, .int 2, .ref (um 0), .ref (um 1), .int 0, .int 500, .int 0, .int 0, .int 0, .ref (um 6)])), ((um 0), .inr (1, [.int 0, .ref (ε 1), .int 0])), ((um 1), .inl (κ 4, 4, .inr (.inr (.inr (.inr (sel [(um 2), (um 3), (um 4), (um 5)])))))), ((um 2), .inl (κ 0, 14, .inl (fun _ => 0))), ((um 3), .inl (κ 0, 196, .inl (fun _ => 0)))]) (w1 := [(qo, .inl (κ 2, 1, .inr (.inl u43)))]) hP hD hF [0, 12, 1] rfl [2, 3, 4, 5, 6, 7, 8, 9, 10, 11] rfl (by decide) (by decide) hk1 hP1 hD1 [0, 1, 2, 3, 4, 5, 6, 7, 8, 9, 10] (by decide) rfl
      have hP : va_P D vwCl [((ux 1), .inl (κ 3, 4, .inr (.inr (.inr (.inr (sel [(ux 3), (ux 9), (ux 15), (ux 21)])))))), ((ux 3), .inr (6, [.ref (ux 4), .ref (ux 5), .int 0])), ((ux 9), .inr (6, [.ref (ux 10), .ref (ux 11), .int 0])), ((ux 27), .inr (3, [.ref (ux 0), .int 0, .int 500, .ref (ux 28), .ref (ux 29), .long 0, .int 0])), ((ux 29), .inl (κ 0, 13, .inl (fun _ => 0))), (qm, .inr (8, [.int 0, .int 0, .int 2, .ref (um 0), .ref (um 1), .int 0, .int 500, .int 0, .int 0, .int 0, .ref (um 6)])), ((um 0), .inr (1, [.int 0, .ref (ε 1), .int 0])), ((um 1), .inl (κ 4, 4, .inr (.inr (.inr (.inr (sel [(um 2), (um 3), (um 4), (um 5)])))))), ((um 2), .inl (κ 0, 14, .inl (fun _ => 0))), ((um 3), .inl (κ 0, 196, .inl (fun _ => 0))), (qo, .inl (κ 2, 1, .inr (.inl u43)))] H := hP
      have hD : va_D (fun q : Nat => s.heap.size ≤ q) [((ux 1), .inl (κ 3, 4, .inr (.inr (.inr (.inr (sel [(ux 3), (ux 9), (ux 15), (ux 21)])))))), ((ux 3), .inr (6, [.ref (ux 4), .ref (ux 5), .int 0])), ((ux 9), .inr (6, [.ref (ux 10), .ref (ux 11), .int 0])), ((ux 27), .inr (3, [.ref (ux 0), .int 0, .int 500, .ref (ux 28), .ref (ux 29), .long 0, .int 0])), ((ux 29), .inl (κ 0, 13, .inl (fun _ => 0))), (qm, .inr (8, [.int 0, .int 0, .int 2, .ref (um 0), .ref (um 1), .int 0, .int 500, .int 0, .int 0, .int 0, .ref (um 6)])), ((um 0), .inr (1, [.int 0, .ref (ε 1), .int 0])), ((um 1), .inl (κ 4, 4, .inr (.inr (.inr (.inr (sel [(um 2), (um 3), (um 4), (um 5)])))))), ((um 2), .inl (κ 0, 14, .inl (fun _ => 0))), ((um 3), .inl (κ 0, 196, .inl (fun _ => 0))), (qo, .inl (κ 2, 1, .inr (.inl u43)))] := hD
      rcases hw with ⟨c44, rfl⟩ | ⟨c45, rfl⟩
      · skip
        refine lv_istore (lv' := [(5, .int 1), (0, .ref b), (1, .ref qx), (2, .ref qm), (3, .ref qo), (4, .int 0)]) hx hb dL_law_773 hl (by decide) rfl (fun ls hl => ?_)
        refine lv_aload_n hx hb dL_law_775 rfl (lv_at hl 3 rfl) ?_
        refine lv_aload_n hx hb dL_law_776 rfl (lv_at hl 1 rfl) ?_
        refine lv_iload hx hb dL_law_777 (lv_at hl 5 rfl) ?_
        refine lv_iconst (v := 1) hx hb dL_law_779 (by decide) ?_
        refine lv_iadd hx hb dL_law_780 ?_
        refine tpi (v := 1) (by decide) ?_
        refine va_sld hx hb hX hbl hbA hS (vpl (by decide)) dL_law_781 ?_
        refine tpi (v := (xs 1)) rfl ?_
        refine lv_aload_n hx hb dL_law_782 rfl (lv_at hl 1 rfl) ?_
        refine lv_iload hx hb dL_law_783 (lv_at hl 5 rfl) ?_
        refine lv_iconst (v := 2) hx hb dL_law_785 (by decide) ?_
        refine lv_iadd hx hb dL_law_786 ?_
        refine tpi (v := 2) (by decide) ?_
        refine va_sld hx hb hX hbl hbA hS (vpl (by decide)) dL_law_787 ?_
        refine tpi (v := (xs 2)) rfl ?_
        have hF := va_free (wc := [(qm, .inr (8, [.int 0, .int 0, .int 2, .ref (um 0), .ref (um 1), .int 0, .int 500, .int 0, .int 0, .int 0, .ref (um 6)]))]) hD hS hA [5] rfl
        refine va_calli (va_runV (As := [.int (xs 1), .int (xs 2)]) (rest := []) ⟨hx, hb, hml, hown, hts⟩ (k_X6_ofContext_8 l D κ ε qm (um 0) (um 1) (um 6) H.size ((xs 1)) ((xs 2)) c44) (cwV 2 hts gL_law_X6_ofContext rfl rfl rfl (by decide +kernel) ⟨(Nat.le_of_ble_eq_true rfl), (Nat.le_of_ble_eq_true rfl)⟩) (pre2_V (q0 := 5) (ci := 8) (wc := [(qm, .inr (8, [.int 0, .int 0, .int 2, .ref (um 0), .ref (um 1), .int 0, .int 500, .int 0, .int 0, .int 0, .ref (um 6)]))]) hP hD hK hE9 hS hA [5] (by decide) rfl rfl rfl) rfl rfl hl.1 rfl (lv_room (Nat.le_of_ble_eq_true rfl)) dL_law_788 ⟨(Nat.le_of_ble_eq_true rfl), (Nat.le_of_ble_eq_true rfl)⟩) hS (fun q _ h => hF q h) hF (fun r u46 t H locs ht hvm hw hB hz1 hk1 hS => ?_)
        try dsimp only at hw hB
        obtain ⟨hP1, hD1⟩ := hB
        rw [ht] at hP1
        obtain ⟨hP, hD⟩ := post_j (ws' := [((ux 1), .inl (κ 3, 4, .inr (.inr (.inr (.inr (sel [(ux 3), (ux 9), (ux 15), (ux 21)])))))), ((ux 3), .inr (6, [.ref (ux 4), .ref (ux 5), .int 0])), ((ux 9), .inr (6, [.ref (ux 10), .ref (ux 11), .int 0])), ((ux 27), .inr (3, [.ref (ux 0), .int 0, .int 500, .ref (ux 28), .ref (ux 29), .long 0, .int 0])), ((ux 29), .inl (κ 0, 13, .inl (fun _ => 0))), (qm, .inr (8, u46)), ((um 0), .inr (1, [.int 0, .ref (ε 1), .int 0])), ((um 1), .inl (κ 4, 4, .inr (.inr (.inr (.inr (sel [(um 2), (um 3), (um 4), (um 5)])))))), ((um 2), .inl (κ 0, 14, .inl (fun _ => 0))), ((um 3), .inl (κ 0, 196, .inl (fun _ => 0))), (qo, .inl (κ 2, 1, .inr (.inl u43)))]) (wr := [((ux 1), .inl (κ 3, 4, .inr (.inr (.inr (.inr (sel [(ux 3), (ux 9), (ux 15), (ux 21)])))))), ((ux 3), .inr (6, [.ref (ux 4), .ref (ux 5), .int 0])), ((ux 9), .inr (6, [.ref (ux 10), .ref (ux 11), .int 0])), ((ux 27), .inr (3, [.ref (ux 0), .int 0, .int 500, .ref (ux 28), .ref (ux 29), .long 0, .int 0])), ((ux 29), .inl (κ 0, 13, .inl (fun _ => 0))), ((um 0), .inr (1, [.int 0, .ref (ε 1), .int 0])), ((um 1), .inl (κ 4, 4, .inr (.inr (.inr (.inr (sel [(um 2), (um 3), (um 4), (um 5)])))))), ((um 2), .inl (κ 0, 14, .inl (fun _ => 0))), ((um 3), .inl (κ 0, 196, .inl (fun _ => 0))), (qo, .inl (κ 2, 1, .inr (.inl u43)))]) (w1 := [(qm, .inr (8, u46))]) hP hD hF [5] rfl [0, 1, 2, 3, 4, 6, 7, 8, 9, 10] rfl (by decide) (by decide) hk1 hP1 hD1 [0, 1, 2, 3, 4, 10, 5, 6, 7, 8, 9] (by decide) rfl
        have hP : va_P D vwCl [((ux 1), .inl (κ 3, 4, .inr (.inr (.inr (.inr (sel [(ux 3), (ux 9), (ux 15), (ux 21)])))))), ((ux 3), .inr (6, [.ref (ux 4), .ref (ux 5), .int 0])), ((ux 9), .inr (6, [.ref (ux 10), .ref (ux 11), .int 0])), ((ux 27), .inr (3, [.ref (ux 0), .int 0, .int 500, .ref (ux 28), .ref (ux 29), .long 0, .int 0])), ((ux 29), .inl (κ 0, 13, .inl (fun _ => 0))), (qm, .inr (8, u46)), ((um 0), .inr (1, [.int 0, .ref (ε 1), .int 0])), ((um 1), .inl (κ 4, 4, .inr (.inr (.inr (.inr (sel [(um 2), (um 3), (um 4), (um 5)])))))), ((um 2), .inl (κ 0, 14, .inl (fun _ => 0))), ((um 3), .inl (κ 0, 196, .inl (fun _ => 0))), (qo, .inl (κ 2, 1, .inr (.inl u43)))] H := hP
        have hD : va_D (fun q : Nat => s.heap.size ≤ q) [((ux 1), .inl (κ 3, 4, .inr (.inr (.inr (.inr (sel [(ux 3), (ux 9), (ux 15), (ux 21)])))))), ((ux 3), .inr (6, [.ref (ux 4), .ref (ux 5), .int 0])), ((ux 9), .inr (6, [.ref (ux 10), .ref (ux 11), .int 0])), ((ux 27), .inr (3, [.ref (ux 0), .int 0, .int 500, .ref (ux 28), .ref (ux 29), .long 0, .int 0])), ((ux 29), .inl (κ 0, 13, .inl (fun _ => 0))), (qm, .inr (8, u46)), ((um 0), .inr (1, [.int 0, .ref (ε 1), .int 0])), ((um 1), .inl (κ 4, 4, .inr (.inr (.inr (.inr (sel [(um 2), (um 3), (um 4), (um 5)])))))), ((um 2), .inl (κ 0, 14, .inl (fun _ => 0))), ((um 3), .inl (κ 0, 196, .inl (fun _ => 0))), (qo, .inl (κ 2, 1, .inr (.inl u43)))] := hD
        obtain ⟨hu47, rfl⟩ := hw
        refine lv_istore (lv' := [(6, .int 0), (5, .int 1), (0, .ref b), (1, .ref qx), (2, .ref qm), (3, .ref qo), (4, .int 0)]) hx hb dL_law_791 hl (by decide) rfl (fun ls hl => ?_)
        refine lv_aload_n hx hb dL_law_793 rfl (lv_at hl 4 rfl) ?_
        refine vp_callSi (W.runV (As := []) (rest := []) ⟨hx, hb, hml, hown, hts⟩ (k_thrown l D κ qm u46 (1) hu47) (cwV 0 hts gL_law_X6_thrown rfl rfl rfl (by decide +kernel) ⟨(Nat.le_of_ble_eq_true rfl), (Nat.le_of_ble_eq_true rfl)⟩) (pre0_V (q0 := 5) (ci := 8) (wc := [(qm, .inr (8, u46))]) hP hK [5] rfl rfl rfl) rfl rfl hl.1 rfl (lv_room (Nat.le_of_ble_eq_true rfl)) dL_law_794 ⟨(Nat.le_of_ble_eq_true rfl), (Nat.le_of_ble_eq_true rfl)⟩) (fun r hw => ?_)
        subst hw
        refine lv_iload hx hb dL_law_797 (lv_at hl 1 rfl) ?_
        refine lv_icmp_eq (tgt := 804) hx hb dL_law_799 (by decide) (fun _ => ?_) (fun h => absurd (by decide) h)
        refine lv_iload hx hb dL_law_804 (lv_at hl 1 rfl) ?_
        refine lv_if_ne (tgt := 821) hx hb dL_law_806 (by decide) (fun _ => ?_) (fun h => absurd h (by decide))
        refine lv_goto (tgt := 1677) hx hb dL_law_821 (by decide) ?_
        exact law_end C0 (Nat.le_of_ble_eq_true rfl) (Nat.le_of_ble_eq_true rfl) hS (lv_sub hl [2, 6] rfl)
      · skip
        refine lv_istore (lv' := [(5, .int 1), (0, .ref b), (1, .ref qx), (2, .ref qm), (3, .ref qo), (4, .int 0)]) hx hb dL_law_773 hl (by decide) rfl (fun ls hl => ?_)
        refine lv_aload_n hx hb dL_law_775 rfl (lv_at hl 3 rfl) ?_
        refine lv_aload_n hx hb dL_law_776 rfl (lv_at hl 1 rfl) ?_
        refine lv_iload hx hb dL_law_777 (lv_at hl 5 rfl) ?_
        refine lv_iconst (v := 1) hx hb dL_law_779 (by decide) ?_
        refine lv_iadd hx hb dL_law_780 ?_
        refine tpi (v := 1) (by decide) ?_
        refine va_sld hx hb hX hbl hbA hS (vpl (by decide)) dL_law_781 ?_
        refine tpi (v := (xs 1)) rfl ?_
        refine lv_aload_n hx hb dL_law_782 rfl (lv_at hl 1 rfl) ?_
        refine lv_iload hx hb dL_law_783 (lv_at hl 5 rfl) ?_
        refine lv_iconst (v := 2) hx hb dL_law_785 (by decide) ?_
        refine lv_iadd hx hb dL_law_786 ?_
        refine tpi (v := 2) (by decide) ?_
        refine va_sld hx hb hX hbl hbA hS (vpl (by decide)) dL_law_787 ?_
        refine tpi (v := (xs 2)) rfl ?_
        have hF := va_free (wc := [(qm, .inr (8, [.int 0, .int 0, .int 2, .ref (um 0), .ref (um 1), .int 0, .int 500, .int 0, .int 0, .int 0, .ref (um 6)]))]) hD hS hA [5] rfl
        refine va_calli (va_runV (As := [.int (xs 1), .int (xs 2)]) (rest := []) ⟨hx, hb, hml, hown, hts⟩ (k_X6_ofContext_9 l D κ ε qm (um 0) (um 1) (um 6) H.size ((xs 1)) ((xs 2)) e1 e22 c45) (cwV 2 hts gL_law_X6_ofContext rfl rfl rfl (by decide +kernel) ⟨(Nat.le_of_ble_eq_true rfl), (Nat.le_of_ble_eq_true rfl)⟩) (pre2_V (q0 := 5) (ci := 8) (wc := [(qm, .inr (8, [.int 0, .int 0, .int 2, .ref (um 0), .ref (um 1), .int 0, .int 500, .int 0, .int 0, .int 0, .ref (um 6)]))]) hP hD hK hE9 hS hA [5] (by decide) rfl rfl rfl) rfl rfl hl.1 rfl (lv_room (Nat.le_of_ble_eq_true rfl)) dL_law_788 ⟨(Nat.le_of_ble_eq_true rfl), (Nat.le_of_ble_eq_true rfl)⟩) hS (fun q _ h => hF q h) hF (fun r u48 t H locs ht hvm hw hB hz1 hk1 hS => ?_)
        try dsimp only at hw hB
        obtain ⟨hP1, hD1⟩ := hB
        rw [ht] at hP1
        obtain ⟨hP, hD⟩ := post_j (ws' := [((ux 1), .inl (κ 3, 4, .inr (.inr (.inr (.inr (sel [(ux 3), (ux 9), (ux 15), (ux 21)])))))), ((ux 3), .inr (6, [.ref (ux 4), .ref (ux 5), .int 0])), ((ux 9), .inr (6, [.ref (ux 10), .ref (ux 11), .int 0])), ((ux 27), .inr (3, [.ref (ux 0), .int 0, .int 500, .ref (ux 28), .ref (ux 29), .long 0, .int 0])), ((ux 29), .inl (κ 0, 13, .inl (fun _ => 0))), (qm, .inr (8, u48)), ((um 0), .inr (1, [.int 0, .ref (ε 1), .int 0])), ((um 1), .inl (κ 4, 4, .inr (.inr (.inr (.inr (sel [(um 2), (um 3), (um 4), (um 5)])))))), ((um 2), .inl (κ 0, 14, .inl (fun _ => 0))), ((um 3), .inl (κ 0, 196, .inl (fun _ => 0))), (qo, .inl (κ 2, 1, .inr (.inl u43)))]) (wr := [((ux 1), .inl (κ 3, 4, .inr (.inr (.inr (.inr (sel [(ux 3), (ux 9), (ux 15), (ux 21)])))))), ((ux 3), .inr (6, [.ref (ux 4), .ref (ux 5), .int 0])), ((ux 9), .inr (6, [.ref (ux 10), .ref (ux 11), .int 0])), ((ux 27), .inr (3, [.ref (ux 0), .int 0, .int 500, .ref (ux 28), .ref (ux 29), .long 0, .int 0])), ((ux 29), .inl (κ 0, 13, .inl (fun _ => 0))), ((um 0), .inr (1, [.int 0, .ref (ε 1), .int 0])), ((um 1), .inl (κ 4, 4, .inr (.inr (.inr (.inr (sel [(um 2), (um 3), (um 4), (um 5)])))))), ((um 2), .inl (κ 0, 14, .inl (fun _ => 0))), ((um 3), .inl (κ 0, 196, .inl (fun _ => 0))), (qo, .inl (κ 2, 1, .inr (.inl u43)))]) (w1 := [(qm, .inr (8, u48))]) hP hD hF [5] rfl [0, 1, 2, 3, 4, 6, 7, 8, 9, 10] rfl (by decide) (by decide) hk1 hP1 hD1 [0, 1, 2, 3, 4, 10, 5, 6, 7, 8, 9] (by decide) rfl
        have hP : va_P D vwCl [((ux 1), .inl (κ 3, 4, .inr (.inr (.inr (.inr (sel [(ux 3), (ux 9), (ux 15), (ux 21)])))))), ((ux 3), .inr (6, [.ref (ux 4), .ref (ux 5), .int 0])), ((ux 9), .inr (6, [.ref (ux 10), .ref (ux 11), .int 0])), ((ux 27), .inr (3, [.ref (ux 0), .int 0, .int 500, .ref (ux 28), .ref (ux 29), .long 0, .int 0])), ((ux 29), .inl (κ 0, 13, .inl (fun _ => 0))), (qm, .inr (8, u48)), ((um 0), .inr (1, [.int 0, .ref (ε 1), .int 0])), ((um 1), .inl (κ 4, 4, .inr (.inr (.inr (.inr (sel [(um 2), (um 3), (um 4), (um 5)])))))), ((um 2), .inl (κ 0, 14, .inl (fun _ => 0))), ((um 3), .inl (κ 0, 196, .inl (fun _ => 0))), (qo, .inl (κ 2, 1, .inr (.inl u43)))] H := hP
        have hD : va_D (fun q : Nat => s.heap.size ≤ q) [((ux 1), .inl (κ 3, 4, .inr (.inr (.inr (.inr (sel [(ux 3), (ux 9), (ux 15), (ux 21)])))))), ((ux 3), .inr (6, [.ref (ux 4), .ref (ux 5), .int 0])), ((ux 9), .inr (6, [.ref (ux 10), .ref (ux 11), .int 0])), ((ux 27), .inr (3, [.ref (ux 0), .int 0, .int 500, .ref (ux 28), .ref (ux 29), .long 0, .int 0])), ((ux 29), .inl (κ 0, 13, .inl (fun _ => 0))), (qm, .inr (8, u48)), ((um 0), .inr (1, [.int 0, .ref (ε 1), .int 0])), ((um 1), .inl (κ 4, 4, .inr (.inr (.inr (.inr (sel [(um 2), (um 3), (um 4), (um 5)])))))), ((um 2), .inl (κ 0, 14, .inl (fun _ => 0))), ((um 3), .inl (κ 0, 196, .inl (fun _ => 0))), (qo, .inl (κ 2, 1, .inr (.inl u43)))] := hD
        obtain ⟨hu49, rfl⟩ := hw
        refine lv_istore (lv' := [(6, .int 0), (5, .int 1), (0, .ref b), (1, .ref qx), (2, .ref qm), (3, .ref qo), (4, .int 0)]) hx hb dL_law_791 hl (by decide) rfl (fun ls hl => ?_)
        refine lv_aload_n hx hb dL_law_793 rfl (lv_at hl 4 rfl) ?_
        refine vp_callSi (W.runV (As := []) (rest := []) ⟨hx, hb, hml, hown, hts⟩ (k_thrown l D κ qm u48 (1) hu49) (cwV 0 hts gL_law_X6_thrown rfl rfl rfl (by decide +kernel) ⟨(Nat.le_of_ble_eq_true rfl), (Nat.le_of_ble_eq_true rfl)⟩) (pre0_V (q0 := 5) (ci := 8) (wc := [(qm, .inr (8, u48))]) hP hK [5] rfl rfl rfl) rfl rfl hl.1 rfl (lv_room (Nat.le_of_ble_eq_true rfl)) dL_law_794 ⟨(Nat.le_of_ble_eq_true rfl), (Nat.le_of_ble_eq_true rfl)⟩) (fun r hw => ?_)
        subst hw
        refine lv_iload hx hb dL_law_797 (lv_at hl 1 rfl) ?_
        refine lv_icmp_eq (tgt := 804) hx hb dL_law_799 (by decide) (fun _ => ?_) (fun h => absurd (by decide) h)
        refine lv_iload hx hb dL_law_804 (lv_at hl 1 rfl) ?_
        refine lv_if_ne (tgt := 821) hx hb dL_law_806 (by decide) (fun _ => ?_) (fun h => absurd h (by decide))
        refine lv_goto (tgt := 1677) hx hb dL_law_821 (by decide) ?_
        exact law_end C0 (Nat.le_of_ble_eq_true rfl) (Nat.le_of_ble_eq_true rfl) hS (lv_sub hl [2, 6] rfl)
