set_option maxHeartbeats 4000000 in
set_option maxRecDepth 100000 in
theorem k_J7_fill_53178_1 (l : Launch) (D : va_G) (κ ε : Nat → Nat) (h0 : Nat) (sz : Nat) : Met l yJ7_fill_53178 wsJ7_fill_53178 ({ frames := 0, cells := 0, slots := 0, locals := 0 }) (va_Pc [.ref h0, .int 1000000] (Pre2 D κ ε [(h0, .inl (κ 0, 13, .inl (fun _ => 0)))] sz)) (va_Qv (fun u : Unit => True) (fun u t => va_P D vwCl [(h0, .inl (κ 0, 13, .inl (upd (upd (upd (upd (upd (upd (upd (upd (upd (upd (upd (upd (upd (fun _ => 0) 0 1000000) 1 1000000) 2 1000000) 3 1000000) 4 1000000) 5 1000000) 6 1000000) 7 1000000) 8 1000000) 9 1000000) 10 1000000) 11 1000000) 12 1000000)))] t.heap ∧ va_D (va_A [(h0, .inl (κ 0, 13, .inl (fun _ => 0)))] sz) [(h0, .inl (κ 0, 13, .inl (upd (upd (upd (upd (upd (upd (upd (upd (upd (upd (upd (upd (upd (fun _ => 0) 0 1000000) 1 1000000) 2 1000000) 3 1000000) 4 1000000) 5 1000000) 6 1000000) 7 1000000) 8 1000000) 9 1000000) 10 1000000) 11 1000000) 12 1000000)))]) (va_A [(h0, .inl (κ 0, 13, .inl (fun _ => 0)))] sz)) 0 0 (va_A [(h0, .inl (κ 0, 13, .inl (fun _ => 0)))] sz) := by
  refine Met.ofW (cc := cJ7_fill_53178) (maxL := 4) (ret := none) (by decide) rfl ?_
  intro p e s m args below meth c s₁ B hml hv
  obtain ⟨rfl, hsz, hP, hK, hD0, hE9⟩ := hv
  have hx := B.exec
  have hb := B.bytes
  have hr := B.returns
  have hts := atoms_spec (ws := wsJ7_fill_53178) B.pre
  have hown : s.vm.findClass RJ7 = some m.cls := findClass_of_methodNamed B.named
  have hlocks := B.notSynchronized
  subst hsz
  have hD := hD0.self (sz := s.heap.size)
  generalize hAe : va_A [(h0, .inl (κ 0, 13, .inl (fun _ => 0)))] s.heap.size = A at hD hE9 ⊢
  have hE := hE9.1
  have hDc := hE9.2
  have hA : ∀ q : Nat, s.heap.size ≤ q → A q := fun q h => by rw [← hAe]; exact Or.inr h
  have hS : va_S A s.heap s.heap [] := va_S.rf
  have hP : va_P D vwCl [(h0, .inl (κ 0, 13, .inl (fun _ => 0)))] s.heap := hP
  have hl := lv_entry [.ref h0, .int 1000000] (n := 4) (Nat.le_of_ble_eq_true rfl)
  rw [lg_entry_eq]
  generalize (lg_sl [.ref h0, .int 1000000] ++ List.replicate (4 - (lg_sl [.ref h0, .int 1000000]).length) Slot.unset).toArray = ls at hl ⊢
  have hl : lv_has ls 4 [(0, .ref h0), (1, .int 1000000)] := hl
  refine lv_iconst (v := 0) hx hb dJ7_fill_53178_0 (by decide) ?_
  refine lv_istore_n (lv' := [(2, .int 0), (0, .ref h0), (1, .int 1000000)]) hx hb dJ7_fill_53178_1 rfl hl (by decide) rfl (fun ls hl => ?_)
  refine lv_aload_n hx hb dJ7_fill_53178_2 rfl (lv_at hl 1 rfl) ?_
  refine va_alen hx hb hK hP 0 0 rfl rfl (v := 13) (by decide) dJ7_fill_53178_3 ?_
  refine lv_istore_n (lv' := [(3, .int 13), (2, .int 0), (0, .ref h0), (1, .int 1000000)]) hx hb dJ7_fill_53178_4 rfl hl (by decide) rfl (fun ls hl => ?_)
  refine lv_iload_n hx hb dJ7_fill_53178_5 rfl (lv_at hl 1 rfl) ?_
  refine lv_iload_n hx hb dJ7_fill_53178_6 rfl (lv_at hl 0 rfl) ?_
  refine lv_icmp_ge (tgt := 20) hx hb dJ7_fill_53178_7 (by decide) (fun h => absurd h (by decide)) (fun _ => ?_)
  refine lv_aload_n hx hb dJ7_fill_53178_10 rfl (lv_at hl 2 rfl) ?_
  refine lv_iload_n hx hb dJ7_fill_53178_11 rfl (lv_at hl 1 rfl) ?_
  refine lv_iload_n hx hb dJ7_fill_53178_12 rfl (lv_at hl 3 rfl) ?_
  refine va_iast (cA := κ 0) (n := 13) (f := (fun _ => 0)) hx hb hK hP hD hS 0 0 rfl rfl (vpl (by decide)) dJ7_fill_53178_13 (fun H locs hP hD hS => ?_)
  have hP : va_P D vwCl [(h0, .inl (κ 0, 13, .inl (upd (fun _ => 0) 0 1000000)))] H := hP
  have hD : va_D A [(h0, .inl (κ 0, 13, .inl (upd (fun _ => 0) 0 1000000)))] := hD
  refine lv_iinc (v := 1) (lv' := [(2, .int 1), (3, .int 13), (0, .ref h0), (1, .int 1000000)]) hx hb dJ7_fill_53178_14 hl (k := 1) rfl (by decide) (by decide) rfl (fun ls hl => ?_)
  refine lv_goto (tgt := 5) hx hb dJ7_fill_53178_17 (by decide) ?_
  refine lv_iload_n hx hb dJ7_fill_53178_5 rfl (lv_at hl 0 rfl) ?_
  refine lv_iload_n hx hb dJ7_fill_53178_6 rfl (lv_at hl 1 rfl) ?_
  refine lv_icmp_ge (tgt := 20) hx hb dJ7_fill_53178_7 (by decide) (fun h => absurd h (by decide)) (fun _ => ?_)
  refine lv_aload_n hx hb dJ7_fill_53178_10 rfl (lv_at hl 2 rfl) ?_
  refine lv_iload_n hx hb dJ7_fill_53178_11 rfl (lv_at hl 0 rfl) ?_
  refine lv_iload_n hx hb dJ7_fill_53178_12 rfl (lv_at hl 3 rfl) ?_
  refine va_iast (cA := κ 0) (n := 13) (f := (upd (fun _ => 0) 0 1000000)) hx hb hK hP hD hS 0 0 rfl rfl (vpl (by decide)) dJ7_fill_53178_13 (fun H locs hP hD hS => ?_)
  have hP : va_P D vwCl [(h0, .inl (κ 0, 13, .inl (upd (upd (fun _ => 0) 0 1000000) 1 1000000)))] H := hP
  have hD : va_D A [(h0, .inl (κ 0, 13, .inl (upd (upd (fun _ => 0) 0 1000000) 1 1000000)))] := hD
  refine lv_iinc (v := 2) (lv' := [(2, .int 2), (3, .int 13), (0, .ref h0), (1, .int 1000000)]) hx hb dJ7_fill_53178_14 hl (k := 0) rfl (by decide) (by decide) rfl (fun ls hl => ?_)
  refine lv_goto (tgt := 5) hx hb dJ7_fill_53178_17 (by decide) ?_
  refine lv_iload_n hx hb dJ7_fill_53178_5 rfl (lv_at hl 0 rfl) ?_
  refine lv_iload_n hx hb dJ7_fill_53178_6 rfl (lv_at hl 1 rfl) ?_
  refine lv_icmp_ge (tgt := 20) hx hb dJ7_fill_53178_7 (by decide) (fun h => absurd h (by decide)) (fun _ => ?_)
  refine lv_aload_n hx hb dJ7_fill_53178_10 rfl (lv_at hl 2 rfl) ?_
  refine lv_iload_n hx hb dJ7_fill_53178_11 rfl (lv_at hl 0 rfl) ?_
  refine lv_iload_n hx hb dJ7_fill_53178_12 rfl (lv_at hl 3 rfl) ?_
  refine va_iast (cA := κ 0) (n := 13) (f := (upd (upd (fun _ => 0) 0 1000000) 1 1000000)) hx hb hK hP hD hS 0 0 rfl rfl (vpl (by decide)) dJ7_fill_53178_13 (fun H locs hP hD hS => ?_)
  have hP : va_P D vwCl [(h0, .inl (κ 0, 13, .inl (upd (upd (upd (fun _ => 0) 0 1000000) 1 1000000) 2 1000000)))] H := hP
  have hD : va_D A [(h0, .inl (κ 0, 13, .inl (upd (upd (upd (fun _ => 0) 0 1000000) 1 1000000) 2 1000000)))] := hD
  refine lv_iinc (v := 3) (lv' := [(2, .int 3), (3, .int 13), (0, .ref h0), (1, .int 1000000)]) hx hb dJ7_fill_53178_14 hl (k := 0) rfl (by decide) (by decide) rfl (fun ls hl => ?_)
  refine lv_goto (tgt := 5) hx hb dJ7_fill_53178_17 (by decide) ?_
  refine lv_iload_n hx hb dJ7_fill_53178_5 rfl (lv_at hl 0 rfl) ?_
  refine lv_iload_n hx hb dJ7_fill_53178_6 rfl (lv_at hl 1 rfl) ?_
  refine lv_icmp_ge (tgt := 20) hx hb dJ7_fill_53178_7 (by decide) (fun h => absurd h (by decide)) (fun _ => ?_)
  refine lv_aload_n hx hb dJ7_fill_53178_10 rfl (lv_at hl 2 rfl) ?_
  refine lv_iload_n hx hb dJ7_fill_53178_11 rfl (lv_at hl 0 rfl) ?_
  refine lv_iload_n hx hb dJ7_fill_53178_12 rfl (lv_at hl 3 rfl) ?_
  refine va_iast (cA := κ 0) (n := 13) (f := (upd (upd (upd (fun _ => 0) 0 1000000) 1 1000000) 2 1000000)) hx hb hK hP hD hS 0 0 rfl rfl (vpl (by decide)) dJ7_fill_53178_13 (fun H locs hP hD hS => ?_)
  have hP : va_P D vwCl [(h0, .inl (κ 0, 13, .inl (upd (upd (upd (upd (fun _ => 0) 0 1000000) 1 1000000) 2 1000000) 3 1000000)))] H := hP
  have hD : va_D A [(h0, .inl (κ 0, 13, .inl (upd (upd (upd (upd (fun _ => 0) 0 1000000) 1 1000000) 2 1000000) 3 1000000)))] := hD
  refine lv_iinc (v := 4) (lv' := [(2, .int 4), (3, .int 13), (0, .ref h0), (1, .int 1000000)]) hx hb dJ7_fill_53178_14 hl (k := 0) rfl (by decide) (by decide) rfl (fun ls hl => ?_)
  refine lv_goto (tgt := 5) hx hb dJ7_fill_53178_17 (by decide) ?_
  refine lv_iload_n hx hb dJ7_fill_53178_5 rfl (lv_at hl 0 rfl) ?_
  refine lv_iload_n hx hb dJ7_fill_53178_6 rfl (lv_at hl 1 rfl) ?_
  refine lv_icmp_ge (tgt := 20) hx hb dJ7_fill_53178_7 (by decide) (fun h => absurd h (by decide)) (fun _ => ?_)
  refine lv_aload_n hx hb dJ7_fill_53178_10 rfl (lv_at hl 2 rfl) ?_
  refine lv_iload_n hx hb dJ7_fill_53178_11 rfl (lv_at hl 0 rfl) ?_
  refine lv_iload_n hx hb dJ7_fill_53178_12 rfl (lv_at hl 3 rfl) ?_
  refine va_iast (cA := κ 0) (n := 13) (f := (upd (upd (upd (upd (fun _ => 0) 0 1000000) 1 1000000) 2 1000000) 3 1000000)) hx hb hK hP hD hS 0 0 rfl rfl (vpl (by decide)) dJ7_fill_53178_13 (fun H locs hP hD hS => ?_)
  have hP : va_P D vwCl [(h0, .inl (κ 0, 13, .inl (upd (upd (upd (upd (upd (fun _ => 0) 0 1000000) 1 1000000) 2 1000000) 3 1000000) 4 1000000)))] H := hP
  have hD : va_D A [(h0, .inl (κ 0, 13, .inl (upd (upd (upd (upd (upd (fun _ => 0) 0 1000000) 1 1000000) 2 1000000) 3 1000000) 4 1000000)))] := hD
  refine lv_iinc (v := 5) (lv' := [(2, .int 5), (3, .int 13), (0, .ref h0), (1, .int 1000000)]) hx hb dJ7_fill_53178_14 hl (k := 0) rfl (by decide) (by decide) rfl (fun ls hl => ?_)
  refine lv_goto (tgt := 5) hx hb dJ7_fill_53178_17 (by decide) ?_
  refine lv_iload_n hx hb dJ7_fill_53178_5 rfl (lv_at hl 0 rfl) ?_
  refine lv_iload_n hx hb dJ7_fill_53178_6 rfl (lv_at hl 1 rfl) ?_
  refine lv_icmp_ge (tgt := 20) hx hb dJ7_fill_53178_7 (by decide) (fun h => absurd h (by decide)) (fun _ => ?_)
  refine lv_aload_n hx hb dJ7_fill_53178_10 rfl (lv_at hl 2 rfl) ?_
  refine lv_iload_n hx hb dJ7_fill_53178_11 rfl (lv_at hl 0 rfl) ?_
  refine lv_iload_n hx hb dJ7_fill_53178_12 rfl (lv_at hl 3 rfl) ?_
  refine va_iast (cA := κ 0) (n := 13) (f := (upd (upd (upd (upd (upd (fun _ => 0) 0 1000000) 1 1000000) 2 1000000) 3 1000000) 4 1000000)) hx hb hK hP hD hS 0 0 rfl rfl (vpl (by decide)) dJ7_fill_53178_13 (fun H locs hP hD hS => ?_)
  have hP : va_P D vwCl [(h0, .inl (κ 0, 13, .inl (upd (upd (upd (upd (upd (upd (fun _ => 0) 0 1000000) 1 1000000) 2 1000000) 3 1000000) 4 1000000) 5 1000000)))] H := hP
  have hD : va_D A [(h0, .inl (κ 0, 13, .inl (upd (upd (upd (upd (upd (upd (fun _ => 0) 0 1000000) 1 1000000) 2 1000000) 3 1000000) 4 1000000) 5 1000000)))] := hD
  refine lv_iinc (v := 6) (lv' := [(2, .int 6), (3, .int 13), (0, .ref h0), (1, .int 1000000)]) hx hb dJ7_fill_53178_14 hl (k := 0) rfl (by decide) (by decide) rfl (fun ls hl => ?_)
  refine lv_goto (tgt := 5) hx hb dJ7_fill_53178_17 (by decide) ?_
  refine lv_iload_n hx hb dJ7_fill_53178_5 rfl (lv_at hl 0 rfl) ?_
  refine lv_iload_n hx hb dJ7_fill_53178_6 rfl (lv_at hl 1 rfl) ?_
  refine lv_icmp_ge (tgt := 20) hx hb dJ7_fill_53178_7 (by decide) (fun h => absurd h (by decide)) (fun _ => ?_)
  refine lv_aload_n hx hb dJ7_fill_53178_10 rfl (lv_at hl 2 rfl) ?_
  refine lv_iload_n hx hb dJ7_fill_53178_11 rfl (lv_at hl 0 rfl) ?_
  refine lv_iload_n hx hb dJ7_fill_53178_12 rfl (lv_at hl 3 rfl) ?_
  refine va_iast (cA := κ 0) (n := 13) (f := (upd (upd (upd (upd (upd (upd (fun _ => 0) 0 1000000) 1 1000000) 2 1000000) 3 1000000) 4 1000000) 5 1000000)) hx hb hK hP hD hS 0 0 rfl rfl (vpl (by decide)) dJ7_fill_53178_13 (fun H locs hP hD hS => ?_)
  have hP : va_P D vwCl [(h0, .inl (κ 0, 13, .inl (upd (upd (upd (upd (upd (upd (upd (fun _ => 0) 0 1000000) 1 1000000) 2 1000000) 3 1000000) 4 1000000) 5 1000000) 6 1000000)))] H := hP
  have hD : va_D A [(h0, .inl (κ 0, 13, .inl (upd (upd (upd (upd (upd (upd (upd (fun _ => 0) 0 1000000) 1 1000000) 2 1000000) 3 1000000) 4 1000000) 5 1000000) 6 1000000)))] := hD
  refine lv_iinc (v := 7) (lv' := [(2, .int 7), (3, .int 13), (0, .ref h0), (1, .int 1000000)]) hx hb dJ7_fill_53178_14 hl (k := 0) rfl (by decide) (by decide) rfl (fun ls hl => ?_)
  refine lv_goto (tgt := 5) hx hb dJ7_fill_53178_17 (by decide) ?_
  refine lv_iload_n hx hb dJ7_fill_53178_5 rfl (lv_at hl 0 rfl) ?_
  refine lv_iload_n hx hb dJ7_fill_53178_6 rfl (lv_at hl 1 rfl) ?_
  refine lv_icmp_ge (tgt := 20) hx hb dJ7_fill_53178_7 (by decide) (fun h => absurd h (by decide)) (fun _ => ?_)
  refine lv_aload_n hx hb dJ7_fill_53178_10 rfl (lv_at hl 2 rfl) ?_
  refine lv_iload_n hx hb dJ7_fill_53178_11 rfl (lv_at hl 0 rfl) ?_
  refine lv_iload_n hx hb dJ7_fill_53178_12 rfl (lv_at hl 3 rfl) ?_
  refine va_iast (cA := κ 0) (n := 13) (f := (upd (upd (upd (upd (upd (upd (upd (fun _ => 0) 0 1000000) 1 1000000) 2 1000000) 3 1000000) 4 1000000) 5 1000000) 6 1000000)) hx hb hK hP hD hS 0 0 rfl rfl (vpl (by decide)) dJ7_fill_53178_13 (fun H locs hP hD hS => ?_)
  have hP : va_P D vwCl [(h0, .inl (κ 0, 13, .inl (upd (upd (upd (upd (upd (upd (upd (upd (fun _ => 0) 0 1000000) 1 1000000) 2 1000000) 3 1000000) 4 1000000) 5 1000000) 6 1000000) 7 1000000)))] H := hP
  have hD : va_D A [(h0, .inl (κ 0, 13, .inl (upd (upd (upd (upd (upd (upd (upd (upd (fun _ => 0) 0 1000000) 1 1000000) 2 1000000) 3 1000000) 4 1000000) 5 1000000) 6 1000000) 7 1000000)))] := hD
  refine lv_iinc (v := 8) (lv' := [(2, .int 8), (3, .int 13), (0, .ref h0), (1, .int 1000000)]) hx hb dJ7_fill_53178_14 hl (k := 0) rfl (by decide) (by decide) rfl (fun ls hl => ?_)
  refine lv_goto (tgt := 5) hx hb dJ7_fill_53178_17 (by decide) ?_
  refine lv_iload_n hx hb dJ7_fill_53178_5 rfl (lv_at hl 0 rfl) ?_
  refine lv_iload_n hx hb dJ7_fill_53178_6 rfl (lv_at hl 1 rfl) ?_
  refine lv_icmp_ge (tgt := 20) hx hb dJ7_fill_53178_7 (by decide) (fun h => absurd h (by decide)) (fun _ => ?_)
  refine lv_aload_n hx hb dJ7_fill_53178_10 rfl (lv_at hl 2 rfl) ?_
  refine lv_iload_n hx hb dJ7_fill_53178_11 rfl (lv_at hl 0 rfl) ?_
  refine lv_iload_n hx hb dJ7_fill_53178_12 rfl (lv_at hl 3 rfl) ?_
  refine va_iast (cA := κ 0) (n := 13) (f := (upd (upd (upd (upd (upd (upd (upd (upd (fun _ => 0) 0 1000000) 1 1000000) 2 1000000) 3 1000000) 4 1000000) 5 1000000) 6 1000000) 7 1000000)) hx hb hK hP hD hS 0 0 rfl rfl (vpl (by decide)) dJ7_fill_53178_13 (fun H locs hP hD hS => ?_)
  have hP : va_P D vwCl [(h0, .inl (κ 0, 13, .inl (upd (upd (upd (upd (upd (upd (upd (upd (upd (fun _ => 0) 0 1000000) 1 1000000) 2 1000000) 3 1000000) 4 1000000) 5 1000000) 6 1000000) 7 1000000) 8 1000000)))] H := hP
  have hD : va_D A [(h0, .inl (κ 0, 13, .inl (upd (upd (upd (upd (upd (upd (upd (upd (upd (fun _ => 0) 0 1000000) 1 1000000) 2 1000000) 3 1000000) 4 1000000) 5 1000000) 6 1000000) 7 1000000) 8 1000000)))] := hD
  refine lv_iinc (v := 9) (lv' := [(2, .int 9), (3, .int 13), (0, .ref h0), (1, .int 1000000)]) hx hb dJ7_fill_53178_14 hl (k := 0) rfl (by decide) (by decide) rfl (fun ls hl => ?_)
  refine lv_goto (tgt := 5) hx hb dJ7_fill_53178_17 (by decide) ?_
  refine lv_iload_n hx hb dJ7_fill_53178_5 rfl (lv_at hl 0 rfl) ?_
  refine lv_iload_n hx hb dJ7_fill_53178_6 rfl (lv_at hl 1 rfl) ?_
  refine lv_icmp_ge (tgt := 20) hx hb dJ7_fill_53178_7 (by decide) (fun h => absurd h (by decide)) (fun _ => ?_)
  refine lv_aload_n hx hb dJ7_fill_53178_10 rfl (lv_at hl 2 rfl) ?_
  refine lv_iload_n hx hb dJ7_fill_53178_11 rfl (lv_at hl 0 rfl) ?_
  refine lv_iload_n hx hb dJ7_fill_53178_12 rfl (lv_at hl 3 rfl) ?_
  refine va_iast (cA := κ 0) (n := 13) (f := (upd (upd (upd (upd (upd (upd (upd (upd (upd (fun _ => 0) 0 1000000) 1 1000000) 2 1000000) 3 1000000) 4 1000000) 5 1000000) 6 1000000) 7 1000000) 8 1000000)) hx hb hK hP hD hS 0 0 rfl rfl (vpl (by decide)) dJ7_fill_53178_13 (fun H locs hP hD hS => ?_)
  have hP : va_P D vwCl [(h0, .inl (κ 0, 13, .inl (upd (upd (upd (upd (upd (upd (upd (upd (upd (upd (fun _ => 0) 0 1000000) 1 1000000) 2 1000000) 3 1000000) 4 1000000) 5 1000000) 6 1000000) 7 1000000) 8 1000000) 9 1000000)))] H := hP
  have hD : va_D A [(h0, .inl (κ 0, 13, .inl (upd (upd (upd (upd (upd (upd (upd (upd (upd (upd (fun _ => 0) 0 1000000) 1 1000000) 2 1000000) 3 1000000) 4 1000000) 5 1000000) 6 1000000) 7 1000000) 8 1000000) 9 1000000)))] := hD
  refine lv_iinc (v := 10) (lv' := [(2, .int 10), (3, .int 13), (0, .ref h0), (1, .int 1000000)]) hx hb dJ7_fill_53178_14 hl (k := 0) rfl (by decide) (by decide) rfl (fun ls hl => ?_)
  refine lv_goto (tgt := 5) hx hb dJ7_fill_53178_17 (by decide) ?_
  refine lv_iload_n hx hb dJ7_fill_53178_5 rfl (lv_at hl 0 rfl) ?_
  refine lv_iload_n hx hb dJ7_fill_53178_6 rfl (lv_at hl 1 rfl) ?_
  refine lv_icmp_ge (tgt := 20) hx hb dJ7_fill_53178_7 (by decide) (fun h => absurd h (by decide)) (fun _ => ?_)
  refine lv_aload_n hx hb dJ7_fill_53178_10 rfl (lv_at hl 2 rfl) ?_
  refine lv_iload_n hx hb dJ7_fill_53178_11 rfl (lv_at hl 0 rfl) ?_
  refine lv_iload_n hx hb dJ7_fill_53178_12 rfl (lv_at hl 3 rfl) ?_
  refine va_iast (cA := κ 0) (n := 13) (f := (upd (upd (upd (upd (upd (upd (upd (upd (upd (upd (fun _ => 0) 0 1000000) 1 1000000) 2 1000000) 3 1000000) 4 1000000) 5 1000000) 6 1000000) 7 1000000) 8 1000000) 9 1000000)) hx hb hK hP hD hS 0 0 rfl rfl (vpl (by decide)) dJ7_fill_53178_13 (fun H locs hP hD hS => ?_)
  have hP : va_P D vwCl [(h0, .inl (κ 0, 13, .inl (upd (upd (upd (upd (upd (upd (upd (upd (upd (upd (upd (fun _ => 0) 0 1000000) 1 1000000) 2 1000000) 3 1000000) 4 1000000) 5 1000000) 6 1000000) 7 1000000) 8 1000000) 9 1000000) 10 1000000)))] H := hP
  have hD : va_D A [(h0, .inl (κ 0, 13, .inl (upd (upd (upd (upd (upd (upd (upd (upd (upd (upd (upd (fun _ => 0) 0 1000000) 1 1000000) 2 1000000) 3 1000000) 4 1000000) 5 1000000) 6 1000000) 7 1000000) 8 1000000) 9 1000000) 10 1000000)))] := hD
  refine lv_iinc (v := 11) (lv' := [(2, .int 11), (3, .int 13), (0, .ref h0), (1, .int 1000000)]) hx hb dJ7_fill_53178_14 hl (k := 0) rfl (by decide) (by decide) rfl (fun ls hl => ?_)
  refine lv_goto (tgt := 5) hx hb dJ7_fill_53178_17 (by decide) ?_
  refine lv_iload_n hx hb dJ7_fill_53178_5 rfl (lv_at hl 0 rfl) ?_
  refine lv_iload_n hx hb dJ7_fill_53178_6 rfl (lv_at hl 1 rfl) ?_
  refine lv_icmp_ge (tgt := 20) hx hb dJ7_fill_53178_7 (by decide) (fun h => absurd h (by decide)) (fun _ => ?_)
  refine lv_aload_n hx hb dJ7_fill_53178_10 rfl (lv_at hl 2 rfl) ?_
  refine lv_iload_n hx hb dJ7_fill_53178_11 rfl (lv_at hl 0 rfl) ?_
  refine lv_iload_n hx hb dJ7_fill_53178_12 rfl (lv_at hl 3 rfl) ?_
  refine va_iast (cA := κ 0) (n := 13) (f := (upd (upd (upd (upd (upd (upd (upd (upd (upd (upd (upd (fun _ => 0) 0 1000000) 1 1000000) 2 1000000) 3 1000000) 4 1000000) 5 1000000) 6 1000000) 7 1000000) 8 1000000) 9 1000000) 10 1000000)) hx hb hK hP hD hS 0 0 rfl rfl (vpl (by decide)) dJ7_fill_53178_13 (fun H locs hP hD hS => ?_)
  have hP : va_P D vwCl [(h0, .inl (κ 0, 13, .inl (upd (upd (upd (upd (upd (upd (upd (upd (upd (upd (upd (upd (fun _ => 0) 0 1000000) 1 1000000) 2 1000000) 3 1000000) 4 1000000) 5 1000000) 6 1000000) 7 1000000) 8 1000000) 9 1000000) 10 1000000) 11 1000000)))] H := hP
  have hD : va_D A [(h0, .inl (κ 0, 13, .inl (upd (upd (upd (upd (upd (upd (upd (upd (upd (upd (upd (upd (fun _ => 0) 0 1000000) 1 1000000) 2 1000000) 3 1000000) 4 1000000) 5 1000000) 6 1000000) 7 1000000) 8 1000000) 9 1000000) 10 1000000) 11 1000000)))] := hD
  refine lv_iinc (v := 12) (lv' := [(2, .int 12), (3, .int 13), (0, .ref h0), (1, .int 1000000)]) hx hb dJ7_fill_53178_14 hl (k := 0) rfl (by decide) (by decide) rfl (fun ls hl => ?_)
  refine lv_goto (tgt := 5) hx hb dJ7_fill_53178_17 (by decide) ?_
  refine lv_iload_n hx hb dJ7_fill_53178_5 rfl (lv_at hl 0 rfl) ?_
  refine lv_iload_n hx hb dJ7_fill_53178_6 rfl (lv_at hl 1 rfl) ?_
  refine lv_icmp_ge (tgt := 20) hx hb dJ7_fill_53178_7 (by decide) (fun h => absurd h (by decide)) (fun _ => ?_)
  refine lv_aload_n hx hb dJ7_fill_53178_10 rfl (lv_at hl 2 rfl) ?_
  refine lv_iload_n hx hb dJ7_fill_53178_11 rfl (lv_at hl 0 rfl) ?_
  refine lv_iload_n hx hb dJ7_fill_53178_12 rfl (lv_at hl 3 rfl) ?_
  refine va_iast (cA := κ 0) (n := 13) (f := (upd (upd (upd (upd (upd (upd (upd (upd (upd (upd (upd (upd (fun _ => 0) 0 1000000) 1 1000000) 2 1000000) 3 1000000) 4 1000000) 5 1000000) 6 1000000) 7 1000000) 8 1000000) 9 1000000) 10 1000000) 11 1000000)) hx hb hK hP hD hS 0 0 rfl rfl (vpl (by decide)) dJ7_fill_53178_13 (fun H locs hP hD hS => ?_)
  have hP : va_P D vwCl [(h0, .inl (κ 0, 13, .inl (upd (upd (upd (upd (upd (upd (upd (upd (upd (upd (upd (upd (upd (fun _ => 0) 0 1000000) 1 1000000) 2 1000000) 3 1000000) 4 1000000) 5 1000000) 6 1000000) 7 1000000) 8 1000000) 9 1000000) 10 1000000) 11 1000000) 12 1000000)))] H := hP
  have hD : va_D A [(h0, .inl (κ 0, 13, .inl (upd (upd (upd (upd (upd (upd (upd (upd (upd (upd (upd (upd (upd (fun _ => 0) 0 1000000) 1 1000000) 2 1000000) 3 1000000) 4 1000000) 5 1000000) 6 1000000) 7 1000000) 8 1000000) 9 1000000) 10 1000000) 11 1000000) 12 1000000)))] := hD
  refine lv_iinc (v := 13) (lv' := [(2, .int 13), (3, .int 13), (0, .ref h0), (1, .int 1000000)]) hx hb dJ7_fill_53178_14 hl (k := 0) rfl (by decide) (by decide) rfl (fun ls hl => ?_)
  refine lv_goto (tgt := 5) hx hb dJ7_fill_53178_17 (by decide) ?_
  refine lv_iload_n hx hb dJ7_fill_53178_5 rfl (lv_at hl 0 rfl) ?_
  refine lv_iload_n hx hb dJ7_fill_53178_6 rfl (lv_at hl 1 rfl) ?_
  refine lv_icmp_ge (tgt := 20) hx hb dJ7_fill_53178_7 (by decide) (fun _ => ?_) (fun h => absurd (by decide) h)
  have hP9 := hP
  have hD9 := hD
  exact W.vret hx hb hr (fun t ht hW => ⟨⟨(), rfl, trivial, by rw [ht]; exact hP9, hD9⟩, hS.F ht⟩) hS.2.2 dJ7_fill_53178_20

theorem wi_X1_blend_RX1 : ∀ w ∈ u_ws RX1 TX1 7, w ∈ wsX1_blend := by decide +kernel

theorem wd280_X1_blend : (.fieldLink RX1 9 "Canticle$Reckoner" "way" "I" : Cond) ∈ wsX1_blend := by decide +kernel

theorem wd281_X1_blend : (.constantLong RX1 88 1000 : Cond) ∈ wsX1_blend := by decide +kernel

theorem wd282_X1_blend : (.fieldLink RX1 15 "Canticle$Reckoner" "number" "I" : Cond) ∈ wsX1_blend := by decide +kernel

theorem wd283_X1_blend : (.constantLong RX1 90 1000000 : Cond) ∈ wsX1_blend := by decide +kernel

theorem wd284_X1_blend : (.fieldLink RX1 25 "Canticle$Reckoner" "sum" "J" : Cond) ∈ wsX1_blend := by decide +kernel

theorem wd285_X1_blend : (.fieldLink RX1 32 "Canticle$Reckoner" "ledger" "LCanticle$Ledger;" : Cond) ∈ wsX1_blend := by decide +kernel

theorem wi_X1_blend_RX0 : ∀ w ∈ u_ws RX0 TX0 4, w ∈ wsX1_blend := by decide +kernel

theorem wd286_X1_blend : (.fieldLink RX1 37 "Canticle$Ledger" "words" "I" : Cond) ∈ wsX1_blend := by decide +kernel

set_option maxHeartbeats 4000000 in
set_option maxRecDepth 100000 in
theorem k_X1_blend_0 (l : Launch) (D : va_G) (κ ε : Nat → Nat) (h0 h1 h2 h3 h4 h5 : Nat) (p0 : Int32) (p1 : Int32) : Met l yX1_blend wsX1_blend ({ frames := 0, cells := 0, slots := 0, locals := 0 }) (va_Pc [.ref h0, .long 0, .long 1000000] (Pre0 D κ [(h0, .inr (3, [.ref h1, .int 0, .int 500, .ref h2, .ref h3, .long 0, .int p0])), (h1, .inr (2, [.int 0, .int p1, .ref h4, .ref h5]))])) (vp_Sl (fun r => (r = 1000000))) 0 0 (fun _ => False) := by
  refine Met.ofW (cc := cX1_blend) (maxL := 7) (ret := (some .long)) (by decide) rfl ?_
  intro p e s m args below meth c s₁ B hml hv
  obtain ⟨rfl, hP, hK⟩ := hv
  have hx := B.exec
  have hb := B.bytes
  have hr := B.returns
  have hts := atoms_spec (ws := wsX1_blend) B.pre
  have hown : s.vm.findClass RX1 = some m.cls := findClass_of_methodNamed B.named
  have hlocks := B.notSynchronized
  have hP : va_P D vwCl [(h0, .inr (3, [.ref h1, .int 0, .int 500, .ref h2, .ref h3, .long 0, .int p0])), (h1, .inr (2, [.int 0, .int p1, .ref h4, .ref h5]))] s.heap := hP
  have hl := lv_entry [.ref h0, .long 0, .long 1000000] (n := 7) (Nat.le_of_ble_eq_true rfl)
  rw [lg_entry_eq]
  generalize (lg_sl [.ref h0, .long 0, .long 1000000] ++ List.replicate (7 - (lg_sl [.ref h0, .long 0, .long 1000000]).length) Slot.unset).toArray = ls at hl ⊢
  have hl : lv_has ls 7 [(0, .ref h0), (1, .long 0), (3, .long 1000000)] := hl
  refine lv_aload_n hx hb dX1_blend_0 rfl (lv_at hl 0 rfl) ?_
  refine va_get (D := D) (ci := 3) (v := .int 0) (C := RX1) (T := TX1) (N := 7) hx hb hts wi_X1_blend_RX1 hown hK hP 0 rfl rfl 1 (by decide) (hts _ wd280_X1_blend) (fun _ h9 => h9) rfl dX1_blend_1 ?_
  refine lv_tableIn (tgt := 32) (off := 28) hx hb dX1_blend_4 (by decide) (by decide) (by decide) (by decide) ?_
  refine lv_lload_n hx hb dX1_blend_32 rfl (lv_at hl 1 rfl) ?_
  refine lv_ldc2 (v := 1000) hx hb hown (hts _ wd281_X1_blend) dX1_blend_33 ?_
  refine lv_lmul hx hb dX1_blend_36 ?_
  refine tpl (v := 0) (by decide) ?_
  refine lv_aload_n hx hb dX1_blend_37 rfl (lv_at hl 0 rfl) ?_
  refine va_get (D := D) (ci := 3) (v := .int 500) (C := RX1) (T := TX1) (N := 7) hx hb hts wi_X1_blend_RX1 hown hK hP 0 rfl rfl 2 (by decide) (hts _ wd282_X1_blend) (fun _ h9 => h9) rfl dX1_blend_38 ?_
  refine lv_i2l (v := 500) hx hb dX1_blend_41 (by decide) ?_
  refine lv_ladd hx hb dX1_blend_42 ?_
  refine tpl (v := 500) (by decide) ?_
  refine lv_ldc2 (v := 1000000) hx hb hown (hts _ wd283_X1_blend) dX1_blend_43 ?_
  refine lv_lmul hx hb dX1_blend_46 ?_
  refine tpl (v := 500000000) (by decide) ?_
  refine lv_aload_n hx hb dX1_blend_47 rfl (lv_at hl 0 rfl) ?_
  refine va_get (D := D) (ci := 3) (v := .long 0) (C := RX1) (T := TX1) (N := 7) hx hb hts wi_X1_blend_RX1 hown hK hP 0 rfl rfl 5 (by decide) (hts _ wd284_X1_blend) (fun _ h9 => h9) rfl dX1_blend_48 ?_
  refine lv_ldc2 (v := 1000) hx hb hown (hts _ wd281_X1_blend) dX1_blend_51 ?_
  refine lv_lmul hx hb dX1_blend_54 ?_
  refine tpl (v := 0) (by decide) ?_
  refine lv_aload_n hx hb dX1_blend_55 rfl (lv_at hl 0 rfl) ?_
  refine va_get (D := D) (ci := 3) (v := .int 500) (C := RX1) (T := TX1) (N := 7) hx hb hts wi_X1_blend_RX1 hown hK hP 0 rfl rfl 2 (by decide) (hts _ wd282_X1_blend) (fun _ h9 => h9) rfl dX1_blend_56 ?_
  refine lv_aload_n hx hb dX1_blend_59 rfl (lv_at hl 0 rfl) ?_
  refine va_get (D := D) (ci := 3) (v := .ref h1) (C := RX1) (T := TX1) (N := 7) hx hb hts wi_X1_blend_RX1 hown hK hP 0 rfl rfl 0 (by decide) (hts _ wd285_X1_blend) (fun _ h9 => h9) rfl dX1_blend_60 ?_
  refine va_get (D := D) (ci := 2) (v := .int 0) (C := RX0) (T := TX0) (N := 4) hx hb hts wi_X1_blend_RX0 hown hK hP 1 rfl rfl 0 (by decide) (hts _ wd286_X1_blend) (fun _ h9 => h9) rfl dX1_blend_63 ?_
  refine lv_iconst (v := 1) hx hb dX1_blend_66 (by decide) ?_
  refine lv_iadd hx hb dX1_blend_67 ?_
  refine tpi (v := 1) (by decide) ?_
  refine lv_imul hx hb dX1_blend_68 ?_
  refine tpi (v := 500) (by decide) ?_
  refine lv_i2l (v := 500) hx hb dX1_blend_69 (by decide) ?_
  refine lv_ladd hx hb dX1_blend_70 ?_
  refine tpl (v := 500) (by decide) ?_
  refine lv_ldiv hx hb dX1_blend_71 (by decide) ?_
  refine tpl (v := 1000000) (by decide) ?_
  exact W.lret (v := 1000000) hx hb hr (fun t ht hW => ⟨1000000, rfl, rfl, ht⟩) (fun q hq => absurd hq List.not_mem_nil) dX1_blend_72

theorem wi_X1_refine_RX1 : ∀ w ∈ u_ws RX1 TX1 7, w ∈ wsX1_refine := by decide +kernel

theorem wd287_X1_refine : (.fieldLink RX1 9 "Canticle$Reckoner" "way" "I" : Cond) ∈ wsX1_refine := by decide +kernel

theorem wd288_X1_refine : (.fieldLink RX1 32 "Canticle$Reckoner" "ledger" "LCanticle$Ledger;" : Cond) ∈ wsX1_refine := by decide +kernel

theorem wi_X1_refine_RX0 : ∀ w ∈ u_ws RX0 TX0 4, w ∈ wsX1_refine := by decide +kernel

theorem wd289_X1_refine : (.fieldLink RX1 37 "Canticle$Ledger" "words" "I" : Cond) ∈ wsX1_refine := by decide +kernel

theorem wd290_X1_refine : (.fieldLink RX1 18 "Canticle$Reckoner" "chances" "[I" : Cond) ∈ wsX1_refine := by decide +kernel

theorem wd291_X1_refine : (.fieldLink RX1 22 "Canticle$Reckoner" "own" "[I" : Cond) ∈ wsX1_refine := by decide +kernel

set_option maxHeartbeats 4000000 in
set_option maxRecDepth 100000 in
theorem k_X1_refine_0 (l : Launch) (D : va_G) (κ ε : Nat → Nat) (h0 h1 h2 h3 h4 h5 h6 h7 h8 h9 h10 h11 : Nat) (sz : Nat) (p0 : Int32) (p1 : Int32) : Met l yX1_refine wsX1_refine ({ frames := 2, cells := 0, slots := 0, locals := 48 }) (va_Pc [.ref h0, .int 2, .int 0] (Pre2 D κ ε [(h0, .inr (3, [.ref h1, .int 0, .int 500, .ref h2, .ref h3, .long 0, .int p0])), (h1, .inr (2, [.int 0, .int p1, .ref h4, .ref h5])), (h2, .inl (κ 0, 13, .inl (upd (upd (upd (upd (upd (upd (upd (upd (upd (upd (upd (upd (upd (fun _ => 0) 0 1000000) 1 1000000) 2 1000000) 3 1000000) 4 1000000) 5 1000000) 6 1000000) 7 1000000) 8 1000000) 9 1000000) 10 1000000) 11 1000000) 12 1000000))), (h3, .inl (κ 0, 13, .inl (fun _ => 0))), (h4, .inl (κ 3, 4, .inr (.inr (.inr (.inr (sel [h6, h7, h8, h9])))))), (h7, .inr (6, [.ref h10, .ref h11, .int 0]))] sz)) (va_Qv (fun u : Unit => True) (fun u t => va_P D vwCl [(h0, .inr (3, [.ref h1, .int 0, .int 500, .ref h2, .ref h3, .long 0, .int 0])), (h1, .inr (2, [.int 0, .int p1, .ref h4, .ref h5])), (h2, .inl (κ 0, 13, .inl (upd (upd (upd (upd (upd (upd (upd (upd (upd (upd (upd (upd (upd (upd (fun _ => 0) 0 1000000) 1 1000000) 2 1000000) 3 1000000) 4 1000000) 5 1000000) 6 1000000) 7 1000000) 8 1000000) 9 1000000) 10 1000000) 11 1000000) 12 1000000) 0 1000000))), (h3, .inl (κ 0, 13, .inl (fun _ => 0))), (h4, .inl (κ 3, 4, .inr (.inr (.inr (.inr (sel [h6, h7, h8, h9])))))), (h7, .inr (6, [.ref h10, .ref h11, .int 0]))] t.heap ∧ va_D (va_A [(h0, .inr (3, [.ref h1, .int 0, .int 500, .ref h2, .ref h3, .long 0, .int p0])), (h1, .inr (2, [.int 0, .int p1, .ref h4, .ref h5])), (h2, .inl (κ 0, 13, .inl (upd (upd (upd (upd (upd (upd (upd (upd (upd (upd (upd (upd (upd (fun _ => 0) 0 1000000) 1 1000000) 2 1000000) 3 1000000) 4 1000000) 5 1000000) 6 1000000) 7 1000000) 8 1000000) 9 1000000) 10 1000000) 11 1000000) 12 1000000))), (h3, .inl (κ 0, 13, .inl (fun _ => 0))), (h4, .inl (κ 3, 4, .inr (.inr (.inr (.inr (sel [h6, h7, h8, h9])))))), (h7, .inr (6, [.ref h10, .ref h11, .int 0]))] sz) [(h0, .inr (3, [.ref h1, .int 0, .int 500, .ref h2, .ref h3, .long 0, .int 0])), (h1, .inr (2, [.int 0, .int p1, .ref h4, .ref h5])), (h2, .inl (κ 0, 13, .inl (upd (upd (upd (upd (upd (upd (upd (upd (upd (upd (upd (upd (upd (upd (fun _ => 0) 0 1000000) 1 1000000) 2 1000000) 3 1000000) 4 1000000) 5 1000000) 6 1000000) 7 1000000) 8 1000000) 9 1000000) 10 1000000) 11 1000000) 12 1000000) 0 1000000))), (h3, .inl (κ 0, 13, .inl (fun _ => 0))), (h4, .inl (κ 3, 4, .inr (.inr (.inr (.inr (sel [h6, h7, h8, h9])))))), (h7, .inr (6, [.ref h10, .ref h11, .int 0]))]) (va_A [(h0, .inr (3, [.ref h1, .int 0, .int 500, .ref h2, .ref h3, .long 0, .int p0])), (h1, .inr (2, [.int 0, .int p1, .ref h4, .ref h5])), (h2, .inl (κ 0, 13, .inl (upd (upd (upd (upd (upd (upd (upd (upd (upd (upd (upd (upd (upd (fun _ => 0) 0 1000000) 1 1000000) 2 1000000) 3 1000000) 4 1000000) 5 1000000) 6 1000000) 7 1000000) 8 1000000) 9 1000000) 10 1000000) 11 1000000) 12 1000000))), (h3, .inl (κ 0, 13, .inl (fun _ => 0))), (h4, .inl (κ 3, 4, .inr (.inr (.inr (.inr (sel [h6, h7, h8, h9])))))), (h7, .inr (6, [.ref h10, .ref h11, .int 0]))] sz)) 0 0 (va_A [(h0, .inr (3, [.ref h1, .int 0, .int 500, .ref h2, .ref h3, .long 0, .int p0])), (h1, .inr (2, [.int 0, .int p1, .ref h4, .ref h5])), (h2, .inl (κ 0, 13, .inl (upd (upd (upd (upd (upd (upd (upd (upd (upd (upd (upd (upd (upd (fun _ => 0) 0 1000000) 1 1000000) 2 1000000) 3 1000000) 4 1000000) 5 1000000) 6 1000000) 7 1000000) 8 1000000) 9 1000000) 10 1000000) 11 1000000) 12 1000000))), (h3, .inl (κ 0, 13, .inl (fun _ => 0))), (h4, .inl (κ 3, 4, .inr (.inr (.inr (.inr (sel [h6, h7, h8, h9])))))), (h7, .inr (6, [.ref h10, .ref h11, .int 0]))] sz) := by
  refine Met.ofW (cc := cX1_refine) (maxL := 5) (ret := none) (by decide) rfl ?_
  intro p e s m args below meth c s₁ B hml hv
  obtain ⟨rfl, hsz, hP, hK, hD0, hE9⟩ := hv
  have hx := B.exec
  have hb := B.bytes
  have hr := B.returns
  have hts := atoms_spec (ws := wsX1_refine) B.pre
  have hown : s.vm.findClass RX1 = some m.cls := findClass_of_methodNamed B.named
  have hlocks := B.notSynchronized
  subst hsz
  have hD := hD0.self (sz := s.heap.size)
  generalize hAe : va_A [(h0, .inr (3, [.ref h1, .int 0, .int 500, .ref h2, .ref h3, .long 0, .int p0])), (h1, .inr (2, [.int 0, .int p1, .ref h4, .ref h5])), (h2, .inl (κ 0, 13, .inl (upd (upd (upd (upd (upd (upd (upd (upd (upd (upd (upd (upd (upd (fun _ => 0) 0 1000000) 1 1000000) 2 1000000) 3 1000000) 4 1000000) 5 1000000) 6 1000000) 7 1000000) 8 1000000) 9 1000000) 10 1000000) 11 1000000) 12 1000000))), (h3, .inl (κ 0, 13, .inl (fun _ => 0))), (h4, .inl (κ 3, 4, .inr (.inr (.inr (.inr (sel [h6, h7, h8, h9])))))), (h7, .inr (6, [.ref h10, .ref h11, .int 0]))] s.heap.size = A at hD hE9 ⊢
  have hE := hE9.1
  have hDc := hE9.2
  have hA : ∀ q : Nat, s.heap.size ≤ q → A q := fun q h => by rw [← hAe]; exact Or.inr h
  have hS : va_S A s.heap s.heap [] := va_S.rf
  have hP : va_P D vwCl [(h0, .inr (3, [.ref h1, .int 0, .int 500, .ref h2, .ref h3, .long 0, .int p0])), (h1, .inr (2, [.int 0, .int p1, .ref h4, .ref h5])), (h2, .inl (κ 0, 13, .inl (upd (upd (upd (upd (upd (upd (upd (upd (upd (upd (upd (upd (upd (fun _ => 0) 0 1000000) 1 1000000) 2 1000000) 3 1000000) 4 1000000) 5 1000000) 6 1000000) 7 1000000) 8 1000000) 9 1000000) 10 1000000) 11 1000000) 12 1000000))), (h3, .inl (κ 0, 13, .inl (fun _ => 0))), (h4, .inl (κ 3, 4, .inr (.inr (.inr (.inr (sel [h6, h7, h8, h9])))))), (h7, .inr (6, [.ref h10, .ref h11, .int 0]))] s.heap := hP
  have hl := lv_entry [.ref h0, .int 2, .int 0] (n := 5) (Nat.le_of_ble_eq_true rfl)
  rw [lg_entry_eq]
  generalize (lg_sl [.ref h0, .int 2, .int 0] ++ List.replicate (5 - (lg_sl [.ref h0, .int 2, .int 0]).length) Slot.unset).toArray = ls at hl ⊢
  have hl : lv_has ls 5 [(0, .ref h0), (1, .int 2), (2, .int 0)] := hl
  refine lv_aload_n hx hb dX1_refine_0 rfl (lv_at hl 0 rfl) ?_
  refine va_get (D := D) (ci := 3) (v := .int 0) (C := RX1) (T := TX1) (N := 7) hx hb hts wi_X1_refine_RX1 hown hK hP 0 rfl rfl 1 (by decide) (hts _ wd287_X1_refine) (fun _ h9 => h9) rfl dX1_refine_1 ?_
  refine lv_iconst (v := 4) hx hb dX1_refine_4 (by decide) ?_
  refine lv_icmp_ne (tgt := 23) hx hb dX1_refine_5 (by decide) (fun _ => ?_) (fun h => absurd h (by decide))
  refine lv_iconst (v := 0) hx hb dX1_refine_23 (by decide) ?_
  refine lv_istore_n (lv' := [(3, .int 0), (0, .ref h0), (1, .int 2), (2, .int 0)]) hx hb dX1_refine_24 rfl hl (by decide) rfl (fun ls hl => ?_)
  refine lv_aload_n hx hb dX1_refine_25 rfl (lv_at hl 1 rfl) ?_
  refine lv_iload_n hx hb dX1_refine_26 rfl (lv_at hl 0 rfl) ?_
  refine lv_if_eq (tgt := 41) hx hb dX1_refine_27 (by decide) (fun _ => ?_) (fun h => absurd (by decide) h)
  refine lv_aload_n hx hb dX1_refine_41 rfl (lv_at hl 1 rfl) ?_
  refine va_get (D := D) (ci := 3) (v := .ref h1) (C := RX1) (T := TX1) (N := 7) hx hb hts wi_X1_refine_RX1 hown hK hP 0 rfl rfl 0 (by decide) (hts _ wd288_X1_refine) (fun _ h9 => h9) rfl dX1_refine_42 ?_
  refine lv_iload_n hx hb dX1_refine_45 rfl (lv_at hl 2 rfl) ?_
  refine va_csr (W.runV (As := [.int 2]) (rest := [.ref h0]) ⟨hx, hb, hml, hown, hts⟩ (k_X0_countsOf_1 l D κ ε h1 h4 h5 h6 h7 h8 h9 (0) (p1)) (cwV 1 hts gX1_refine_X0_countsOf rfl rfl rfl (by decide +kernel) ⟨(Nat.le_of_ble_eq_true rfl), (Nat.le_of_ble_eq_true rfl)⟩) (pre0_V (q0 := 1) (ci := 2) (wc := [(h1, .inr (2, [.int 0, .int p1, .ref h4, .ref h5])), (h4, .inl (κ 3, 4, .inr (.inr (.inr (.inr (sel [h6, h7, h8, h9]))))))]) hP hK [1, 4] rfl rfl rfl) rfl rfl hl.1 rfl (lv_room (Nat.le_of_ble_eq_true rfl)) dX1_refine_46 ⟨(Nat.le_of_ble_eq_true rfl), (Nat.le_of_ble_eq_true rfl)⟩) (fun r hw => ?_)
  rw [hw]
  refine lv_iload_n hx hb dX1_refine_49 rfl (lv_at hl 3 rfl) ?_
  have hF := va_free (wc := [(h0, .inr (3, [.ref h1, .int 0, .int 500, .ref h2, .ref h3, .long 0, .int p0])), (h7, .inr (6, [.ref h10, .ref h11, .int 0])), (h3, .inl (κ 0, 13, .inl (fun _ => 0)))]) hD hS hA [0, 5, 3] rfl
  refine va_callv (va_runV (As := [.ref h7, .int 0]) (rest := []) ⟨hx, hb, hml, hown, hts⟩ (k_X1_gather_0 l D κ ε h0 h7 h1 h2 h3 h10 h11 s.heap.size (0) (500) (0) (p0)) (cwV 2 hts gX1_refine_X1_gather rfl rfl rfl (by decide +kernel) ⟨(Nat.le_of_ble_eq_true rfl), (Nat.le_of_ble_eq_true rfl)⟩) (pre2_V (q0 := 0) (ci := 3) (wc := [(h0, .inr (3, [.ref h1, .int 0, .int 500, .ref h2, .ref h3, .long 0, .int p0])), (h7, .inr (6, [.ref h10, .ref h11, .int 0])), (h3, .inl (κ 0, 13, .inl (fun _ => 0)))]) hP hD hK hE9 hS hA [0, 5, 3] (by decide) rfl rfl rfl) rfl rfl hl.1 rfl (lv_room (Nat.le_of_ble_eq_true rfl)) dX1_refine_50 ⟨(Nat.le_of_ble_eq_true rfl), (Nat.le_of_ble_eq_true rfl)⟩) hS (fun q _ h => hF q h) hF (fun u1 t H locs ht hvm hw hB hz1 hk1 hS => ?_)
  try dsimp only at hw hB
  obtain ⟨hP1, hD1⟩ := hB
  rw [ht] at hP1
  obtain ⟨hP, hD⟩ := post_j (ws' := [(h0, .inr (3, [.ref h1, .int 0, .int 500, .ref h2, .ref h3, .long 0, .int 0])), (h1, .inr (2, [.int 0, .int p1, .ref h4, .ref h5])), (h2, .inl (κ 0, 13, .inl (upd (upd (upd (upd (upd (upd (upd (upd (upd (upd (upd (upd (upd (fun _ => 0) 0 1000000) 1 1000000) 2 1000000) 3 1000000) 4 1000000) 5 1000000) 6 1000000) 7 1000000) 8 1000000) 9 1000000) 10 1000000) 11 1000000) 12 1000000))), (h3, .inl (κ 0, 13, .inl (fun _ => 0))), (h4, .inl (κ 3, 4, .inr (.inr (.inr (.inr (sel [h6, h7, h8, h9])))))), (h7, .inr (6, [.ref h10, .ref h11, .int 0]))]) (wr := [(h1, .inr (2, [.int 0, .int p1, .ref h4, .ref h5])), (h2, .inl (κ 0, 13, .inl (upd (upd (upd (upd (upd (upd (upd (upd (upd (upd (upd (upd (upd (fun _ => 0) 0 1000000) 1 1000000) 2 1000000) 3 1000000) 4 1000000) 5 1000000) 6 1000000) 7 1000000) 8 1000000) 9 1000000) 10 1000000) 11 1000000) 12 1000000))), (h4, .inl (κ 3, 4, .inr (.inr (.inr (.inr (sel [h6, h7, h8, h9]))))))]) (w1 := [(h0, .inr (3, [.ref h1, .int 0, .int 500, .ref h2, .ref h3, .long 0, .int 0])), (h7, .inr (6, [.ref h10, .ref h11, .int 0])), (h3, .inl (κ 0, 13, .inl (fun _ => 0)))]) hP hD hF [0, 5, 3] rfl [1, 2, 4] rfl (by decide) (by decide) hk1 hP1 hD1 [3, 0, 1, 5, 2, 4] (by decide) rfl
  have hP : va_P D vwCl [(h0, .inr (3, [.ref h1, .int 0, .int 500, .ref h2, .ref h3, .long 0, .int 0])), (h1, .inr (2, [.int 0, .int p1, .ref h4, .ref h5])), (h2, .inl (κ 0, 13, .inl (upd (upd (upd (upd (upd (upd (upd (upd (upd (upd (upd (upd (upd (fun _ => 0) 0 1000000) 1 1000000) 2 1000000) 3 1000000) 4 1000000) 5 1000000) 6 1000000) 7 1000000) 8 1000000) 9 1000000) 10 1000000) 11 1000000) 12 1000000))), (h3, .inl (κ 0, 13, .inl (fun _ => 0))), (h4, .inl (κ 3, 4, .inr (.inr (.inr (.inr (sel [h6, h7, h8, h9])))))), (h7, .inr (6, [.ref h10, .ref h11, .int 0]))] H := hP
  have hD : va_D A [(h0, .inr (3, [.ref h1, .int 0, .int 500, .ref h2, .ref h3, .long 0, .int 0])), (h1, .inr (2, [.int 0, .int p1, .ref h4, .ref h5])), (h2, .inl (κ 0, 13, .inl (upd (upd (upd (upd (upd (upd (upd (upd (upd (upd (upd (upd (upd (fun _ => 0) 0 1000000) 1 1000000) 2 1000000) 3 1000000) 4 1000000) 5 1000000) 6 1000000) 7 1000000) 8 1000000) 9 1000000) 10 1000000) 11 1000000) 12 1000000))), (h3, .inl (κ 0, 13, .inl (fun _ => 0))), (h4, .inl (κ 3, 4, .inr (.inr (.inr (.inr (sel [h6, h7, h8, h9])))))), (h7, .inr (6, [.ref h10, .ref h11, .int 0]))] := hD
  refine lv_aload_n hx hb dX1_refine_53 rfl (lv_at hl 1 rfl) ?_
  refine va_get (D := D) (ci := 3) (v := .int 0) (C := RX1) (T := TX1) (N := 7) hx hb hts wi_X1_refine_RX1 hown hK hP 0 rfl rfl 1 (by decide) (hts _ wd287_X1_refine) (fun _ h9 => h9) rfl dX1_refine_54 ?_
  refine lv_if_eq (tgt := 70) hx hb dX1_refine_57 (by decide) (fun _ => ?_) (fun h => absurd (by decide) h)
  refine lv_iconst (v := 0) hx hb dX1_refine_70 (by decide) ?_
  refine lv_istore (lv' := [(4, .int 0), (3, .int 0), (0, .ref h0), (1, .int 2), (2, .int 0)]) hx hb dX1_refine_71 hl (by decide) rfl (fun ls hl => ?_)
  refine lv_iload hx hb dX1_refine_73 (lv_at hl 0 rfl) ?_
  refine lv_aload_n hx hb dX1_refine_75 rfl (lv_at hl 2 rfl) ?_
  refine va_get (D := D) (ci := 3) (v := .ref h1) (C := RX1) (T := TX1) (N := 7) hx hb hts wi_X1_refine_RX1 hown hK hP 0 rfl rfl 0 (by decide) (hts _ wd288_X1_refine) (fun _ h9 => h9) rfl dX1_refine_76 ?_
  refine va_get (D := D) (ci := 2) (v := .int 0) (C := RX0) (T := TX0) (N := 4) hx hb hts wi_X1_refine_RX0 hown hK hP 1 rfl rfl 0 (by decide) (hts _ wd289_X1_refine) (fun _ h9 => h9) rfl dX1_refine_79 ?_
  refine lv_icmp_gt (tgt := 119) hx hb dX1_refine_82 (by decide) (fun h => absurd h (by decide)) (fun _ => ?_)
  refine lv_aload_n hx hb dX1_refine_85 rfl (lv_at hl 2 rfl) ?_
  refine va_get (D := D) (ci := 3) (v := .ref h2) (C := RX1) (T := TX1) (N := 7) hx hb hts wi_X1_refine_RX1 hown hK hP 0 rfl rfl 3 (by decide) (hts _ wd290_X1_refine) (fun _ h9 => h9) rfl dX1_refine_86 ?_
  refine lv_iload hx hb dX1_refine_89 (lv_at hl 0 rfl) ?_
  refine lv_aload_n hx hb dX1_refine_91 rfl (lv_at hl 2 rfl) ?_
  refine lv_aload_n hx hb dX1_refine_92 rfl (lv_at hl 2 rfl) ?_
  refine va_get (D := D) (ci := 3) (v := .ref h3) (C := RX1) (T := TX1) (N := 7) hx hb hts wi_X1_refine_RX1 hown hK hP 0 rfl rfl 4 (by decide) (hts _ wd291_X1_refine) (fun _ h9 => h9) rfl dX1_refine_93 ?_
  refine lv_iload hx hb dX1_refine_96 (lv_at hl 0 rfl) ?_
  refine va_iald (cA := κ 0) (n := 13) (f := (fun _ => 0)) hx hb hK hP 3 0 rfl rfl (vpl (by decide)) dX1_refine_98 ?_
  refine tpi (v := 0) (by decide) ?_
  refine lv_i2l (v := 0) hx hb dX1_refine_99 (by decide) ?_
  refine lv_aload_n hx hb dX1_refine_100 rfl (lv_at hl 2 rfl) ?_
  refine va_get (D := D) (ci := 3) (v := .ref h2) (C := RX1) (T := TX1) (N := 7) hx hb hts wi_X1_refine_RX1 hown hK hP 0 rfl rfl 3 (by decide) (hts _ wd290_X1_refine) (fun _ h9 => h9) rfl dX1_refine_101 ?_
  refine lv_iload hx hb dX1_refine_104 (lv_at hl 0 rfl) ?_
  refine va_iald (cA := κ 0) (n := 13) (f := (upd (upd (upd (upd (upd (upd (upd (upd (upd (upd (upd (upd (upd (fun _ => 0) 0 1000000) 1 1000000) 2 1000000) 3 1000000) 4 1000000) 5 1000000) 6 1000000) 7 1000000) 8 1000000) 9 1000000) 10 1000000) 11 1000000) 12 1000000)) hx hb hK hP 2 0 rfl rfl (vpl (by decide)) dX1_refine_106 ?_
  refine tpi (v := 1000000) (by decide) ?_
  refine lv_i2l (v := 1000000) hx hb dX1_refine_107 (by decide) ?_
  refine vp_callSl (W.runV (As := [.long 0, .long 1000000]) (rest := [.int 0, .ref h2]) ⟨hx, hb, hml, hown, hts⟩ (k_X1_blend_0 l D κ ε h0 h1 h2 h3 h4 h5 (0) (p1)) (cwV 2 hts gX1_refine_X1_blend rfl rfl rfl (by decide +kernel) ⟨(Nat.le_of_ble_eq_true rfl), (Nat.le_of_ble_eq_true rfl)⟩) (pre0_V (q0 := 0) (ci := 3) (wc := [(h0, .inr (3, [.ref h1, .int 0, .int 500, .ref h2, .ref h3, .long 0, .int 0])), (h1, .inr (2, [.int 0, .int p1, .ref h4, .ref h5]))]) hP hK [0, 1] rfl rfl rfl) rfl rfl hl.1 rfl (lv_room (Nat.le_of_ble_eq_true rfl)) dX1_refine_108 ⟨(Nat.le_of_ble_eq_true rfl), (Nat.le_of_ble_eq_true rfl)⟩) (fun r hw => ?_)
  rw [hw]
  refine lv_l2i (v := 1000000) hx hb dX1_refine_111 (by decide) ?_
  refine va_iast (cA := κ 0) (n := 13) (f := (upd (upd (upd (upd (upd (upd (upd (upd (upd (upd (upd (upd (upd (fun _ => 0) 0 1000000) 1 1000000) 2 1000000) 3 1000000) 4 1000000) 5 1000000) 6 1000000) 7 1000000) 8 1000000) 9 1000000) 10 1000000) 11 1000000) 12 1000000)) hx hb hK hP hD hS 2 0 rfl rfl (vpl (by decide)) dX1_refine_112 (fun H locs hP hD hS => ?_)
  have hP : va_P D vwCl [(h0, .inr (3, [.ref h1, .int 0, .int 500, .ref h2, .ref h3, .long 0, .int 0])), (h1, .inr (2, [.int 0, .int p1, .ref h4, .ref h5])), (h2, .inl (κ 0, 13, .inl (upd (upd (upd (upd (upd (upd (upd (upd (upd (upd (upd (upd (upd (upd (fun _ => 0) 0 1000000) 1 1000000) 2 1000000) 3 1000000) 4 1000000) 5 1000000) 6 1000000) 7 1000000) 8 1000000) 9 1000000) 10 1000000) 11 1000000) 12 1000000) 0 1000000))), (h3, .inl (κ 0, 13, .inl (fun _ => 0))), (h4, .inl (κ 3, 4, .inr (.inr (.inr (.inr (sel [h6, h7, h8, h9])))))), (h7, .inr (6, [.ref h10, .ref h11, .int 0]))] H := hP
  have hD : va_D A [(h0, .inr (3, [.ref h1, .int 0, .int 500, .ref h2, .ref h3, .long 0, .int 0])), (h1, .inr (2, [.int 0, .int p1, .ref h4, .ref h5])), (h2, .inl (κ 0, 13, .inl (upd (upd (upd (upd (upd (upd (upd (upd (upd (upd (upd (upd (upd (upd (fun _ => 0) 0 1000000) 1 1000000) 2 1000000) 3 1000000) 4 1000000) 5 1000000) 6 1000000) 7 1000000) 8 1000000) 9 1000000) 10 1000000) 11 1000000) 12 1000000) 0 1000000))), (h3, .inl (κ 0, 13, .inl (fun _ => 0))), (h4, .inl (κ 3, 4, .inr (.inr (.inr (.inr (sel [h6, h7, h8, h9])))))), (h7, .inr (6, [.ref h10, .ref h11, .int 0]))] := hD
  refine lv_iinc (v := 1) (lv' := [(4, .int 1), (3, .int 0), (0, .ref h0), (1, .int 2), (2, .int 0)]) hx hb dX1_refine_113 hl (k := 0) rfl (by decide) (by decide) rfl (fun ls hl => ?_)
  refine lv_goto (tgt := 73) hx hb dX1_refine_116 (by decide) ?_
  refine lv_iload hx hb dX1_refine_73 (lv_at hl 0 rfl) ?_
  refine lv_aload_n hx hb dX1_refine_75 rfl (lv_at hl 2 rfl) ?_
  refine va_get (D := D) (ci := 3) (v := .ref h1) (C := RX1) (T := TX1) (N := 7) hx hb hts wi_X1_refine_RX1 hown hK hP 0 rfl rfl 0 (by decide) (hts _ wd288_X1_refine) (fun _ h9 => h9) rfl dX1_refine_76 ?_
  refine va_get (D := D) (ci := 2) (v := .int 0) (C := RX0) (T := TX0) (N := 4) hx hb hts wi_X1_refine_RX0 hown hK hP 1 rfl rfl 0 (by decide) (hts _ wd289_X1_refine) (fun _ h9 => h9) rfl dX1_refine_79 ?_
  refine lv_icmp_gt (tgt := 119) hx hb dX1_refine_82 (by decide) (fun _ => ?_) (fun h => absurd (by decide) h)
  have hP9 := hP
  have hD9 := hD
  exact W.vret hx hb hr (fun t ht hW => ⟨⟨(), rfl, trivial, by rw [ht]; exact hP9, hD9⟩, hS.F ht⟩) hS.2.2 dX1_refine_119

theorem wi_X1_reckon_RX1 : ∀ w ∈ u_ws RX1 TX1 7, w ∈ wsX1_reckon := by decide +kernel

theorem wd292_X1_reckon : (.fieldLink RX1 18 "Canticle$Reckoner" "chances" "[I" : Cond) ∈ wsX1_reckon := by decide +kernel

theorem wd293_X1_reckon : (.constant RX1 36 1000000 : Cond) ∈ wsX1_reckon := by decide +kernel

theorem wd294_X1_reckon : (.fieldLink RX1 32 "Canticle$Reckoner" "ledger" "LCanticle$Ledger;" : Cond) ∈ wsX1_reckon := by decide +kernel

theorem wi_X1_reckon_RX0 : ∀ w ∈ u_ws RX0 TX0 4, w ∈ wsX1_reckon := by decide +kernel

theorem wd295_X1_reckon : (.fieldLink RX1 37 "Canticle$Ledger" "words" "I" : Cond) ∈ wsX1_reckon := by decide +kernel

theorem wd296_X1_reckon : (.fieldLink RX1 9 "Canticle$Reckoner" "way" "I" : Cond) ∈ wsX1_reckon := by decide +kernel

set_option maxHeartbeats 4000000 in
set_option maxRecDepth 100000 in
theorem k_X1_reckon_0 (l : Launch) (D : va_G) (κ ε : Nat → Nat) (h0 h1 h2 h3 h4 h5 h6 h7 h8 h9 h10 h11 : Nat) (sz : Nat) (p0 : Int32) (p1 : Int32) : Met l yX1_reckon wsX1_reckon ({ frames := 3, cells := 0, slots := 0, locals := 72 }) (va_Pc [.ref h0, .int 2, .int 0] (Pre2 D κ ε [(h0, .inr (3, [.ref h1, .int 0, .int 500, .ref h2, .ref h3, .long 0, .int p0])), (h1, .inr (2, [.int 0, .int p1, .ref h4, .ref h5])), (h2, .inl (κ 0, 13, .inl (fun _ => 0))), (h3, .inl (κ 0, 13, .inl (fun _ => 0))), (h4, .inl (κ 3, 4, .inr (.inr (.inr (.inr (sel [h6, h7, h8, h9])))))), (h7, .inr (6, [.ref h10, .ref h11, .int 0]))] sz)) (va_Qv (fun u : Unit => True) (fun u t => va_P D vwCl [(h0, .inr (3, [.ref h1, .int 0, .int 500, .ref h2, .ref h3, .long 0, .int 0])), (h1, .inr (2, [.int 0, .int p1, .ref h4, .ref h5])), (h2, .inl (κ 0, 13, .inl (upd (upd (upd (upd (upd (upd (upd (upd (upd (upd (upd (upd (upd (upd (fun _ => 0) 0 1000000) 1 1000000) 2 1000000) 3 1000000) 4 1000000) 5 1000000) 6 1000000) 7 1000000) 8 1000000) 9 1000000) 10 1000000) 11 1000000) 12 1000000) 0 1000000))), (h3, .inl (κ 0, 13, .inl (fun _ => 0))), (h4, .inl (κ 3, 4, .inr (.inr (.inr (.inr (sel [h6, h7, h8, h9])))))), (h7, .inr (6, [.ref h10, .ref h11, .int 0]))] t.heap ∧ va_D (va_A [(h0, .inr (3, [.ref h1, .int 0, .int 500, .ref h2, .ref h3, .long 0, .int p0])), (h1, .inr (2, [.int 0, .int p1, .ref h4, .ref h5])), (h2, .inl (κ 0, 13, .inl (fun _ => 0))), (h3, .inl (κ 0, 13, .inl (fun _ => 0))), (h4, .inl (κ 3, 4, .inr (.inr (.inr (.inr (sel [h6, h7, h8, h9])))))), (h7, .inr (6, [.ref h10, .ref h11, .int 0]))] sz) [(h0, .inr (3, [.ref h1, .int 0, .int 500, .ref h2, .ref h3, .long 0, .int 0])), (h1, .inr (2, [.int 0, .int p1, .ref h4, .ref h5])), (h2, .inl (κ 0, 13, .inl (upd (upd (upd (upd (upd (upd (upd (upd (upd (upd (upd (upd (upd (upd (fun _ => 0) 0 1000000) 1 1000000) 2 1000000) 3 1000000) 4 1000000) 5 1000000) 6 1000000) 7 1000000) 8 1000000) 9 1000000) 10 1000000) 11 1000000) 12 1000000) 0 1000000))), (h3, .inl (κ 0, 13, .inl (fun _ => 0))), (h4, .inl (κ 3, 4, .inr (.inr (.inr (.inr (sel [h6, h7, h8, h9])))))), (h7, .inr (6, [.ref h10, .ref h11, .int 0]))]) (va_A [(h0, .inr (3, [.ref h1, .int 0, .int 500, .ref h2, .ref h3, .long 0, .int p0])), (h1, .inr (2, [.int 0, .int p1, .ref h4, .ref h5])), (h2, .inl (κ 0, 13, .inl (fun _ => 0))), (h3, .inl (κ 0, 13, .inl (fun _ => 0))), (h4, .inl (κ 3, 4, .inr (.inr (.inr (.inr (sel [h6, h7, h8, h9])))))), (h7, .inr (6, [.ref h10, .ref h11, .int 0]))] sz)) 0 0 (va_A [(h0, .inr (3, [.ref h1, .int 0, .int 500, .ref h2, .ref h3, .long 0, .int p0])), (h1, .inr (2, [.int 0, .int p1, .ref h4, .ref h5])), (h2, .inl (κ 0, 13, .inl (fun _ => 0))), (h3, .inl (κ 0, 13, .inl (fun _ => 0))), (h4, .inl (κ 3, 4, .inr (.inr (.inr (.inr (sel [h6, h7, h8, h9])))))), (h7, .inr (6, [.ref h10, .ref h11, .int 0]))] sz) := by
  refine Met.ofW (cc := cX1_reckon) (maxL := 4) (ret := none) (by decide) rfl ?_
  intro p e s m args below meth c s₁ B hml hv
  obtain ⟨rfl, hsz, hP, hK, hD0, hE9⟩ := hv
  have hx := B.exec
  have hb := B.bytes
  have hr := B.returns
  have hts := atoms_spec (ws := wsX1_reckon) B.pre
  have hown : s.vm.findClass RX1 = some m.cls := findClass_of_methodNamed B.named
  have hlocks := B.notSynchronized
  subst hsz
  have hD := hD0.self (sz := s.heap.size)
  generalize hAe : va_A [(h0, .inr (3, [.ref h1, .int 0, .int 500, .ref h2, .ref h3, .long 0, .int p0])), (h1, .inr (2, [.int 0, .int p1, .ref h4, .ref h5])), (h2, .inl (κ 0, 13, .inl (fun _ => 0))), (h3, .inl (κ 0, 13, .inl (fun _ => 0))), (h4, .inl (κ 3, 4, .inr (.inr (.inr (.inr (sel [h6, h7, h8, h9])))))), (h7, .inr (6, [.ref h10, .ref h11, .int 0]))] s.heap.size = A at hD hE9 ⊢
  have hE := hE9.1
  have hDc := hE9.2
  have hA : ∀ q : Nat, s.heap.size ≤ q → A q := fun q h => by rw [← hAe]; exact Or.inr h
  have hS : va_S A s.heap s.heap [] := va_S.rf
  have hP : va_P D vwCl [(h0, .inr (3, [.ref h1, .int 0, .int 500, .ref h2, .ref h3, .long 0, .int p0])), (h1, .inr (2, [.int 0, .int p1, .ref h4, .ref h5])), (h2, .inl (κ 0, 13, .inl (fun _ => 0))), (h3, .inl (κ 0, 13, .inl (fun _ => 0))), (h4, .inl (κ 3, 4, .inr (.inr (.inr (.inr (sel [h6, h7, h8, h9])))))), (h7, .inr (6, [.ref h10, .ref h11, .int 0]))] s.heap := hP
  have hl := lv_entry [.ref h0, .int 2, .int 0] (n := 4) (Nat.le_of_ble_eq_true rfl)
  rw [lg_entry_eq]
  generalize (lg_sl [.ref h0, .int 2, .int 0] ++ List.replicate (4 - (lg_sl [.ref h0, .int 2, .int 0]).length) Slot.unset).toArray = ls at hl ⊢
  have hl : lv_has ls 4 [(0, .ref h0), (1, .int 2), (2, .int 0)] := hl
  refine lv_aload_n hx hb dX1_reckon_0 rfl (lv_at hl 0 rfl) ?_
  refine va_get (D := D) (ci := 3) (v := .ref h2) (C := RX1) (T := TX1) (N := 7) hx hb hts wi_X1_reckon_RX1 hown hK hP 0 rfl rfl 3 (by decide) (hts _ wd292_X1_reckon) (fun _ h9 => h9) rfl dX1_reckon_1 ?_
  refine lv_ldc (v := 1000000) hx hb hown (hts _ wd293_X1_reckon) dX1_reckon_4 ?_
  refine lv_aload_n hx hb dX1_reckon_6 rfl (lv_at hl 0 rfl) ?_
  refine va_get (D := D) (ci := 3) (v := .ref h1) (C := RX1) (T := TX1) (N := 7) hx hb hts wi_X1_reckon_RX1 hown hK hP 0 rfl rfl 0 (by decide) (hts _ wd294_X1_reckon) (fun _ h9 => h9) rfl dX1_reckon_7 ?_
  refine va_get (D := D) (ci := 2) (v := .int 0) (C := RX0) (T := TX0) (N := 4) hx hb hts wi_X1_reckon_RX0 hown hK hP 1 rfl rfl 0 (by decide) (hts _ wd295_X1_reckon) (fun _ h9 => h9) rfl dX1_reckon_10 ?_
  refine lv_iconst (v := 1) hx hb dX1_reckon_13 (by decide) ?_
  refine lv_iadd hx hb dX1_reckon_14 ?_
  refine tpi (v := 1) (by decide) ?_
  refine lv_idiv hx hb dX1_reckon_15 (by decide) ?_
  refine tpi (v := 1000000) (by decide) ?_
  have hF := va_free (wc := [(h2, .inl (κ 0, 13, .inl (fun _ => 0)))]) hD hS hA [2] rfl
  refine va_callv (va_runS (As := [.ref h2, .int 1000000]) (rest := []) ⟨hx, hb, hml, hown, hts⟩ (k_J7_fill_53178_1 l D κ ε h2 s.heap.size) (va_cwS 2 hts gX1_reckon_J7_fill_53178 rfl rfl rfl (by decide +kernel) ⟨(Nat.le_of_ble_eq_true rfl), (Nat.le_of_ble_eq_true rfl)⟩) (pre2_S (wc := [(h2, .inl (κ 0, 13, .inl (fun _ => 0)))]) hP hD hK hE9 hS hA [2] (by decide) rfl) rfl rfl hl.1 rfl (lv_room (Nat.le_of_ble_eq_true rfl)) dX1_reckon_16 ⟨(Nat.le_of_ble_eq_true rfl), (Nat.le_of_ble_eq_true rfl)⟩) hS (fun q _ h => hF q h) hF (fun u1 t H locs ht hvm hw hB hz1 hk1 hS => ?_)
  try dsimp only at hw hB
  obtain ⟨hP1, hD1⟩ := hB
  rw [ht] at hP1
  obtain ⟨hP, hD⟩ := post_j (ws' := [(h0, .inr (3, [.ref h1, .int 0, .int 500, .ref h2, .ref h3, .long 0, .int p0])), (h1, .inr (2, [.int 0, .int p1, .ref h4, .ref h5])), (h2, .inl (κ 0, 13, .inl (upd (upd (upd (upd (upd (upd (upd (upd (upd (upd (upd (upd (upd (fun _ => 0) 0 1000000) 1 1000000) 2 1000000) 3 1000000) 4 1000000) 5 1000000) 6 1000000) 7 1000000) 8 1000000) 9 1000000) 10 1000000) 11 1000000) 12 1000000))), (h3, .inl (κ 0, 13, .inl (fun _ => 0))), (h4, .inl (κ 3, 4, .inr (.inr (.inr (.inr (sel [h6, h7, h8, h9])))))), (h7, .inr (6, [.ref h10, .ref h11, .int 0]))]) (wr := [(h0, .inr (3, [.ref h1, .int 0, .int 500, .ref h2, .ref h3, .long 0, .int p0])), (h1, .inr (2, [.int 0, .int p1, .ref h4, .ref h5])), (h3, .inl (κ 0, 13, .inl (fun _ => 0))), (h4, .inl (κ 3, 4, .inr (.inr (.inr (.inr (sel [h6, h7, h8, h9])))))), (h7, .inr (6, [.ref h10, .ref h11, .int 0]))]) (w1 := [(h2, .inl (κ 0, 13, .inl (upd (upd (upd (upd (upd (upd (upd (upd (upd (upd (upd (upd (upd (fun _ => 0) 0 1000000) 1 1000000) 2 1000000) 3 1000000) 4 1000000) 5 1000000) 6 1000000) 7 1000000) 8 1000000) 9 1000000) 10 1000000) 11 1000000) 12 1000000)))]) hP hD hF [2] rfl [0, 1, 3, 4, 5] rfl (by decide) (by decide) hk1 hP1 hD1 [0, 1, 5, 2, 3, 4] (by decide) rfl
  have hP : va_P D vwCl [(h0, .inr (3, [.ref h1, .int 0, .int 500, .ref h2, .ref h3, .long 0, .int p0])), (h1, .inr (2, [.int 0, .int p1, .ref h4, .ref h5])), (h2, .inl (κ 0, 13, .inl (upd (upd (upd (upd (upd (upd (upd (upd (upd (upd (upd (upd (upd (fun _ => 0) 0 1000000) 1 1000000) 2 1000000) 3 1000000) 4 1000000) 5 1000000) 6 1000000) 7 1000000) 8 1000000) 9 1000000) 10 1000000) 11 1000000) 12 1000000))), (h3, .inl (κ 0, 13, .inl (fun _ => 0))), (h4, .inl (κ 3, 4, .inr (.inr (.inr (.inr (sel [h6, h7, h8, h9])))))), (h7, .inr (6, [.ref h10, .ref h11, .int 0]))] H := hP
  have hD : va_D A [(h0, .inr (3, [.ref h1, .int 0, .int 500, .ref h2, .ref h3, .long 0, .int p0])), (h1, .inr (2, [.int 0, .int p1, .ref h4, .ref h5])), (h2, .inl (κ 0, 13, .inl (upd (upd (upd (upd (upd (upd (upd (upd (upd (upd (upd (upd (upd (fun _ => 0) 0 1000000) 1 1000000) 2 1000000) 3 1000000) 4 1000000) 5 1000000) 6 1000000) 7 1000000) 8 1000000) 9 1000000) 10 1000000) 11 1000000) 12 1000000))), (h3, .inl (κ 0, 13, .inl (fun _ => 0))), (h4, .inl (κ 3, 4, .inr (.inr (.inr (.inr (sel [h6, h7, h8, h9])))))), (h7, .inr (6, [.ref h10, .ref h11, .int 0]))] := hD
  refine lv_aload_n hx hb dX1_reckon_19 rfl (lv_at hl 0 rfl) ?_
  refine va_get (D := D) (ci := 3) (v := .int 0) (C := RX1) (T := TX1) (N := 7) hx hb hts wi_X1_reckon_RX1 hown hK hP 0 rfl rfl 1 (by decide) (hts _ wd296_X1_reckon) (fun _ h9 => h9) rfl dX1_reckon_20 ?_
  refine lv_if_ne (tgt := 30) hx hb dX1_reckon_23 (by decide) (fun h => absurd (by decide) h) (fun _ => ?_)
  refine lv_iload_n hx hb dX1_reckon_26 rfl (lv_at hl 1 rfl) ?_
  refine lv_goto (tgt := 31) hx hb dX1_reckon_27 (by decide) ?_
  refine lv_istore_n (lv' := [(3, .int 2), (0, .ref h0), (1, .int 2), (2, .int 0)]) hx hb dX1_reckon_31 rfl hl (by decide) rfl (fun ls hl => ?_)
  refine lv_iload_n hx hb dX1_reckon_32 rfl (lv_at hl 0 rfl) ?_
  refine lv_iload_n hx hb dX1_reckon_33 rfl (lv_at hl 2 rfl) ?_
  refine lv_icmp_gt (tgt := 57) hx hb dX1_reckon_34 (by decide) (fun h => absurd h (by decide)) (fun _ => ?_)
  refine lv_aload_n hx hb dX1_reckon_37 rfl (lv_at hl 1 rfl) ?_
  refine lv_iload_n hx hb dX1_reckon_38 rfl (lv_at hl 0 rfl) ?_
  refine lv_iload_n hx hb dX1_reckon_39 rfl (lv_at hl 3 rfl) ?_
  refine va_getsN hx hb hE.2.2.1 hS hown (va_Nw.use rfl hE.2.2.2.2.2.2.2.1) (fun _ h9 => h9) dX1_reckon_40 ?_
  refine lv_iload_n hx hb dX1_reckon_43 rfl (lv_at hl 0 rfl) ?_
  refine lv_iconst (v := 1) hx hb dX1_reckon_44 (by decide) ?_
  refine lv_isub hx hb dX1_reckon_45 ?_
  refine tpi (v := 1) (by decide) ?_
  refine va_ti hx hb hE.2.2.2.1 hS (vpl (by decide)) (v := .int 14) rfl dX1_reckon_46 ?_
  refine lv_irem hx hb dX1_reckon_47 (by decide) ?_
  refine tpi (v := 0) (by decide) ?_
  have hF := va_free (wc := [(h0, .inr (3, [.ref h1, .int 0, .int 500, .ref h2, .ref h3, .long 0, .int p0])), (h1, .inr (2, [.int 0, .int p1, .ref h4, .ref h5])), (h2, .inl (κ 0, 13, .inl (upd (upd (upd (upd (upd (upd (upd (upd (upd (upd (upd (upd (upd (fun _ => 0) 0 1000000) 1 1000000) 2 1000000) 3 1000000) 4 1000000) 5 1000000) 6 1000000) 7 1000000) 8 1000000) 9 1000000) 10 1000000) 11 1000000) 12 1000000))), (h3, .inl (κ 0, 13, .inl (fun _ => 0))), (h4, .inl (κ 3, 4, .inr (.inr (.inr (.inr (sel [h6, h7, h8, h9])))))), (h7, .inr (6, [.ref h10, .ref h11, .int 0]))]) hD hS hA [0, 1, 2, 3, 4, 5] rfl
  refine va_callv (va_runV (As := [.int 2, .int 0]) (rest := []) ⟨hx, hb, hml, hown, hts⟩ (k_X1_refine_0 l D κ ε h0 h1 h2 h3 h4 h5 h6 h7 h8 h9 h10 h11 H.size (p0) (p1)) (cwV 2 hts gX1_reckon_X1_refine rfl rfl rfl (by decide +kernel) ⟨(Nat.le_of_ble_eq_true rfl), (Nat.le_of_ble_eq_true rfl)⟩) (pre2_V (q0 := 0) (ci := 3) (wc := [(h0, .inr (3, [.ref h1, .int 0, .int 500, .ref h2, .ref h3, .long 0, .int p0])), (h1, .inr (2, [.int 0, .int p1, .ref h4, .ref h5])), (h2, .inl (κ 0, 13, .inl (upd (upd (upd (upd (upd (upd (upd (upd (upd (upd (upd (upd (upd (fun _ => 0) 0 1000000) 1 1000000) 2 1000000) 3 1000000) 4 1000000) 5 1000000) 6 1000000) 7 1000000) 8 1000000) 9 1000000) 10 1000000) 11 1000000) 12 1000000))), (h3, .inl (κ 0, 13, .inl (fun _ => 0))), (h4, .inl (κ 3, 4, .inr (.inr (.inr (.inr (sel [h6, h7, h8, h9])))))), (h7, .inr (6, [.ref h10, .ref h11, .int 0]))]) hP hD hK hE9 hS hA [0, 1, 2, 3, 4, 5] (by decide) rfl rfl rfl) rfl rfl hl.1 rfl (lv_room (Nat.le_of_ble_eq_true rfl)) dX1_reckon_48 ⟨(Nat.le_of_ble_eq_true rfl), (Nat.le_of_ble_eq_true rfl)⟩) hS (fun q _ h => hF q h) hF (fun u2 t H locs ht hvm hw hB hz1 hk1 hS => ?_)
  try dsimp only at hw hB
  obtain ⟨hP1, hD1⟩ := hB
  rw [ht] at hP1
  obtain ⟨hP, hD⟩ := post_j (ws' := [(h0, .inr (3, [.ref h1, .int 0, .int 500, .ref h2, .ref h3, .long 0, .int 0])), (h1, .inr (2, [.int 0, .int p1, .ref h4, .ref h5])), (h2, .inl (κ 0, 13, .inl (upd (upd (upd (upd (upd (upd (upd (upd (upd (upd (upd (upd (upd (upd (fun _ => 0) 0 1000000) 1 1000000) 2 1000000) 3 1000000) 4 1000000) 5 1000000) 6 1000000) 7 1000000) 8 1000000) 9 1000000) 10 1000000) 11 1000000) 12 1000000) 0 1000000))), (h3, .inl (κ 0, 13, .inl (fun _ => 0))), (h4, .inl (κ 3, 4, .inr (.inr (.inr (.inr (sel [h6, h7, h8, h9])))))), (h7, .inr (6, [.ref h10, .ref h11, .int 0]))]) (wr := []) (w1 := [(h0, .inr (3, [.ref h1, .int 0, .int 500, .ref h2, .ref h3, .long 0, .int 0])), (h1, .inr (2, [.int 0, .int p1, .ref h4, .ref h5])), (h2, .inl (κ 0, 13, .inl (upd (upd (upd (upd (upd (upd (upd (upd (upd (upd (upd (upd (upd (upd (fun _ => 0) 0 1000000) 1 1000000) 2 1000000) 3 1000000) 4 1000000) 5 1000000) 6 1000000) 7 1000000) 8 1000000) 9 1000000) 10 1000000) 11 1000000) 12 1000000) 0 1000000))), (h3, .inl (κ 0, 13, .inl (fun _ => 0))), (h4, .inl (κ 3, 4, .inr (.inr (.inr (.inr (sel [h6, h7, h8, h9])))))), (h7, .inr (6, [.ref h10, .ref h11, .int 0]))]) hP hD hF [0, 1, 2, 3, 4, 5] rfl [] rfl (by decide) (by decide) hk1 hP1 hD1 [0, 1, 2, 3, 4, 5] (by decide) rfl
  have hP : va_P D vwCl [(h0, .inr (3, [.ref h1, .int 0, .int 500, .ref h2, .ref h3, .long 0, .int 0])), (h1, .inr (2, [.int 0, .int p1, .ref h4, .ref h5])), (h2, .inl (κ 0, 13, .inl (upd (upd (upd (upd (upd (upd (upd (upd (upd (upd (upd (upd (upd (upd (fun _ => 0) 0 1000000) 1 1000000) 2 1000000) 3 1000000) 4 1000000) 5 1000000) 6 1000000) 7 1000000) 8 1000000) 9 1000000) 10 1000000) 11 1000000) 12 1000000) 0 1000000))), (h3, .inl (κ 0, 13, .inl (fun _ => 0))), (h4, .inl (κ 3, 4, .inr (.inr (.inr (.inr (sel [h6, h7, h8, h9])))))), (h7, .inr (6, [.ref h10, .ref h11, .int 0]))] H := hP
  have hD : va_D A [(h0, .inr (3, [.ref h1, .int 0, .int 500, .ref h2, .ref h3, .long 0, .int 0])), (h1, .inr (2, [.int 0, .int p1, .ref h4, .ref h5])), (h2, .inl (κ 0, 13, .inl (upd (upd (upd (upd (upd (upd (upd (upd (upd (upd (upd (upd (upd (upd (fun _ => 0) 0 1000000) 1 1000000) 2 1000000) 3 1000000) 4 1000000) 5 1000000) 6 1000000) 7 1000000) 8 1000000) 9 1000000) 10 1000000) 11 1000000) 12 1000000) 0 1000000))), (h3, .inl (κ 0, 13, .inl (fun _ => 0))), (h4, .inl (κ 3, 4, .inr (.inr (.inr (.inr (sel [h6, h7, h8, h9])))))), (h7, .inr (6, [.ref h10, .ref h11, .int 0]))] := hD
  refine lv_iinc (v := 3) (lv' := [(3, .int 3), (0, .ref h0), (1, .int 2), (2, .int 0)]) hx hb dX1_reckon_51 hl (k := 0) rfl (by decide) (by decide) rfl (fun ls hl => ?_)
  refine lv_goto (tgt := 32) hx hb dX1_reckon_54 (by decide) ?_
  refine lv_iload_n hx hb dX1_reckon_32 rfl (lv_at hl 0 rfl) ?_
  refine lv_iload_n hx hb dX1_reckon_33 rfl (lv_at hl 2 rfl) ?_
  refine lv_icmp_gt (tgt := 57) hx hb dX1_reckon_34 (by decide) (fun _ => ?_) (fun h => absurd (by decide) h)
  have hP9 := hP
  have hD9 := hD
  exact W.vret hx hb hr (fun t ht hW => ⟨⟨(), rfl, trivial, by rw [ht]; exact hP9, hD9⟩, hS.F ht⟩) hS.2.2 dX1_reckon_57

theorem wi_X5_reckonBehindSentence_RX5 : ∀ w ∈ u_ws RX5 TX5 10, w ∈ wsX5_reckonBehindSentence := by decide +kernel

theorem wd297_X5_reckonBehindSentence : (.fieldLink RX5 21 "Canticle" "reckoner" "LCanticle$Reckoner;" : Cond) ∈ wsX5_reckonBehindSentence := by decide +kernel

theorem wd298_X5_reckonBehindSentence : (.fieldLink RX5 10 "Canticle" "ledger" "LCanticle$Ledger;" : Cond) ∈ wsX5_reckonBehindSentence := by decide +kernel

theorem wi_X5_reckonBehindSentence_RX0 : ∀ w ∈ u_ws RX0 TX0 4, w ∈ wsX5_reckonBehindSentence := by decide +kernel

theorem wd299_X5_reckonBehindSentence : (.fieldLink RX5 83 "Canticle$Ledger" "order" "I" : Cond) ∈ wsX5_reckonBehindSentence := by decide +kernel

theorem wd300_X5_reckonBehindSentence : (.fieldLink RX5 51 "Canticle" "length" "I" : Cond) ∈ wsX5_reckonBehindSentence := by decide +kernel

set_option maxHeartbeats 4000000 in
set_option maxRecDepth 100000 in
theorem k_X5_reckonBehindSentence_0 (l : Launch) (D : va_G) (κ ε : Nat → Nat) (h0 h1 h2 h3 h4 h5 h6 h7 h8 h9 h10 h11 h12 h13 h14 h15 h16 : Nat) (sz : Nat) (p0 : Int32) (p1 : Int32) (p2 : Int32) : Met l yX5_reckonBehindSentence wsX5_reckonBehindSentence ({ frames := 4, cells := 0, slots := 0, locals := 95 }) (va_Pc [.ref h0] (Pre2 D κ ε [(h0, .inr (7, [.ref h1, .ref h2, .ref h3, .ref h4, .ref h5, .ref h6, .int 0, .int p0, .int p1, .int 0])), (h1, .inr (2, [.int 0, .int 2, .ref h7, .ref h8])), (h2, .inr (3, [.ref h1, .int 0, .int 500, .ref h9, .ref h10, .long 0, .int p2])), (h7, .inl (κ 3, 4, .inr (.inr (.inr (.inr (sel [h11, h12, h13, h14])))))), (h9, .inl (κ 0, 13, .inl (fun _ => 0))), (h10, .inl (κ 0, 13, .inl (fun _ => 0))), (h12, .inr (6, [.ref h15, .ref h16, .int 0]))] sz)) (va_Qv (fun u : Unit => True) (fun u t => va_P D vwCl [(h0, .inr (7, [.ref h1, .ref h2, .ref h3, .ref h4, .ref h5, .ref h6, .int 0, .int p0, .int p1, .int 0])), (h1, .inr (2, [.int 0, .int 2, .ref h7, .ref h8])), (h2, .inr (3, [.ref h1, .int 0, .int 500, .ref h9, .ref h10, .long 0, .int 0])), (h7, .inl (κ 3, 4, .inr (.inr (.inr (.inr (sel [h11, h12, h13, h14])))))), (h9, .inl (κ 0, 13, .inl (upd (upd (upd (upd (upd (upd (upd (upd (upd (upd (upd (upd (upd (upd (fun _ => 0) 0 1000000) 1 1000000) 2 1000000) 3 1000000) 4 1000000) 5 1000000) 6 1000000) 7 1000000) 8 1000000) 9 1000000) 10 1000000) 11 1000000) 12 1000000) 0 1000000))), (h10, .inl (κ 0, 13, .inl (fun _ => 0))), (h12, .inr (6, [.ref h15, .ref h16, .int 0]))] t.heap ∧ va_D (va_A [(h0, .inr (7, [.ref h1, .ref h2, .ref h3, .ref h4, .ref h5, .ref h6, .int 0, .int p0, .int p1, .int 0])), (h1, .inr (2, [.int 0, .int 2, .ref h7, .ref h8])), (h2, .inr (3, [.ref h1, .int 0, .int 500, .ref h9, .ref h10, .long 0, .int p2])), (h7, .inl (κ 3, 4, .inr (.inr (.inr (.inr (sel [h11, h12, h13, h14])))))), (h9, .inl (κ 0, 13, .inl (fun _ => 0))), (h10, .inl (κ 0, 13, .inl (fun _ => 0))), (h12, .inr (6, [.ref h15, .ref h16, .int 0]))] sz) [(h0, .inr (7, [.ref h1, .ref h2, .ref h3, .ref h4, .ref h5, .ref h6, .int 0, .int p0, .int p1, .int 0])), (h1, .inr (2, [.int 0, .int 2, .ref h7, .ref h8])), (h2, .inr (3, [.ref h1, .int 0, .int 500, .ref h9, .ref h10, .long 0, .int 0])), (h7, .inl (κ 3, 4, .inr (.inr (.inr (.inr (sel [h11, h12, h13, h14])))))), (h9, .inl (κ 0, 13, .inl (upd (upd (upd (upd (upd (upd (upd (upd (upd (upd (upd (upd (upd (upd (fun _ => 0) 0 1000000) 1 1000000) 2 1000000) 3 1000000) 4 1000000) 5 1000000) 6 1000000) 7 1000000) 8 1000000) 9 1000000) 10 1000000) 11 1000000) 12 1000000) 0 1000000))), (h10, .inl (κ 0, 13, .inl (fun _ => 0))), (h12, .inr (6, [.ref h15, .ref h16, .int 0]))]) (va_A [(h0, .inr (7, [.ref h1, .ref h2, .ref h3, .ref h4, .ref h5, .ref h6, .int 0, .int p0, .int p1, .int 0])), (h1, .inr (2, [.int 0, .int 2, .ref h7, .ref h8])), (h2, .inr (3, [.ref h1, .int 0, .int 500, .ref h9, .ref h10, .long 0, .int p2])), (h7, .inl (κ 3, 4, .inr (.inr (.inr (.inr (sel [h11, h12, h13, h14])))))), (h9, .inl (κ 0, 13, .inl (fun _ => 0))), (h10, .inl (κ 0, 13, .inl (fun _ => 0))), (h12, .inr (6, [.ref h15, .ref h16, .int 0]))] sz)) 0 0 (va_A [(h0, .inr (7, [.ref h1, .ref h2, .ref h3, .ref h4, .ref h5, .ref h6, .int 0, .int p0, .int p1, .int 0])), (h1, .inr (2, [.int 0, .int 2, .ref h7, .ref h8])), (h2, .inr (3, [.ref h1, .int 0, .int 500, .ref h9, .ref h10, .long 0, .int p2])), (h7, .inl (κ 3, 4, .inr (.inr (.inr (.inr (sel [h11, h12, h13, h14])))))), (h9, .inl (κ 0, 13, .inl (fun _ => 0))), (h10, .inl (κ 0, 13, .inl (fun _ => 0))), (h12, .inr (6, [.ref h15, .ref h16, .int 0]))] sz) := by
  refine Met.ofW (cc := cX5_reckonBehindSentence) (maxL := 1) (ret := none) (by decide) rfl ?_
  intro p e s m args below meth c s₁ B hml hv
  obtain ⟨rfl, hsz, hP, hK, hD0, hE9⟩ := hv
  have hx := B.exec
  have hb := B.bytes
  have hr := B.returns
  have hts := atoms_spec (ws := wsX5_reckonBehindSentence) B.pre
  have hown : s.vm.findClass RX5 = some m.cls := findClass_of_methodNamed B.named
  have hlocks := B.notSynchronized
  subst hsz
  have hD := hD0.self (sz := s.heap.size)
  generalize hAe : va_A [(h0, .inr (7, [.ref h1, .ref h2, .ref h3, .ref h4, .ref h5, .ref h6, .int 0, .int p0, .int p1, .int 0])), (h1, .inr (2, [.int 0, .int 2, .ref h7, .ref h8])), (h2, .inr (3, [.ref h1, .int 0, .int 500, .ref h9, .ref h10, .long 0, .int p2])), (h7, .inl (κ 3, 4, .inr (.inr (.inr (.inr (sel [h11, h12, h13, h14])))))), (h9, .inl (κ 0, 13, .inl (fun _ => 0))), (h10, .inl (κ 0, 13, .inl (fun _ => 0))), (h12, .inr (6, [.ref h15, .ref h16, .int 0]))] s.heap.size = A at hD hE9 ⊢
  have hE := hE9.1
  have hDc := hE9.2
  have hA : ∀ q : Nat, s.heap.size ≤ q → A q := fun q h => by rw [← hAe]; exact Or.inr h
  have hS : va_S A s.heap s.heap [] := va_S.rf
  have hP : va_P D vwCl [(h0, .inr (7, [.ref h1, .ref h2, .ref h3, .ref h4, .ref h5, .ref h6, .int 0, .int p0, .int p1, .int 0])), (h1, .inr (2, [.int 0, .int 2, .ref h7, .ref h8])), (h2, .inr (3, [.ref h1, .int 0, .int 500, .ref h9, .ref h10, .long 0, .int p2])), (h7, .inl (κ 3, 4, .inr (.inr (.inr (.inr (sel [h11, h12, h13, h14])))))), (h9, .inl (κ 0, 13, .inl (fun _ => 0))), (h10, .inl (κ 0, 13, .inl (fun _ => 0))), (h12, .inr (6, [.ref h15, .ref h16, .int 0]))] s.heap := hP
  have hl := lv_entry [.ref h0] (n := 1) (Nat.le_of_ble_eq_true rfl)
  rw [lg_entry_eq]
  generalize (lg_sl [.ref h0] ++ List.replicate (1 - (lg_sl [.ref h0]).length) Slot.unset).toArray = ls at hl ⊢
  have hl : lv_has ls 1 [(0, .ref h0)] := hl
  refine lv_aload_n hx hb dX5_reckonBehindSentence_0 rfl (lv_at hl 0 rfl) ?_
  refine va_get (D := D) (ci := 7) (v := .ref h2) (C := RX5) (T := TX5) (N := 10) hx hb hts wi_X5_reckonBehindSentence_RX5 hown hK hP 0 rfl rfl 1 (by decide) (hts _ wd297_X5_reckonBehindSentence) (fun _ h9 => h9) rfl dX5_reckonBehindSentence_1 ?_
  refine lv_aload_n hx hb dX5_reckonBehindSentence_4 rfl (lv_at hl 0 rfl) ?_
  refine va_get (D := D) (ci := 7) (v := .ref h1) (C := RX5) (T := TX5) (N := 10) hx hb hts wi_X5_reckonBehindSentence_RX5 hown hK hP 0 rfl rfl 0 (by decide) (hts _ wd298_X5_reckonBehindSentence) (fun _ h9 => h9) rfl dX5_reckonBehindSentence_5 ?_
  refine va_get (D := D) (ci := 2) (v := .int 2) (C := RX0) (T := TX0) (N := 4) hx hb hts wi_X5_reckonBehindSentence_RX0 hown hK hP 1 rfl rfl 1 (by decide) (hts _ wd299_X5_reckonBehindSentence) (fun _ h9 => h9) rfl dX5_reckonBehindSentence_8 ?_
  refine lv_aload_n hx hb dX5_reckonBehindSentence_11 rfl (lv_at hl 0 rfl) ?_
  refine lv_aload_n hx hb dX5_reckonBehindSentence_12 rfl (lv_at hl 0 rfl) ?_
  refine va_get (D := D) (ci := 7) (v := .int 0) (C := RX5) (T := TX5) (N := 10) hx hb hts wi_X5_reckonBehindSentence_RX5 hown hK hP 0 rfl rfl 6 (by decide) (hts _ wd300_X5_reckonBehindSentence) (fun _ h9 => h9) rfl dX5_reckonBehindSentence_13 ?_
  refine lv_iconst (v := 1) hx hb dX5_reckonBehindSentence_16 (by decide) ?_
  refine lv_isub hx hb dX5_reckonBehindSentence_17 ?_
  refine tpi (v := (-1)) (by decide) ?_
  refine lv_aload_n hx hb dX5_reckonBehindSentence_18 rfl (lv_at hl 0 rfl) ?_
  refine va_get (D := D) (ci := 7) (v := .ref h1) (C := RX5) (T := TX5) (N := 10) hx hb hts wi_X5_reckonBehindSentence_RX5 hown hK hP 0 rfl rfl 0 (by decide) (hts _ wd298_X5_reckonBehindSentence) (fun _ h9 => h9) rfl dX5_reckonBehindSentence_19 ?_
  refine va_get (D := D) (ci := 2) (v := .int 2) (C := RX0) (T := TX0) (N := 4) hx hb hts wi_X5_reckonBehindSentence_RX0 hown hK hP 1 rfl rfl 1 (by decide) (hts _ wd299_X5_reckonBehindSentence) (fun _ h9 => h9) rfl dX5_reckonBehindSentence_22 ?_
  refine lv_iconst (v := 1) hx hb dX5_reckonBehindSentence_25 (by decide) ?_
  refine lv_isub hx hb dX5_reckonBehindSentence_26 ?_
  refine tpi (v := 1) (by decide) ?_
  refine vp_callSi (W.runV (As := [.int (-1), .int 1]) (rest := [.int 2, .ref h2]) ⟨hx, hb, hml, hown, hts⟩ (k_X5_keyUpTo_2 l D κ ε h0 h1 h2 h3 h4 h5 h6 (0) (p0) (p1)) (cwV 2 hts gX5_reckonBehindSentence_X5_keyUpTo rfl rfl rfl (by decide +kernel) ⟨(Nat.le_of_ble_eq_true rfl), (Nat.le_of_ble_eq_true rfl)⟩) (pre0_V (q0 := 0) (ci := 7) (wc := [(h0, .inr (7, [.ref h1, .ref h2, .ref h3, .ref h4, .ref h5, .ref h6, .int 0, .int p0, .int p1, .int 0]))]) hP hK [0] rfl rfl rfl) rfl rfl hl.1 rfl (lv_room (Nat.le_of_ble_eq_true rfl)) dX5_reckonBehindSentence_27 ⟨(Nat.le_of_ble_eq_true rfl), (Nat.le_of_ble_eq_true rfl)⟩) (fun r hw => ?_)
  rw [hw]
  have hF := va_free (wc := [(h2, .inr (3, [.ref h1, .int 0, .int 500, .ref h9, .ref h10, .long 0, .int p2])), (h1, .inr (2, [.int 0, .int 2, .ref h7, .ref h8])), (h9, .inl (κ 0, 13, .inl (fun _ => 0))), (h10, .inl (κ 0, 13, .inl (fun _ => 0))), (h7, .inl (κ 3, 4, .inr (.inr (.inr (.inr (sel [h11, h12, h13, h14])))))), (h12, .inr (6, [.ref h15, .ref h16, .int 0]))]) hD hS hA [2, 1, 4, 5, 3, 6] rfl
  refine va_callv (va_runV (As := [.int 2, .int 0]) (rest := []) ⟨hx, hb, hml, hown, hts⟩ (k_X1_reckon_0 l D κ ε h2 h1 h9 h10 h7 h8 h11 h12 h13 h14 h15 h16 s.heap.size (p2) (2)) (cwV 2 hts gX5_reckonBehindSentence_X1_reckon rfl rfl rfl (by decide +kernel) ⟨(Nat.le_of_ble_eq_true rfl), (Nat.le_of_ble_eq_true rfl)⟩) (pre2_V (q0 := 2) (ci := 3) (wc := [(h2, .inr (3, [.ref h1, .int 0, .int 500, .ref h9, .ref h10, .long 0, .int p2])), (h1, .inr (2, [.int 0, .int 2, .ref h7, .ref h8])), (h9, .inl (κ 0, 13, .inl (fun _ => 0))), (h10, .inl (κ 0, 13, .inl (fun _ => 0))), (h7, .inl (κ 3, 4, .inr (.inr (.inr (.inr (sel [h11, h12, h13, h14])))))), (h12, .inr (6, [.ref h15, .ref h16, .int 0]))]) hP hD hK hE9 hS hA [2, 1, 4, 5, 3, 6] (by decide) rfl rfl rfl) rfl rfl hl.1 rfl (lv_room (Nat.le_of_ble_eq_true rfl)) dX5_reckonBehindSentence_30 ⟨(Nat.le_of_ble_eq_true rfl), (Nat.le_of_ble_eq_true rfl)⟩) hS (fun q _ h => hF q h) hF (fun u1 t H locs ht hvm hw hB hz1 hk1 hS => ?_)
  try dsimp only at hw hB
  obtain ⟨hP1, hD1⟩ := hB
  rw [ht] at hP1
  obtain ⟨hP, hD⟩ := post_j (ws' := [(h0, .inr (7, [.ref h1, .ref h2, .ref h3, .ref h4, .ref h5, .ref h6, .int 0, .int p0, .int p1, .int 0])), (h1, .inr (2, [.int 0, .int 2, .ref h7, .ref h8])), (h2, .inr (3, [.ref h1, .int 0, .int 500, .ref h9, .ref h10, .long 0, .int 0])), (h7, .inl (κ 3, 4, .inr (.inr (.inr (.inr (sel [h11, h12, h13, h14])))))), (h9, .inl (κ 0, 13, .inl (upd (upd (upd (upd (upd (upd (upd (upd (upd (upd (upd (upd (upd (upd (fun _ => 0) 0 1000000) 1 1000000) 2 1000000) 3 1000000) 4 1000000) 5 1000000) 6 1000000) 7 1000000) 8 1000000) 9 1000000) 10 1000000) 11 1000000) 12 1000000) 0 1000000))), (h10, .inl (κ 0, 13, .inl (fun _ => 0))), (h12, .inr (6, [.ref h15, .ref h16, .int 0]))]) (wr := [(h0, .inr (7, [.ref h1, .ref h2, .ref h3, .ref h4, .ref h5, .ref h6, .int 0, .int p0, .int p1, .int 0]))]) (w1 := [(h2, .inr (3, [.ref h1, .int 0, .int 500, .ref h9, .ref h10, .long 0, .int 0])), (h1, .inr (2, [.int 0, .int 2, .ref h7, .ref h8])), (h9, .inl (κ 0, 13, .inl (upd (upd (upd (upd (upd (upd (upd (upd (upd (upd (upd (upd (upd (upd (fun _ => 0) 0 1000000) 1 1000000) 2 1000000) 3 1000000) 4 1000000) 5 1000000) 6 1000000) 7 1000000) 8 1000000) 9 1000000) 10 1000000) 11 1000000) 12 1000000) 0 1000000))), (h10, .inl (κ 0, 13, .inl (fun _ => 0))), (h7, .inl (κ 3, 4, .inr (.inr (.inr (.inr (sel [h11, h12, h13, h14])))))), (h12, .inr (6, [.ref h15, .ref h16, .int 0]))]) hP hD hF [2, 1, 4, 5, 3, 6] rfl [0] rfl (by decide) (by decide) hk1 hP1 hD1 [0, 2, 1, 5, 3, 4, 6] (by decide) rfl
  have hP : va_P D vwCl [(h0, .inr (7, [.ref h1, .ref h2, .ref h3, .ref h4, .ref h5, .ref h6, .int 0, .int p0, .int p1, .int 0])), (h1, .inr (2, [.int 0, .int 2, .ref h7, .ref h8])), (h2, .inr (3, [.ref h1, .int 0, .int 500, .ref h9, .ref h10, .long 0, .int 0])), (h7, .inl (κ 3, 4, .inr (.inr (.inr (.inr (sel [h11, h12, h13, h14])))))), (h9, .inl (κ 0, 13, .inl (upd (upd (upd (upd (upd (upd (upd (upd (upd (upd (upd (upd (upd (upd (fun _ => 0) 0 1000000) 1 1000000) 2 1000000) 3 1000000) 4 1000000) 5 1000000) 6 1000000) 7 1000000) 8 1000000) 9 1000000) 10 1000000) 11 1000000) 12 1000000) 0 1000000))), (h10, .inl (κ 0, 13, .inl (fun _ => 0))), (h12, .inr (6, [.ref h15, .ref h16, .int 0]))] H := hP
  have hD : va_D A [(h0, .inr (7, [.ref h1, .ref h2, .ref h3, .ref h4, .ref h5, .ref h6, .int 0, .int p0, .int p1, .int 0])), (h1, .inr (2, [.int 0, .int 2, .ref h7, .ref h8])), (h2, .inr (3, [.ref h1, .int 0, .int 500, .ref h9, .ref h10, .long 0, .int 0])), (h7, .inl (κ 3, 4, .inr (.inr (.inr (.inr (sel [h11, h12, h13, h14])))))), (h9, .inl (κ 0, 13, .inl (upd (upd (upd (upd (upd (upd (upd (upd (upd (upd (upd (upd (upd (upd (fun _ => 0) 0 1000000) 1 1000000) 2 1000000) 3 1000000) 4 1000000) 5 1000000) 6 1000000) 7 1000000) 8 1000000) 9 1000000) 10 1000000) 11 1000000) 12 1000000) 0 1000000))), (h10, .inl (κ 0, 13, .inl (fun _ => 0))), (h12, .inr (6, [.ref h15, .ref h16, .int 0]))] := hD
  have hP9 := hP
  have hD9 := hD
  exact W.vret hx hb hr (fun t ht hW => ⟨⟨(), rfl, trivial, by rw [ht]; exact hP9, hD9⟩, hS.F ht⟩) hS.2.2 dX5_reckonBehindSentence_33

theorem wi_X5_chance_RX5 : ∀ w ∈ u_ws RX5 TX5 10, w ∈ wsX5_chance := by decide +kernel

theorem wd301_X5_chance : (.fieldLink RX5 10 "Canticle" "ledger" "LCanticle$Ledger;" : Cond) ∈ wsX5_chance := by decide +kernel

theorem wi_X5_chance_RX0 : ∀ w ∈ u_ws RX0 TX0 4, w ∈ wsX5_chance := by decide +kernel

theorem wd302_X5_chance : (.fieldLink RX5 65 "Canticle$Ledger" "words" "I" : Cond) ∈ wsX5_chance := by decide +kernel

theorem wd303_X5_chance : (.fieldLink RX5 21 "Canticle" "reckoner" "LCanticle$Reckoner;" : Cond) ∈ wsX5_chance := by decide +kernel

theorem wi_X5_chance_RX1 : ∀ w ∈ u_ws RX1 TX1 7, w ∈ wsX5_chance := by decide +kernel

theorem wd304_X5_chance : (.fieldLink RX5 186 "Canticle$Reckoner" "chances" "[I" : Cond) ∈ wsX5_chance := by decide +kernel

set_option maxHeartbeats 4000000 in
set_option maxRecDepth 100000 in
theorem k_X5_chance_0 (l : Launch) (D : va_G) (κ ε : Nat → Nat) (h0 h1 h2 h3 h4 h5 h6 h7 h8 h9 h10 h11 h12 h13 h14 h15 h16 : Nat) (sz : Nat) : Met l yX5_chance wsX5_chance ({ frames := 5, cells := 0, slots := 0, locals := 115 }) (va_Pc [.ref h0, .int 0] (Pre2 D κ ε [(h0, .inr (7, [.ref h1, .ref h2, .ref h3, .ref h4, .ref h5, .ref h6, .int 0, .int 0, .int 0, .int 0])), (h1, .inr (2, [.int 0, .int 2, .ref h7, .ref h8])), (h2, .inr (3, [.ref h1, .int 0, .int 500, .ref h9, .ref h10, .long 0, .int 0])), (h7, .inl (κ 3, 4, .inr (.inr (.inr (.inr (sel [h11, h12, h13, h14])))))), (h9, .inl (κ 0, 13, .inl (fun _ => 0))), (h10, .inl (κ 0, 13, .inl (fun _ => 0))), (h12, .inr (6, [.ref h15, .ref h16, .int 0]))] sz)) (va_Qi (fun r (u : Unit) => (r = 1000000)) (fun _ _ => True) (va_A [(h0, .inr (7, [.ref h1, .ref h2, .ref h3, .ref h4, .ref h5, .ref h6, .int 0, .int 0, .int 0, .int 0])), (h1, .inr (2, [.int 0, .int 2, .ref h7, .ref h8])), (h2, .inr (3, [.ref h1, .int 0, .int 500, .ref h9, .ref h10, .long 0, .int 0])), (h7, .inl (κ 3, 4, .inr (.inr (.inr (.inr (sel [h11, h12, h13, h14])))))), (h9, .inl (κ 0, 13, .inl (fun _ => 0))), (h10, .inl (κ 0, 13, .inl (fun _ => 0))), (h12, .inr (6, [.ref h15, .ref h16, .int 0]))] sz)) 0 0 (va_A [(h0, .inr (7, [.ref h1, .ref h2, .ref h3, .ref h4, .ref h5, .ref h6, .int 0, .int 0, .int 0, .int 0])), (h1, .inr (2, [.int 0, .int 2, .ref h7, .ref h8])), (h2, .inr (3, [.ref h1, .int 0, .int 500, .ref h9, .ref h10, .long 0, .int 0])), (h7, .inl (κ 3, 4, .inr (.inr (.inr (.inr (sel [h11, h12, h13, h14])))))), (h9, .inl (κ 0, 13, .inl (fun _ => 0))), (h10, .inl (κ 0, 13, .inl (fun _ => 0))), (h12, .inr (6, [.ref h15, .ref h16, .int 0]))] sz) := by
  refine Met.ofW (cc := cX5_chance) (maxL := 2) (ret := (some .int)) (by decide) rfl ?_
  intro p e s m args below meth c s₁ B hml hv
  obtain ⟨rfl, hsz, hP, hK, hD0, hE9⟩ := hv
  have hx := B.exec
  have hb := B.bytes
  have hr := B.returns
  have hts := atoms_spec (ws := wsX5_chance) B.pre
  have hown : s.vm.findClass RX5 = some m.cls := findClass_of_methodNamed B.named
  have hlocks := B.notSynchronized
  subst hsz
  have hD := hD0.self (sz := s.heap.size)
  generalize hAe : va_A [(h0, .inr (7, [.ref h1, .ref h2, .ref h3, .ref h4, .ref h5, .ref h6, .int 0, .int 0, .int 0, .int 0])), (h1, .inr (2, [.int 0, .int 2, .ref h7, .ref h8])), (h2, .inr (3, [.ref h1, .int 0, .int 500, .ref h9, .ref h10, .long 0, .int 0])), (h7, .inl (κ 3, 4, .inr (.inr (.inr (.inr (sel [h11, h12, h13, h14])))))), (h9, .inl (κ 0, 13, .inl (fun _ => 0))), (h10, .inl (κ 0, 13, .inl (fun _ => 0))), (h12, .inr (6, [.ref h15, .ref h16, .int 0]))] s.heap.size = A at hD hE9 ⊢
  have hE := hE9.1
  have hDc := hE9.2
  have hA : ∀ q : Nat, s.heap.size ≤ q → A q := fun q h => by rw [← hAe]; exact Or.inr h
  have hS : va_S A s.heap s.heap [] := va_S.rf
  have hP : va_P D vwCl [(h0, .inr (7, [.ref h1, .ref h2, .ref h3, .ref h4, .ref h5, .ref h6, .int 0, .int 0, .int 0, .int 0])), (h1, .inr (2, [.int 0, .int 2, .ref h7, .ref h8])), (h2, .inr (3, [.ref h1, .int 0, .int 500, .ref h9, .ref h10, .long 0, .int 0])), (h7, .inl (κ 3, 4, .inr (.inr (.inr (.inr (sel [h11, h12, h13, h14])))))), (h9, .inl (κ 0, 13, .inl (fun _ => 0))), (h10, .inl (κ 0, 13, .inl (fun _ => 0))), (h12, .inr (6, [.ref h15, .ref h16, .int 0]))] s.heap := hP
  have hl := lv_entry [.ref h0, .int 0] (n := 2) (Nat.le_of_ble_eq_true rfl)
  rw [lg_entry_eq]
  generalize (lg_sl [.ref h0, .int 0] ++ List.replicate (2 - (lg_sl [.ref h0, .int 0]).length) Slot.unset).toArray = ls at hl ⊢
  have hl : lv_has ls 2 [(0, .ref h0), (1, .int 0)] := hl
  refine lv_iload_n hx hb dX5_chance_0 rfl (lv_at hl 1 rfl) ?_
  refine lv_if_lt (tgt := 15) hx hb dX5_chance_1 (by decide) (fun h => absurd h (by decide)) (fun _ => ?_)
  refine lv_iload_n hx hb dX5_chance_4 rfl (lv_at hl 1 rfl) ?_
  refine lv_aload_n hx hb dX5_chance_5 rfl (lv_at hl 0 rfl) ?_
  refine va_get (D := D) (ci := 7) (v := .ref h1) (C := RX5) (T := TX5) (N := 10) hx hb hts wi_X5_chance_RX5 hown hK hP 0 rfl rfl 0 (by decide) (hts _ wd301_X5_chance) (fun _ h9 => h9) rfl dX5_chance_6 ?_
  refine va_get (D := D) (ci := 2) (v := .int 0) (C := RX0) (T := TX0) (N := 4) hx hb hts wi_X5_chance_RX0 hown hK hP 1 rfl rfl 0 (by decide) (hts _ wd302_X5_chance) (fun _ h9 => h9) rfl dX5_chance_9 ?_
  refine lv_icmp_le (tgt := 25) hx hb dX5_chance_12 (by decide) (fun _ => ?_) (fun h => absurd (by decide) h)
  refine lv_aload_n hx hb dX5_chance_25 rfl (lv_at hl 0 rfl) ?_
  have hF := va_free (wc := [(h0, .inr (7, [.ref h1, .ref h2, .ref h3, .ref h4, .ref h5, .ref h6, .int 0, .int 0, .int 0, .int 0])), (h1, .inr (2, [.int 0, .int 2, .ref h7, .ref h8])), (h2, .inr (3, [.ref h1, .int 0, .int 500, .ref h9, .ref h10, .long 0, .int 0])), (h7, .inl (κ 3, 4, .inr (.inr (.inr (.inr (sel [h11, h12, h13, h14])))))), (h9, .inl (κ 0, 13, .inl (fun _ => 0))), (h10, .inl (κ 0, 13, .inl (fun _ => 0))), (h12, .inr (6, [.ref h15, .ref h16, .int 0]))]) hD hS hA [0, 1, 2, 3, 4, 5, 6] rfl
  refine va_callv (va_runV (As := []) (rest := []) ⟨hx, hb, hml, hown, hts⟩ (k_X5_reckonBehindSentence_0 l D κ ε h0 h1 h2 h3 h4 h5 h6 h7 h8 h9 h10 h11 h12 h13 h14 h15 h16 s.heap.size (0) (0) (0)) (cwV 0 hts gX5_chance_X5_reckonBehindSentence rfl rfl rfl (by decide +kernel) ⟨(Nat.le_of_ble_eq_true rfl), (Nat.le_of_ble_eq_true rfl)⟩) (pre2_V (q0 := 0) (ci := 7) (wc := [(h0, .inr (7, [.ref h1, .ref h2, .ref h3, .ref h4, .ref h5, .ref h6, .int 0, .int 0, .int 0, .int 0])), (h1, .inr (2, [.int 0, .int 2, .ref h7, .ref h8])), (h2, .inr (3, [.ref h1, .int 0, .int 500, .ref h9, .ref h10, .long 0, .int 0])), (h7, .inl (κ 3, 4, .inr (.inr (.inr (.inr (sel [h11, h12, h13, h14])))))), (h9, .inl (κ 0, 13, .inl (fun _ => 0))), (h10, .inl (κ 0, 13, .inl (fun _ => 0))), (h12, .inr (6, [.ref h15, .ref h16, .int 0]))]) hP hD hK hE9 hS hA [0, 1, 2, 3, 4, 5, 6] (by decide) rfl rfl rfl) rfl rfl hl.1 rfl (lv_room (Nat.le_of_ble_eq_true rfl)) dX5_chance_26 ⟨(Nat.le_of_ble_eq_true rfl), (Nat.le_of_ble_eq_true rfl)⟩) hS (fun q _ h => hF q h) hF (fun u1 t H locs ht hvm hw hB hz1 hk1 hS => ?_)
  try dsimp only at hw hB
  obtain ⟨hP1, hD1⟩ := hB
  rw [ht] at hP1
  obtain ⟨hP, hD⟩ := post_j (ws' := [(h0, .inr (7, [.ref h1, .ref h2, .ref h3, .ref h4, .ref h5, .ref h6, .int 0, .int 0, .int 0, .int 0])), (h1, .inr (2, [.int 0, .int 2, .ref h7, .ref h8])), (h2, .inr (3, [.ref h1, .int 0, .int 500, .ref h9, .ref h10, .long 0, .int 0])), (h7, .inl (κ 3, 4, .inr (.inr (.inr (.inr (sel [h11, h12, h13, h14])))))), (h9, .inl (κ 0, 13, .inl (upd (upd (upd (upd (upd (upd (upd (upd (upd (upd (upd (upd (upd (upd (fun _ => 0) 0 1000000) 1 1000000) 2 1000000) 3 1000000) 4 1000000) 5 1000000) 6 1000000) 7 1000000) 8 1000000) 9 1000000) 10 1000000) 11 1000000) 12 1000000) 0 1000000))), (h10, .inl (κ 0, 13, .inl (fun _ => 0))), (h12, .inr (6, [.ref h15, .ref h16, .int 0]))]) (wr := []) (w1 := [(h0, .inr (7, [.ref h1, .ref h2, .ref h3, .ref h4, .ref h5, .ref h6, .int 0, .int 0, .int 0, .int 0])), (h1, .inr (2, [.int 0, .int 2, .ref h7, .ref h8])), (h2, .inr (3, [.ref h1, .int 0, .int 500, .ref h9, .ref h10, .long 0, .int 0])), (h7, .inl (κ 3, 4, .inr (.inr (.inr (.inr (sel [h11, h12, h13, h14])))))), (h9, .inl (κ 0, 13, .inl (upd (upd (upd (upd (upd (upd (upd (upd (upd (upd (upd (upd (upd (upd (fun _ => 0) 0 1000000) 1 1000000) 2 1000000) 3 1000000) 4 1000000) 5 1000000) 6 1000000) 7 1000000) 8 1000000) 9 1000000) 10 1000000) 11 1000000) 12 1000000) 0 1000000))), (h10, .inl (κ 0, 13, .inl (fun _ => 0))), (h12, .inr (6, [.ref h15, .ref h16, .int 0]))]) hP hD hF [0, 1, 2, 3, 4, 5, 6] rfl [] rfl (by decide) (by decide) hk1 hP1 hD1 [0, 1, 2, 3, 4, 5, 6] (by decide) rfl
  have hP : va_P D vwCl [(h0, .inr (7, [.ref h1, .ref h2, .ref h3, .ref h4, .ref h5, .ref h6, .int 0, .int 0, .int 0, .int 0])), (h1, .inr (2, [.int 0, .int 2, .ref h7, .ref h8])), (h2, .inr (3, [.ref h1, .int 0, .int 500, .ref h9, .ref h10, .long 0, .int 0])), (h7, .inl (κ 3, 4, .inr (.inr (.inr (.inr (sel [h11, h12, h13, h14])))))), (h9, .inl (κ 0, 13, .inl (upd (upd (upd (upd (upd (upd (upd (upd (upd (upd (upd (upd (upd (upd (fun _ => 0) 0 1000000) 1 1000000) 2 1000000) 3 1000000) 4 1000000) 5 1000000) 6 1000000) 7 1000000) 8 1000000) 9 1000000) 10 1000000) 11 1000000) 12 1000000) 0 1000000))), (h10, .inl (κ 0, 13, .inl (fun _ => 0))), (h12, .inr (6, [.ref h15, .ref h16, .int 0]))] H := hP
  have hD : va_D A [(h0, .inr (7, [.ref h1, .ref h2, .ref h3, .ref h4, .ref h5, .ref h6, .int 0, .int 0, .int 0, .int 0])), (h1, .inr (2, [.int 0, .int 2, .ref h7, .ref h8])), (h2, .inr (3, [.ref h1, .int 0, .int 500, .ref h9, .ref h10, .long 0, .int 0])), (h7, .inl (κ 3, 4, .inr (.inr (.inr (.inr (sel [h11, h12, h13, h14])))))), (h9, .inl (κ 0, 13, .inl (upd (upd (upd (upd (upd (upd (upd (upd (upd (upd (upd (upd (upd (upd (fun _ => 0) 0 1000000) 1 1000000) 2 1000000) 3 1000000) 4 1000000) 5 1000000) 6 1000000) 7 1000000) 8 1000000) 9 1000000) 10 1000000) 11 1000000) 12 1000000) 0 1000000))), (h10, .inl (κ 0, 13, .inl (fun _ => 0))), (h12, .inr (6, [.ref h15, .ref h16, .int 0]))] := hD
  refine lv_aload_n hx hb dX5_chance_29 rfl (lv_at hl 0 rfl) ?_
  refine va_get (D := D) (ci := 7) (v := .ref h2) (C := RX5) (T := TX5) (N := 10) hx hb hts wi_X5_chance_RX5 hown hK hP 0 rfl rfl 1 (by decide) (hts _ wd303_X5_chance) (fun _ h9 => h9) rfl dX5_chance_30 ?_
  refine va_get (D := D) (ci := 3) (v := .ref h9) (C := RX1) (T := TX1) (N := 7) hx hb hts wi_X5_chance_RX1 hown hK hP 2 rfl rfl 3 (by decide) (hts _ wd304_X5_chance) (fun _ h9 => h9) rfl dX5_chance_33 ?_
  refine lv_iload_n hx hb dX5_chance_36 rfl (lv_at hl 1 rfl) ?_
  refine va_iald (cA := κ 0) (n := 13) (f := (upd (upd (upd (upd (upd (upd (upd (upd (upd (upd (upd (upd (upd (upd (fun _ => 0) 0 1000000) 1 1000000) 2 1000000) 3 1000000) 4 1000000) 5 1000000) 6 1000000) 7 1000000) 8 1000000) 9 1000000) 10 1000000) 11 1000000) 12 1000000) 0 1000000)) hx hb hK hP 4 0 rfl rfl (vpl (by decide)) dX5_chance_37 ?_
  refine tpi (v := 1000000) (by decide) ?_
  exact W.iret (v := 1000000) hx hb hr (fun t ht hW => ⟨⟨1000000, (), rfl, rfl, trivial⟩, hS.F ht⟩) hS.2.2 dX5_chance_38

set_option maxHeartbeats 4000000 in
set_option maxRecDepth 100000 in
theorem k_L_chance_0 (l : Launch) (hst : l.stackTraces = false) (D : va_G) (κ ε : Nat → Nat) (h0 h1 h2 h3 h4 h5 h6 h7 h8 h9 h10 h11 h12 h13 h14 h15 h16 h17 : Nat) (sz : Nat) : Met l yL_chance wsL_chance ({ frames := 6, cells := 0, slots := 0, locals := 136 }) (va_Pc [.ref h0, .int 0, .ref h1] (Pre2 D κ ε [(h0, .inr (7, [.ref h2, .ref h3, .ref h4, .ref h5, .ref h6, .ref h7, .int 0, .int 0, .int 0, .int 0])), (h1, .inl (κ 2, 1, .inr (.inl (fun _ => 0)))), (h2, .inr (2, [.int 0, .int 2, .ref h8, .ref h9])), (h3, .inr (3, [.ref h2, .int 0, .int 500, .ref h10, .ref h11, .long 0, .int 0])), (h8, .inl (κ 3, 4, .inr (.inr (.inr (.inr (sel [h12, h13, h14, h15])))))), (h10, .inl (κ 0, 13, .inl (fun _ => 0))), (h11, .inl (κ 0, 13, .inl (fun _ => 0))), (h13, .inr (6, [.ref h16, .ref h17, .int 0]))] sz)) (va_Qi (fun r (u : Nat → Int64) => (u 0 = 1000000) ∧ (r = 0)) (fun u t => va_P D vwCl [(h1, .inl (κ 2, 1, .inr (.inl u)))] t.heap ∧ va_D (va_A [(h0, .inr (7, [.ref h2, .ref h3, .ref h4, .ref h5, .ref h6, .ref h7, .int 0, .int 0, .int 0, .int 0])), (h1, .inl (κ 2, 1, .inr (.inl (fun _ => 0)))), (h2, .inr (2, [.int 0, .int 2, .ref h8, .ref h9])), (h3, .inr (3, [.ref h2, .int 0, .int 500, .ref h10, .ref h11, .long 0, .int 0])), (h8, .inl (κ 3, 4, .inr (.inr (.inr (.inr (sel [h12, h13, h14, h15])))))), (h10, .inl (κ 0, 13, .inl (fun _ => 0))), (h11, .inl (κ 0, 13, .inl (fun _ => 0))), (h13, .inr (6, [.ref h16, .ref h17, .int 0]))] sz) [(h1, .inl (κ 2, 1, .inr (.inl u)))]) (va_A [(h0, .inr (7, [.ref h2, .ref h3, .ref h4, .ref h5, .ref h6, .ref h7, .int 0, .int 0, .int 0, .int 0])), (h1, .inl (κ 2, 1, .inr (.inl (fun _ => 0)))), (h2, .inr (2, [.int 0, .int 2, .ref h8, .ref h9])), (h3, .inr (3, [.ref h2, .int 0, .int 500, .ref h10, .ref h11, .long 0, .int 0])), (h8, .inl (κ 3, 4, .inr (.inr (.inr (.inr (sel [h12, h13, h14, h15])))))), (h10, .inl (κ 0, 13, .inl (fun _ => 0))), (h11, .inl (κ 0, 13, .inl (fun _ => 0))), (h13, .inr (6, [.ref h16, .ref h17, .int 0]))] sz)) 0 0 (va_A [(h0, .inr (7, [.ref h2, .ref h3, .ref h4, .ref h5, .ref h6, .ref h7, .int 0, .int 0, .int 0, .int 0])), (h1, .inl (κ 2, 1, .inr (.inl (fun _ => 0)))), (h2, .inr (2, [.int 0, .int 2, .ref h8, .ref h9])), (h3, .inr (3, [.ref h2, .int 0, .int 500, .ref h10, .ref h11, .long 0, .int 0])), (h8, .inl (κ 3, 4, .inr (.inr (.inr (.inr (sel [h12, h13, h14, h15])))))), (h10, .inl (κ 0, 13, .inl (fun _ => 0))), (h11, .inl (κ 0, 13, .inl (fun _ => 0))), (h13, .inr (6, [.ref h16, .ref h17, .int 0]))] sz) := by
  refine va_MetW (cc := cL_chance) (maxL := 4) (ret := (some .int)) (hh := [(0, 9, 12, 24)]) (by decide) rfl ?_
  intro p e s m args below meth c s₁ B hml hv
  obtain ⟨rfl, hsz, hP, hK, hD0, hE9⟩ := hv
  have hx := B.exec
  have hb := B.bytes
  have hr := B.returns
  have hts := atoms_spec (ws := wsL_chance) B.pre
  have hown : s.vm.findClass RL = some m.cls := findClass_of_methodNamed B.named
  have hlocks := B.notSynchronized
  have htab : c.exceptionTable.toList = tableOf [(0, 9, 12, 24)] := vx_table (x := yL_chance) B (hts (.codeWith yL_chance cL_chance 4 (some .int) [(0, 9, 12, 24)]) List.mem_cons_self)
  subst hsz
  have hD := hD0.self (sz := s.heap.size)
  generalize hAe : va_A [(h0, .inr (7, [.ref h2, .ref h3, .ref h4, .ref h5, .ref h6, .ref h7, .int 0, .int 0, .int 0, .int 0])), (h1, .inl (κ 2, 1, .inr (.inl (fun _ => 0)))), (h2, .inr (2, [.int 0, .int 2, .ref h8, .ref h9])), (h3, .inr (3, [.ref h2, .int 0, .int 500, .ref h10, .ref h11, .long 0, .int 0])), (h8, .inl (κ 3, 4, .inr (.inr (.inr (.inr (sel [h12, h13, h14, h15])))))), (h10, .inl (κ 0, 13, .inl (fun _ => 0))), (h11, .inl (κ 0, 13, .inl (fun _ => 0))), (h13, .inr (6, [.ref h16, .ref h17, .int 0]))] s.heap.size = A at hD hE9 ⊢
  have hE := hE9.1
  have hDc := hE9.2
  have hA : ∀ q : Nat, s.heap.size ≤ q → A q := fun q h => by rw [← hAe]; exact Or.inr h
  have hS : va_S A s.heap s.heap [] := va_S.rf
  have hP : va_P D vwCl [(h0, .inr (7, [.ref h2, .ref h3, .ref h4, .ref h5, .ref h6, .ref h7, .int 0, .int 0, .int 0, .int 0])), (h1, .inl (κ 2, 1, .inr (.inl (fun _ => 0)))), (h2, .inr (2, [.int 0, .int 2, .ref h8, .ref h9])), (h3, .inr (3, [.ref h2, .int 0, .int 500, .ref h10, .ref h11, .long 0, .int 0])), (h8, .inl (κ 3, 4, .inr (.inr (.inr (.inr (sel [h12, h13, h14, h15])))))), (h10, .inl (κ 0, 13, .inl (fun _ => 0))), (h11, .inl (κ 0, 13, .inl (fun _ => 0))), (h13, .inr (6, [.ref h16, .ref h17, .int 0]))] s.heap := hP
  have hl := lv_entry [.ref h0, .int 0, .ref h1] (n := 4) (Nat.le_of_ble_eq_true rfl)
  rw [lg_entry_eq]
  generalize (lg_sl [.ref h0, .int 0, .ref h1] ++ List.replicate (4 - (lg_sl [.ref h0, .int 0, .ref h1]).length) Slot.unset).toArray = ls at hl ⊢
  have hl : lv_has ls 4 [(0, .ref h0), (1, .int 0), (2, .ref h1)] := hl
  refine lv_aload_n hx hb dL_chance_0 rfl (lv_at hl 2 rfl) ?_
  refine lv_iconst (v := 0) hx hb dL_chance_1 (by decide) ?_
  refine lv_aload_n hx hb dL_chance_2 rfl (lv_at hl 0 rfl) ?_
  refine lv_iload_n hx hb dL_chance_3 rfl (lv_at hl 1 rfl) ?_
  have hF := va_free (wc := [(h0, .inr (7, [.ref h2, .ref h3, .ref h4, .ref h5, .ref h6, .ref h7, .int 0, .int 0, .int 0, .int 0])), (h2, .inr (2, [.int 0, .int 2, .ref h8, .ref h9])), (h3, .inr (3, [.ref h2, .int 0, .int 500, .ref h10, .ref h11, .long 0, .int 0])), (h8, .inl (κ 3, 4, .inr (.inr (.inr (.inr (sel [h12, h13, h14, h15])))))), (h10, .inl (κ 0, 13, .inl (fun _ => 0))), (h11, .inl (κ 0, 13, .inl (fun _ => 0))), (h13, .inr (6, [.ref h16, .ref h17, .int 0]))]) hD hS hA [0, 2, 3, 4, 5, 6, 7] rfl
  refine va_calli (va_runV (As := [.int 0]) (rest := [.int 0, .ref h1]) ⟨hx, hb, hml, hown, hts⟩ (k_X5_chance_0 l D κ ε h0 h2 h3 h4 h5 h6 h7 h8 h9 h10 h11 h12 h13 h14 h15 h16 h17 s.heap.size) (cwV 1 hts gL_chance_X5_chance rfl rfl rfl (by decide +kernel) ⟨(Nat.le_of_ble_eq_true rfl), (Nat.le_of_ble_eq_true rfl)⟩) (pre2_V (q0 := 0) (ci := 7) (wc := [(h0, .inr (7, [.ref h2, .ref h3, .ref h4, .ref h5, .ref h6, .ref h7, .int 0, .int 0, .int 0, .int 0])), (h2, .inr (2, [.int 0, .int 2, .ref h8, .ref h9])), (h3, .inr (3, [.ref h2, .int 0, .int 500, .ref h10, .ref h11, .long 0, .int 0])), (h8, .inl (κ 3, 4, .inr (.inr (.inr (.inr (sel [h12, h13, h14, h15])))))), (h10, .inl (κ 0, 13, .inl (fun _ => 0))), (h11, .inl (κ 0, 13, .inl (fun _ => 0))), (h13, .inr (6, [.ref h16, .ref h17, .int 0]))]) hP hD hK hE9 hS hA [0, 2, 3, 4, 5, 6, 7] (by decide) rfl rfl rfl) rfl rfl hl.1 rfl (lv_room (Nat.le_of_ble_eq_true rfl)) dL_chance_4 ⟨(Nat.le_of_ble_eq_true rfl), (Nat.le_of_ble_eq_true rfl)⟩) hS (fun q _ h => hF q h) hF (fun r u1 t H locs ht hvm hw hB hz1 hk1 hS => ?_)
  try dsimp only at hw hB
  have hP1 : va_P D vwCl [] H := P_nil
  obtain ⟨hP, hD⟩ := post_j (ws' := [(h1, .inl (κ 2, 1, .inr (.inl (fun _ => 0))))]) (wr := [(h1, .inl (κ 2, 1, .inr (.inl (fun _ => 0))))]) (w1 := []) hP hD hF [0, 2, 3, 4, 5, 6, 7] rfl [1] rfl (by decide) (by decide) hk1 hP1 D_nil [0] (by decide) rfl
  have hP : va_P D vwCl [(h1, .inl (κ 2, 1, .inr (.inl (fun _ => 0))))] H := hP
  have hD : va_D A [(h1, .inl (κ 2, 1, .inr (.inl (fun _ => 0))))] := hD
  rw [hw]
  refine lv_i2l (v := 1000000) hx hb dL_chance_7 (by decide) ?_
  refine va_last (cA := κ 2) (n := 1) (f := (fun _ => 0)) hx hb hK hP hD hS 0 2 rfl rfl (vpl (by decide)) dL_chance_8 (fun H locs hP hD hS => ?_)
  have hP : va_P D vwCl [(h1, .inl (κ 2, 1, .inr (.inl (vp_updL (fun _ => 0) 0 1000000))))] H := hP
  have hD : va_D A [(h1, .inl (κ 2, 1, .inr (.inl (vp_updL (fun _ => 0) 0 1000000))))] := hD
  refine lv_goto (tgt := 15) hx hb dL_chance_9 (by decide) ?_
  refine lv_iconst (v := 0) hx hb dL_chance_15 (by decide) ?_
  have hP9 := hP.sub (ws' := [(h1, .inl (κ 2, 1, .inr (.inl (vp_updL (fun _ => 0) 0 1000000))))]) [0] rfl
  have hD9 := hD.sub (ws' := [(h1, .inl (κ 2, 1, .inr (.inl (vp_updL (fun _ => 0) 0 1000000))))]) [0] (by decide) rfl
  exact W.iret (v := 0) hx hb hr (fun t ht hW => ⟨⟨0, (vp_updL (fun _ => 0) 0 1000000), rfl, ⟨rfl, rfl⟩, by rw [ht]; exact hP9, hD9⟩, hS.F ht⟩) hS.2.2 dL_chance_16

set_option maxHeartbeats 4000000 in
set_option maxRecDepth 100000 in
theorem k_X6_isIn_30 (l : Launch) (D : va_G) (κ ε : Nat → Nat) : Met l yX6_isIn wsX6_isIn ({ frames := 0, cells := 0, slots := 0, locals := 0 }) (va_Pc [.int 0, .int 0, .int 0] (Pre0 D κ [])) (vp_Si (fun r => (r = 1))) 0 0 (fun _ => False) := by
  refine Met.ofW (cc := cX6_isIn) (maxL := 3) (ret := (some .boolean)) (by decide) rfl ?_
  intro p e s m args below meth c s₁ B hml hv
  obtain ⟨rfl, hP, hK⟩ := hv
  have hx := B.exec
  have hb := B.bytes
  have hr := B.returns
  have hts := atoms_spec (ws := wsX6_isIn) B.pre
  have hown : s.vm.findClass RX6 = some m.cls := findClass_of_methodNamed B.named
  have hlocks := B.notSynchronized
  have hP : va_P D vwCl [] s.heap := hP
  have hl := lv_entry [.int 0, .int 0, .int 0] (n := 3) (Nat.le_of_ble_eq_true rfl)
  rw [lg_entry_eq]
  generalize (lg_sl [.int 0, .int 0, .int 0] ++ List.replicate (3 - (lg_sl [.int 0, .int 0, .int 0]).length) Slot.unset).toArray = ls at hl ⊢
  have hl : lv_has ls 3 [(0, .int 0), (1, .int 0), (2, .int 0)] := hl
  refine lv_iload_n hx hb dX6_isIn_0 rfl (lv_at hl 0 rfl) ?_
  refine lv_iload_n hx hb dX6_isIn_1 rfl (lv_at hl 1 rfl) ?_
  refine lv_icmp_lt (tgt := 14) hx hb dX6_isIn_2 (by decide) (fun h => absurd h (by decide)) (fun _ => ?_)
  refine lv_iload_n hx hb dX6_isIn_5 rfl (lv_at hl 0 rfl) ?_
  refine lv_iload_n hx hb dX6_isIn_6 rfl (lv_at hl 2 rfl) ?_
  refine lv_icmp_gt (tgt := 14) hx hb dX6_isIn_7 (by decide) (fun h => absurd h (by decide)) (fun _ => ?_)
  refine lv_iconst (v := 1) hx hb dX6_isIn_10 (by decide) ?_
  refine lv_goto (tgt := 15) hx hb dX6_isIn_11 (by decide) ?_
  exact W.zret (v := 1) hx hb hr rfl (fun t ht hW => ⟨1, rfl, rfl, ht⟩) (fun q hq => absurd hq List.not_mem_nil) dX6_isIn_15

theorem wd305_X6_chance : (.constantLong RX6 157 1000 : Cond) ∈ wsX6_chance := by decide +kernel

theorem wd306_X6_chance : (.constantLong RX6 159 1000000 : Cond) ∈ wsX6_chance := by decide +kernel

theorem wi_X6_chance_RX6 : ∀ w ∈ u_ws RX6 TX6 11, w ∈ wsX6_chance := by decide +kernel

theorem wd307_X6_chance : (.fieldLink RX6 56 "CanticleModel" "words" "I" : Cond) ∈ wsX6_chance := by decide +kernel

set_option maxHeartbeats 4000000 in
set_option maxRecDepth 100000 in
theorem k_X6_chance_0 (l : Launch) (D : va_G) (κ ε : Nat → Nat) (h0 h1 h2 h3 h4 h5 h6 h7 : Nat) (p0 : Int32) (p1 : Int32) (p2 : Int32) (p3 : Int32) (p4 : Int32) (p5 : Int32) : Met l yX6_chance wsX6_chance ({ frames := 1, cells := 0, slots := 0, locals := 23 }) (va_Pc [.ref h0, .ref h1, .int 0, .int 500, .int 0, .int 0, .int 1] (Pre0 D κ [(h0, .inr (8, [.int p0, .int 0, .int p1, .ref h2, .ref h1, .int p2, .int p3, .int p4, .int p5, .int 0, .ref h3])), (h1, .inl (κ 4, 4, .inr (.inr (.inr (.inr (sel [h4, h5, h6, h7])))))), (h5, .inl (κ 0, 196, .inl (fun _ => 0)))])) (vp_Sl (fun r => (r = 1000000))) 0 0 (fun _ => False) := by
  refine Met.ofW (cc := cX6_chance) (maxL := 15) (ret := (some .long)) (by decide) rfl ?_
  intro p e s m args below meth c s₁ B hml hv
  obtain ⟨rfl, hP, hK⟩ := hv
  have hx := B.exec
  have hb := B.bytes
  have hr := B.returns
  have hts := atoms_spec (ws := wsX6_chance) B.pre
  have hown : s.vm.findClass RX6 = some m.cls := findClass_of_methodNamed B.named
  have hlocks := B.notSynchronized
  have hP : va_P D vwCl [(h0, .inr (8, [.int p0, .int 0, .int p1, .ref h2, .ref h1, .int p2, .int p3, .int p4, .int p5, .int 0, .ref h3])), (h1, .inl (κ 4, 4, .inr (.inr (.inr (.inr (sel [h4, h5, h6, h7])))))), (h5, .inl (κ 0, 196, .inl (fun _ => 0)))] s.heap := hP
  have hl := lv_entry [.ref h0, .ref h1, .int 0, .int 500, .int 0, .int 0, .int 1] (n := 15) (Nat.le_of_ble_eq_true rfl)
  rw [lg_entry_eq]
  generalize (lg_sl [.ref h0, .ref h1, .int 0, .int 500, .int 0, .int 0, .int 1] ++ List.replicate (15 - (lg_sl [.ref h0, .ref h1, .int 0, .int 500, .int 0, .int 0, .int 1]).length) Slot.unset).toArray = ls at hl ⊢
  have hl : lv_has ls 15 [(0, .ref h0), (1, .ref h1), (2, .int 0), (3, .int 500), (4, .int 0), (5, .int 0), (6, .int 1)] := hl
  refine lv_lconst (v := 0) hx hb dX6_chance_0 (by decide) ?_
  refine lv_lstore (lv' := [(7, .long 0), (0, .ref h0), (1, .ref h1), (2, .int 0), (3, .int 500), (4, .int 0), (5, .int 0), (6, .int 1)]) hx hb dX6_chance_1 hl (by decide) rfl (fun ls hl => ?_)
  refine lv_lconst (v := 0) hx hb dX6_chance_3 (by decide) ?_
  refine lv_lstore (lv' := [(9, .long 0), (7, .long 0), (0, .ref h0), (1, .ref h1), (2, .int 0), (3, .int 500), (4, .int 0), (5, .int 0), (6, .int 1)]) hx hb dX6_chance_4 hl (by decide) rfl (fun ls hl => ?_)
  refine lv_lconst (v := 0) hx hb dX6_chance_6 (by decide) ?_
  refine lv_lstore (lv' := [(11, .long 0), (9, .long 0), (7, .long 0), (0, .ref h0), (1, .ref h1), (2, .int 0), (3, .int 500), (4, .int 0), (5, .int 0), (6, .int 1)]) hx hb dX6_chance_7 hl (by decide) rfl (fun ls hl => ?_)
  refine lv_iload_n hx hb dX6_chance_9 rfl (lv_at hl 5 rfl) ?_
  refine lv_iconst (v := 4) hx hb dX6_chance_10 (by decide) ?_
  refine lv_icmp_ne (tgt := 106) hx hb dX6_chance_11 (by decide) (fun _ => ?_) (fun h => absurd h (by decide))
  refine lv_aload_n hx hb dX6_chance_106 rfl (lv_at hl 4 rfl) ?_
  refine lv_iload hx hb dX6_chance_107 (lv_at hl 9 rfl) ?_
  refine ya_ld2 hx hb hK hP 1 rfl (vpl (by decide)) (v := .ref h5) rfl dX6_chance_109 ?_
  refine lv_iload hx hb dX6_chance_110 (lv_at hl 8 rfl) ?_
  refine lv_bipush (v := 14) hx hb dX6_chance_112 (by decide) ?_
  refine lv_imul hx hb dX6_chance_114 ?_
  refine tpi (v := 0) (by decide) ?_
  refine lv_iload hx hb dX6_chance_115 (lv_at hl 7 rfl) ?_
  refine lv_iadd hx hb dX6_chance_117 ?_
  refine tpi (v := 0) (by decide) ?_
  refine lv_iconst (v := 1) hx hb dX6_chance_118 (by decide) ?_
  refine lv_iadd hx hb dX6_chance_119 ?_
  refine tpi (v := 1) (by decide) ?_
  refine va_iald (cA := κ 0) (n := 196) (f := (fun _ => 0)) hx hb hK hP 2 0 rfl rfl (vpl (by decide)) dX6_chance_120 ?_
  refine tpi (v := 0) (by decide) ?_
  refine lv_i2l (v := 0) hx hb dX6_chance_121 (by decide) ?_
  refine lv_lstore (lv' := [(7, .long 0), (11, .long 0), (9, .long 0), (0, .ref h0), (1, .ref h1), (2, .int 0), (3, .int 500), (4, .int 0), (5, .int 0), (6, .int 1)]) hx hb dX6_chance_122 hl (by decide) rfl (fun ls hl => ?_)
  refine lv_aload_n hx hb dX6_chance_124 rfl (lv_at hl 4 rfl) ?_
  refine lv_iload hx hb dX6_chance_125 (lv_at hl 9 rfl) ?_
  refine ya_ld2 hx hb hK hP 1 rfl (vpl (by decide)) (v := .ref h5) rfl dX6_chance_127 ?_
  refine lv_iload hx hb dX6_chance_128 (lv_at hl 8 rfl) ?_
  refine vp_callSi (W.runS (As := [.ref h5, .int 0]) (rest := []) ⟨hx, hb, hml, hown, hts⟩ (k_X6_sum_1 l D κ ε h5) (va_cwS 2 hts gX6_chance_X6_sum rfl rfl rfl (by decide +kernel) ⟨(Nat.le_of_ble_eq_true rfl), (Nat.le_of_ble_eq_true rfl)⟩) (pre0_S (wc := [(h5, .inl (κ 0, 196, .inl (fun _ => 0)))]) hP hK [2] rfl) rfl rfl hl.1 rfl (lv_room (Nat.le_of_ble_eq_true rfl)) dX6_chance_130 ⟨(Nat.le_of_ble_eq_true rfl), (Nat.le_of_ble_eq_true rfl)⟩) (fun r hw => ?_)
  rw [hw]
  refine lv_i2l (v := 0) hx hb dX6_chance_133 (by decide) ?_
  refine lv_lstore (lv' := [(9, .long 0), (7, .long 0), (11, .long 0), (0, .ref h0), (1, .ref h1), (2, .int 0), (3, .int 500), (4, .int 0), (5, .int 0), (6, .int 1)]) hx hb dX6_chance_134 hl (by decide) rfl (fun ls hl => ?_)
  refine lv_aload_n hx hb dX6_chance_136 rfl (lv_at hl 4 rfl) ?_
  refine lv_iload hx hb dX6_chance_137 (lv_at hl 9 rfl) ?_
  refine ya_ld2 hx hb hK hP 1 rfl (vpl (by decide)) (v := .ref h5) rfl dX6_chance_139 ?_
  refine lv_iload hx hb dX6_chance_140 (lv_at hl 8 rfl) ?_
  refine vp_callSi (W.runS (As := [.ref h5, .int 0]) (rest := []) ⟨hx, hb, hml, hown, hts⟩ (k_X6_sorts_1 l D κ ε h5) (va_cwS 2 hts gX6_chance_X6_sorts rfl rfl rfl (by decide +kernel) ⟨(Nat.le_of_ble_eq_true rfl), (Nat.le_of_ble_eq_true rfl)⟩) (pre0_S (wc := [(h5, .inl (κ 0, 196, .inl (fun _ => 0)))]) hP hK [2] rfl) rfl rfl hl.1 rfl (lv_room (Nat.le_of_ble_eq_true rfl)) dX6_chance_142 ⟨(Nat.le_of_ble_eq_true rfl), (Nat.le_of_ble_eq_true rfl)⟩) (fun r hw => ?_)
  rw [hw]
  refine lv_i2l (v := 0) hx hb dX6_chance_145 (by decide) ?_
  refine lv_lstore (lv' := [(11, .long 0), (9, .long 0), (7, .long 0), (0, .ref h0), (1, .ref h1), (2, .int 0), (3, .int 500), (4, .int 0), (5, .int 0), (6, .int 1)]) hx hb dX6_chance_146 hl (by decide) rfl (fun ls hl => ?_)
  refine lv_iload_n hx hb dX6_chance_148 rfl (lv_at hl 5 rfl) ?_
  refine lv_if_ne (tgt := 184) hx hb dX6_chance_149 (by decide) (fun h => absurd (by decide) h) (fun _ => ?_)
  refine lv_lload hx hb dX6_chance_152 (lv_at hl 2 rfl) ?_
  refine lv_ldc2 (v := 1000) hx hb hown (hts _ wd305_X6_chance) dX6_chance_154 ?_
  refine lv_lmul hx hb dX6_chance_157 ?_
  refine tpl (v := 0) (by decide) ?_
  refine lv_iload_n hx hb dX6_chance_158 rfl (lv_at hl 6 rfl) ?_
  refine lv_i2l (v := 500) hx hb dX6_chance_159 (by decide) ?_
  refine lv_ladd hx hb dX6_chance_160 ?_
  refine tpl (v := 500) (by decide) ?_
  refine lv_ldc2 (v := 1000000) hx hb hown (hts _ wd306_X6_chance) dX6_chance_161 ?_
  refine lv_lmul hx hb dX6_chance_164 ?_
  refine tpl (v := 500000000) (by decide) ?_
  refine lv_lload hx hb dX6_chance_165 (lv_at hl 1 rfl) ?_
  refine lv_ldc2 (v := 1000) hx hb hown (hts _ wd305_X6_chance) dX6_chance_167 ?_
  refine lv_lmul hx hb dX6_chance_170 ?_
  refine tpl (v := 0) (by decide) ?_
  refine lv_iload_n hx hb dX6_chance_171 rfl (lv_at hl 6 rfl) ?_
  refine lv_i2l (v := 500) hx hb dX6_chance_172 (by decide) ?_
  refine lv_aload_n hx hb dX6_chance_173 rfl (lv_at hl 3 rfl) ?_
  refine va_get (D := D) (ci := 8) (v := .int 0) (C := RX6) (T := TX6) (N := 11) hx hb hts wi_X6_chance_RX6 hown hK hP 0 rfl rfl 1 (by decide) (hts _ wd307_X6_chance) (fun _ h9 => h9) rfl dX6_chance_174 ?_
  refine lv_iconst (v := 1) hx hb dX6_chance_177 (by decide) ?_
  refine lv_iadd hx hb dX6_chance_178 ?_
  refine tpi (v := 1) (by decide) ?_
  refine lv_i2l (v := 1) hx hb dX6_chance_179 (by decide) ?_
  refine lv_lmul hx hb dX6_chance_180 ?_
  refine tpl (v := 500) (by decide) ?_
  refine lv_ladd hx hb dX6_chance_181 ?_
  refine tpl (v := 500) (by decide) ?_
  refine lv_ldiv hx hb dX6_chance_182 (by decide) ?_
  refine tpl (v := 1000000) (by decide) ?_
  exact W.lret (v := 1000000) hx hb hr (fun t ht hW => ⟨1000000, rfl, rfl, ht⟩) (fun q hq => absurd hq List.not_mem_nil) dX6_chance_183

theorem wi_X6_behind_RX6 : ∀ w ∈ u_ws RX6 TX6 11, w ∈ wsX6_behind := by decide +kernel

theorem wd308_X6_behind : (.fieldLink RX6 24 "CanticleModel" "counts" "[[I" : Cond) ∈ wsX6_behind := by decide +kernel

theorem wd309_X6_behind : (.fieldLink RX6 137 "CanticleModel" "way" "I" : Cond) ∈ wsX6_behind := by decide +kernel

theorem wd310_X6_behind : (.fieldLink RX6 28 "CanticleModel" "number" "I" : Cond) ∈ wsX6_behind := by decide +kernel

theorem wd311_X6_behind : (.fieldLink RX6 7 "CanticleModel" "order" "I" : Cond) ∈ wsX6_behind := by decide +kernel

set_option maxHeartbeats 4000000 in
set_option maxRecDepth 100000 in
theorem k_X6_behind_0 (l : Launch) (D : va_G) (κ ε : Nat → Nat) (h0 h1 h2 h3 h4 h5 h6 h7 : Nat) (p0 : Int32) (p1 : Int32) (p2 : Int32) (p3 : Int32) : Met l yX6_behind wsX6_behind ({ frames := 2, cells := 0, slots := 0, locals := 57 }) (va_Pc [.ref h0, .ref h1, .int 0] (Pre0 D κ [(h0, .inr (8, [.int p0, .int 0, .int 2, .ref h1, .ref h2, .int 0, .int 500, .int p1, .int p2, .int 0, .ref h3])), (h1, .inr (1, [.int p3, .ref (ε 1), .int 0])), (h2, .inl (κ 4, 4, .inr (.inr (.inr (.inr (sel [h4, h5, h6, h7])))))), (h5, .inl (κ 0, 196, .inl (fun _ => 0)))])) (vp_Sl (fun r => (r = 1000000))) 0 0 (fun _ => False) := by
  refine Met.ofW (cc := cX6_behind) (maxL := 3) (ret := (some .long)) (by decide) rfl ?_
  intro p e s m args below meth c s₁ B hml hv
  obtain ⟨rfl, hP, hK⟩ := hv
  have hx := B.exec
  have hb := B.bytes
  have hr := B.returns
  have hts := atoms_spec (ws := wsX6_behind) B.pre
  have hown : s.vm.findClass RX6 = some m.cls := findClass_of_methodNamed B.named
  have hlocks := B.notSynchronized
  have hP : va_P D vwCl [(h0, .inr (8, [.int p0, .int 0, .int 2, .ref h1, .ref h2, .int 0, .int 500, .int p1, .int p2, .int 0, .ref h3])), (h1, .inr (1, [.int p3, .ref (ε 1), .int 0])), (h2, .inl (κ 4, 4, .inr (.inr (.inr (.inr (sel [h4, h5, h6, h7])))))), (h5, .inl (κ 0, 196, .inl (fun _ => 0)))] s.heap := hP
  have hl := lv_entry [.ref h0, .ref h1, .int 0] (n := 3) (Nat.le_of_ble_eq_true rfl)
  rw [lg_entry_eq]
  generalize (lg_sl [.ref h0, .ref h1, .int 0] ++ List.replicate (3 - (lg_sl [.ref h0, .ref h1, .int 0]).length) Slot.unset).toArray = ls at hl ⊢
  have hl : lv_has ls 3 [(0, .ref h0), (1, .ref h1), (2, .int 0)] := hl
  refine lv_aload_n hx hb dX6_behind_0 rfl (lv_at hl 0 rfl) ?_
  refine lv_aload_n hx hb dX6_behind_1 rfl (lv_at hl 0 rfl) ?_
  refine va_get (D := D) (ci := 8) (v := .ref h2) (C := RX6) (T := TX6) (N := 11) hx hb hts wi_X6_behind_RX6 hown hK hP 0 rfl rfl 4 (by decide) (hts _ wd308_X6_behind) (fun _ h9 => h9) rfl dX6_behind_2 ?_
  refine lv_aload_n hx hb dX6_behind_5 rfl (lv_at hl 0 rfl) ?_
  refine va_get (D := D) (ci := 8) (v := .int 0) (C := RX6) (T := TX6) (N := 11) hx hb hts wi_X6_behind_RX6 hown hK hP 0 rfl rfl 5 (by decide) (hts _ wd309_X6_behind) (fun _ h9 => h9) rfl dX6_behind_6 ?_
  refine lv_aload_n hx hb dX6_behind_9 rfl (lv_at hl 0 rfl) ?_
  refine va_get (D := D) (ci := 8) (v := .int 500) (C := RX6) (T := TX6) (N := 11) hx hb hts wi_X6_behind_RX6 hown hK hP 0 rfl rfl 6 (by decide) (hts _ wd310_X6_behind) (fun _ h9 => h9) rfl dX6_behind_10 ?_
  refine lv_iload_n hx hb dX6_behind_13 rfl (lv_at hl 2 rfl) ?_
  refine lv_aload_n hx hb dX6_behind_14 rfl (lv_at hl 1 rfl) ?_
  refine lv_aload_n hx hb dX6_behind_15 rfl (lv_at hl 1 rfl) ?_
  refine vp_callSi (W.runV (As := []) (rest := [.ref h1, .int 0, .int 500, .int 0, .ref h2, .ref h0]) ⟨hx, hb, hml, hown, hts⟩ (k_Jx4a65c_size_8abf5_0 l D κ ε h1 (p3)) (cwV 0 hts gX6_behind_Jx4a65c_size_8abf5 rfl rfl rfl (by decide +kernel) ⟨(Nat.le_of_ble_eq_true rfl), (Nat.le_of_ble_eq_true rfl)⟩) (pre0_V (q0 := 1) (ci := 1) (wc := [(h1, .inr (1, [.int p3, .ref (ε 1), .int 0]))]) hP hK [1] rfl rfl rfl) rfl rfl hl.1 rfl (lv_room (Nat.le_of_ble_eq_true rfl)) dX6_behind_16 ⟨(Nat.le_of_ble_eq_true rfl), (Nat.le_of_ble_eq_true rfl)⟩) (fun r hw => ?_)
  rw [hw]
  refine lv_aload_n hx hb dX6_behind_19 rfl (lv_at hl 0 rfl) ?_
  refine va_get (D := D) (ci := 8) (v := .int 2) (C := RX6) (T := TX6) (N := 11) hx hb hts wi_X6_behind_RX6 hown hK hP 0 rfl rfl 2 (by decide) (hts _ wd311_X6_behind) (fun _ h9 => h9) rfl dX6_behind_20 ?_
  refine lv_iconst (v := 1) hx hb dX6_behind_23 (by decide) ?_
  refine lv_isub hx hb dX6_behind_24 ?_
  refine tpi (v := 1) (by decide) ?_
  refine vp_callSi (W.runS (As := [.ref h1, .int 0, .int 1]) (rest := [.int 0, .int 500, .int 0, .ref h2, .ref h0]) ⟨hx, hb, hml, hown, hts⟩ (k_X6_ahead_1 l D κ ε h1) (va_cwS 3 hts gX6_behind_X6_ahead rfl rfl rfl (by decide +kernel) ⟨(Nat.le_of_ble_eq_true rfl), (Nat.le_of_ble_eq_true rfl)⟩) (pre0_S (wc := []) hP hK [] rfl) rfl rfl hl.1 rfl (lv_room (Nat.le_of_ble_eq_true rfl)) dX6_behind_25 ⟨(Nat.le_of_ble_eq_true rfl), (Nat.le_of_ble_eq_true rfl)⟩) (fun r hw => ?_)
  rw [hw]
  refine lv_aload_n hx hb dX6_behind_28 rfl (lv_at hl 0 rfl) ?_
  refine va_get (D := D) (ci := 8) (v := .int 2) (C := RX6) (T := TX6) (N := 11) hx hb hts wi_X6_behind_RX6 hown hK hP 0 rfl rfl 2 (by decide) (hts _ wd311_X6_behind) (fun _ h9 => h9) rfl dX6_behind_29 ?_
  refine lv_iconst (v := 1) hx hb dX6_behind_32 (by decide) ?_
  refine lv_isub hx hb dX6_behind_33 ?_
  refine tpi (v := 1) (by decide) ?_
  refine vp_callSl (W.runV (As := [.ref h2, .int 0, .int 500, .int 0, .int 0, .int 1]) (rest := []) ⟨hx, hb, hml, hown, hts⟩ (k_X6_chance_0 l D κ ε h0 h2 h1 h3 h4 h5 h6 h7 (p0) (2) (0) (500) (p1) (p2)) (cwV 6 hts gX6_behind_X6_chance rfl rfl rfl (by decide +kernel) ⟨(Nat.le_of_ble_eq_true rfl), (Nat.le_of_ble_eq_true rfl)⟩) (pre0_V (q0 := 0) (ci := 8) (wc := [(h0, .inr (8, [.int p0, .int 0, .int 2, .ref h1, .ref h2, .int 0, .int 500, .int p1, .int p2, .int 0, .ref h3])), (h2, .inl (κ 4, 4, .inr (.inr (.inr (.inr (sel [h4, h5, h6, h7])))))), (h5, .inl (κ 0, 196, .inl (fun _ => 0)))]) hP hK [0, 2, 3] rfl rfl rfl) rfl rfl hl.1 rfl (lv_room (Nat.le_of_ble_eq_true rfl)) dX6_behind_34 ⟨(Nat.le_of_ble_eq_true rfl), (Nat.le_of_ble_eq_true rfl)⟩) (fun r hw => ?_)
  rw [hw]
  exact W.lret (v := 1000000) hx hb hr (fun t ht hW => ⟨1000000, rfl, rfl, ht⟩) (fun q hq => absurd hq List.not_mem_nil) dX6_behind_37

theorem wi_X6_chance__RX6 : ∀ w ∈ u_ws RX6 TX6 11, w ∈ wsX6_chance_ := by decide +kernel

theorem wd312_X6_chance_ : (.fieldLink RX6 56 "CanticleModel" "words" "I" : Cond) ∈ wsX6_chance_ := by decide +kernel

theorem wd313_X6_chance_ : (.fieldLink RX6 16 "CanticleModel" "sentence" "Ljava/util/ArrayList;" : Cond) ∈ wsX6_chance_ := by decide +kernel

set_option maxHeartbeats 4000000 in
set_option maxRecDepth 100000 in
theorem k_X6_chance__0 (l : Launch) (D : va_G) (κ ε : Nat → Nat) (h0 h1 h2 h3 h4 h5 h6 h7 : Nat) (sz : Nat) : Met l yX6_chance_ wsX6_chance_ ({ frames := 3, cells := 0, slots := 0, locals := 79 }) (va_Pc [.ref h0, .int 0] (Pre2 D κ ε [(h0, .inr (8, [.int 0, .int 0, .int 2, .ref h1, .ref h2, .int 0, .int 500, .int 0, .int 0, .int 0, .ref h3])), (h1, .inr (1, [.int 0, .ref (ε 1), .int 0])), (h2, .inl (κ 4, 4, .inr (.inr (.inr (.inr (sel [h4, h5, h6, h7])))))), (h5, .inl (κ 0, 196, .inl (fun _ => 0)))] sz)) (va_Qi (fun r (u : List Value) => (u[0]? = some (.int 0)) ∧ (r = 1000000)) (fun u t => va_P D vwCl [(h0, .inr (8, u))] t.heap ∧ va_D (va_A [(h0, .inr (8, [.int 0, .int 0, .int 2, .ref h1, .ref h2, .int 0, .int 500, .int 0, .int 0, .int 0, .ref h3])), (h1, .inr (1, [.int 0, .ref (ε 1), .int 0])), (h2, .inl (κ 4, 4, .inr (.inr (.inr (.inr (sel [h4, h5, h6, h7])))))), (h5, .inl (κ 0, 196, .inl (fun _ => 0)))] sz) [(h0, .inr (8, u))]) (va_A [(h0, .inr (8, [.int 0, .int 0, .int 2, .ref h1, .ref h2, .int 0, .int 500, .int 0, .int 0, .int 0, .ref h3])), (h1, .inr (1, [.int 0, .ref (ε 1), .int 0])), (h2, .inl (κ 4, 4, .inr (.inr (.inr (.inr (sel [h4, h5, h6, h7])))))), (h5, .inl (κ 0, 196, .inl (fun _ => 0)))] sz)) 0 0 (va_A [(h0, .inr (8, [.int 0, .int 0, .int 2, .ref h1, .ref h2, .int 0, .int 500, .int 0, .int 0, .int 0, .ref h3])), (h1, .inr (1, [.int 0, .ref (ε 1), .int 0])), (h2, .inl (κ 4, 4, .inr (.inr (.inr (.inr (sel [h4, h5, h6, h7])))))), (h5, .inl (κ 0, 196, .inl (fun _ => 0)))] sz) := by
  refine Met.ofW (cc := cX6_chance_) (maxL := 2) (ret := (some .int)) (by decide) rfl ?_
  intro p e s m args below meth c s₁ B hml hv
  obtain ⟨rfl, hsz, hP, hK, hD0, hE9⟩ := hv
  have hx := B.exec
  have hb := B.bytes
  have hr := B.returns
  have hts := atoms_spec (ws := wsX6_chance_) B.pre
  have hown : s.vm.findClass RX6 = some m.cls := findClass_of_methodNamed B.named
  have hlocks := B.notSynchronized
  subst hsz
  have hD := hD0.self (sz := s.heap.size)
  generalize hAe : va_A [(h0, .inr (8, [.int 0, .int 0, .int 2, .ref h1, .ref h2, .int 0, .int 500, .int 0, .int 0, .int 0, .ref h3])), (h1, .inr (1, [.int 0, .ref (ε 1), .int 0])), (h2, .inl (κ 4, 4, .inr (.inr (.inr (.inr (sel [h4, h5, h6, h7])))))), (h5, .inl (κ 0, 196, .inl (fun _ => 0)))] s.heap.size = A at hD hE9 ⊢
  have hE := hE9.1
  have hDc := hE9.2
  have hA : ∀ q : Nat, s.heap.size ≤ q → A q := fun q h => by rw [← hAe]; exact Or.inr h
  have hS : va_S A s.heap s.heap [] := va_S.rf
  have hP : va_P D vwCl [(h0, .inr (8, [.int 0, .int 0, .int 2, .ref h1, .ref h2, .int 0, .int 500, .int 0, .int 0, .int 0, .ref h3])), (h1, .inr (1, [.int 0, .ref (ε 1), .int 0])), (h2, .inl (κ 4, 4, .inr (.inr (.inr (.inr (sel [h4, h5, h6, h7])))))), (h5, .inl (κ 0, 196, .inl (fun _ => 0)))] s.heap := hP
  have hl := lv_entry [.ref h0, .int 0] (n := 2) (Nat.le_of_ble_eq_true rfl)
  rw [lg_entry_eq]
  generalize (lg_sl [.ref h0, .int 0] ++ List.replicate (2 - (lg_sl [.ref h0, .int 0]).length) Slot.unset).toArray = ls at hl ⊢
  have hl : lv_has ls 2 [(0, .ref h0), (1, .int 0)] := hl
  refine lv_aload_n hx hb dX6_chance__0 rfl (lv_at hl 0 rfl) ?_
  refine lv_iload_n hx hb dX6_chance__1 rfl (lv_at hl 1 rfl) ?_
  refine lv_iconst (v := 0) hx hb dX6_chance__2 (by decide) ?_
  refine lv_aload_n hx hb dX6_chance__3 rfl (lv_at hl 0 rfl) ?_
  refine va_get (D := D) (ci := 8) (v := .int 0) (C := RX6) (T := TX6) (N := 11) hx hb hts wi_X6_chance__RX6 hown hK hP 0 rfl rfl 1 (by decide) (hts _ wd312_X6_chance_) (fun _ h9 => h9) rfl dX6_chance__4 ?_
  refine vp_callSi (W.runS (As := [.int 0, .int 0, .int 0]) (rest := [.ref h0]) ⟨hx, hb, hml, hown, hts⟩ (k_X6_isIn_30 l D κ ε) (va_cwS 3 hts gX6_chance__X6_isIn rfl rfl rfl (by decide +kernel) ⟨(Nat.le_of_ble_eq_true rfl), (Nat.le_of_ble_eq_true rfl)⟩) (pre0_S (wc := []) hP hK [] rfl) rfl rfl hl.1 rfl (lv_room (Nat.le_of_ble_eq_true rfl)) dX6_chance__7 ⟨(Nat.le_of_ble_eq_true rfl), (Nat.le_of_ble_eq_true rfl)⟩) (fun r hw => ?_)
  rw [hw]
  refine lv_if_ne (tgt := 17) hx hb dX6_chance__10 (by decide) (fun _ => ?_) (fun h => absurd h (by decide))
  refine lv_iconst (v := 0) hx hb dX6_chance__17 (by decide) ?_
  refine lv_iconst (v := 1) hx hb dX6_chance__18 (by decide) ?_
  have hF := va_free (wc := [(h0, .inr (8, [.int 0, .int 0, .int 2, .ref h1, .ref h2, .int 0, .int 500, .int 0, .int 0, .int 0, .ref h3]))]) hD hS hA [0] rfl
  refine va_calli (va_runV (As := [.int 0, .int 1]) (rest := []) ⟨hx, hb, hml, hown, hts⟩ (k_X6_start_0 l D κ ε h0 h1 h2 h3 s.heap.size (0) (2) (0) (500) (0) (0)) (cwV 2 hts gX6_chance__X6_start rfl rfl rfl (by decide +kernel) ⟨(Nat.le_of_ble_eq_true rfl), (Nat.le_of_ble_eq_true rfl)⟩) (pre2_V (q0 := 0) (ci := 8) (wc := [(h0, .inr (8, [.int 0, .int 0, .int 2, .ref h1, .ref h2, .int 0, .int 500, .int 0, .int 0, .int 0, .ref h3]))]) hP hD hK hE9 hS hA [0] (by decide) rfl rfl rfl) rfl rfl hl.1 rfl (lv_room (Nat.le_of_ble_eq_true rfl)) dX6_chance__19 ⟨(Nat.le_of_ble_eq_true rfl), (Nat.le_of_ble_eq_true rfl)⟩) hS (fun q _ h => hF q h) hF (fun r u1 t H locs ht hvm hw hB hz1 hk1 hS => ?_)
  try dsimp only at hw hB
  obtain ⟨hP1, hD1⟩ := hB
  rw [ht] at hP1
  obtain ⟨hP, hD⟩ := post_j (ws' := [(h0, .inr (8, [.int 0, .int 0, .int 2, .ref h1, .ref h2, .int 0, .int 500, .int 0, .int 0, .int 0, .ref h3])), (h1, .inr (1, [.int 0, .ref (ε 1), .int 0])), (h2, .inl (κ 4, 4, .inr (.inr (.inr (.inr (sel [h4, h5, h6, h7])))))), (h5, .inl (κ 0, 196, .inl (fun _ => 0)))]) (wr := [(h1, .inr (1, [.int 0, .ref (ε 1), .int 0])), (h2, .inl (κ 4, 4, .inr (.inr (.inr (.inr (sel [h4, h5, h6, h7])))))), (h5, .inl (κ 0, 196, .inl (fun _ => 0)))]) (w1 := [(h0, .inr (8, [.int 0, .int 0, .int 2, .ref h1, .ref h2, .int 0, .int 500, .int 0, .int 0, .int 0, .ref h3]))]) hP hD hF [0] rfl [1, 2, 3] rfl (by decide) (by decide) hk1 hP1 hD1 [3, 0, 1, 2] (by decide) rfl
  have hP : va_P D vwCl [(h0, .inr (8, [.int 0, .int 0, .int 2, .ref h1, .ref h2, .int 0, .int 500, .int 0, .int 0, .int 0, .ref h3])), (h1, .inr (1, [.int 0, .ref (ε 1), .int 0])), (h2, .inl (κ 4, 4, .inr (.inr (.inr (.inr (sel [h4, h5, h6, h7])))))), (h5, .inl (κ 0, 196, .inl (fun _ => 0)))] H := hP
  have hD : va_D A [(h0, .inr (8, [.int 0, .int 0, .int 2, .ref h1, .ref h2, .int 0, .int 500, .int 0, .int 0, .int 0, .ref h3])), (h1, .inr (1, [.int 0, .ref (ε 1), .int 0])), (h2, .inl (κ 4, 4, .inr (.inr (.inr (.inr (sel [h4, h5, h6, h7])))))), (h5, .inl (κ 0, 196, .inl (fun _ => 0)))] := hD
  rw [hw]
  refine lv_if_eq (tgt := 29) hx hb dX6_chance__22 (by decide) (fun _ => ?_) (fun h => absurd (by decide) h)
  refine lv_aload_n hx hb dX6_chance__29 rfl (lv_at hl 0 rfl) ?_
  refine lv_aload_n hx hb dX6_chance__30 rfl (lv_at hl 0 rfl) ?_
  refine va_get (D := D) (ci := 8) (v := .ref h1) (C := RX6) (T := TX6) (N := 11) hx hb hts wi_X6_chance__RX6 hown hK hP 0 rfl rfl 3 (by decide) (hts _ wd313_X6_chance_) (fun _ h9 => h9) rfl dX6_chance__31 ?_
  refine lv_iload_n hx hb dX6_chance__34 rfl (lv_at hl 1 rfl) ?_
  refine vp_callSl (W.runV (As := [.ref h1, .int 0]) (rest := []) ⟨hx, hb, hml, hown, hts⟩ (k_X6_behind_0 l D κ ε h0 h1 h2 h3 h4 h5 h6 h7 (0) (0) (0) (0)) (cwV 2 hts gX6_chance__X6_behind rfl rfl rfl (by decide +kernel) ⟨(Nat.le_of_ble_eq_true rfl), (Nat.le_of_ble_eq_true rfl)⟩) (pre0_V (q0 := 0) (ci := 8) (wc := [(h0, .inr (8, [.int 0, .int 0, .int 2, .ref h1, .ref h2, .int 0, .int 500, .int 0, .int 0, .int 0, .ref h3])), (h1, .inr (1, [.int 0, .ref (ε 1), .int 0])), (h2, .inl (κ 4, 4, .inr (.inr (.inr (.inr (sel [h4, h5, h6, h7])))))), (h5, .inl (κ 0, 196, .inl (fun _ => 0)))]) hP hK [0, 1, 2, 3] rfl rfl rfl) rfl rfl hl.1 rfl (lv_room (Nat.le_of_ble_eq_true rfl)) dX6_chance__35 ⟨(Nat.le_of_ble_eq_true rfl), (Nat.le_of_ble_eq_true rfl)⟩) (fun r hw => ?_)
  rw [hw]
  refine lv_l2i (v := 1000000) hx hb dX6_chance__38 (by decide) ?_
  have hP9 := hP.sub (ws' := [(h0, .inr (8, [.int 0, .int 0, .int 2, .ref h1, .ref h2, .int 0, .int 500, .int 0, .int 0, .int 0, .ref h3]))]) [0] rfl
  have hD9 := hD.sub (ws' := [(h0, .inr (8, [.int 0, .int 0, .int 2, .ref h1, .ref h2, .int 0, .int 500, .int 0, .int 0, .int 0, .ref h3]))]) [0] (by decide) rfl
  exact W.iret (v := 1000000) hx hb hr (fun t ht hW => ⟨⟨1000000, [.int 0, .int 0, .int 2, .ref h1, .ref h2, .int 0, .int 500, .int 0, .int 0, .int 0, .ref h3], rfl, ⟨rfl, rfl⟩, by rw [ht]; exact hP9, hD9⟩, hS.F ht⟩) hS.2.2 dX6_chance__39

theorem iv14 (x : Int32) (h0 : ¬ x = 0) (h1 : ¬ x < 0) : ¬ x ≤ 0 := by
  have e0 : (0 : Int32).toInt = 0 := by decide
  simp only [Int32.lt_iff_toInt_lt, Int32.le_iff_toInt_le, ← Int32.toInt_inj, e0] at *
  omega

theorem at1_X5_chance_94 : ∀ w ∈ (vx_atS RX5 94 "java/lang/IndexOutOfBoundsException" ["java/lang/RuntimeException", "java/lang/Exception"]).filter goodWord, w ∈ wsX5_chance := by decide +kernel

theorem wd314_X5_chance : (.classLink RX5 90 "java/lang/IndexOutOfBoundsException" : Cond) ∈ wsX5_chance := by decide +kernel

theorem wd315_X5_chance : (.initialized "java/lang/IndexOutOfBoundsException" : Cond) ∈ wsX5_chance := by decide +kernel

set_option maxHeartbeats 4000000 in
set_option maxRecDepth 100000 in
theorem k_X5_chance_1 (l : Launch) (hst : l.stackTraces = false) (D : va_G) (κ ε : Nat → Nat) (h0 h1 h2 h3 h4 h5 h6 h7 h8 : Nat) (sz : Nat) (p0 : Int32) (hf0 : ¬ p0 = 0) : vx_Met l yX5_chance wsX5_chance ({ frames := 6, cells := 1, slots := 6, locals := 120 }) (va_Pc [.ref h0, .int p0] (Pre2 D κ ε [(h0, .inr (7, [.ref h1, .ref h2, .ref h3, .ref h4, .ref h5, .ref h6, .int 0, .int 0, .int 0, .int 0])), (h1, .inr (2, [.int 0, .int 2, .ref h7, .ref h8]))] sz)) (va_Qi (fun r (u : Unit) => False) (fun _ _ => True) (va_A [(h0, .inr (7, [.ref h1, .ref h2, .ref h3, .ref h4, .ref h5, .ref h6, .int 0, .int 0, .int 0, .int 0])), (h1, .inr (2, [.int 0, .int 2, .ref h7, .ref h8]))] sz)) (vx_X (fun _ : Unit => True) (fun E _ _ => ((p0 < 0) ∧ E = "java/lang/IndexOutOfBoundsException") ∨ ((¬ p0 < 0) ∧ E = "java/lang/IndexOutOfBoundsException")) (va_A [(h0, .inr (7, [.ref h1, .ref h2, .ref h3, .ref h4, .ref h5, .ref h6, .int 0, .int 0, .int 0, .int 0])), (h1, .inr (2, [.int 0, .int 2, .ref h7, .ref h8]))] sz)) 1 6 (va_A [(h0, .inr (7, [.ref h1, .ref h2, .ref h3, .ref h4, .ref h5, .ref h6, .int 0, .int 0, .int 0, .int 0])), (h1, .inr (2, [.int 0, .int 2, .ref h7, .ref h8]))] sz) := by
  refine vx_ofW (cc := cX5_chance) (maxL := 2) (ret := (some .int)) (by decide) rfl ?_
  intro p e s m args below meth c s₁ B hml hnx hv
  obtain ⟨rfl, hsz, hP, hK, hD0, hE9⟩ := hv
  have hx := B.exec
  have hb := B.bytes
  have hr := B.returns
  have hts := atoms_spec (ws := wsX5_chance) B.pre
  have hown : s.vm.findClass RX5 = some m.cls := findClass_of_methodNamed B.named
  have hlocks := B.notSynchronized
  subst hsz
  have hD := hD0.self (sz := s.heap.size)
  generalize hAe : va_A [(h0, .inr (7, [.ref h1, .ref h2, .ref h3, .ref h4, .ref h5, .ref h6, .int 0, .int 0, .int 0, .int 0])), (h1, .inr (2, [.int 0, .int 2, .ref h7, .ref h8]))] s.heap.size = A at hD hE9 ⊢
  have hE := hE9.1
  have hDc := hE9.2
  have hA : ∀ q : Nat, s.heap.size ≤ q → A q := fun q h => by rw [← hAe]; exact Or.inr h
  have hS : va_S A s.heap s.heap [] := va_S.rf
  have hP : va_P D vwCl [(h0, .inr (7, [.ref h1, .ref h2, .ref h3, .ref h4, .ref h5, .ref h6, .int 0, .int 0, .int 0, .int 0])), (h1, .inr (2, [.int 0, .int 2, .ref h7, .ref h8]))] s.heap := hP
  have hl := lv_entry [.ref h0, .int p0] (n := 2) (Nat.le_of_ble_eq_true rfl)
  rw [lg_entry_eq]
  generalize (lg_sl [.ref h0, .int p0] ++ List.replicate (2 - (lg_sl [.ref h0, .int p0]).length) Slot.unset).toArray = ls at hl ⊢
  have hl : lv_has ls 2 [(0, .ref h0), (1, .int p0)] := hl
  refine lv_iload_n hx hb dX5_chance_0 rfl (lv_at hl 1 rfl) ?_
  refine lv_if_lt (tgt := 15) hx hb dX5_chance_1 (by decide) (fun c1 => ?_) (fun c1 => ?_)
  · skip
    exact vx_throwS (names := ["java/lang/RuntimeException", "java/lang/Exception"]) (sa := ε 26) hx hb hst hown (by decide +kernel) (by decide +kernel) (hts _ wd314_X5_chance) (hts _ wd315_X5_chance) (hE.2.2.2.2.2.2.1 _ (List.mem_of_getElem? (i := 16) rfl)) (vx_hat (B := [.castable "java/lang/IndexOutOfBoundsException" "java/lang/IndexOutOfBoundsException", .declares (Bundle.initS "java/lang/RuntimeException"), .declares (Bundle.initS "java/lang/Exception"), .declares (Bundle.initS "java/lang/Throwable")]) (fun w hw => hts w (at1_X5_chance_94 w hw)) at2_RX5_94 (vx_c (va_Nw.use rfl hE.2.2.2.2.2.2.2.2.2.2.2.2.2.2.2.1) (vx_c (va_Nw.use rfl hDc.1) (vx_c (va_Nw.use rfl hDc.2.1) (vx_c (va_Nw.use rfl hDc.2.2) vx_n))))) at2_RX5_94g hE.1 hE.2.1 hS (by rw [hml]; exact hl.1) dX5_chance_15 dX5_chance_18 dX5_chance_19 dX5_chance_21 dX5_chance_24 (fun x hx => (hnx x hx).elim) (by decide) (by decide) (Nat.le_of_ble_eq_true rfl) (Nat.le_of_ble_eq_true rfl) hlocks (fun t _ h1 h2 => ⟨(), trivial, (Or.inl ⟨c1, rfl⟩), thF (H0 := s.heap) hS h1 h2⟩) hS.2.2 (Nat.le_of_ble_eq_true rfl) (Nat.le_of_ble_eq_true rfl)
  · skip
    refine lv_iload_n hx hb dX5_chance_4 rfl (lv_at hl 1 rfl) ?_
    refine lv_aload_n hx hb dX5_chance_5 rfl (lv_at hl 0 rfl) ?_
    refine va_get (D := D) (ci := 7) (v := .ref h1) (C := RX5) (T := TX5) (N := 10) hx hb hts wi_X5_chance_RX5 hown hK hP 0 rfl rfl 0 (by decide) (hts _ wd301_X5_chance) (fun _ h9 => h9) rfl dX5_chance_6 ?_
    refine va_get (D := D) (ci := 2) (v := .int 0) (C := RX0) (T := TX0) (N := 4) hx hb hts wi_X5_chance_RX0 hown hK hP 1 rfl rfl 0 (by decide) (hts _ wd302_X5_chance) (fun _ h9 => h9) rfl dX5_chance_9 ?_
    refine lv_icmp_le (tgt := 25) hx hb dX5_chance_12 (by decide) (fun h => absurd h (iv14 _ hf0 c1)) (fun _ => ?_)
    exact vx_throwS (names := ["java/lang/RuntimeException", "java/lang/Exception"]) (sa := ε 26) hx hb hst hown (by decide +kernel) (by decide +kernel) (hts _ wd314_X5_chance) (hts _ wd315_X5_chance) (hE.2.2.2.2.2.2.1 _ (List.mem_of_getElem? (i := 16) rfl)) (vx_hat (B := [.castable "java/lang/IndexOutOfBoundsException" "java/lang/IndexOutOfBoundsException", .declares (Bundle.initS "java/lang/RuntimeException"), .declares (Bundle.initS "java/lang/Exception"), .declares (Bundle.initS "java/lang/Throwable")]) (fun w hw => hts w (at1_X5_chance_94 w hw)) at2_RX5_94 (vx_c (va_Nw.use rfl hE.2.2.2.2.2.2.2.2.2.2.2.2.2.2.2.1) (vx_c (va_Nw.use rfl hDc.1) (vx_c (va_Nw.use rfl hDc.2.1) (vx_c (va_Nw.use rfl hDc.2.2) vx_n))))) at2_RX5_94g hE.1 hE.2.1 hS (by rw [hml]; exact hl.1) dX5_chance_15 dX5_chance_18 dX5_chance_19 dX5_chance_21 dX5_chance_24 (fun x hx => (hnx x hx).elim) (by decide) (by decide) (Nat.le_of_ble_eq_true rfl) (Nat.le_of_ble_eq_true rfl) hlocks (fun t _ h1 h2 => ⟨(), trivial, (Or.inr ⟨c1, rfl⟩), thF (H0 := s.heap) hS h1 h2⟩) hS.2.2 (Nat.le_of_ble_eq_true rfl) (Nat.le_of_ble_eq_true rfl)

theorem wd316_L_chance : (.classLink RL 24 "java/lang/IndexOutOfBoundsException" : Cond) ∈ wsL_chance := by decide +kernel

set_option maxHeartbeats 4000000 in
set_option maxRecDepth 100000 in
theorem k_L_chance_1 (l : Launch) (hst : l.stackTraces = false) (D : va_G) (κ ε : Nat → Nat) (h0 h1 h2 h3 h4 h5 h6 h7 h8 h9 : Nat) (sz : Nat) (p0 : Int32) (hf0 : ¬ p0 = 0) : Met l yL_chance wsL_chance ({ frames := 7, cells := 1, slots := 6, locals := 141 }) (va_Pc [.ref h0, .int p0, .ref h1] (Pre2 D κ ε [(h0, .inr (7, [.ref h2, .ref h3, .ref h4, .ref h5, .ref h6, .ref h7, .int 0, .int 0, .int 0, .int 0])), (h1, .inl (κ 2, 1, .inr (.inl (fun _ => 0)))), (h2, .inr (2, [.int 0, .int 2, .ref h8, .ref h9]))] sz)) (va_Qi (fun r (u : Nat → Int64) => ((p0 < 0) ∧ (r = 1)) ∨ ((¬ p0 < 0) ∧ (r = 1))) (fun u t => va_P D vwCl [(h1, .inl (κ 2, 1, .inr (.inl u)))] t.heap ∧ va_D (va_A [(h0, .inr (7, [.ref h2, .ref h3, .ref h4, .ref h5, .ref h6, .ref h7, .int 0, .int 0, .int 0, .int 0])), (h1, .inl (κ 2, 1, .inr (.inl (fun _ => 0)))), (h2, .inr (2, [.int 0, .int 2, .ref h8, .ref h9]))] sz) [(h1, .inl (κ 2, 1, .inr (.inl u)))]) (va_A [(h0, .inr (7, [.ref h2, .ref h3, .ref h4, .ref h5, .ref h6, .ref h7, .int 0, .int 0, .int 0, .int 0])), (h1, .inl (κ 2, 1, .inr (.inl (fun _ => 0)))), (h2, .inr (2, [.int 0, .int 2, .ref h8, .ref h9]))] sz)) 1 6 (va_A [(h0, .inr (7, [.ref h2, .ref h3, .ref h4, .ref h5, .ref h6, .ref h7, .int 0, .int 0, .int 0, .int 0])), (h1, .inl (κ 2, 1, .inr (.inl (fun _ => 0)))), (h2, .inr (2, [.int 0, .int 2, .ref h8, .ref h9]))] sz) := by
  refine va_MetW (cc := cL_chance) (maxL := 4) (ret := (some .int)) (hh := [(0, 9, 12, 24)]) (by decide) rfl ?_
  intro p e s m args below meth c s₁ B hml hv
  obtain ⟨rfl, hsz, hP, hK, hD0, hE9⟩ := hv
  have hx := B.exec
  have hb := B.bytes
  have hr := B.returns
  have hts := atoms_spec (ws := wsL_chance) B.pre
  have hown : s.vm.findClass RL = some m.cls := findClass_of_methodNamed B.named
  have hlocks := B.notSynchronized
  have htab : c.exceptionTable.toList = tableOf [(0, 9, 12, 24)] := vx_table (x := yL_chance) B (hts (.codeWith yL_chance cL_chance 4 (some .int) [(0, 9, 12, 24)]) List.mem_cons_self)
  subst hsz
  have hD := hD0.self (sz := s.heap.size)
  generalize hAe : va_A [(h0, .inr (7, [.ref h2, .ref h3, .ref h4, .ref h5, .ref h6, .ref h7, .int 0, .int 0, .int 0, .int 0])), (h1, .inl (κ 2, 1, .inr (.inl (fun _ => 0)))), (h2, .inr (2, [.int 0, .int 2, .ref h8, .ref h9]))] s.heap.size = A at hD hE9 ⊢
  have hE := hE9.1
  have hDc := hE9.2
  have hA : ∀ q : Nat, s.heap.size ≤ q → A q := fun q h => by rw [← hAe]; exact Or.inr h
  have hS : va_S A s.heap s.heap [] := va_S.rf
  have hP : va_P D vwCl [(h0, .inr (7, [.ref h2, .ref h3, .ref h4, .ref h5, .ref h6, .ref h7, .int 0, .int 0, .int 0, .int 0])), (h1, .inl (κ 2, 1, .inr (.inl (fun _ => 0)))), (h2, .inr (2, [.int 0, .int 2, .ref h8, .ref h9]))] s.heap := hP
  have hl := lv_entry [.ref h0, .int p0, .ref h1] (n := 4) (Nat.le_of_ble_eq_true rfl)
  rw [lg_entry_eq]
  generalize (lg_sl [.ref h0, .int p0, .ref h1] ++ List.replicate (4 - (lg_sl [.ref h0, .int p0, .ref h1]).length) Slot.unset).toArray = ls at hl ⊢
  have hl : lv_has ls 4 [(0, .ref h0), (1, .int p0), (2, .ref h1)] := hl
  refine lv_aload_n hx hb dL_chance_0 rfl (lv_at hl 2 rfl) ?_
  refine lv_iconst (v := 0) hx hb dL_chance_1 (by decide) ?_
  refine lv_aload_n hx hb dL_chance_2 rfl (lv_at hl 0 rfl) ?_
  refine lv_iload_n hx hb dL_chance_3 rfl (lv_at hl 1 rfl) ?_
  have hF := va_free (wc := [(h0, .inr (7, [.ref h2, .ref h3, .ref h4, .ref h5, .ref h6, .ref h7, .int 0, .int 0, .int 0, .int 0])), (h2, .inr (2, [.int 0, .int 2, .ref h8, .ref h9]))]) hD hS hA [0, 2] rfl
  refine vx_calli (vx_runV (As := [.int p0]) (rest := [.int 0, .ref h1]) ⟨hx, hb, hml, hown, hts⟩ (k_X5_chance_1 l hst D κ ε h0 h2 h3 h4 h5 h6 h7 h8 h9 s.heap.size (p0) hf0) (cwV 1 hts gL_chance_X5_chance rfl rfl rfl (by decide +kernel) ⟨(Nat.le_of_ble_eq_true rfl), (Nat.le_of_ble_eq_true rfl)⟩) (pre2_V (q0 := 0) (ci := 7) (wc := [(h0, .inr (7, [.ref h2, .ref h3, .ref h4, .ref h5, .ref h6, .ref h7, .int 0, .int 0, .int 0, .int 0])), (h2, .inr (2, [.int 0, .int 2, .ref h8, .ref h9]))]) hP hD hK hE9 hS hA [0, 2] (by decide) rfl rfl rfl) rfl rfl hl.1 rfl (lv_room (Nat.le_of_ble_eq_true rfl)) dL_chance_4 ⟨(Nat.le_of_ble_eq_true rfl), (Nat.le_of_ble_eq_true rfl)⟩) hS (fun q _ h => hF q h) hF (fun q _ h => hF q h) (fun E9 ce q9 u t H locs ht hvm hw hB hz1 hk1 hS hce hcv hcl => ?_) (fun r u t H locs ht hvm hw hB hz1 hk1 hS => ?_)
  · try dsimp only at hB
    have hP1 : va_P D vwCl [] H := P_nil
    obtain ⟨hP, hD⟩ := post_j (ws' := [(h1, .inl (κ 2, 1, .inr (.inl (fun _ => 0))))]) (wr := [(h1, .inl (κ 2, 1, .inr (.inl (fun _ => 0))))]) (w1 := []) hP hD hF [0, 2] rfl [1] rfl (by decide) (by decide) hk1 hP1 D_nil [0] (by decide) rfl
    have hP : va_P D vwCl [(h1, .inl (κ 2, 1, .inr (.inl (fun _ => 0))))] H := hP
    have hD : va_D A [(h1, .inl (κ 2, 1, .inr (.inl (fun _ => 0))))] := hD
    rcases hB with ⟨c2, rfl⟩ | ⟨c3, rfl⟩
    · skip
      refine vx_catch (name := "java/lang/IndexOutOfBoundsException") hown [] ⟨0, 9, 12, 24⟩ [] (htab.trans rfl) (fun z hz => nomatch hz) (by decide) (by decide) (hts _ wd316_L_chance) (va_Nw.use rfl hE.2.2.2.2.2.2.2.2.2.2.2.2.2.2.2.1) hce hcv hcl ?_
      refine lv_astore_n (lv' := [(3, .ref q9), (0, .ref h0), (1, .int p0), (2, .ref h1)]) hx hb dL_chance_12 rfl hl (by decide) rfl (fun ls hl => ?_)
      refine lv_iconst (v := 1) hx hb dL_chance_13 (by decide) ?_
      have hP9 := hP.sub (ws' := [(h1, .inl (κ 2, 1, .inr (.inl (fun _ => 0))))]) [0] rfl
      have hD9 := hD.sub (ws' := [(h1, .inl (κ 2, 1, .inr (.inl (fun _ => 0))))]) [0] (by decide) rfl
      refine W.widen (k := 1) (n := 6) (Nat.le_of_ble_eq_true rfl) (Nat.le_of_ble_eq_true rfl) ?_
      exact W.iret (v := 1) hx hb hr (fun t ht hW => ⟨⟨1, (fun _ => 0), rfl, (Or.inl ⟨c2, rfl⟩), by rw [ht]; exact hP9, hD9⟩, hS.F ht⟩) hS.2.2 dL_chance_14
    · skip
      refine vx_catch (name := "java/lang/IndexOutOfBoundsException") hown [] ⟨0, 9, 12, 24⟩ [] (htab.trans rfl) (fun z hz => nomatch hz) (by decide) (by decide) (hts _ wd316_L_chance) (va_Nw.use rfl hE.2.2.2.2.2.2.2.2.2.2.2.2.2.2.2.1) hce hcv hcl ?_
      refine lv_astore_n (lv' := [(3, .ref q9), (0, .ref h0), (1, .int p0), (2, .ref h1)]) hx hb dL_chance_12 rfl hl (by decide) rfl (fun ls hl => ?_)
      refine lv_iconst (v := 1) hx hb dL_chance_13 (by decide) ?_
      have hP9 := hP.sub (ws' := [(h1, .inl (κ 2, 1, .inr (.inl (fun _ => 0))))]) [0] rfl
      have hD9 := hD.sub (ws' := [(h1, .inl (κ 2, 1, .inr (.inl (fun _ => 0))))]) [0] (by decide) rfl
      refine W.widen (k := 1) (n := 6) (Nat.le_of_ble_eq_true rfl) (Nat.le_of_ble_eq_true rfl) ?_
      exact W.iret (v := 1) hx hb hr (fun t ht hW => ⟨⟨1, (fun _ => 0), rfl, (Or.inr ⟨c3, rfl⟩), by rw [ht]; exact hP9, hD9⟩, hS.F ht⟩) hS.2.2 dL_chance_14
  · exact False.elim hw

set_option maxHeartbeats 4000000 in
set_option maxRecDepth 100000 in
theorem k_X6_isIn_31 (l : Launch) (D : va_G) (κ ε : Nat → Nat) (p0 : Int32) (hf0 : p0 < 0) : Met l yX6_isIn wsX6_isIn ({ frames := 0, cells := 0, slots := 0, locals := 0 }) (va_Pc [.int p0, .int 0, .int 0] (Pre0 D κ [])) (vp_Si (fun r => (r = 0))) 0 0 (fun _ => False) := by
  refine Met.ofW (cc := cX6_isIn) (maxL := 3) (ret := (some .boolean)) (by decide) rfl ?_
  intro p e s m args below meth c s₁ B hml hv
  obtain ⟨rfl, hP, hK⟩ := hv
  have hx := B.exec
  have hb := B.bytes
  have hr := B.returns
  have hts := atoms_spec (ws := wsX6_isIn) B.pre
  have hown : s.vm.findClass RX6 = some m.cls := findClass_of_methodNamed B.named
  have hlocks := B.notSynchronized
  have hP : va_P D vwCl [] s.heap := hP
  have hl := lv_entry [.int p0, .int 0, .int 0] (n := 3) (Nat.le_of_ble_eq_true rfl)
  rw [lg_entry_eq]
  generalize (lg_sl [.int p0, .int 0, .int 0] ++ List.replicate (3 - (lg_sl [.int p0, .int 0, .int 0]).length) Slot.unset).toArray = ls at hl ⊢
  have hl : lv_has ls 3 [(0, .int p0), (1, .int 0), (2, .int 0)] := hl
  refine lv_iload_n hx hb dX6_isIn_0 rfl (lv_at hl 0 rfl) ?_
  refine lv_iload_n hx hb dX6_isIn_1 rfl (lv_at hl 1 rfl) ?_
  refine lv_icmp_lt (tgt := 14) hx hb dX6_isIn_2 (by decide) (fun _ => ?_) (fun h => absurd hf0 h)
  refine lv_iconst (v := 0) hx hb dX6_isIn_14 (by decide) ?_
  exact W.zret (v := 0) hx hb hr rfl (fun t ht hW => ⟨0, rfl, rfl, ht⟩) (fun q hq => absurd hq List.not_mem_nil) dX6_isIn_15

set_option maxHeartbeats 4000000 in
set_option maxRecDepth 100000 in
theorem k_X6_chance__1 (l : Launch) (D : va_G) (κ ε : Nat → Nat) (h0 h1 h2 h3 : Nat) (sz : Nat) (p0 : Int32) (hf0 : p0 < 0) : Met l yX6_chance_ wsX6_chance_ ({ frames := 2, cells := 0, slots := 0, locals := 44 }) (va_Pc [.ref h0, .int p0] (Pre2 D κ ε [(h0, .inr (8, [.int 0, .int 0, .int 2, .ref h1, .ref h2, .int 0, .int 500, .int 0, .int 0, .int 0, .ref h3]))] sz)) (va_Qi (fun r (u : List Value) => (u[0]? = some (.int 1)) ∧ (r = 0)) (fun u t => va_P D vwCl [(h0, .inr (8, u))] t.heap ∧ va_D (va_A [(h0, .inr (8, [.int 0, .int 0, .int 2, .ref h1, .ref h2, .int 0, .int 500, .int 0, .int 0, .int 0, .ref h3]))] sz) [(h0, .inr (8, u))]) (va_A [(h0, .inr (8, [.int 0, .int 0, .int 2, .ref h1, .ref h2, .int 0, .int 500, .int 0, .int 0, .int 0, .ref h3]))] sz)) 0 0 (va_A [(h0, .inr (8, [.int 0, .int 0, .int 2, .ref h1, .ref h2, .int 0, .int 500, .int 0, .int 0, .int 0, .ref h3]))] sz) := by
  refine Met.ofW (cc := cX6_chance_) (maxL := 2) (ret := (some .int)) (by decide) rfl ?_
  intro p e s m args below meth c s₁ B hml hv
  obtain ⟨rfl, hsz, hP, hK, hD0, hE9⟩ := hv
  have hx := B.exec
  have hb := B.bytes
  have hr := B.returns
  have hts := atoms_spec (ws := wsX6_chance_) B.pre
  have hown : s.vm.findClass RX6 = some m.cls := findClass_of_methodNamed B.named
  have hlocks := B.notSynchronized
  subst hsz
  have hD := hD0.self (sz := s.heap.size)
  generalize hAe : va_A [(h0, .inr (8, [.int 0, .int 0, .int 2, .ref h1, .ref h2, .int 0, .int 500, .int 0, .int 0, .int 0, .ref h3]))] s.heap.size = A at hD hE9 ⊢
  have hE := hE9.1
  have hDc := hE9.2
  have hA : ∀ q : Nat, s.heap.size ≤ q → A q := fun q h => by rw [← hAe]; exact Or.inr h
  have hS : va_S A s.heap s.heap [] := va_S.rf
  have hP : va_P D vwCl [(h0, .inr (8, [.int 0, .int 0, .int 2, .ref h1, .ref h2, .int 0, .int 500, .int 0, .int 0, .int 0, .ref h3]))] s.heap := hP
  have hl := lv_entry [.ref h0, .int p0] (n := 2) (Nat.le_of_ble_eq_true rfl)
  rw [lg_entry_eq]
  generalize (lg_sl [.ref h0, .int p0] ++ List.replicate (2 - (lg_sl [.ref h0, .int p0]).length) Slot.unset).toArray = ls at hl ⊢
  have hl : lv_has ls 2 [(0, .ref h0), (1, .int p0)] := hl
  refine lv_aload_n hx hb dX6_chance__0 rfl (lv_at hl 0 rfl) ?_
  refine lv_iload_n hx hb dX6_chance__1 rfl (lv_at hl 1 rfl) ?_
  refine lv_iconst (v := 0) hx hb dX6_chance__2 (by decide) ?_
  refine lv_aload_n hx hb dX6_chance__3 rfl (lv_at hl 0 rfl) ?_
  refine va_get (D := D) (ci := 8) (v := .int 0) (C := RX6) (T := TX6) (N := 11) hx hb hts wi_X6_chance__RX6 hown hK hP 0 rfl rfl 1 (by decide) (hts _ wd312_X6_chance_) (fun _ h9 => h9) rfl dX6_chance__4 ?_
  refine vp_callSi (W.runS (As := [.int p0, .int 0, .int 0]) (rest := [.ref h0]) ⟨hx, hb, hml, hown, hts⟩ (k_X6_isIn_31 l D κ ε (p0) hf0) (va_cwS 3 hts gX6_chance__X6_isIn rfl rfl rfl (by decide +kernel) ⟨(Nat.le_of_ble_eq_true rfl), (Nat.le_of_ble_eq_true rfl)⟩) (pre0_S (wc := []) hP hK [] rfl) rfl rfl hl.1 rfl (lv_room (Nat.le_of_ble_eq_true rfl)) dX6_chance__7 ⟨(Nat.le_of_ble_eq_true rfl), (Nat.le_of_ble_eq_true rfl)⟩) (fun r hw => ?_)
  rw [hw]
  refine lv_if_ne (tgt := 17) hx hb dX6_chance__10 (by decide) (fun h => absurd (by decide) h) (fun _ => ?_)
  refine lv_iconst (v := 1) hx hb dX6_chance__13 (by decide) ?_
  refine lv_goto (tgt := 18) hx hb dX6_chance__14 (by decide) ?_
  refine lv_iconst (v := 1) hx hb dX6_chance__18 (by decide) ?_
  have hF := va_free (wc := [(h0, .inr (8, [.int 0, .int 0, .int 2, .ref h1, .ref h2, .int 0, .int 500, .int 0, .int 0, .int 0, .ref h3]))]) hD hS hA [0] rfl
  refine va_calli (va_runV (As := [.int 1, .int 1]) (rest := []) ⟨hx, hb, hml, hown, hts⟩ (k_X6_start_1 l D κ ε h0 h1 h2 h3 s.heap.size (0) (2) (0) (500) (0) (0)) (cwV 2 hts gX6_chance__X6_start rfl rfl rfl (by decide +kernel) ⟨(Nat.le_of_ble_eq_true rfl), (Nat.le_of_ble_eq_true rfl)⟩) (pre2_V (q0 := 0) (ci := 8) (wc := [(h0, .inr (8, [.int 0, .int 0, .int 2, .ref h1, .ref h2, .int 0, .int 500, .int 0, .int 0, .int 0, .ref h3]))]) hP hD hK hE9 hS hA [0] (by decide) rfl rfl rfl) rfl rfl hl.1 rfl (lv_room (Nat.le_of_ble_eq_true rfl)) dX6_chance__19 ⟨(Nat.le_of_ble_eq_true rfl), (Nat.le_of_ble_eq_true rfl)⟩) hS (fun q _ h => hF q h) hF (fun r u1 t H locs ht hvm hw hB hz1 hk1 hS => ?_)
  try dsimp only at hw hB
  obtain ⟨hP1, hD1⟩ := hB
  rw [ht] at hP1
  obtain ⟨hP, hD⟩ := post_j (ws' := [(h0, .inr (8, [.int 1, .int 0, .int 2, .ref h1, .ref h2, .int 0, .int 500, .int 0, .int 0, .int 0, .ref h3]))]) (wr := []) (w1 := [(h0, .inr (8, [.int 1, .int 0, .int 2, .ref h1, .ref h2, .int 0, .int 500, .int 0, .int 0, .int 0, .ref h3]))]) hP hD hF [0] rfl [] rfl (by decide) (by decide) hk1 hP1 hD1 [0] (by decide) rfl
  have hP : va_P D vwCl [(h0, .inr (8, [.int 1, .int 0, .int 2, .ref h1, .ref h2, .int 0, .int 500, .int 0, .int 0, .int 0, .ref h3]))] H := hP
  have hD : va_D A [(h0, .inr (8, [.int 1, .int 0, .int 2, .ref h1, .ref h2, .int 0, .int 500, .int 0, .int 0, .int 0, .ref h3]))] := hD
  rw [hw]
  refine lv_if_eq (tgt := 29) hx hb dX6_chance__22 (by decide) (fun h => absurd h (by decide)) (fun _ => ?_)
  refine lv_iconst (v := 0) hx hb dX6_chance__25 (by decide) ?_
  refine lv_goto (tgt := 39) hx hb dX6_chance__26 (by decide) ?_
  have hP9 := hP.sub (ws' := [(h0, .inr (8, [.int 1, .int 0, .int 2, .ref h1, .ref h2, .int 0, .int 500, .int 0, .int 0, .int 0, .ref h3]))]) [0] rfl
  have hD9 := hD.sub (ws' := [(h0, .inr (8, [.int 1, .int 0, .int 2, .ref h1, .ref h2, .int 0, .int 500, .int 0, .int 0, .int 0, .ref h3]))]) [0] (by decide) rfl
  exact W.iret (v := 0) hx hb hr (fun t ht hW => ⟨⟨0, [.int 1, .int 0, .int 2, .ref h1, .ref h2, .int 0, .int 500, .int 0, .int 0, .int 0, .ref h3], rfl, ⟨rfl, rfl⟩, by rw [ht]; exact hP9, hD9⟩, hS.F ht⟩) hS.2.2 dX6_chance__39

theorem iv15 (x : Int32) (h0 : ¬ x = 0) (h1 : ¬ x < 0) : 0 < x := by
  have e0 : (0 : Int32).toInt = 0 := by decide
  simp only [Int32.lt_iff_toInt_lt, Int32.le_iff_toInt_le, ← Int32.toInt_inj, e0] at *
  omega

set_option maxHeartbeats 4000000 in
set_option maxRecDepth 100000 in
theorem k_X6_isIn_32 (l : Launch) (D : va_G) (κ ε : Nat → Nat) (p0 : Int32) (hf0 : ¬ p0 = 0) (hf1 : ¬ p0 < 0) : Met l yX6_isIn wsX6_isIn ({ frames := 0, cells := 0, slots := 0, locals := 0 }) (va_Pc [.int p0, .int 0, .int 0] (Pre0 D κ [])) (vp_Si (fun r => (r = 0))) 0 0 (fun _ => False) := by
  refine Met.ofW (cc := cX6_isIn) (maxL := 3) (ret := (some .boolean)) (by decide) rfl ?_
  intro p e s m args below meth c s₁ B hml hv
  obtain ⟨rfl, hP, hK⟩ := hv
  have hx := B.exec
  have hb := B.bytes
  have hr := B.returns
  have hts := atoms_spec (ws := wsX6_isIn) B.pre
  have hown : s.vm.findClass RX6 = some m.cls := findClass_of_methodNamed B.named
  have hlocks := B.notSynchronized
  have hP : va_P D vwCl [] s.heap := hP
  have hl := lv_entry [.int p0, .int 0, .int 0] (n := 3) (Nat.le_of_ble_eq_true rfl)
  rw [lg_entry_eq]
  generalize (lg_sl [.int p0, .int 0, .int 0] ++ List.replicate (3 - (lg_sl [.int p0, .int 0, .int 0]).length) Slot.unset).toArray = ls at hl ⊢
  have hl : lv_has ls 3 [(0, .int p0), (1, .int 0), (2, .int 0)] := hl
  refine lv_iload_n hx hb dX6_isIn_0 rfl (lv_at hl 0 rfl) ?_
  refine lv_iload_n hx hb dX6_isIn_1 rfl (lv_at hl 1 rfl) ?_
  refine lv_icmp_lt (tgt := 14) hx hb dX6_isIn_2 (by decide) (fun h => absurd h hf1) (fun _ => ?_)
  refine lv_iload_n hx hb dX6_isIn_5 rfl (lv_at hl 0 rfl) ?_
  refine lv_iload_n hx hb dX6_isIn_6 rfl (lv_at hl 2 rfl) ?_
  refine lv_icmp_gt (tgt := 14) hx hb dX6_isIn_7 (by decide) (fun _ => ?_) (fun h => absurd (iv15 _ hf0 hf1) h)
  refine lv_iconst (v := 0) hx hb dX6_isIn_14 (by decide) ?_
  exact W.zret (v := 0) hx hb hr rfl (fun t ht hW => ⟨0, rfl, rfl, ht⟩) (fun q hq => absurd hq List.not_mem_nil) dX6_isIn_15

set_option maxHeartbeats 4000000 in
set_option maxRecDepth 100000 in
theorem k_X6_chance__2 (l : Launch) (D : va_G) (κ ε : Nat → Nat) (h0 h1 h2 h3 : Nat) (sz : Nat) (p0 : Int32) (hf0 : ¬ p0 = 0) (hf1 : ¬ p0 < 0) : Met l yX6_chance_ wsX6_chance_ ({ frames := 2, cells := 0, slots := 0, locals := 44 }) (va_Pc [.ref h0, .int p0] (Pre2 D κ ε [(h0, .inr (8, [.int 0, .int 0, .int 2, .ref h1, .ref h2, .int 0, .int 500, .int 0, .int 0, .int 0, .ref h3]))] sz)) (va_Qi (fun r (u : List Value) => (u[0]? = some (.int 1)) ∧ (r = 0)) (fun u t => va_P D vwCl [(h0, .inr (8, u))] t.heap ∧ va_D (va_A [(h0, .inr (8, [.int 0, .int 0, .int 2, .ref h1, .ref h2, .int 0, .int 500, .int 0, .int 0, .int 0, .ref h3]))] sz) [(h0, .inr (8, u))]) (va_A [(h0, .inr (8, [.int 0, .int 0, .int 2, .ref h1, .ref h2, .int 0, .int 500, .int 0, .int 0, .int 0, .ref h3]))] sz)) 0 0 (va_A [(h0, .inr (8, [.int 0, .int 0, .int 2, .ref h1, .ref h2, .int 0, .int 500, .int 0, .int 0, .int 0, .ref h3]))] sz) := by
  refine Met.ofW (cc := cX6_chance_) (maxL := 2) (ret := (some .int)) (by decide) rfl ?_
  intro p e s m args below meth c s₁ B hml hv
  obtain ⟨rfl, hsz, hP, hK, hD0, hE9⟩ := hv
  have hx := B.exec
  have hb := B.bytes
  have hr := B.returns
  have hts := atoms_spec (ws := wsX6_chance_) B.pre
  have hown : s.vm.findClass RX6 = some m.cls := findClass_of_methodNamed B.named
  have hlocks := B.notSynchronized
  subst hsz
  have hD := hD0.self (sz := s.heap.size)
  generalize hAe : va_A [(h0, .inr (8, [.int 0, .int 0, .int 2, .ref h1, .ref h2, .int 0, .int 500, .int 0, .int 0, .int 0, .ref h3]))] s.heap.size = A at hD hE9 ⊢
  have hE := hE9.1
  have hDc := hE9.2
  have hA : ∀ q : Nat, s.heap.size ≤ q → A q := fun q h => by rw [← hAe]; exact Or.inr h
  have hS : va_S A s.heap s.heap [] := va_S.rf
  have hP : va_P D vwCl [(h0, .inr (8, [.int 0, .int 0, .int 2, .ref h1, .ref h2, .int 0, .int 500, .int 0, .int 0, .int 0, .ref h3]))] s.heap := hP
  have hl := lv_entry [.ref h0, .int p0] (n := 2) (Nat.le_of_ble_eq_true rfl)
  rw [lg_entry_eq]
  generalize (lg_sl [.ref h0, .int p0] ++ List.replicate (2 - (lg_sl [.ref h0, .int p0]).length) Slot.unset).toArray = ls at hl ⊢
  have hl : lv_has ls 2 [(0, .ref h0), (1, .int p0)] := hl
  refine lv_aload_n hx hb dX6_chance__0 rfl (lv_at hl 0 rfl) ?_
  refine lv_iload_n hx hb dX6_chance__1 rfl (lv_at hl 1 rfl) ?_
  refine lv_iconst (v := 0) hx hb dX6_chance__2 (by decide) ?_
  refine lv_aload_n hx hb dX6_chance__3 rfl (lv_at hl 0 rfl) ?_
  refine va_get (D := D) (ci := 8) (v := .int 0) (C := RX6) (T := TX6) (N := 11) hx hb hts wi_X6_chance__RX6 hown hK hP 0 rfl rfl 1 (by decide) (hts _ wd312_X6_chance_) (fun _ h9 => h9) rfl dX6_chance__4 ?_
  refine vp_callSi (W.runS (As := [.int p0, .int 0, .int 0]) (rest := [.ref h0]) ⟨hx, hb, hml, hown, hts⟩ (k_X6_isIn_32 l D κ ε (p0) hf0 hf1) (va_cwS 3 hts gX6_chance__X6_isIn rfl rfl rfl (by decide +kernel) ⟨(Nat.le_of_ble_eq_true rfl), (Nat.le_of_ble_eq_true rfl)⟩) (pre0_S (wc := []) hP hK [] rfl) rfl rfl hl.1 rfl (lv_room (Nat.le_of_ble_eq_true rfl)) dX6_chance__7 ⟨(Nat.le_of_ble_eq_true rfl), (Nat.le_of_ble_eq_true rfl)⟩) (fun r hw => ?_)
  rw [hw]
  refine lv_if_ne (tgt := 17) hx hb dX6_chance__10 (by decide) (fun h => absurd (by decide) h) (fun _ => ?_)
  refine lv_iconst (v := 1) hx hb dX6_chance__13 (by decide) ?_
  refine lv_goto (tgt := 18) hx hb dX6_chance__14 (by decide) ?_
  refine lv_iconst (v := 1) hx hb dX6_chance__18 (by decide) ?_
  have hF := va_free (wc := [(h0, .inr (8, [.int 0, .int 0, .int 2, .ref h1, .ref h2, .int 0, .int 500, .int 0, .int 0, .int 0, .ref h3]))]) hD hS hA [0] rfl
  refine va_calli (va_runV (As := [.int 1, .int 1]) (rest := []) ⟨hx, hb, hml, hown, hts⟩ (k_X6_start_1 l D κ ε h0 h1 h2 h3 s.heap.size (0) (2) (0) (500) (0) (0)) (cwV 2 hts gX6_chance__X6_start rfl rfl rfl (by decide +kernel) ⟨(Nat.le_of_ble_eq_true rfl), (Nat.le_of_ble_eq_true rfl)⟩) (pre2_V (q0 := 0) (ci := 8) (wc := [(h0, .inr (8, [.int 0, .int 0, .int 2, .ref h1, .ref h2, .int 0, .int 500, .int 0, .int 0, .int 0, .ref h3]))]) hP hD hK hE9 hS hA [0] (by decide) rfl rfl rfl) rfl rfl hl.1 rfl (lv_room (Nat.le_of_ble_eq_true rfl)) dX6_chance__19 ⟨(Nat.le_of_ble_eq_true rfl), (Nat.le_of_ble_eq_true rfl)⟩) hS (fun q _ h => hF q h) hF (fun r u1 t H locs ht hvm hw hB hz1 hk1 hS => ?_)
  try dsimp only at hw hB
  obtain ⟨hP1, hD1⟩ := hB
  rw [ht] at hP1
  obtain ⟨hP, hD⟩ := post_j (ws' := [(h0, .inr (8, [.int 1, .int 0, .int 2, .ref h1, .ref h2, .int 0, .int 500, .int 0, .int 0, .int 0, .ref h3]))]) (wr := []) (w1 := [(h0, .inr (8, [.int 1, .int 0, .int 2, .ref h1, .ref h2, .int 0, .int 500, .int 0, .int 0, .int 0, .ref h3]))]) hP hD hF [0] rfl [] rfl (by decide) (by decide) hk1 hP1 hD1 [0] (by decide) rfl
  have hP : va_P D vwCl [(h0, .inr (8, [.int 1, .int 0, .int 2, .ref h1, .ref h2, .int 0, .int 500, .int 0, .int 0, .int 0, .ref h3]))] H := hP
  have hD : va_D A [(h0, .inr (8, [.int 1, .int 0, .int 2, .ref h1, .ref h2, .int 0, .int 500, .int 0, .int 0, .int 0, .ref h3]))] := hD
  rw [hw]
  refine lv_if_eq (tgt := 29) hx hb dX6_chance__22 (by decide) (fun h => absurd h (by decide)) (fun _ => ?_)
  refine lv_iconst (v := 0) hx hb dX6_chance__25 (by decide) ?_
  refine lv_goto (tgt := 39) hx hb dX6_chance__26 (by decide) ?_
  have hP9 := hP.sub (ws' := [(h0, .inr (8, [.int 1, .int 0, .int 2, .ref h1, .ref h2, .int 0, .int 500, .int 0, .int 0, .int 0, .ref h3]))]) [0] rfl
  have hD9 := hD.sub (ws' := [(h0, .inr (8, [.int 1, .int 0, .int 2, .ref h1, .ref h2, .int 0, .int 500, .int 0, .int 0, .int 0, .ref h3]))]) [0] (by decide) rfl
  exact W.iret (v := 0) hx hb hr (fun t ht hW => ⟨⟨0, [.int 1, .int 0, .int 2, .ref h1, .ref h2, .int 0, .int 500, .int 0, .int 0, .int 0, .ref h3], rfl, ⟨rfl, rfl⟩, by rw [ht]; exact hP9, hD9⟩, hS.F ht⟩) hS.2.2 dX6_chance__39

set_option maxHeartbeats 4000000 in
set_option maxRecDepth 100000 in
theorem case_17 {p : Program} {e : Env} {s : State} {m : MethodId} {below : List Frame} {meth : Method} {c : Code} (l : Launch) (hst : l.stackTraces = false) {b : Nat} {xs : Nat → Int32} (C0 : lw_At p s m meth c b 4 xs) (D : va_G) (κ ε : Nat → Nat) (hK : va_K D vwCl (tys κ) s) (hE9 : En2 ε (fun q : Nat => s.heap.size ≤ q) s s.heap) (qx qm qo : Nat) (ux um : Nat → Nat) {H : Heap} {locs : List Loc} (hP : va_P D vwCl [(qx, .inr (7, [.ref (ux 0), .ref (ux 27), .ref (ux 30), .ref (ux 31), .ref (ux 35), .ref (ux 36), .int 0, .int 0, .int 0, .int 0])), ((ux 0), .inr (2, [.int 0, .int 2, .ref (ux 1), .ref (ux 2)])), ((ux 1), .inl (κ 3, 4, .inr (.inr (.inr (.inr (sel [(ux 3), (ux 9), (ux 15), (ux 21)])))))), ((ux 9), .inr (6, [.ref (ux 10), .ref (ux 11), .int 0])), ((ux 27), .inr (3, [.ref (ux 0), .int 0, .int 500, .ref (ux 28), .ref (ux 29), .long 0, .int 0])), ((ux 28), .inl (κ 0, 13, .inl (fun _ => 0))), ((ux 29), .inl (κ 0, 13, .inl (fun _ => 0))), (qm, .inr (8, [.int 0, .int 0, .int 2, .ref (um 0), .ref (um 1), .int 0, .int 500, .int 0, .int 0, .int 0, .ref (um 6)])), ((um 0), .inr (1, [.int 0, .ref (ε 1), .int 0])), ((um 1), .inl (κ 4, 4, .inr (.inr (.inr (.inr (sel [(um 2), (um 3), (um 4), (um 5)])))))), ((um 3), .inl (κ 0, 196, .inl (fun _ => 0))), (qo, .inl (κ 2, 1, .inr (.inl (fun _ => 0))))] H) (hD : va_D (fun q : Nat => s.heap.size ≤ q) [(qx, .inr (7, [.ref (ux 0), .ref (ux 27), .ref (ux 30), .ref (ux 31), .ref (ux 35), .ref (ux 36), .int 0, .int 0, .int 0, .int 0])), ((ux 0), .inr (2, [.int 0, .int 2, .ref (ux 1), .ref (ux 2)])), ((ux 1), .inl (κ 3, 4, .inr (.inr (.inr (.inr (sel [(ux 3), (ux 9), (ux 15), (ux 21)])))))), ((ux 9), .inr (6, [.ref (ux 10), .ref (ux 11), .int 0])), ((ux 27), .inr (3, [.ref (ux 0), .int 0, .int 500, .ref (ux 28), .ref (ux 29), .long 0, .int 0])), ((ux 28), .inl (κ 0, 13, .inl (fun _ => 0))), ((ux 29), .inl (κ 0, 13, .inl (fun _ => 0))), (qm, .inr (8, [.int 0, .int 0, .int 2, .ref (um 0), .ref (um 1), .int 0, .int 500, .int 0, .int 0, .int 0, .ref (um 6)])), ((um 0), .inr (1, [.int 0, .ref (ε 1), .int 0])), ((um 1), .inl (κ 4, 4, .inr (.inr (.inr (.inr (sel [(um 2), (um 3), (um 4), (um 5)])))))), ((um 3), .inl (κ 0, 196, .inl (fun _ => 0))), (qo, .inl (κ 2, 1, .inr (.inl (fun _ => 0))))]) (hS : va_S (fun q : Nat => s.heap.size ≤ q) s.heap H locs) {ls : Array Slot} (hl : lv_has ls 9 [(0, .ref b), (1, .ref qx), (2, .ref qm), (3, .ref qo), (4, .int 0)]) : W p l e room_1 s m #[Value.ref b] below meth c H locs 100 120000 (lw_Z below #[Value.ref b] s) (F0 m 1028 ls []) := by
  obtain ⟨hx, hb, hr, hml, hown0, hts0, hX, hbl, hlocks, hgv⟩ := id C0
  have hts : ∀ w ∈ wsL_law, w.before #[Value.ref b] s = true := fun w h => hts0 w (wsL_law_in w h)
  have hown : s.vm.findClass RL = some m.cls := hown0
  have hE := hE9.1
  have hDc := hE9.2
  have hA : ∀ q : Nat, s.heap.size ≤ q → (fun q : Nat => s.heap.size ≤ q) q := fun _ h => h
  have hbA : ¬ (fun q : Nat => s.heap.size ≤ q) b := Nat.not_le.mpr hbl
  by_cases e1 : (xs 1) = 0
  · skip
    refine lv_aload_n hx hb dL_law_1028 rfl (lv_at hl 1 rfl) ?_
    refine lv_aload_n hx hb dL_law_1029 rfl (lv_at hl 0 rfl) ?_
    refine lv_iload hx hb dL_law_1030 (lv_at hl 4 rfl) ?_
    refine lv_iconst (v := 1) hx hb dL_law_1032 (by decide) ?_
    refine lv_iadd hx hb dL_law_1033 ?_
    refine tpi (v := 1) (by decide) ?_
    refine va_sld hx hb hX hbl hbA hS (vpl (by decide)) dL_law_1034 ?_
    refine tpi (v := (xs 1)) rfl ?_
    refine tpi (v := 0) e1 ?_
    refine lv_aload_n hx hb dL_law_1035 rfl (lv_at hl 3 rfl) ?_
    have hF := va_free (wc := [(qx, .inr (7, [.ref (ux 0), .ref (ux 27), .ref (ux 30), .ref (ux 31), .ref (ux 35), .ref (ux 36), .int 0, .int 0, .int 0, .int 0])), (qo, .inl (κ 2, 1, .inr (.inl (fun _ => 0)))), ((ux 0), .inr (2, [.int 0, .int 2, .ref (ux 1), .ref (ux 2)])), ((ux 27), .inr (3, [.ref (ux 0), .int 0, .int 500, .ref (ux 28), .ref (ux 29), .long 0, .int 0])), ((ux 1), .inl (κ 3, 4, .inr (.inr (.inr (.inr (sel [(ux 3), (ux 9), (ux 15), (ux 21)])))))), ((ux 28), .inl (κ 0, 13, .inl (fun _ => 0))), ((ux 29), .inl (κ 0, 13, .inl (fun _ => 0))), ((ux 9), .inr (6, [.ref (ux 10), .ref (ux 11), .int 0]))]) hD hS hA [0, 11, 1, 4, 2, 5, 6, 3] rfl
    refine va_calli (vx_runSW (As := [.ref qx, .int 0, .ref qo]) (rest := []) ⟨hx, hb, hml, hown, hts⟩ (k_L_chance_0 l hst D κ ε qx qo (ux 0) (ux 27) (ux 30) (ux 31) (ux 35) (ux 36) (ux 1) (ux 2) (ux 28) (ux 29) (ux 3) (ux 9) (ux 15) (ux 21) (ux 10) (ux 11) H.size) (vx_cwSW 3 hts gL_law_L_chance rfl rfl rfl (by decide +kernel) ⟨(Nat.le_of_ble_eq_true rfl), (Nat.le_of_ble_eq_true rfl)⟩) (pre2_S (wc := [(qx, .inr (7, [.ref (ux 0), .ref (ux 27), .ref (ux 30), .ref (ux 31), .ref (ux 35), .ref (ux 36), .int 0, .int 0, .int 0, .int 0])), (qo, .inl (κ 2, 1, .inr (.inl (fun _ => 0)))), ((ux 0), .inr (2, [.int 0, .int 2, .ref (ux 1), .ref (ux 2)])), ((ux 27), .inr (3, [.ref (ux 0), .int 0, .int 500, .ref (ux 28), .ref (ux 29), .long 0, .int 0])), ((ux 1), .inl (κ 3, 4, .inr (.inr (.inr (.inr (sel [(ux 3), (ux 9), (ux 15), (ux 21)])))))), ((ux 28), .inl (κ 0, 13, .inl (fun _ => 0))), ((ux 29), .inl (κ 0, 13, .inl (fun _ => 0))), ((ux 9), .inr (6, [.ref (ux 10), .ref (ux 11), .int 0]))]) hP hD hK hE9 hS hA [0, 11, 1, 4, 2, 5, 6, 3] (by decide) rfl) rfl rfl hl.1 rfl (lv_room (Nat.le_of_ble_eq_true rfl)) dL_law_1036 ⟨(Nat.le_of_ble_eq_true rfl), (Nat.le_of_ble_eq_true rfl)⟩) hS (fun q _ h => hF q h) hF (fun r u2 t H locs ht hvm hw hB hz1 hk1 hS => ?_)
    try dsimp only at hw hB
    obtain ⟨hP1, hD1⟩ := hB
    rw [ht] at hP1
    obtain ⟨hP, hD⟩ := post_j (ws' := [(qm, .inr (8, [.int 0, .int 0, .int 2, .ref (um 0), .ref (um 1), .int 0, .int 500, .int 0, .int 0, .int 0, .ref (um 6)])), ((um 0), .inr (1, [.int 0, .ref (ε 1), .int 0])), ((um 1), .inl (κ 4, 4, .inr (.inr (.inr (.inr (sel [(um 2), (um 3), (um 4), (um 5)])))))), ((um 3), .inl (κ 0, 196, .inl (fun _ => 0))), (qo, .inl (κ 2, 1, .inr (.inl u2)))]) (wr := [(qm, .inr (8, [.int 0, .int 0, .int 2, .ref (um 0), .ref (um 1), .int 0, .int 500, .int 0, .int 0, .int 0, .ref (um 6)])), ((um 0), .inr (1, [.int 0, .ref (ε 1), .int 0])), ((um 1), .inl (κ 4, 4, .inr (.inr (.inr (.inr (sel [(um 2), (um 3), (um 4), (um 5)])))))), ((um 3), .inl (κ 0, 196, .inl (fun _ => 0)))]) (w1 := [(qo, .inl (κ 2, 1, .inr (.inl u2)))]) hP hD hF [0, 11, 1, 4, 2, 5, 6, 3] rfl [7, 8, 9, 10] rfl (by decide) (by decide) hk1 hP1 hD1 [0, 1, 2, 3, 4] (by decide) rfl
    have hP : va_P D vwCl [(qm, .inr (8, [.int 0, .int 0, .int 2, .ref (um 0), .ref (um 1), .int 0, .int 500, .int 0, .int 0, .int 0, .ref (um 6)])), ((um 0), .inr (1, [.int 0, .ref (ε 1), .int 0])), ((um 1), .inl (κ 4, 4, .inr (.inr (.inr (.inr (sel [(um 2), (um 3), (um 4), (um 5)])))))), ((um 3), .inl (κ 0, 196, .inl (fun _ => 0))), (qo, .inl (κ 2, 1, .inr (.inl u2)))] H := hP
    have hD : va_D (fun q : Nat => s.heap.size ≤ q) [(qm, .inr (8, [.int 0, .int 0, .int 2, .ref (um 0), .ref (um 1), .int 0, .int 500, .int 0, .int 0, .int 0, .ref (um 6)])), ((um 0), .inr (1, [.int 0, .ref (ε 1), .int 0])), ((um 1), .inl (κ 4, 4, .inr (.inr (.inr (.inr (sel [(um 2), (um 3), (um 4), (um 5)])))))), ((um 3), .inl (κ 0, 196, .inl (fun _ => 0))), (qo, .inl (κ 2, 1, .inr (.inl u2)))] := hD
    obtain ⟨hu3, rfl⟩ := hw
    refine lv_istore (lv' := [(5, .int 0), (0, .ref b), (1, .ref qx), (2, .ref qm), (3, .ref qo), (4, .int 0)]) hx hb dL_law_1039 hl (by decide) rfl (fun ls hl => ?_)
    refine lv_aload_n hx hb dL_law_1041 rfl (lv_at hl 3 rfl) ?_
    refine lv_aload_n hx hb dL_law_1042 rfl (lv_at hl 1 rfl) ?_
    refine lv_iload hx hb dL_law_1043 (lv_at hl 5 rfl) ?_
    refine lv_iconst (v := 1) hx hb dL_law_1045 (by decide) ?_
    refine lv_iadd hx hb dL_law_1046 ?_
    refine tpi (v := 1) (by decide) ?_
    refine va_sld hx hb hX hbl hbA hS (vpl (by decide)) dL_law_1047 ?_
    refine tpi (v := (xs 1)) rfl ?_
    refine tpi (v := 0) e1 ?_
    have hF := va_free (wc := [(qm, .inr (8, [.int 0, .int 0, .int 2, .ref (um 0), .ref (um 1), .int 0, .int 500, .int 0, .int 0, .int 0, .ref (um 6)])), ((um 0), .inr (1, [.int 0, .ref (ε 1), .int 0])), ((um 1), .inl (κ 4, 4, .inr (.inr (.inr (.inr (sel [(um 2), (um 3), (um 4), (um 5)])))))), ((um 3), .inl (κ 0, 196, .inl (fun _ => 0)))]) hD hS hA [0, 1, 2, 3] rfl
    refine va_calli (va_runV (As := [.int 0]) (rest := []) ⟨hx, hb, hml, hown, hts⟩ (k_X6_chance__0 l D κ ε qm (um 0) (um 1) (um 6) (um 2) (um 3) (um 4) (um 5) H.size) (cwV 1 hts gL_law_X6_chance_ rfl rfl rfl (by decide +kernel) ⟨(Nat.le_of_ble_eq_true rfl), (Nat.le_of_ble_eq_true rfl)⟩) (pre2_V (q0 := 0) (ci := 8) (wc := [(qm, .inr (8, [.int 0, .int 0, .int 2, .ref (um 0), .ref (um 1), .int 0, .int 500, .int 0, .int 0, .int 0, .ref (um 6)])), ((um 0), .inr (1, [.int 0, .ref (ε 1), .int 0])), ((um 1), .inl (κ 4, 4, .inr (.inr (.inr (.inr (sel [(um 2), (um 3), (um 4), (um 5)])))))), ((um 3), .inl (κ 0, 196, .inl (fun _ => 0)))]) hP hD hK hE9 hS hA [0, 1, 2, 3] (by decide) rfl rfl rfl) rfl rfl hl.1 rfl (lv_room (Nat.le_of_ble_eq_true rfl)) dL_law_1048 ⟨(Nat.le_of_ble_eq_true rfl), (Nat.le_of_ble_eq_true rfl)⟩) hS (fun q _ h => hF q h) hF (fun r u4 t H locs ht hvm hw hB hz1 hk1 hS => ?_)
    try dsimp only at hw hB
    obtain ⟨hP1, hD1⟩ := hB
    rw [ht] at hP1
    obtain ⟨hP, hD⟩ := post_j (ws' := [(qm, .inr (8, u4)), (qo, .inl (κ 2, 1, .inr (.inl u2)))]) (wr := [(qo, .inl (κ 2, 1, .inr (.inl u2)))]) (w1 := [(qm, .inr (8, u4))]) hP hD hF [0, 1, 2, 3] rfl [4] rfl (by decide) (by decide) hk1 hP1 hD1 [1, 0] (by decide) rfl
    have hP : va_P D vwCl [(qm, .inr (8, u4)), (qo, .inl (κ 2, 1, .inr (.inl u2)))] H := hP
    have hD : va_D (fun q : Nat => s.heap.size ≤ q) [(qm, .inr (8, u4)), (qo, .inl (κ 2, 1, .inr (.inl u2)))] := hD
    obtain ⟨hu5, rfl⟩ := hw
    refine lv_istore (lv' := [(6, .int 1000000), (5, .int 0), (0, .ref b), (1, .ref qx), (2, .ref qm), (3, .ref qo), (4, .int 0)]) hx hb dL_law_1051 hl (by decide) rfl (fun ls hl => ?_)
    refine lv_aload_n hx hb dL_law_1053 rfl (lv_at hl 4 rfl) ?_
    refine vp_callSi (W.runV (As := []) (rest := []) ⟨hx, hb, hml, hown, hts⟩ (k_thrown l D κ qm u4 (0) hu5) (cwV 0 hts gL_law_X6_thrown rfl rfl rfl (by decide +kernel) ⟨(Nat.le_of_ble_eq_true rfl), (Nat.le_of_ble_eq_true rfl)⟩) (pre0_V (q0 := 0) (ci := 8) (wc := [(qm, .inr (8, u4))]) hP hK [0] rfl rfl rfl) rfl rfl hl.1 rfl (lv_room (Nat.le_of_ble_eq_true rfl)) dL_law_1054 ⟨(Nat.le_of_ble_eq_true rfl), (Nat.le_of_ble_eq_true rfl)⟩) (fun r hw => ?_)
    subst hw
    refine lv_iload hx hb dL_law_1057 (lv_at hl 1 rfl) ?_
    refine lv_icmp_eq (tgt := 1064) hx hb dL_law_1059 (by decide) (fun _ => ?_) (fun h => absurd (by decide) h)
    refine lv_iload hx hb dL_law_1064 (lv_at hl 1 rfl) ?_
    refine lv_if_ne (tgt := 1081) hx hb dL_law_1066 (by decide) (fun h => absurd (by decide) h) (fun _ => ?_)
    refine lv_aload_n hx hb dL_law_1069 rfl (lv_at hl 5 rfl) ?_
    refine lv_iconst (v := 0) hx hb dL_law_1070 (by decide) ?_
    refine va_lald (cA := κ 2) (n := 1) (f := u2) hx hb hK hP 1 2 rfl rfl (vpl (by decide)) dL_law_1071 ?_
    refine tpl (v := 1000000) hu3 ?_
    refine lv_iload hx hb dL_law_1072 (lv_at hl 0 rfl) ?_
    refine lv_i2l (v := 1000000) hx hb dL_law_1074 (by decide) ?_
    refine W.lcmp hx hb dL_law_1075 ?_
    refine tpi (v := 0) (by decide) ?_
    refine lv_if_eq (tgt := 1081) hx hb dL_law_1076 (by decide) (fun _ => ?_) (fun h => absurd (by decide) h)
    refine lv_goto (tgt := 1677) hx hb dL_law_1081 (by decide) ?_
    exact law_end C0 (Nat.le_of_ble_eq_true rfl) (Nat.le_of_ble_eq_true rfl) hS (lv_sub hl [2, 6] rfl)
  · skip
    refine lv_aload_n hx hb dL_law_1028 rfl (lv_at hl 1 rfl) ?_
    refine lv_aload_n hx hb dL_law_1029 rfl (lv_at hl 0 rfl) ?_
    refine lv_iload hx hb dL_law_1030 (lv_at hl 4 rfl) ?_
    refine lv_iconst (v := 1) hx hb dL_law_1032 (by decide) ?_
    refine lv_iadd hx hb dL_law_1033 ?_
    refine tpi (v := 1) (by decide) ?_
    refine va_sld hx hb hX hbl hbA hS (vpl (by decide)) dL_law_1034 ?_
    refine tpi (v := (xs 1)) rfl ?_
    refine lv_aload_n hx hb dL_law_1035 rfl (lv_at hl 3 rfl) ?_
    have hF := va_free (wc := [(qx, .inr (7, [.ref (ux 0), .ref (ux 27), .ref (ux 30), .ref (ux 31), .ref (ux 35), .ref (ux 36), .int 0, .int 0, .int 0, .int 0])), (qo, .inl (κ 2, 1, .inr (.inl (fun _ => 0)))), ((ux 0), .inr (2, [.int 0, .int 2, .ref (ux 1), .ref (ux 2)]))]) hD hS hA [0, 11, 1] rfl
    refine va_calli (vx_runSW (As := [.ref qx, .int (xs 1), .ref qo]) (rest := []) ⟨hx, hb, hml, hown, hts⟩ (k_L_chance_1 l hst D κ ε qx qo (ux 0) (ux 27) (ux 30) (ux 31) (ux 35) (ux 36) (ux 1) (ux 2) H.size ((xs 1)) e1) (vx_cwSW 3 hts gL_law_L_chance rfl rfl rfl (by decide +kernel) ⟨(Nat.le_of_ble_eq_true rfl), (Nat.le_of_ble_eq_true rfl)⟩) (pre2_S (wc := [(qx, .inr (7, [.ref (ux 0), .ref (ux 27), .ref (ux 30), .ref (ux 31), .ref (ux 35), .ref (ux 36), .int 0, .int 0, .int 0, .int 0])), (qo, .inl (κ 2, 1, .inr (.inl (fun _ => 0)))), ((ux 0), .inr (2, [.int 0, .int 2, .ref (ux 1), .ref (ux 2)]))]) hP hD hK hE9 hS hA [0, 11, 1] (by decide) rfl) rfl rfl hl.1 rfl (lv_room (Nat.le_of_ble_eq_true rfl)) dL_law_1036 ⟨(Nat.le_of_ble_eq_true rfl), (Nat.le_of_ble_eq_true rfl)⟩) hS (fun q _ h => hF q h) hF (fun r u6 t H locs ht hvm hw hB hz1 hk1 hS => ?_)
    try dsimp only at hw hB
    obtain ⟨hP1, hD1⟩ := hB
    rw [ht] at hP1
    obtain ⟨hP, hD⟩ := post_j (ws' := [((ux 1), .inl (κ 3, 4, .inr (.inr (.inr (.inr (sel [(ux 3), (ux 9), (ux 15), (ux 21)])))))), ((ux 9), .inr (6, [.ref (ux 10), .ref (ux 11), .int 0])), ((ux 27), .inr (3, [.ref (ux 0), .int 0, .int 500, .ref (ux 28), .ref (ux 29), .long 0, .int 0])), ((ux 28), .inl (κ 0, 13, .inl (fun _ => 0))), ((ux 29), .inl (κ 0, 13, .inl (fun _ => 0))), (qm, .inr (8, [.int 0, .int 0, .int 2, .ref (um 0), .ref (um 1), .int 0, .int 500, .int 0, .int 0, .int 0, .ref (um 6)])), ((um 0), .inr (1, [.int 0, .ref (ε 1), .int 0])), ((um 1), .inl (κ 4, 4, .inr (.inr (.inr (.inr (sel [(um 2), (um 3), (um 4), (um 5)])))))), ((um 3), .inl (κ 0, 196, .inl (fun _ => 0))), (qo, .inl (κ 2, 1, .inr (.inl u6)))]) (wr := [((ux 1), .inl (κ 3, 4, .inr (.inr (.inr (.inr (sel [(ux 3), (ux 9), (ux 15), (ux 21)])))))), ((ux 9), .inr (6, [.ref (ux 10), .ref (ux 11), .int 0])), ((ux 27), .inr (3, [.ref (ux 0), .int 0, .int 500, .ref (ux 28), .ref (ux 29), .long 0, .int 0])), ((ux 28), .inl (κ 0, 13, .inl (fun _ => 0))), ((ux 29), .inl (κ 0, 13, .inl (fun _ => 0))), (qm, .inr (8, [.int 0, .int 0, .int 2, .ref (um 0), .ref (um 1), .int 0, .int 500, .int 0, .int 0, .int 0, .ref (um 6)])), ((um 0), .inr (1, [.int 0, .ref (ε 1), .int 0])), ((um 1), .inl (κ 4, 4, .inr (.inr (.inr (.inr (sel [(um 2), (um 3), (um 4), (um 5)])))))), ((um 3), .inl (κ 0, 196, .inl (fun _ => 0)))]) (w1 := [(qo, .inl (κ 2, 1, .inr (.inl u6)))]) hP hD hF [0, 11, 1] rfl [2, 3, 4, 5, 6, 7, 8, 9, 10] rfl (by decide) (by decide) hk1 hP1 hD1 [0, 1, 2, 3, 4, 5, 6, 7, 8, 9] (by decide) rfl
    have hP : va_P D vwCl [((ux 1), .inl (κ 3, 4, .inr (.inr (.inr (.inr (sel [(ux 3), (ux 9), (ux 15), (ux 21)])))))), ((ux 9), .inr (6, [.ref (ux 10), .ref (ux 11), .int 0])), ((ux 27), .inr (3, [.ref (ux 0), .int 0, .int 500, .ref (ux 28), .ref (ux 29), .long 0, .int 0])), ((ux 28), .inl (κ 0, 13, .inl (fun _ => 0))), ((ux 29), .inl (κ 0, 13, .inl (fun _ => 0))), (qm, .inr (8, [.int 0, .int 0, .int 2, .ref (um 0), .ref (um 1), .int 0, .int 500, .int 0, .int 0, .int 0, .ref (um 6)])), ((um 0), .inr (1, [.int 0, .ref (ε 1), .int 0])), ((um 1), .inl (κ 4, 4, .inr (.inr (.inr (.inr (sel [(um 2), (um 3), (um 4), (um 5)])))))), ((um 3), .inl (κ 0, 196, .inl (fun _ => 0))), (qo, .inl (κ 2, 1, .inr (.inl u6)))] H := hP
    have hD : va_D (fun q : Nat => s.heap.size ≤ q) [((ux 1), .inl (κ 3, 4, .inr (.inr (.inr (.inr (sel [(ux 3), (ux 9), (ux 15), (ux 21)])))))), ((ux 9), .inr (6, [.ref (ux 10), .ref (ux 11), .int 0])), ((ux 27), .inr (3, [.ref (ux 0), .int 0, .int 500, .ref (ux 28), .ref (ux 29), .long 0, .int 0])), ((ux 28), .inl (κ 0, 13, .inl (fun _ => 0))), ((ux 29), .inl (κ 0, 13, .inl (fun _ => 0))), (qm, .inr (8, [.int 0, .int 0, .int 2, .ref (um 0), .ref (um 1), .int 0, .int 500, .int 0, .int 0, .int 0, .ref (um 6)])), ((um 0), .inr (1, [.int 0, .ref (ε 1), .int 0])), ((um 1), .inl (κ 4, 4, .inr (.inr (.inr (.inr (sel [(um 2), (um 3), (um 4), (um 5)])))))), ((um 3), .inl (κ 0, 196, .inl (fun _ => 0))), (qo, .inl (κ 2, 1, .inr (.inl u6)))] := hD
    rcases hw with ⟨c7, rfl⟩ | ⟨c8, rfl⟩
    · skip
      refine lv_istore (lv' := [(5, .int 1), (0, .ref b), (1, .ref qx), (2, .ref qm), (3, .ref qo), (4, .int 0)]) hx hb dL_law_1039 hl (by decide) rfl (fun ls hl => ?_)
      refine lv_aload_n hx hb dL_law_1041 rfl (lv_at hl 3 rfl) ?_
      refine lv_aload_n hx hb dL_law_1042 rfl (lv_at hl 1 rfl) ?_
      refine lv_iload hx hb dL_law_1043 (lv_at hl 5 rfl) ?_
      refine lv_iconst (v := 1) hx hb dL_law_1045 (by decide) ?_
      refine lv_iadd hx hb dL_law_1046 ?_
      refine tpi (v := 1) (by decide) ?_
      refine va_sld hx hb hX hbl hbA hS (vpl (by decide)) dL_law_1047 ?_
      refine tpi (v := (xs 1)) rfl ?_
      have hF := va_free (wc := [(qm, .inr (8, [.int 0, .int 0, .int 2, .ref (um 0), .ref (um 1), .int 0, .int 500, .int 0, .int 0, .int 0, .ref (um 6)]))]) hD hS hA [5] rfl
      refine va_calli (va_runV (As := [.int (xs 1)]) (rest := []) ⟨hx, hb, hml, hown, hts⟩ (k_X6_chance__1 l D κ ε qm (um 0) (um 1) (um 6) H.size ((xs 1)) c7) (cwV 1 hts gL_law_X6_chance_ rfl rfl rfl (by decide +kernel) ⟨(Nat.le_of_ble_eq_true rfl), (Nat.le_of_ble_eq_true rfl)⟩) (pre2_V (q0 := 5) (ci := 8) (wc := [(qm, .inr (8, [.int 0, .int 0, .int 2, .ref (um 0), .ref (um 1), .int 0, .int 500, .int 0, .int 0, .int 0, .ref (um 6)]))]) hP hD hK hE9 hS hA [5] (by decide) rfl rfl rfl) rfl rfl hl.1 rfl (lv_room (Nat.le_of_ble_eq_true rfl)) dL_law_1048 ⟨(Nat.le_of_ble_eq_true rfl), (Nat.le_of_ble_eq_true rfl)⟩) hS (fun q _ h => hF q h) hF (fun r u9 t H locs ht hvm hw hB hz1 hk1 hS => ?_)
      try dsimp only at hw hB
      obtain ⟨hP1, hD1⟩ := hB
      rw [ht] at hP1
      obtain ⟨hP, hD⟩ := post_j (ws' := [((ux 1), .inl (κ 3, 4, .inr (.inr (.inr (.inr (sel [(ux 3), (ux 9), (ux 15), (ux 21)])))))), ((ux 9), .inr (6, [.ref (ux 10), .ref (ux 11), .int 0])), ((ux 27), .inr (3, [.ref (ux 0), .int 0, .int 500, .ref (ux 28), .ref (ux 29), .long 0, .int 0])), ((ux 28), .inl (κ 0, 13, .inl (fun _ => 0))), ((ux 29), .inl (κ 0, 13, .inl (fun _ => 0))), (qm, .inr (8, u9)), ((um 0), .inr (1, [.int 0, .ref (ε 1), .int 0])), ((um 1), .inl (κ 4, 4, .inr (.inr (.inr (.inr (sel [(um 2), (um 3), (um 4), (um 5)])))))), ((um 3), .inl (κ 0, 196, .inl (fun _ => 0))), (qo, .inl (κ 2, 1, .inr (.inl u6)))]) (wr := [((ux 1), .inl (κ 3, 4, .inr (.inr (.inr (.inr (sel [(ux 3), (ux 9), (ux 15), (ux 21)])))))), ((ux 9), .inr (6, [.ref (ux 10), .ref (ux 11), .int 0])), ((ux 27), .inr (3, [.ref (ux 0), .int 0, .int 500, .ref (ux 28), .ref (ux 29), .long 0, .int 0])), ((ux 28), .inl (κ 0, 13, .inl (fun _ => 0))), ((ux 29), .inl (κ 0, 13, .inl (fun _ => 0))), ((um 0), .inr (1, [.int 0, .ref (ε 1), .int 0])), ((um 1), .inl (κ 4, 4, .inr (.inr (.inr (.inr (sel [(um 2), (um 3), (um 4), (um 5)])))))), ((um 3), .inl (κ 0, 196, .inl (fun _ => 0))), (qo, .inl (κ 2, 1, .inr (.inl u6)))]) (w1 := [(qm, .inr (8, u9))]) hP hD hF [5] rfl [0, 1, 2, 3, 4, 6, 7, 8, 9] rfl (by decide) (by decide) hk1 hP1 hD1 [0, 1, 2, 3, 4, 9, 5, 6, 7, 8] (by decide) rfl
      have hP : va_P D vwCl [((ux 1), .inl (κ 3, 4, .inr (.inr (.inr (.inr (sel [(ux 3), (ux 9), (ux 15), (ux 21)])))))), ((ux 9), .inr (6, [.ref (ux 10), .ref (ux 11), .int 0])), ((ux 27), .inr (3, [.ref (ux 0), .int 0, .int 500, .ref (ux 28), .ref (ux 29), .long 0, .int 0])), ((ux 28), .inl (κ 0, 13, .inl (fun _ => 0))), ((ux 29), .inl (κ 0, 13, .inl (fun _ => 0))), (qm, .inr (8, u9)), ((um 0), .inr (1, [.int 0, .ref (ε 1), .int 0])), ((um 1), .inl (κ 4, 4, .inr (.inr (.inr (.inr (sel [(um 2), (um 3), (um 4), (um 5)])))))), ((um 3), .inl (κ 0, 196, .inl (fun _ => 0))), (qo, .inl (κ 2, 1, .inr (.inl u6)))] H := hP
      have hD : va_D (fun q : Nat => s.heap.size ≤ q) [((ux 1), .inl (κ 3, 4, .inr (.inr (.inr (.inr (sel [(ux 3), (ux 9), (ux 15), (ux 21)])))))), ((ux 9), .inr (6, [.ref (ux 10), .ref (ux 11), .int 0])), ((ux 27), .inr (3, [.ref (ux 0), .int 0, .int 500, .ref (ux 28), .ref (ux 29), .long 0, .int 0])), ((ux 28), .inl (κ 0, 13, .inl (fun _ => 0))), ((ux 29), .inl (κ 0, 13, .inl (fun _ => 0))), (qm, .inr (8, u9)), ((um 0), .inr (1, [.int 0, .ref (ε 1), .int 0])), ((um 1), .inl (κ 4, 4, .inr (.inr (.inr (.inr (sel [(um 2), (um 3), (um 4), (um 5)])))))), ((um 3), .inl (κ 0, 196, .inl (fun _ => 0))), (qo, .inl (κ 2, 1, .inr (.inl u6)))] := hD
      obtain ⟨hu10, rfl⟩ := hw
      refine lv_istore (lv' := [(6, .int 0), (5, .int 1), (0, .ref b), (1, .ref qx), (2, .ref qm), (3, .ref qo), (4, .int 0)]) hx hb dL_law_1051 hl (by decide) rfl (fun ls hl => ?_)
      refine lv_aload_n hx hb dL_law_1053 rfl (lv_at hl 4 rfl) ?_
      refine vp_callSi (W.runV (As := []) (rest := []) ⟨hx, hb, hml, hown, hts⟩ (k_thrown l D κ qm u9 (1) hu10) (cwV 0 hts gL_law_X6_thrown rfl rfl rfl (by decide +kernel) ⟨(Nat.le_of_ble_eq_true rfl), (Nat.le_of_ble_eq_true rfl)⟩) (pre0_V (q0 := 5) (ci := 8) (wc := [(qm, .inr (8, u9))]) hP hK [5] rfl rfl rfl) rfl rfl hl.1 rfl (lv_room (Nat.le_of_ble_eq_true rfl)) dL_law_1054 ⟨(Nat.le_of_ble_eq_true rfl), (Nat.le_of_ble_eq_true rfl)⟩) (fun r hw => ?_)
      subst hw
      refine lv_iload hx hb dL_law_1057 (lv_at hl 1 rfl) ?_
      refine lv_icmp_eq (tgt := 1064) hx hb dL_law_1059 (by decide) (fun _ => ?_) (fun h => absurd (by decide) h)
      refine lv_iload hx hb dL_law_1064 (lv_at hl 1 rfl) ?_
      refine lv_if_ne (tgt := 1081) hx hb dL_law_1066 (by decide) (fun _ => ?_) (fun h => absurd h (by decide))
      refine lv_goto (tgt := 1677) hx hb dL_law_1081 (by decide) ?_
      exact law_end C0 (Nat.le_of_ble_eq_true rfl) (Nat.le_of_ble_eq_true rfl) hS (lv_sub hl [2, 6] rfl)
    · skip
      refine lv_istore (lv' := [(5, .int 1), (0, .ref b), (1, .ref qx), (2, .ref qm), (3, .ref qo), (4, .int 0)]) hx hb dL_law_1039 hl (by decide) rfl (fun ls hl => ?_)
      refine lv_aload_n hx hb dL_law_1041 rfl (lv_at hl 3 rfl) ?_
      refine lv_aload_n hx hb dL_law_1042 rfl (lv_at hl 1 rfl) ?_
      refine lv_iload hx hb dL_law_1043 (lv_at hl 5 rfl) ?_
      refine lv_iconst (v := 1) hx hb dL_law_1045 (by decide) ?_
      refine lv_iadd hx hb dL_law_1046 ?_
      refine tpi (v := 1) (by decide) ?_
      refine va_sld hx hb hX hbl hbA hS (vpl (by decide)) dL_law_1047 ?_
      refine tpi (v := (xs 1)) rfl ?_
      have hF := va_free (wc := [(qm, .inr (8, [.int 0, .int 0, .int 2, .ref (um 0), .ref (um 1), .int 0, .int 500, .int 0, .int 0, .int 0, .ref (um 6)]))]) hD hS hA [5] rfl
      refine va_calli (va_runV (As := [.int (xs 1)]) (rest := []) ⟨hx, hb, hml, hown, hts⟩ (k_X6_chance__2 l D κ ε qm (um 0) (um 1) (um 6) H.size ((xs 1)) e1 c8) (cwV 1 hts gL_law_X6_chance_ rfl rfl rfl (by decide +kernel) ⟨(Nat.le_of_ble_eq_true rfl), (Nat.le_of_ble_eq_true rfl)⟩) (pre2_V (q0 := 5) (ci := 8) (wc := [(qm, .inr (8, [.int 0, .int 0, .int 2, .ref (um 0), .ref (um 1), .int 0, .int 500, .int 0, .int 0, .int 0, .ref (um 6)]))]) hP hD hK hE9 hS hA [5] (by decide) rfl rfl rfl) rfl rfl hl.1 rfl (lv_room (Nat.le_of_ble_eq_true rfl)) dL_law_1048 ⟨(Nat.le_of_ble_eq_true rfl), (Nat.le_of_ble_eq_true rfl)⟩) hS (fun q _ h => hF q h) hF (fun r u11 t H locs ht hvm hw hB hz1 hk1 hS => ?_)
      try dsimp only at hw hB
      obtain ⟨hP1, hD1⟩ := hB
      rw [ht] at hP1
      obtain ⟨hP, hD⟩ := post_j (ws' := [((ux 1), .inl (κ 3, 4, .inr (.inr (.inr (.inr (sel [(ux 3), (ux 9), (ux 15), (ux 21)])))))), ((ux 9), .inr (6, [.ref (ux 10), .ref (ux 11), .int 0])), ((ux 27), .inr (3, [.ref (ux 0), .int 0, .int 500, .ref (ux 28), .ref (ux 29), .long 0, .int 0])), ((ux 28), .inl (κ 0, 13, .inl (fun _ => 0))), ((ux 29), .inl (κ 0, 13, .inl (fun _ => 0))), (qm, .inr (8, u11)), ((um 0), .inr (1, [.int 0, .ref (ε 1), .int 0])), ((um 1), .inl (κ 4, 4, .inr (.inr (.inr (.inr (sel [(um 2), (um 3), (um 4), (um 5)])))))), ((um 3), .inl (κ 0, 196, .inl (fun _ => 0))), (qo, .inl (κ 2, 1, .inr (.inl u6)))]) (wr := [((ux 1), .inl (κ 3, 4, .inr (.inr (.inr (.inr (sel [(ux 3), (ux 9), (ux 15), (ux 21)])))))), ((ux 9), .inr (6, [.ref (ux 10), .ref (ux 11), .int 0])), ((ux 27), .inr (3, [.ref (ux 0), .int 0, .int 500, .ref (ux 28), .ref (ux 29), .long 0, .int 0])), ((ux 28), .inl (κ 0, 13, .inl (fun _ => 0))), ((ux 29), .inl (κ 0, 13, .inl (fun _ => 0))), ((um 0), .inr (1, [.int 0, .ref (ε 1), .int 0])), ((um 1), .inl (κ 4, 4, .inr (.inr (.inr (.inr (sel [(um 2), (um 3), (um 4), (um 5)])))))), ((um 3), .inl (κ 0, 196, .inl (fun _ => 0))), (qo, .inl (κ 2, 1, .inr (.inl u6)))]) (w1 := [(qm, .inr (8, u11))]) hP hD hF [5] rfl [0, 1, 2, 3, 4, 6, 7, 8, 9] rfl (by decide) (by decide) hk1 hP1 hD1 [0, 1, 2, 3, 4, 9, 5, 6, 7, 8] (by decide) rfl
      have hP : va_P D vwCl [((ux 1), .inl (κ 3, 4, .inr (.inr (.inr (.inr (sel [(ux 3), (ux 9), (ux 15), (ux 21)])))))), ((ux 9), .inr (6, [.ref (ux 10), .ref (ux 11), .int 0])), ((ux 27), .inr (3, [.ref (ux 0), .int 0, .int 500, .ref (ux 28), .ref (ux 29), .long 0, .int 0])), ((ux 28), .inl (κ 0, 13, .inl (fun _ => 0))), ((ux 29), .inl (κ 0, 13, .inl (fun _ => 0))), (qm, .inr (8, u11)), ((um 0), .inr (1, [.int 0, .ref (ε 1), .int 0])), ((um 1), .inl (κ 4, 4, .inr (.inr (.inr (.inr (sel [(um 2), (um 3), (um 4), (um 5)])))))), ((um 3), .inl (κ 0, 196, .inl (fun _ => 0))), (qo, .inl (κ 2, 1, .inr (.inl u6)))] H := hP
      have hD : va_D (fun q : Nat => s.heap.size ≤ q) [((ux 1), .inl (κ 3, 4, .inr (.inr (.inr (.inr (sel [(ux 3), (ux 9), (ux 15), (ux 21)])))))), ((ux 9), .inr (6, [.ref (ux 10), .ref (ux 11), .int 0])), ((ux 27), .inr (3, [.ref (ux 0), .int 0, .int 500, .ref (ux 28), .ref (ux 29), .long 0, .int 0])), ((ux 28), .inl (κ 0, 13, .inl (fun _ => 0))), ((ux 29), .inl (κ 0, 13, .inl (fun _ => 0))), (qm, .inr (8, u11)), ((um 0), .inr (1, [.int 0, .ref (ε 1), .int 0])), ((um 1), .inl (κ 4, 4, .inr (.inr (.inr (.inr (sel [(um 2), (um 3), (um 4), (um 5)])))))), ((um 3), .inl (κ 0, 196, .inl (fun _ => 0))), (qo, .inl (κ 2, 1, .inr (.inl u6)))] := hD
      obtain ⟨hu12, rfl⟩ := hw
      refine lv_istore (lv' := [(6, .int 0), (5, .int 1), (0, .ref b), (1, .ref qx), (2, .ref qm), (3, .ref qo), (4, .int 0)]) hx hb dL_law_1051 hl (by decide) rfl (fun ls hl => ?_)
      refine lv_aload_n hx hb dL_law_1053 rfl (lv_at hl 4 rfl) ?_
      refine vp_callSi (W.runV (As := []) (rest := []) ⟨hx, hb, hml, hown, hts⟩ (k_thrown l D κ qm u11 (1) hu12) (cwV 0 hts gL_law_X6_thrown rfl rfl rfl (by decide +kernel) ⟨(Nat.le_of_ble_eq_true rfl), (Nat.le_of_ble_eq_true rfl)⟩) (pre0_V (q0 := 5) (ci := 8) (wc := [(qm, .inr (8, u11))]) hP hK [5] rfl rfl rfl) rfl rfl hl.1 rfl (lv_room (Nat.le_of_ble_eq_true rfl)) dL_law_1054 ⟨(Nat.le_of_ble_eq_true rfl), (Nat.le_of_ble_eq_true rfl)⟩) (fun r hw => ?_)
      subst hw
      refine lv_iload hx hb dL_law_1057 (lv_at hl 1 rfl) ?_
      refine lv_icmp_eq (tgt := 1064) hx hb dL_law_1059 (by decide) (fun _ => ?_) (fun h => absurd (by decide) h)
      refine lv_iload hx hb dL_law_1064 (lv_at hl 1 rfl) ?_
      refine lv_if_ne (tgt := 1081) hx hb dL_law_1066 (by decide) (fun _ => ?_) (fun h => absurd h (by decide))
      refine lv_goto (tgt := 1677) hx hb dL_law_1081 (by decide) ?_
      exact law_end C0 (Nat.le_of_ble_eq_true rfl) (Nat.le_of_ble_eq_true rfl) hS (lv_sub hl [2, 6] rfl)
