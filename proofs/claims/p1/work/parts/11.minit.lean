theorem wd82_Jxa1e45_init_da8c8 : (.methodLink RJxa1e45 1 objectInit : Cond) ∈ wsJxa1e45_init_da8c8 := by decide +kernel

theorem wd83_Jxa1e45_init_da8c8 : (.instanceMethod objectInit : Cond) ∈ wsJxa1e45_init_da8c8 := by decide +kernel

theorem wd84_Jxa1e45_init_da8c8 : (.code objectInit ⟨#[0xb1]⟩ 1 none : Cond) ∈ wsJxa1e45_init_da8c8 := by decide +kernel

set_option maxHeartbeats 4000000 in
set_option maxRecDepth 100000 in
theorem k_Jxa1e45_init_da8c8_0 (l : Launch) (D : va_G) (κ ε : Nat → Nat) (h0 : Nat) : Met l yJxa1e45_init_da8c8 wsJxa1e45_init_da8c8 ({ frames := 1, cells := 0, slots := 0, locals := 12 }) (va_Pc [.ref h0] (Pre0 D κ [])) (va_Sv (fun _ => True)) 0 0 (fun _ => False) := by
  refine Met.ofW (cc := cJxa1e45_init_da8c8) (maxL := 1) (ret := none) (by decide) rfl ?_
  intro p e s m args below meth c s₁ B hml hv
  obtain ⟨rfl, hP, hK⟩ := hv
  have hx := B.exec
  have hb := B.bytes
  have hr := B.returns
  have hts := atoms_spec (ws := wsJxa1e45_init_da8c8) B.pre
  have hown : s.vm.findClass RJxa1e45 = some m.cls := findClass_of_methodNamed B.named
  have hlocks := B.notSynchronized
  have hin : meth.name = "<init>" := (name_of_methodNamed B.named B.method).1
  have hP : va_P D vwCl [] s.heap := hP
  have hl := lv_entry [.ref h0] (n := 1) (Nat.le_of_ble_eq_true rfl)
  rw [lg_entry_eq]
  generalize (lg_sl [.ref h0] ++ List.replicate (1 - (lg_sl [.ref h0]).length) Slot.unset).toArray = ls at hl ⊢
  have hl : lv_has ls 1 [(0, .ref h0)] := hl
  refine lv_aload_n hx hb dJxa1e45_init_da8c8_0 rfl (lv_at hl 0 rfl) ?_
  refine W.objInit hx hb hown (hts _ wd82_Jxa1e45_init_da8c8) (hts _ wd83_Jxa1e45_init_da8c8) (hts _ wd84_Jxa1e45_init_da8c8) rfl (by rw [hml]; exact hl.1) rfl dJxa1e45_init_da8c8_1 (Nat.le_of_ble_eq_true rfl) (Nat.le_of_ble_eq_true rfl) ?_
  refine W.eq (g2 := F0 m 4 ls []) rfl ?_
  exact W.vret hx hb hr (fun t ht hW => ⟨rfl, trivial, ht⟩) (fun q hq => absurd hq List.not_mem_nil) dJxa1e45_init_da8c8_4

theorem wd85_Jxc12de_init_da8c8 : (.initialized RJxa1e45 : Cond) ∈ wsJxc12de_init_da8c8 := by decide +kernel

theorem wd86_Jxc12de_init_da8c8 : (.methodLink RJxc12de 1 yJxa1e45_init_da8c8 : Cond) ∈ wsJxc12de_init_da8c8 := by decide +kernel

theorem wd87_Jxc12de_init_da8c8 : (.instanceMethod yJxa1e45_init_da8c8 : Cond) ∈ wsJxc12de_init_da8c8 := by decide +kernel

theorem wi_Jxc12de_init_da8c8_RJx4a65c : ∀ w ∈ u_ws RJx4a65c TJx4a65c 3, w ∈ wsJxc12de_init_da8c8 := by decide +kernel

theorem wd88_Jxc12de_init_da8c8 : (.fieldLink RJxc12de 7 "java/util/AbstractList" "modCount" "I" : Cond) ∈ wsJxc12de_init_da8c8 := by decide +kernel

set_option maxHeartbeats 4000000 in
set_option maxRecDepth 100000 in
theorem k_Jxc12de_init_da8c8_0 (l : Launch) (D : va_G) (κ ε : Nat → Nat) (h0 : Nat) (sz : Nat) (p0 : Int32) (p1 : Int32) : Met l yJxc12de_init_da8c8 wsJxc12de_init_da8c8 ({ frames := 2, cells := 0, slots := 0, locals := 32 }) (va_Pc [.ref h0] (Pre2 D κ ε [(h0, .inr (1, [.int p0, .null, .int p1]))] sz)) (va_Qv (fun u : Unit => True) (fun u t => va_P D vwCl [(h0, .inr (1, [.int 0, .null, .int p1]))] t.heap ∧ va_D (va_A [(h0, .inr (1, [.int p0, .null, .int p1]))] sz) [(h0, .inr (1, [.int 0, .null, .int p1]))]) (va_A [(h0, .inr (1, [.int p0, .null, .int p1]))] sz)) 0 0 (va_A [(h0, .inr (1, [.int p0, .null, .int p1]))] sz) := by
  refine Met.ofW (cc := cJxc12de_init_da8c8) (maxL := 1) (ret := none) (by decide) rfl ?_
  intro p e s m args below meth c s₁ B hml hv
  obtain ⟨rfl, hsz, hP, hK, hD0, hE9⟩ := hv
  have hx := B.exec
  have hb := B.bytes
  have hr := B.returns
  have hts := atoms_spec (ws := wsJxc12de_init_da8c8) B.pre
  have hown : s.vm.findClass RJxc12de = some m.cls := findClass_of_methodNamed B.named
  have hlocks := B.notSynchronized
  have hin : meth.name = "<init>" := (name_of_methodNamed B.named B.method).1
  subst hsz
  have hD := hD0.self (sz := s.heap.size)
  generalize hAe : va_A [(h0, .inr (1, [.int p0, .null, .int p1]))] s.heap.size = A at hD hE9 ⊢
  have hE := hE9.1
  have hDc := hE9.2
  have hA : ∀ q : Nat, s.heap.size ≤ q → A q := fun q h => by rw [← hAe]; exact Or.inr h
  have hS : va_S A s.heap s.heap [] := va_S.rf
  have hP : va_P D vwCl [(h0, .inr (1, [.int p0, .null, .int p1]))] s.heap := hP
  have hl := lv_entry [.ref h0] (n := 1) (Nat.le_of_ble_eq_true rfl)
  rw [lg_entry_eq]
  generalize (lg_sl [.ref h0] ++ List.replicate (1 - (lg_sl [.ref h0]).length) Slot.unset).toArray = ls at hl ⊢
  have hl : lv_has ls 1 [(0, .ref h0)] := hl
  refine lv_aload_n hx hb dJxc12de_init_da8c8_0 rfl (lv_at hl 0 rfl) ?_
  refine va_csv (W.runI (As := []) (rest := []) ⟨hx, hb, hml, hown, hts⟩ (k_Jxa1e45_init_da8c8_0 l D κ ε h0) (cwI 0 hts ggJxc12de_init_da8c8_Jxa1e45_init_da8c8 rfl rfl rfl (hts _ wd85_Jxc12de_init_da8c8) (hts _ wd86_Jxc12de_init_da8c8) (hts _ wd87_Jxc12de_init_da8c8) rfl (by decide +kernel) ⟨(Nat.le_of_ble_eq_true rfl), (Nat.le_of_ble_eq_true rfl)⟩) (pre0_S (wc := []) hP hK [] rfl) rfl rfl hl.1 rfl (lv_room (Nat.le_of_ble_eq_true rfl)) dJxc12de_init_da8c8_1 ⟨(Nat.le_of_ble_eq_true rfl), (Nat.le_of_ble_eq_true rfl)⟩) (fun hw => ?_)
  refine lv_aload_n hx hb dJxc12de_init_da8c8_4 rfl (lv_at hl 0 rfl) ?_
  refine lv_iconst (v := 0) hx hb dJxc12de_init_da8c8_5 (by decide) ?_
  refine va_put (D := D) (ci := 1) (v := .int 0) (ty := .int) (C := RJx4a65c) (T := TJx4a65c) (N := 3) hx hb hts wi_Jxc12de_init_da8c8_RJx4a65c tyJx4a65c tyJx4a65c_ok nmJx4a65c hown hK hP hD hS 0 rfl rfl 0 (by decide) (hts _ wd88_Jxc12de_init_da8c8) (fun _ h9 => h9) rfl (by decide +kernel) rfl rfl (Nat.le_of_ble_eq_true rfl) dJxc12de_init_da8c8_6 (fun H locs hP hD hS => ?_)
  have hP : va_P D vwCl [(h0, .inr (1, [.int 0, .null, .int p1]))] H := hP
  have hD : va_D A [(h0, .inr (1, [.int 0, .null, .int p1]))] := hD
  have hP9 := hP
  have hD9 := hD
  exact W.vret hx hb hr (fun t ht hW => ⟨⟨(), rfl, trivial, by rw [ht]; exact hP9, hD9⟩, hS.F ht⟩) hS.2.2 dJxc12de_init_da8c8_9

theorem wd89_Jx4a65c_init_da8c8 : (.initialized RJxc12de : Cond) ∈ wsJx4a65c_init_da8c8 := by decide +kernel

theorem wd90_Jx4a65c_init_da8c8 : (.methodLink RJx4a65c 1 yJxc12de_init_da8c8 : Cond) ∈ wsJx4a65c_init_da8c8 := by decide +kernel

theorem wd91_Jx4a65c_init_da8c8 : (.instanceMethod yJxc12de_init_da8c8 : Cond) ∈ wsJx4a65c_init_da8c8 := by decide +kernel

theorem wd92_Jx4a65c_init_da8c8 : (.fieldLink RJx4a65c 39 "java/util/ArrayList" "DEFAULTCAPACITY_EMPTY_ELEMENTDATA" "[Ljava/lang/Object;" : Cond) ∈ wsJx4a65c_init_da8c8 := by decide +kernel

theorem wi_Jx4a65c_init_da8c8_RJx4a65c : ∀ w ∈ u_ws RJx4a65c TJx4a65c 3, w ∈ wsJx4a65c_init_da8c8 := by decide +kernel

theorem wd93_Jx4a65c_init_da8c8 : (.fieldLink RJx4a65c 9 "java/util/ArrayList" "elementData" "[Ljava/lang/Object;" : Cond) ∈ wsJx4a65c_init_da8c8 := by decide +kernel

set_option maxHeartbeats 4000000 in
set_option maxRecDepth 100000 in
theorem k_Jx4a65c_init_da8c8_0 (l : Launch) (D : va_G) (κ ε : Nat → Nat) (h0 : Nat) (sz : Nat) (p0 : Int32) (p1 : Int32) : Met l yJx4a65c_init_da8c8 wsJx4a65c_init_da8c8 ({ frames := 3, cells := 0, slots := 0, locals := 52 }) (va_Pc [.ref h0] (Pre2 D κ ε [(h0, .inr (1, [.int p0, .null, .int p1]))] sz)) (va_Qv (fun u : Unit => True) (fun u t => va_P D vwCl [(h0, .inr (1, [.int 0, .ref (ε 1), .int p1]))] t.heap ∧ va_D (va_A [(h0, .inr (1, [.int p0, .null, .int p1]))] sz) [(h0, .inr (1, [.int 0, .ref (ε 1), .int p1]))]) (va_A [(h0, .inr (1, [.int p0, .null, .int p1]))] sz)) 0 0 (va_A [(h0, .inr (1, [.int p0, .null, .int p1]))] sz) := by
  refine Met.ofW (cc := cJx4a65c_init_da8c8) (maxL := 1) (ret := none) (by decide) rfl ?_
  intro p e s m args below meth c s₁ B hml hv
  obtain ⟨rfl, hsz, hP, hK, hD0, hE9⟩ := hv
  have hx := B.exec
  have hb := B.bytes
  have hr := B.returns
  have hts := atoms_spec (ws := wsJx4a65c_init_da8c8) B.pre
  have hown : s.vm.findClass RJx4a65c = some m.cls := findClass_of_methodNamed B.named
  have hlocks := B.notSynchronized
  have hin : meth.name = "<init>" := (name_of_methodNamed B.named B.method).1
  subst hsz
  have hD := hD0.self (sz := s.heap.size)
  generalize hAe : va_A [(h0, .inr (1, [.int p0, .null, .int p1]))] s.heap.size = A at hD hE9 ⊢
  have hE := hE9.1
  have hDc := hE9.2
  have hA : ∀ q : Nat, s.heap.size ≤ q → A q := fun q h => by rw [← hAe]; exact Or.inr h
  have hS : va_S A s.heap s.heap [] := va_S.rf
  have hP : va_P D vwCl [(h0, .inr (1, [.int p0, .null, .int p1]))] s.heap := hP
  have hl := lv_entry [.ref h0] (n := 1) (Nat.le_of_ble_eq_true rfl)
  rw [lg_entry_eq]
  generalize (lg_sl [.ref h0] ++ List.replicate (1 - (lg_sl [.ref h0]).length) Slot.unset).toArray = ls at hl ⊢
  have hl : lv_has ls 1 [(0, .ref h0)] := hl
  refine lv_aload_n hx hb dJx4a65c_init_da8c8_0 rfl (lv_at hl 0 rfl) ?_
  have hF := va_free (wc := [(h0, .inr (1, [.int p0, .null, .int p1]))]) hD hS hA [0] rfl
  refine va_callv (va_runI (As := []) (rest := []) ⟨hx, hb, hml, hown, hts⟩ (k_Jxc12de_init_da8c8_0 l D κ ε h0 s.heap.size (p0) (p1)) (cwI 0 hts ggJx4a65c_init_da8c8_Jxc12de_init_da8c8 rfl rfl rfl (hts _ wd89_Jx4a65c_init_da8c8) (hts _ wd90_Jx4a65c_init_da8c8) (hts _ wd91_Jx4a65c_init_da8c8) rfl (by decide +kernel) ⟨(Nat.le_of_ble_eq_true rfl), (Nat.le_of_ble_eq_true rfl)⟩) (pre2_S (wc := [(h0, .inr (1, [.int p0, .null, .int p1]))]) hP hD hK hE9 hS hA [0] (by decide) rfl) rfl rfl hl.1 rfl (lv_room (Nat.le_of_ble_eq_true rfl)) dJx4a65c_init_da8c8_1 ⟨(Nat.le_of_ble_eq_true rfl), (Nat.le_of_ble_eq_true rfl)⟩) hS (fun q _ h => hF q h) hF (fun u1 t H locs ht hvm hw hB hz1 hk1 hS => ?_)
  try dsimp only at hw hB
  obtain ⟨hP1, hD1⟩ := hB
  rw [ht] at hP1
  obtain ⟨hP, hD⟩ := post_j (ws' := [(h0, .inr (1, [.int 0, .null, .int p1]))]) (wr := []) (w1 := [(h0, .inr (1, [.int 0, .null, .int p1]))]) hP hD hF [0] rfl [] rfl (by decide) (by decide) hk1 hP1 hD1 [0] (by decide) rfl
  have hP : va_P D vwCl [(h0, .inr (1, [.int 0, .null, .int p1]))] H := hP
  have hD : va_D A [(h0, .inr (1, [.int 0, .null, .int p1]))] := hD
  refine lv_aload_n hx hb dJx4a65c_init_da8c8_4 rfl (lv_at hl 0 rfl) ?_
  refine va_gets hx hb hE.2.2.2.2.1 hS hown (hts _ wd92_Jx4a65c_init_da8c8) (fun _ h9 => h9) dJx4a65c_init_da8c8_5 ?_
  refine va_put (D := D) (ci := 1) (v := .ref (ε 1)) (ty := (tyJx4a65c 1)) (C := RJx4a65c) (T := TJx4a65c) (N := 3) hx hb hts wi_Jx4a65c_init_da8c8_RJx4a65c tyJx4a65c tyJx4a65c_ok nmJx4a65c hown hK hP hD hS 0 rfl rfl 1 (by decide) (hts _ wd93_Jx4a65c_init_da8c8) (fun _ h9 => h9) rfl (by decide +kernel) rfl rfl (Nat.le_of_ble_eq_true rfl) dJx4a65c_init_da8c8_8 (fun H locs hP hD hS => ?_)
  have hP : va_P D vwCl [(h0, .inr (1, [.int 0, .ref (ε 1), .int p1]))] H := hP
  have hD : va_D A [(h0, .inr (1, [.int 0, .ref (ε 1), .int p1]))] := hD
  have hP9 := hP
  have hD9 := hD
  exact W.vret hx hb hr (fun t ht hW => ⟨⟨(), rfl, trivial, by rw [ht]; exact hP9, hD9⟩, hS.F ht⟩) hS.2.2 dJx4a65c_init_da8c8_11

theorem wd94_X6_tables : (.classLink RX6 34 "[I" : Cond) ∈ wsX6_tables := by decide +kernel

theorem wd95_X6_tables : (.arrayClass .int : Cond) ∈ wsX6_tables := by decide +kernel

set_option maxHeartbeats 4000000 in
set_option maxRecDepth 100000 in
theorem k_X6_tables_0 (l : Launch) (D : va_G) (κ ε : Nat → Nat) (sz : Nat) : Met l yX6_tables wsX6_tables ({ frames := 0, cells := 5, slots := 41374, locals := 0 }) (va_Pc [] (Pre2 D κ ε [] sz)) (va_Qr (fun u : Nat → Nat => True) (fun u a t => a = (u 0) ∧ (fun u t => va_P D vwCl [((u 0), .inl (κ 4, 4, .inr (.inr (.inr (.inr (sel [(u 1), (u 2), (u 3), (u 4)])))))), ((u 1), .inl (κ 0, 14, .inl (fun _ => 0))), ((u 2), .inl (κ 0, 196, .inl (fun _ => 0))), ((u 3), .inl (κ 0, 2744, .inl (fun _ => 0))), ((u 4), .inl (κ 0, 38416, .inl (fun _ => 0)))] t.heap ∧ va_D (va_A [] sz) [((u 0), .inl (κ 4, 4, .inr (.inr (.inr (.inr (sel [(u 1), (u 2), (u 3), (u 4)])))))), ((u 1), .inl (κ 0, 14, .inl (fun _ => 0))), ((u 2), .inl (κ 0, 196, .inl (fun _ => 0))), ((u 3), .inl (κ 0, 2744, .inl (fun _ => 0))), ((u 4), .inl (κ 0, 38416, .inl (fun _ => 0)))]) u t) (va_A [] sz)) 5 41374 (va_A [] sz) := by
  refine Met.ofW (cc := cX6_tables) (maxL := 3) (ret := (some (.array (.array .int)))) (by decide) rfl ?_
  intro p e s m args below meth c s₁ B hml hv
  obtain ⟨rfl, hsz, hP, hK, hD0, hE9⟩ := hv
  have hx := B.exec
  have hb := B.bytes
  have hr := B.returns
  have hts := atoms_spec (ws := wsX6_tables) B.pre
  have hown : s.vm.findClass RX6 = some m.cls := findClass_of_methodNamed B.named
  have hlocks := B.notSynchronized
  subst hsz
  have hD := hD0.self (sz := s.heap.size)
  generalize hAe : va_A [] s.heap.size = A at hD hE9 ⊢
  have hE := hE9.1
  have hDc := hE9.2
  have hA : ∀ q : Nat, s.heap.size ≤ q → A q := fun q h => by rw [← hAe]; exact Or.inr h
  have hS : va_S A s.heap s.heap [] := va_S.rf
  have hP : va_P D vwCl [] s.heap := hP
  have hl := lv_entry [] (n := 3) (Nat.le_of_ble_eq_true rfl)
  rw [lg_entry_eq]
  generalize (lg_sl [] ++ List.replicate (3 - (lg_sl []).length) Slot.unset).toArray = ls at hl ⊢
  have hl : lv_has ls 3 [] := hl
  refine lv_iconst (v := 4) hx hb dX6_tables_0 (by decide) ?_
  refine ya_new2 (N' := 4) hx hb hown (hts _ wd94_X6_tables) hE.2.2.2.2.2.2.2.2.2.2.2.2.1 hK hP hD hS hA (by decide) (by decide) (by decide) (Nat.le_of_ble_eq_true rfl) (Nat.le_of_ble_eq_true rfl) dX6_tables_1 (fun q1 H hP hD hS => ?_)
  have hP : va_P D vwCl [(q1, .inl (κ 4, 4, .inr (.inr (.inr (.inr (fun _ => none))))))] H := hP
  have hD : va_D A [(q1, .inl (κ 4, 4, .inr (.inr (.inr (.inr (fun _ => none))))))] := hD
  refine lv_astore_n (lv' := [(0, .ref q1)]) hx hb dX6_tables_4 rfl hl (by decide) rfl (fun ls hl => ?_)
  refine lv_iconst (v := 1) hx hb dX6_tables_5 (by decide) ?_
  refine lv_istore_n (lv' := [(1, .int 1), (0, .ref q1)]) hx hb dX6_tables_6 rfl hl (by decide) rfl (fun ls hl => ?_)
  refine lv_iconst (v := 0) hx hb dX6_tables_7 (by decide) ?_
  refine lv_istore_n (lv' := [(2, .int 0), (1, .int 1), (0, .ref q1)]) hx hb dX6_tables_8 rfl hl (by decide) rfl (fun ls hl => ?_)
  refine lv_iload_n hx hb dX6_tables_9 rfl (lv_at hl 0 rfl) ?_
  refine lv_iconst (v := 4) hx hb dX6_tables_10 (by decide) ?_
  refine lv_icmp_ge (tgt := 31) hx hb dX6_tables_11 (by decide) (fun h => absurd h (by decide)) (fun _ => ?_)
  refine lv_iload_n hx hb dX6_tables_14 rfl (lv_at hl 1 rfl) ?_
  refine lv_bipush (v := 14) hx hb dX6_tables_15 (by decide) ?_
  refine lv_imul hx hb dX6_tables_17 ?_
  refine tpi (v := 14) (by decide) ?_
  refine lv_istore_n (lv' := [(1, .int 14), (2, .int 0), (0, .ref q1)]) hx hb dX6_tables_18 rfl hl (by decide) rfl (fun ls hl => ?_)
  refine lv_aload_n hx hb dX6_tables_19 rfl (lv_at hl 2 rfl) ?_
  refine lv_iload_n hx hb dX6_tables_20 rfl (lv_at hl 1 rfl) ?_
  refine lv_iload_n hx hb dX6_tables_21 rfl (lv_at hl 0 rfl) ?_
  refine va_newa (atype := .int) (a0 := (14, .inl (fun _ => 0))) hx hb (hts _ wd95_X6_tables) rfl hK hP hD hS hA (fun _ => rfl) (by decide) (by decide) (by decide) (Nat.le_of_ble_eq_true rfl) (Nat.le_of_ble_eq_true rfl) dX6_tables_22 (fun q2 cy H hKn hP hD hS => ?_)
  obtain rfl : cy = κ 0 := K_one (i := 0) hKn rfl
  have hP : va_P D vwCl [(q1, .inl (κ 4, 4, .inr (.inr (.inr (.inr (fun _ => none)))))), (q2, .inl (κ 0, 14, .inl (fun _ => 0)))] H := hP
  have hD : va_D A [(q1, .inl (κ 4, 4, .inr (.inr (.inr (.inr (fun _ => none)))))), (q2, .inl (κ 0, 14, .inl (fun _ => 0)))] := hD
  refine ya_st2 hx hb hE.2.2.2.2.2.2.2.2.2.2.2.2.1 hK hP hD hS 0 1 rfl rfl rfl (vpl (by decide)) dX6_tables_24 (fun H locs hP hD hS => ?_)
  have hP : va_P D vwCl [(q1, .inl (κ 4, 4, .inr (.inr (.inr (.inr (va_up (fun _ => none) 0 (some q2))))))), (q2, .inl (κ 0, 14, .inl (fun _ => 0)))] H := hP
  have hD : va_D A [(q1, .inl (κ 4, 4, .inr (.inr (.inr (.inr (va_up (fun _ => none) 0 (some q2))))))), (q2, .inl (κ 0, 14, .inl (fun _ => 0)))] := hD
  refine lv_iinc (v := 1) (lv' := [(2, .int 1), (1, .int 14), (0, .ref q1)]) hx hb dX6_tables_25 hl (k := 1) rfl (by decide) (by decide) rfl (fun ls hl => ?_)
  refine lv_goto (tgt := 9) hx hb dX6_tables_28 (by decide) ?_
  refine lv_iload_n hx hb dX6_tables_9 rfl (lv_at hl 0 rfl) ?_
  refine lv_iconst (v := 4) hx hb dX6_tables_10 (by decide) ?_
  refine lv_icmp_ge (tgt := 31) hx hb dX6_tables_11 (by decide) (fun h => absurd h (by decide)) (fun _ => ?_)
  refine lv_iload_n hx hb dX6_tables_14 rfl (lv_at hl 1 rfl) ?_
  refine lv_bipush (v := 14) hx hb dX6_tables_15 (by decide) ?_
  refine lv_imul hx hb dX6_tables_17 ?_
  refine tpi (v := 196) (by decide) ?_
  refine lv_istore_n (lv' := [(1, .int 196), (2, .int 1), (0, .ref q1)]) hx hb dX6_tables_18 rfl hl (by decide) rfl (fun ls hl => ?_)
  refine lv_aload_n hx hb dX6_tables_19 rfl (lv_at hl 2 rfl) ?_
  refine lv_iload_n hx hb dX6_tables_20 rfl (lv_at hl 1 rfl) ?_
  refine lv_iload_n hx hb dX6_tables_21 rfl (lv_at hl 0 rfl) ?_
  refine va_newa (atype := .int) (a0 := (196, .inl (fun _ => 0))) hx hb (hts _ wd95_X6_tables) rfl hK hP hD hS hA (fun _ => rfl) (by decide) (by decide) (by decide) (Nat.le_of_ble_eq_true rfl) (Nat.le_of_ble_eq_true rfl) dX6_tables_22 (fun q3 cy H hKn hP hD hS => ?_)
  obtain rfl : cy = κ 0 := K_one (i := 0) hKn rfl
  have hP : va_P D vwCl [(q1, .inl (κ 4, 4, .inr (.inr (.inr (.inr (va_up (fun _ => none) 0 (some q2))))))), (q2, .inl (κ 0, 14, .inl (fun _ => 0))), (q3, .inl (κ 0, 196, .inl (fun _ => 0)))] H := hP
  have hD : va_D A [(q1, .inl (κ 4, 4, .inr (.inr (.inr (.inr (va_up (fun _ => none) 0 (some q2))))))), (q2, .inl (κ 0, 14, .inl (fun _ => 0))), (q3, .inl (κ 0, 196, .inl (fun _ => 0)))] := hD
  refine ya_st2 hx hb hE.2.2.2.2.2.2.2.2.2.2.2.2.1 hK hP hD hS 0 2 rfl rfl rfl (vpl (by decide)) dX6_tables_24 (fun H locs hP hD hS => ?_)
  have hP : va_P D vwCl [(q1, .inl (κ 4, 4, .inr (.inr (.inr (.inr (va_up (va_up (fun _ => none) 0 (some q2)) 1 (some q3))))))), (q2, .inl (κ 0, 14, .inl (fun _ => 0))), (q3, .inl (κ 0, 196, .inl (fun _ => 0)))] H := hP
  have hD : va_D A [(q1, .inl (κ 4, 4, .inr (.inr (.inr (.inr (va_up (va_up (fun _ => none) 0 (some q2)) 1 (some q3))))))), (q2, .inl (κ 0, 14, .inl (fun _ => 0))), (q3, .inl (κ 0, 196, .inl (fun _ => 0)))] := hD
  refine lv_iinc (v := 2) (lv' := [(2, .int 2), (1, .int 196), (0, .ref q1)]) hx hb dX6_tables_25 hl (k := 1) rfl (by decide) (by decide) rfl (fun ls hl => ?_)
  refine lv_goto (tgt := 9) hx hb dX6_tables_28 (by decide) ?_
  refine lv_iload_n hx hb dX6_tables_9 rfl (lv_at hl 0 rfl) ?_
  refine lv_iconst (v := 4) hx hb dX6_tables_10 (by decide) ?_
  refine lv_icmp_ge (tgt := 31) hx hb dX6_tables_11 (by decide) (fun h => absurd h (by decide)) (fun _ => ?_)
  refine lv_iload_n hx hb dX6_tables_14 rfl (lv_at hl 1 rfl) ?_
  refine lv_bipush (v := 14) hx hb dX6_tables_15 (by decide) ?_
  refine lv_imul hx hb dX6_tables_17 ?_
  refine tpi (v := 2744) (by decide) ?_
  refine lv_istore_n (lv' := [(1, .int 2744), (2, .int 2), (0, .ref q1)]) hx hb dX6_tables_18 rfl hl (by decide) rfl (fun ls hl => ?_)
  refine lv_aload_n hx hb dX6_tables_19 rfl (lv_at hl 2 rfl) ?_
  refine lv_iload_n hx hb dX6_tables_20 rfl (lv_at hl 1 rfl) ?_
  refine lv_iload_n hx hb dX6_tables_21 rfl (lv_at hl 0 rfl) ?_
  refine va_newa (atype := .int) (a0 := (2744, .inl (fun _ => 0))) hx hb (hts _ wd95_X6_tables) rfl hK hP hD hS hA (fun _ => rfl) (by decide) (by decide) (by decide) (Nat.le_of_ble_eq_true rfl) (Nat.le_of_ble_eq_true rfl) dX6_tables_22 (fun q4 cy H hKn hP hD hS => ?_)
  obtain rfl : cy = κ 0 := K_one (i := 0) hKn rfl
  have hP : va_P D vwCl [(q1, .inl (κ 4, 4, .inr (.inr (.inr (.inr (va_up (va_up (fun _ => none) 0 (some q2)) 1 (some q3))))))), (q2, .inl (κ 0, 14, .inl (fun _ => 0))), (q3, .inl (κ 0, 196, .inl (fun _ => 0))), (q4, .inl (κ 0, 2744, .inl (fun _ => 0)))] H := hP
  have hD : va_D A [(q1, .inl (κ 4, 4, .inr (.inr (.inr (.inr (va_up (va_up (fun _ => none) 0 (some q2)) 1 (some q3))))))), (q2, .inl (κ 0, 14, .inl (fun _ => 0))), (q3, .inl (κ 0, 196, .inl (fun _ => 0))), (q4, .inl (κ 0, 2744, .inl (fun _ => 0)))] := hD
  refine ya_st2 hx hb hE.2.2.2.2.2.2.2.2.2.2.2.2.1 hK hP hD hS 0 3 rfl rfl rfl (vpl (by decide)) dX6_tables_24 (fun H locs hP hD hS => ?_)
  have hP : va_P D vwCl [(q1, .inl (κ 4, 4, .inr (.inr (.inr (.inr (va_up (va_up (va_up (fun _ => none) 0 (some q2)) 1 (some q3)) 2 (some q4))))))), (q2, .inl (κ 0, 14, .inl (fun _ => 0))), (q3, .inl (κ 0, 196, .inl (fun _ => 0))), (q4, .inl (κ 0, 2744, .inl (fun _ => 0)))] H := hP
  have hD : va_D A [(q1, .inl (κ 4, 4, .inr (.inr (.inr (.inr (va_up (va_up (va_up (fun _ => none) 0 (some q2)) 1 (some q3)) 2 (some q4))))))), (q2, .inl (κ 0, 14, .inl (fun _ => 0))), (q3, .inl (κ 0, 196, .inl (fun _ => 0))), (q4, .inl (κ 0, 2744, .inl (fun _ => 0)))] := hD
  refine lv_iinc (v := 3) (lv' := [(2, .int 3), (1, .int 2744), (0, .ref q1)]) hx hb dX6_tables_25 hl (k := 1) rfl (by decide) (by decide) rfl (fun ls hl => ?_)
  refine lv_goto (tgt := 9) hx hb dX6_tables_28 (by decide) ?_
  refine lv_iload_n hx hb dX6_tables_9 rfl (lv_at hl 0 rfl) ?_
  refine lv_iconst (v := 4) hx hb dX6_tables_10 (by decide) ?_
  refine lv_icmp_ge (tgt := 31) hx hb dX6_tables_11 (by decide) (fun h => absurd h (by decide)) (fun _ => ?_)
  refine lv_iload_n hx hb dX6_tables_14 rfl (lv_at hl 1 rfl) ?_
  refine lv_bipush (v := 14) hx hb dX6_tables_15 (by decide) ?_
  refine lv_imul hx hb dX6_tables_17 ?_
  refine tpi (v := 38416) (by decide) ?_
  refine lv_istore_n (lv' := [(1, .int 38416), (2, .int 3), (0, .ref q1)]) hx hb dX6_tables_18 rfl hl (by decide) rfl (fun ls hl => ?_)
  refine lv_aload_n hx hb dX6_tables_19 rfl (lv_at hl 2 rfl) ?_
  refine lv_iload_n hx hb dX6_tables_20 rfl (lv_at hl 1 rfl) ?_
  refine lv_iload_n hx hb dX6_tables_21 rfl (lv_at hl 0 rfl) ?_
  refine va_newa (atype := .int) (a0 := (38416, .inl (fun _ => 0))) hx hb (hts _ wd95_X6_tables) rfl hK hP hD hS hA (fun _ => rfl) (by decide) (by decide) (by decide) (Nat.le_of_ble_eq_true rfl) (Nat.le_of_ble_eq_true rfl) dX6_tables_22 (fun q5 cy H hKn hP hD hS => ?_)
  obtain rfl : cy = κ 0 := K_one (i := 0) hKn rfl
  have hP : va_P D vwCl [(q1, .inl (κ 4, 4, .inr (.inr (.inr (.inr (va_up (va_up (va_up (fun _ => none) 0 (some q2)) 1 (some q3)) 2 (some q4))))))), (q2, .inl (κ 0, 14, .inl (fun _ => 0))), (q3, .inl (κ 0, 196, .inl (fun _ => 0))), (q4, .inl (κ 0, 2744, .inl (fun _ => 0))), (q5, .inl (κ 0, 38416, .inl (fun _ => 0)))] H := hP
  have hD : va_D A [(q1, .inl (κ 4, 4, .inr (.inr (.inr (.inr (va_up (va_up (va_up (fun _ => none) 0 (some q2)) 1 (some q3)) 2 (some q4))))))), (q2, .inl (κ 0, 14, .inl (fun _ => 0))), (q3, .inl (κ 0, 196, .inl (fun _ => 0))), (q4, .inl (κ 0, 2744, .inl (fun _ => 0))), (q5, .inl (κ 0, 38416, .inl (fun _ => 0)))] := hD
  refine ya_st2 hx hb hE.2.2.2.2.2.2.2.2.2.2.2.2.1 hK hP hD hS 0 4 rfl rfl rfl (vpl (by decide)) dX6_tables_24 (fun H locs hP hD hS => ?_)
  have hP : va_P D vwCl _ H := P_cg (ws' := _) (y := (4, .inr (.inr (.inr (.inr (sel [q2, q3, q4, q5])))))) 0 hP rfl (cell_cgq (by intro j hj; rcases (show j = 0 ∨ j = 1 ∨ j = 2 ∨ j = 3 by omega) with rfl | rfl | rfl | rfl <;> rfl)) rfl
  have hD : va_D A _ := D_cg (ws' := _) (y := .inl (κ 4, 4, .inr (.inr (.inr (.inr (sel [q2, q3, q4, q5])))))) 0 hD rfl rfl
  have hP : va_P D vwCl [(q1, .inl (κ 4, 4, .inr (.inr (.inr (.inr (sel [q2, q3, q4, q5])))))), (q2, .inl (κ 0, 14, .inl (fun _ => 0))), (q3, .inl (κ 0, 196, .inl (fun _ => 0))), (q4, .inl (κ 0, 2744, .inl (fun _ => 0))), (q5, .inl (κ 0, 38416, .inl (fun _ => 0)))] H := hP
  have hD : va_D A [(q1, .inl (κ 4, 4, .inr (.inr (.inr (.inr (sel [q2, q3, q4, q5])))))), (q2, .inl (κ 0, 14, .inl (fun _ => 0))), (q3, .inl (κ 0, 196, .inl (fun _ => 0))), (q4, .inl (κ 0, 2744, .inl (fun _ => 0))), (q5, .inl (κ 0, 38416, .inl (fun _ => 0)))] := hD
  refine lv_iinc (v := 4) (lv' := [(2, .int 4), (1, .int 38416), (0, .ref q1)]) hx hb dX6_tables_25 hl (k := 1) rfl (by decide) (by decide) rfl (fun ls hl => ?_)
  refine lv_goto (tgt := 9) hx hb dX6_tables_28 (by decide) ?_
  refine lv_iload_n hx hb dX6_tables_9 rfl (lv_at hl 0 rfl) ?_
  refine lv_iconst (v := 4) hx hb dX6_tables_10 (by decide) ?_
  refine lv_icmp_ge (tgt := 31) hx hb dX6_tables_11 (by decide) (fun _ => ?_) (fun h => absurd (by decide) h)
  refine lv_aload_n hx hb dX6_tables_31 rfl (lv_at hl 2 rfl) ?_
  have hP9 := hP
  have hD9 := hD
  refine W.widen (k := 5) (n := 41374) (Nat.le_of_ble_eq_true rfl) (Nat.le_of_ble_eq_true rfl) ?_
  exact W.aret (v := .ref q1) hx hb hr (Or.inr ⟨_, rfl⟩) (Or.inr ⟨_, rfl⟩) (fun t ht hW => ⟨⟨(fun i => [q1, q2, q3, q4, q5].getD i 0), q1, rfl, trivial, rfl, by rw [ht]; exact hP9, hD9⟩, hS.F ht⟩) hS.2.2 dX6_tables_32

theorem wd96_X6_init : (.methodLink RX6 1 objectInit : Cond) ∈ wsX6_init := by decide +kernel

theorem wd97_X6_init : (.instanceMethod objectInit : Cond) ∈ wsX6_init := by decide +kernel

theorem wd98_X6_init : (.code objectInit ⟨#[0xb1]⟩ 1 none : Cond) ∈ wsX6_init := by decide +kernel

theorem wi_X6_init_RX6 : ∀ w ∈ u_ws RX6 TX6 11, w ∈ wsX6_init := by decide +kernel

theorem wd99_X6_init : (.fieldLink RX6 7 "CanticleModel" "order" "I" : Cond) ∈ wsX6_init := by decide +kernel

theorem wi_X6_init_RJx4a65c : ∀ w ∈ u_ws RJx4a65c TJx4a65c 3, w ∈ wsX6_init := by decide +kernel

theorem wd100_X6_init : (.classLink RX6 13 RJx4a65c : Cond) ∈ wsX6_init := by decide +kernel

theorem wd101_X6_init : (.instantiable RJx4a65c 3 : Cond) ∈ wsX6_init := by decide +kernel

theorem wd102_X6_init : (.initialized RJx4a65c : Cond) ∈ wsX6_init := by decide +kernel

theorem wd103_X6_init : (.methodLink RX6 15 yJx4a65c_init_da8c8 : Cond) ∈ wsX6_init := by decide +kernel

theorem wd104_X6_init : (.instanceMethod yJx4a65c_init_da8c8 : Cond) ∈ wsX6_init := by decide +kernel

theorem wd105_X6_init : (.fieldLink RX6 16 "CanticleModel" "sentence" "Ljava/util/ArrayList;" : Cond) ∈ wsX6_init := by decide +kernel

theorem wd106_X6_init : (.fieldLink RX6 24 "CanticleModel" "counts" "[[I" : Cond) ∈ wsX6_init := by decide +kernel

theorem wd107_X6_init : (.fieldLink RX6 28 "CanticleModel" "number" "I" : Cond) ∈ wsX6_init := by decide +kernel

theorem wd108_X6_init : (.fieldLink RX6 31 "CanticleModel" "script" "Ljava/util/ArrayList;" : Cond) ∈ wsX6_init := by decide +kernel

set_option maxHeartbeats 4000000 in
set_option maxRecDepth 100000 in
theorem k_minit (l : Launch) (D : va_G) (κ ε : Nat → Nat) (h0 : Nat) (sz : Nat) : Met l yX6_init wsX6_init ({ frames := 4, cells := 7, slots := 41380, locals := 72 }) (va_Pc [.ref h0] (Pre2 D κ ε [(h0, .inr (8, [.int 0, .int 0, .int 0, .null, .null, .int 0, .int 0, .int 0, .int 0, .int 0, .null]))] sz)) (va_Qv (fun u : Nat → Nat => True) (fun u t => va_P D vwCl [(h0, .inr (8, [.int 0, .int 0, .int 2, .ref (u 0), .ref (u 1), .int 0, .int 500, .int 0, .int 0, .int 0, .ref (u 6)])), ((u 0), .inr (1, [.int 0, .ref (ε 1), .int 0])), ((u 1), .inl (κ 4, 4, .inr (.inr (.inr (.inr (sel [(u 2), (u 3), (u 4), (u 5)])))))), ((u 2), .inl (κ 0, 14, .inl (fun _ => 0))), ((u 3), .inl (κ 0, 196, .inl (fun _ => 0))), ((u 4), .inl (κ 0, 2744, .inl (fun _ => 0))), ((u 5), .inl (κ 0, 38416, .inl (fun _ => 0))), ((u 6), .inr (1, [.int 0, .ref (ε 1), .int 0]))] t.heap ∧ va_D (va_A [(h0, .inr (8, [.int 0, .int 0, .int 0, .null, .null, .int 0, .int 0, .int 0, .int 0, .int 0, .null]))] sz) [(h0, .inr (8, [.int 0, .int 0, .int 2, .ref (u 0), .ref (u 1), .int 0, .int 500, .int 0, .int 0, .int 0, .ref (u 6)])), ((u 0), .inr (1, [.int 0, .ref (ε 1), .int 0])), ((u 1), .inl (κ 4, 4, .inr (.inr (.inr (.inr (sel [(u 2), (u 3), (u 4), (u 5)])))))), ((u 2), .inl (κ 0, 14, .inl (fun _ => 0))), ((u 3), .inl (κ 0, 196, .inl (fun _ => 0))), ((u 4), .inl (κ 0, 2744, .inl (fun _ => 0))), ((u 5), .inl (κ 0, 38416, .inl (fun _ => 0))), ((u 6), .inr (1, [.int 0, .ref (ε 1), .int 0]))]) (va_A [(h0, .inr (8, [.int 0, .int 0, .int 0, .null, .null, .int 0, .int 0, .int 0, .int 0, .int 0, .null]))] sz)) 7 41380 (va_A [(h0, .inr (8, [.int 0, .int 0, .int 0, .null, .null, .int 0, .int 0, .int 0, .int 0, .int 0, .null]))] sz) := by
  refine Met.ofW (cc := cX6_init) (maxL := 1) (ret := none) (by decide) rfl ?_
  intro p e s m args below meth c s₁ B hml hv
  obtain ⟨rfl, hsz, hP, hK, hD0, hE9⟩ := hv
  have hx := B.exec
  have hb := B.bytes
  have hr := B.returns
  have hts := atoms_spec (ws := wsX6_init) B.pre
  have hown : s.vm.findClass RX6 = some m.cls := findClass_of_methodNamed B.named
  have hlocks := B.notSynchronized
  have hin : meth.name = "<init>" := (name_of_methodNamed B.named B.method).1
  subst hsz
  have hD := hD0.self (sz := s.heap.size)
  generalize hAe : va_A [(h0, .inr (8, [.int 0, .int 0, .int 0, .null, .null, .int 0, .int 0, .int 0, .int 0, .int 0, .null]))] s.heap.size = A at hD hE9 ⊢
  have hE := hE9.1
  have hDc := hE9.2
  have hA : ∀ q : Nat, s.heap.size ≤ q → A q := fun q h => by rw [← hAe]; exact Or.inr h
  have hS : va_S A s.heap s.heap [] := va_S.rf
  have hP : va_P D vwCl [(h0, .inr (8, [.int 0, .int 0, .int 0, .null, .null, .int 0, .int 0, .int 0, .int 0, .int 0, .null]))] s.heap := hP
  have hl := lv_entry [.ref h0] (n := 1) (Nat.le_of_ble_eq_true rfl)
  rw [lg_entry_eq]
  generalize (lg_sl [.ref h0] ++ List.replicate (1 - (lg_sl [.ref h0]).length) Slot.unset).toArray = ls at hl ⊢
  have hl : lv_has ls 1 [(0, .ref h0)] := hl
  refine lv_aload_n hx hb dX6_init_0 rfl (lv_at hl 0 rfl) ?_
  refine W.objInit hx hb hown (hts _ wd96_X6_init) (hts _ wd97_X6_init) (hts _ wd98_X6_init) rfl (by rw [hml]; exact hl.1) rfl dX6_init_1 (Nat.le_of_ble_eq_true rfl) (Nat.le_of_ble_eq_true rfl) ?_
  refine W.eq (g2 := F0 m 4 ls []) rfl ?_
  refine lv_aload_n hx hb dX6_init_4 rfl (lv_at hl 0 rfl) ?_
  refine lv_iconst (v := 2) hx hb dX6_init_5 (by decide) ?_
  refine va_put (D := D) (ci := 8) (v := .int 2) (ty := .int) (C := RX6) (T := TX6) (N := 11) hx hb hts wi_X6_init_RX6 tyX6 tyX6_ok nmX6 hown hK hP hD hS 0 rfl rfl 2 (by decide) (hts _ wd99_X6_init) (fun _ h9 => h9) rfl (by decide +kernel) rfl rfl (Nat.le_of_ble_eq_true rfl) dX6_init_6 (fun H locs hP hD hS => ?_)
  have hP : va_P D vwCl [(h0, .inr (8, [.int 0, .int 0, .int 2, .null, .null, .int 0, .int 0, .int 0, .int 0, .int 0, .null]))] H := hP
  have hD : va_D A [(h0, .inr (8, [.int 0, .int 0, .int 2, .null, .null, .int 0, .int 0, .int 0, .int 0, .int 0, .null]))] := hD
  refine lv_aload_n hx hb dX6_init_9 rfl (lv_at hl 0 rfl) ?_
  refine va_new (ci := 1) (fs := [.int 0, .null, .int 0]) (C := RJx4a65c) (T := TJx4a65c) (N := 3) hx hb hts wi_X6_init_RJx4a65c tyJx4a65c tyJx4a65c_ok hown (hts _ wd100_X6_init) (hts _ wd101_X6_init) (hts _ wd102_X6_init) hK hP hD hS hA rfl (fun j hj => by rcases (show j = 0 ∨ j = 1 ∨ j = 2 by omega) with rfl | rfl | rfl <;> rfl) (Nat.le_of_ble_eq_true rfl) (Nat.le_of_ble_eq_true rfl) dX6_init_10 (fun q1 H hP hD hS => ?_)
  have hP : va_P D vwCl [(h0, .inr (8, [.int 0, .int 0, .int 2, .null, .null, .int 0, .int 0, .int 0, .int 0, .int 0, .null])), (q1, .inr (1, [.int 0, .null, .int 0]))] H := hP
  have hD : va_D A [(h0, .inr (8, [.int 0, .int 0, .int 2, .null, .null, .int 0, .int 0, .int 0, .int 0, .int 0, .null])), (q1, .inr (1, [.int 0, .null, .int 0]))] := hD
  refine lv_dup hx hb dX6_init_13 rfl ?_
  have hF := va_free (wc := [(q1, .inr (1, [.int 0, .null, .int 0]))]) hD hS hA [1] rfl
  refine va_callv (va_runI (As := []) (rest := [.ref q1, .ref h0]) ⟨hx, hb, hml, hown, hts⟩ (k_Jx4a65c_init_da8c8_0 l D κ ε q1 H.size (0) (0)) (cwI 0 hts ggX6_init_Jx4a65c_init_da8c8 rfl rfl rfl (hts _ wd102_X6_init) (hts _ wd103_X6_init) (hts _ wd104_X6_init) rfl (by decide +kernel) ⟨(Nat.le_of_ble_eq_true rfl), (Nat.le_of_ble_eq_true rfl)⟩) (pre2_S (wc := [(q1, .inr (1, [.int 0, .null, .int 0]))]) hP hD hK hE9 hS hA [1] (by decide) rfl) rfl rfl hl.1 rfl (lv_room (Nat.le_of_ble_eq_true rfl)) dX6_init_14 ⟨(Nat.le_of_ble_eq_true rfl), (Nat.le_of_ble_eq_true rfl)⟩) hS (fun q _ h => hF q h) hF (fun u2 t H locs ht hvm hw hB hz1 hk1 hS => ?_)
  try dsimp only at hw hB
  obtain ⟨hP1, hD1⟩ := hB
  rw [ht] at hP1
  obtain ⟨hP, hD⟩ := post_j (ws' := [(h0, .inr (8, [.int 0, .int 0, .int 2, .null, .null, .int 0, .int 0, .int 0, .int 0, .int 0, .null])), (q1, .inr (1, [.int 0, .ref (ε 1), .int 0]))]) (wr := [(h0, .inr (8, [.int 0, .int 0, .int 2, .null, .null, .int 0, .int 0, .int 0, .int 0, .int 0, .null]))]) (w1 := [(q1, .inr (1, [.int 0, .ref (ε 1), .int 0]))]) hP hD hF [1] rfl [0] rfl (by decide) (by decide) hk1 hP1 hD1 [0, 1] (by decide) rfl
  have hP : va_P D vwCl [(h0, .inr (8, [.int 0, .int 0, .int 2, .null, .null, .int 0, .int 0, .int 0, .int 0, .int 0, .null])), (q1, .inr (1, [.int 0, .ref (ε 1), .int 0]))] H := hP
  have hD : va_D A [(h0, .inr (8, [.int 0, .int 0, .int 2, .null, .null, .int 0, .int 0, .int 0, .int 0, .int 0, .null])), (q1, .inr (1, [.int 0, .ref (ε 1), .int 0]))] := hD
  refine va_put (D := D) (ci := 8) (v := .ref q1) (ty := (tyX6 3)) (C := RX6) (T := TX6) (N := 11) hx hb hts wi_X6_init_RX6 tyX6 tyX6_ok nmX6 hown hK hP hD hS 0 rfl rfl 3 (by decide) (hts _ wd105_X6_init) (fun _ h9 => h9) rfl (by decide +kernel) rfl rfl (Nat.le_of_ble_eq_true rfl) dX6_init_17 (fun H locs hP hD hS => ?_)
  have hP : va_P D vwCl [(h0, .inr (8, [.int 0, .int 0, .int 2, .ref q1, .null, .int 0, .int 0, .int 0, .int 0, .int 0, .null])), (q1, .inr (1, [.int 0, .ref (ε 1), .int 0]))] H := hP
  have hD : va_D A [(h0, .inr (8, [.int 0, .int 0, .int 2, .ref q1, .null, .int 0, .int 0, .int 0, .int 0, .int 0, .null])), (q1, .inr (1, [.int 0, .ref (ε 1), .int 0]))] := hD
  refine lv_aload_n hx hb dX6_init_20 rfl (lv_at hl 0 rfl) ?_
  have hF := va_free (wc := []) hD hS hA [] rfl
  refine va_callr (va_runS (As := []) (rest := [.ref h0]) ⟨hx, hb, hml, hown, hts⟩ (k_X6_tables_0 l D κ ε H.size) (va_cwS 0 hts gX6_init_X6_tables rfl rfl rfl (by decide +kernel) ⟨(Nat.le_of_ble_eq_true rfl), (Nat.le_of_ble_eq_true rfl)⟩) (pre2_S (wc := []) hP hD hK hE9 hS hA [] (by decide) rfl) rfl rfl hl.1 rfl (lv_room (Nat.le_of_ble_eq_true rfl)) dX6_init_21 ⟨(Nat.le_of_ble_eq_true rfl), (Nat.le_of_ble_eq_true rfl)⟩) hS (fun q _ h => hF q h) hF (fun u3 ra t H locs ht hvm hw hB hz1 hk1 hS => ?_)
  try dsimp only at hw hB
  obtain ⟨rfl, hB⟩ := hB
  obtain ⟨hP1, hD1⟩ := hB
  rw [ht] at hP1
  obtain ⟨hP, hD⟩ := post_j (ws' := [(h0, .inr (8, [.int 0, .int 0, .int 2, .ref q1, .null, .int 0, .int 0, .int 0, .int 0, .int 0, .null])), (q1, .inr (1, [.int 0, .ref (ε 1), .int 0])), ((u3 0), .inl (κ 4, 4, .inr (.inr (.inr (.inr (sel [(u3 1), (u3 2), (u3 3), (u3 4)])))))), ((u3 1), .inl (κ 0, 14, .inl (fun _ => 0))), ((u3 2), .inl (κ 0, 196, .inl (fun _ => 0))), ((u3 3), .inl (κ 0, 2744, .inl (fun _ => 0))), ((u3 4), .inl (κ 0, 38416, .inl (fun _ => 0)))]) (wr := [(h0, .inr (8, [.int 0, .int 0, .int 2, .ref q1, .null, .int 0, .int 0, .int 0, .int 0, .int 0, .null])), (q1, .inr (1, [.int 0, .ref (ε 1), .int 0]))]) (w1 := [((u3 0), .inl (κ 4, 4, .inr (.inr (.inr (.inr (sel [(u3 1), (u3 2), (u3 3), (u3 4)])))))), ((u3 1), .inl (κ 0, 14, .inl (fun _ => 0))), ((u3 2), .inl (κ 0, 196, .inl (fun _ => 0))), ((u3 3), .inl (κ 0, 2744, .inl (fun _ => 0))), ((u3 4), .inl (κ 0, 38416, .inl (fun _ => 0)))]) hP hD hF [] rfl [0, 1] rfl (by decide) (by decide) hk1 hP1 hD1 [0, 1, 2, 3, 4, 5, 6] (by decide) rfl
  have hP : va_P D vwCl [(h0, .inr (8, [.int 0, .int 0, .int 2, .ref q1, .null, .int 0, .int 0, .int 0, .int 0, .int 0, .null])), (q1, .inr (1, [.int 0, .ref (ε 1), .int 0])), ((u3 0), .inl (κ 4, 4, .inr (.inr (.inr (.inr (sel [(u3 1), (u3 2), (u3 3), (u3 4)])))))), ((u3 1), .inl (κ 0, 14, .inl (fun _ => 0))), ((u3 2), .inl (κ 0, 196, .inl (fun _ => 0))), ((u3 3), .inl (κ 0, 2744, .inl (fun _ => 0))), ((u3 4), .inl (κ 0, 38416, .inl (fun _ => 0)))] H := hP
  have hD : va_D A [(h0, .inr (8, [.int 0, .int 0, .int 2, .ref q1, .null, .int 0, .int 0, .int 0, .int 0, .int 0, .null])), (q1, .inr (1, [.int 0, .ref (ε 1), .int 0])), ((u3 0), .inl (κ 4, 4, .inr (.inr (.inr (.inr (sel [(u3 1), (u3 2), (u3 3), (u3 4)])))))), ((u3 1), .inl (κ 0, 14, .inl (fun _ => 0))), ((u3 2), .inl (κ 0, 196, .inl (fun _ => 0))), ((u3 3), .inl (κ 0, 2744, .inl (fun _ => 0))), ((u3 4), .inl (κ 0, 38416, .inl (fun _ => 0)))] := hD
  refine va_put (D := D) (ci := 8) (v := .ref (u3 0)) (ty := (tyX6 4)) (C := RX6) (T := TX6) (N := 11) hx hb hts wi_X6_init_RX6 tyX6 tyX6_ok nmX6 hown hK hP hD hS 0 rfl rfl 4 (by decide) (hts _ wd106_X6_init) (fun _ h9 => h9) rfl (by decide +kernel) rfl rfl (Nat.le_of_ble_eq_true rfl) dX6_init_24 (fun H locs hP hD hS => ?_)
  have hP : va_P D vwCl [(h0, .inr (8, [.int 0, .int 0, .int 2, .ref q1, .ref (u3 0), .int 0, .int 0, .int 0, .int 0, .int 0, .null])), (q1, .inr (1, [.int 0, .ref (ε 1), .int 0])), ((u3 0), .inl (κ 4, 4, .inr (.inr (.inr (.inr (sel [(u3 1), (u3 2), (u3 3), (u3 4)])))))), ((u3 1), .inl (κ 0, 14, .inl (fun _ => 0))), ((u3 2), .inl (κ 0, 196, .inl (fun _ => 0))), ((u3 3), .inl (κ 0, 2744, .inl (fun _ => 0))), ((u3 4), .inl (κ 0, 38416, .inl (fun _ => 0)))] H := hP
  have hD : va_D A [(h0, .inr (8, [.int 0, .int 0, .int 2, .ref q1, .ref (u3 0), .int 0, .int 0, .int 0, .int 0, .int 0, .null])), (q1, .inr (1, [.int 0, .ref (ε 1), .int 0])), ((u3 0), .inl (κ 4, 4, .inr (.inr (.inr (.inr (sel [(u3 1), (u3 2), (u3 3), (u3 4)])))))), ((u3 1), .inl (κ 0, 14, .inl (fun _ => 0))), ((u3 2), .inl (κ 0, 196, .inl (fun _ => 0))), ((u3 3), .inl (κ 0, 2744, .inl (fun _ => 0))), ((u3 4), .inl (κ 0, 38416, .inl (fun _ => 0)))] := hD
  refine lv_aload_n hx hb dX6_init_27 rfl (lv_at hl 0 rfl) ?_
  refine lv_sipush (v := 500) hx hb dX6_init_28 (by decide) ?_
  refine va_put (D := D) (ci := 8) (v := .int 500) (ty := .int) (C := RX6) (T := TX6) (N := 11) hx hb hts wi_X6_init_RX6 tyX6 tyX6_ok nmX6 hown hK hP hD hS 0 rfl rfl 6 (by decide) (hts _ wd107_X6_init) (fun _ h9 => h9) rfl (by decide +kernel) rfl rfl (Nat.le_of_ble_eq_true rfl) dX6_init_31 (fun H locs hP hD hS => ?_)
  have hP : va_P D vwCl [(h0, .inr (8, [.int 0, .int 0, .int 2, .ref q1, .ref (u3 0), .int 0, .int 500, .int 0, .int 0, .int 0, .null])), (q1, .inr (1, [.int 0, .ref (ε 1), .int 0])), ((u3 0), .inl (κ 4, 4, .inr (.inr (.inr (.inr (sel [(u3 1), (u3 2), (u3 3), (u3 4)])))))), ((u3 1), .inl (κ 0, 14, .inl (fun _ => 0))), ((u3 2), .inl (κ 0, 196, .inl (fun _ => 0))), ((u3 3), .inl (κ 0, 2744, .inl (fun _ => 0))), ((u3 4), .inl (κ 0, 38416, .inl (fun _ => 0)))] H := hP
  have hD : va_D A [(h0, .inr (8, [.int 0, .int 0, .int 2, .ref q1, .ref (u3 0), .int 0, .int 500, .int 0, .int 0, .int 0, .null])), (q1, .inr (1, [.int 0, .ref (ε 1), .int 0])), ((u3 0), .inl (κ 4, 4, .inr (.inr (.inr (.inr (sel [(u3 1), (u3 2), (u3 3), (u3 4)])))))), ((u3 1), .inl (κ 0, 14, .inl (fun _ => 0))), ((u3 2), .inl (κ 0, 196, .inl (fun _ => 0))), ((u3 3), .inl (κ 0, 2744, .inl (fun _ => 0))), ((u3 4), .inl (κ 0, 38416, .inl (fun _ => 0)))] := hD
  refine lv_aload_n hx hb dX6_init_34 rfl (lv_at hl 0 rfl) ?_
  refine va_new (ci := 1) (fs := [.int 0, .null, .int 0]) (C := RJx4a65c) (T := TJx4a65c) (N := 3) hx hb hts wi_X6_init_RJx4a65c tyJx4a65c tyJx4a65c_ok hown (hts _ wd100_X6_init) (hts _ wd101_X6_init) (hts _ wd102_X6_init) hK hP hD hS hA rfl (fun j hj => by rcases (show j = 0 ∨ j = 1 ∨ j = 2 by omega) with rfl | rfl | rfl <;> rfl) (Nat.le_of_ble_eq_true rfl) (Nat.le_of_ble_eq_true rfl) dX6_init_35 (fun q4 H hP hD hS => ?_)
  have hP : va_P D vwCl [(h0, .inr (8, [.int 0, .int 0, .int 2, .ref q1, .ref (u3 0), .int 0, .int 500, .int 0, .int 0, .int 0, .null])), (q1, .inr (1, [.int 0, .ref (ε 1), .int 0])), ((u3 0), .inl (κ 4, 4, .inr (.inr (.inr (.inr (sel [(u3 1), (u3 2), (u3 3), (u3 4)])))))), ((u3 1), .inl (κ 0, 14, .inl (fun _ => 0))), ((u3 2), .inl (κ 0, 196, .inl (fun _ => 0))), ((u3 3), .inl (κ 0, 2744, .inl (fun _ => 0))), ((u3 4), .inl (κ 0, 38416, .inl (fun _ => 0))), (q4, .inr (1, [.int 0, .null, .int 0]))] H := hP
  have hD : va_D A [(h0, .inr (8, [.int 0, .int 0, .int 2, .ref q1, .ref (u3 0), .int 0, .int 500, .int 0, .int 0, .int 0, .null])), (q1, .inr (1, [.int 0, .ref (ε 1), .int 0])), ((u3 0), .inl (κ 4, 4, .inr (.inr (.inr (.inr (sel [(u3 1), (u3 2), (u3 3), (u3 4)])))))), ((u3 1), .inl (κ 0, 14, .inl (fun _ => 0))), ((u3 2), .inl (κ 0, 196, .inl (fun _ => 0))), ((u3 3), .inl (κ 0, 2744, .inl (fun _ => 0))), ((u3 4), .inl (κ 0, 38416, .inl (fun _ => 0))), (q4, .inr (1, [.int 0, .null, .int 0]))] := hD
  refine lv_dup hx hb dX6_init_38 rfl ?_
  have hF := va_free (wc := [(q4, .inr (1, [.int 0, .null, .int 0]))]) hD hS hA [7] rfl
  refine va_callv (va_runI (As := []) (rest := [.ref q4, .ref h0]) ⟨hx, hb, hml, hown, hts⟩ (k_Jx4a65c_init_da8c8_0 l D κ ε q4 H.size (0) (0)) (cwI 0 hts ggX6_init_Jx4a65c_init_da8c8 rfl rfl rfl (hts _ wd102_X6_init) (hts _ wd103_X6_init) (hts _ wd104_X6_init) rfl (by decide +kernel) ⟨(Nat.le_of_ble_eq_true rfl), (Nat.le_of_ble_eq_true rfl)⟩) (pre2_S (wc := [(q4, .inr (1, [.int 0, .null, .int 0]))]) hP hD hK hE9 hS hA [7] (by decide) rfl) rfl rfl hl.1 rfl (lv_room (Nat.le_of_ble_eq_true rfl)) dX6_init_39 ⟨(Nat.le_of_ble_eq_true rfl), (Nat.le_of_ble_eq_true rfl)⟩) hS (fun q _ h => hF q h) hF (fun u5 t H locs ht hvm hw hB hz1 hk1 hS => ?_)
  try dsimp only at hw hB
  obtain ⟨hP1, hD1⟩ := hB
  rw [ht] at hP1
  obtain ⟨hP, hD⟩ := post_j (ws' := [(h0, .inr (8, [.int 0, .int 0, .int 2, .ref q1, .ref (u3 0), .int 0, .int 500, .int 0, .int 0, .int 0, .null])), (q1, .inr (1, [.int 0, .ref (ε 1), .int 0])), ((u3 0), .inl (κ 4, 4, .inr (.inr (.inr (.inr (sel [(u3 1), (u3 2), (u3 3), (u3 4)])))))), ((u3 1), .inl (κ 0, 14, .inl (fun _ => 0))), ((u3 2), .inl (κ 0, 196, .inl (fun _ => 0))), ((u3 3), .inl (κ 0, 2744, .inl (fun _ => 0))), ((u3 4), .inl (κ 0, 38416, .inl (fun _ => 0))), (q4, .inr (1, [.int 0, .ref (ε 1), .int 0]))]) (wr := [(h0, .inr (8, [.int 0, .int 0, .int 2, .ref q1, .ref (u3 0), .int 0, .int 500, .int 0, .int 0, .int 0, .null])), (q1, .inr (1, [.int 0, .ref (ε 1), .int 0])), ((u3 0), .inl (κ 4, 4, .inr (.inr (.inr (.inr (sel [(u3 1), (u3 2), (u3 3), (u3 4)])))))), ((u3 1), .inl (κ 0, 14, .inl (fun _ => 0))), ((u3 2), .inl (κ 0, 196, .inl (fun _ => 0))), ((u3 3), .inl (κ 0, 2744, .inl (fun _ => 0))), ((u3 4), .inl (κ 0, 38416, .inl (fun _ => 0)))]) (w1 := [(q4, .inr (1, [.int 0, .ref (ε 1), .int 0]))]) hP hD hF [7] rfl [0, 1, 2, 3, 4, 5, 6] rfl (by decide) (by decide) hk1 hP1 hD1 [0, 1, 2, 3, 4, 5, 6, 7] (by decide) rfl
  have hP : va_P D vwCl [(h0, .inr (8, [.int 0, .int 0, .int 2, .ref q1, .ref (u3 0), .int 0, .int 500, .int 0, .int 0, .int 0, .null])), (q1, .inr (1, [.int 0, .ref (ε 1), .int 0])), ((u3 0), .inl (κ 4, 4, .inr (.inr (.inr (.inr (sel [(u3 1), (u3 2), (u3 3), (u3 4)])))))), ((u3 1), .inl (κ 0, 14, .inl (fun _ => 0))), ((u3 2), .inl (κ 0, 196, .inl (fun _ => 0))), ((u3 3), .inl (κ 0, 2744, .inl (fun _ => 0))), ((u3 4), .inl (κ 0, 38416, .inl (fun _ => 0))), (q4, .inr (1, [.int 0, .ref (ε 1), .int 0]))] H := hP
  have hD : va_D A [(h0, .inr (8, [.int 0, .int 0, .int 2, .ref q1, .ref (u3 0), .int 0, .int 500, .int 0, .int 0, .int 0, .null])), (q1, .inr (1, [.int 0, .ref (ε 1), .int 0])), ((u3 0), .inl (κ 4, 4, .inr (.inr (.inr (.inr (sel [(u3 1), (u3 2), (u3 3), (u3 4)])))))), ((u3 1), .inl (κ 0, 14, .inl (fun _ => 0))), ((u3 2), .inl (κ 0, 196, .inl (fun _ => 0))), ((u3 3), .inl (κ 0, 2744, .inl (fun _ => 0))), ((u3 4), .inl (κ 0, 38416, .inl (fun _ => 0))), (q4, .inr (1, [.int 0, .ref (ε 1), .int 0]))] := hD
  refine va_putF (D := D) (ci := 8) (v := .ref q4) (ty := (tyX6 10)) (C := RX6) (T := TX6) (N := 11) hx hb hts wi_X6_init_RX6 tyX6 tyX6_ok nmX6 hown hK hP hD hS 0 rfl rfl 10 (by decide) (hts _ wd108_X6_init) (fun _ h9 => h9) rfl hin rfl (by decide +kernel) rfl rfl (Nat.le_of_ble_eq_true rfl) dX6_init_42 (fun H locs hP hD hS => ?_)
  have hP : va_P D vwCl [(h0, .inr (8, [.int 0, .int 0, .int 2, .ref q1, .ref (u3 0), .int 0, .int 500, .int 0, .int 0, .int 0, .ref q4])), (q1, .inr (1, [.int 0, .ref (ε 1), .int 0])), ((u3 0), .inl (κ 4, 4, .inr (.inr (.inr (.inr (sel [(u3 1), (u3 2), (u3 3), (u3 4)])))))), ((u3 1), .inl (κ 0, 14, .inl (fun _ => 0))), ((u3 2), .inl (κ 0, 196, .inl (fun _ => 0))), ((u3 3), .inl (κ 0, 2744, .inl (fun _ => 0))), ((u3 4), .inl (κ 0, 38416, .inl (fun _ => 0))), (q4, .inr (1, [.int 0, .ref (ε 1), .int 0]))] H := hP
  have hD : va_D A [(h0, .inr (8, [.int 0, .int 0, .int 2, .ref q1, .ref (u3 0), .int 0, .int 500, .int 0, .int 0, .int 0, .ref q4])), (q1, .inr (1, [.int 0, .ref (ε 1), .int 0])), ((u3 0), .inl (κ 4, 4, .inr (.inr (.inr (.inr (sel [(u3 1), (u3 2), (u3 3), (u3 4)])))))), ((u3 1), .inl (κ 0, 14, .inl (fun _ => 0))), ((u3 2), .inl (κ 0, 196, .inl (fun _ => 0))), ((u3 3), .inl (κ 0, 2744, .inl (fun _ => 0))), ((u3 4), .inl (κ 0, 38416, .inl (fun _ => 0))), (q4, .inr (1, [.int 0, .ref (ε 1), .int 0]))] := hD
  have hP9 := hP
  have hD9 := hD
  refine W.widen (k := 7) (n := 41380) (Nat.le_of_ble_eq_true rfl) (Nat.le_of_ble_eq_true rfl) ?_
  exact W.vret hx hb hr (fun t ht hW => ⟨⟨(fun i => [q1, (u3 0), (u3 1), (u3 2), (u3 3), (u3 4), q4].getD i 0), rfl, trivial, by rw [ht]; exact hP9, hD9⟩, hS.F ht⟩) hS.2.2 dX6_init_45
