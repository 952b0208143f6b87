theorem iv2 (x : Int32) (h0 : ¬ x < 0) : 0 ≤ x := by
  have e0 : (0 : Int32).toInt = 0 := by decide
  simp only [Int32.lt_iff_toInt_lt, Int32.le_iff_toInt_le, ← Int32.toInt_inj, e0] at *
  omega

theorem wi_X5_isWord_RX5 : ∀ w ∈ u_ws RX5 TX5 10, w ∈ wsX5_isWord := by decide +kernel

theorem wd147_X5_isWord : (.fieldLink RX5 10 "Canticle" "ledger" "LCanticle$Ledger;" : Cond) ∈ wsX5_isWord := by decide +kernel

theorem wi_X5_isWord_RX0 : ∀ w ∈ u_ws RX0 TX0 4, w ∈ wsX5_isWord := by decide +kernel

theorem wd148_X5_isWord : (.fieldLink RX5 65 "Canticle$Ledger" "words" "I" : Cond) ∈ wsX5_isWord := by decide +kernel

set_option maxHeartbeats 4000000 in
set_option maxRecDepth 100000 in
theorem k_X5_isWord_0 (l : Launch) (D : va_G) (κ ε : Nat → Nat) (h0 h1 h2 h3 h4 h5 h6 h7 h8 : Nat) (p0 : Int32) (p1 : Int32) (p2 : Int32) (p3 : Int32) (p4 : Int32) : Met l yX5_isWord wsX5_isWord ({ frames := 0, cells := 0, slots := 0, locals := 0 }) (va_Pc [.ref h0, .int p0] (Pre0 D κ [(h0, .inr (7, [.ref h1, .ref h2, .ref h3, .ref h4, .ref h5, .ref h6, .int p1, .int p2, .int p3, .int 0])), (h1, .inr (2, [.int 0, .int p4, .ref h7, .ref h8]))])) (vp_Si (fun r => ((p0 < 0) ∧ (r = 0)) ∨ ((¬ p0 < 0) ∧ (r = 0)))) 0 0 (fun _ => False) := by
  refine Met.ofW (cc := cX5_isWord) (maxL := 2) (ret := (some .boolean)) (by decide) rfl ?_
  intro p e s m args below meth c s₁ B hml hv
  obtain ⟨rfl, hP, hK⟩ := hv
  have hx := B.exec
  have hb := B.bytes
  have hr := B.returns
  have hts := atoms_spec (ws := wsX5_isWord) B.pre
  have hown : s.vm.findClass RX5 = some m.cls := findClass_of_methodNamed B.named
  have hlocks := B.notSynchronized
  have hP : va_P D vwCl [(h0, .inr (7, [.ref h1, .ref h2, .ref h3, .ref h4, .ref h5, .ref h6, .int p1, .int p2, .int p3, .int 0])), (h1, .inr (2, [.int 0, .int p4, .ref h7, .ref h8]))] s.heap := hP
  have hl := lv_entry [.ref h0, .int p0] (n := 2) (Nat.le_of_ble_eq_true rfl)
  rw [lg_entry_eq]
  generalize (lg_sl [.ref h0, .int p0] ++ List.replicate (2 - (lg_sl [.ref h0, .int p0]).length) Slot.unset).toArray = ls at hl ⊢
  have hl : lv_has ls 2 [(0, .ref h0), (1, .int p0)] := hl
  refine lv_iload_n hx hb dX5_isWord_0 rfl (lv_at hl 1 rfl) ?_
  refine lv_if_lt (tgt := 19) hx hb dX5_isWord_1 (by decide) (fun c1 => ?_) (fun c1 => ?_)
  · skip
    refine lv_iconst (v := 0) hx hb dX5_isWord_19 (by decide) ?_
    exact W.zret (v := 0) hx hb hr rfl (fun t ht hW => ⟨0, rfl, (Or.inl ⟨c1, rfl⟩), ht⟩) (fun q hq => absurd hq List.not_mem_nil) dX5_isWord_20
  · skip
    refine lv_iload_n hx hb dX5_isWord_4 rfl (lv_at hl 1 rfl) ?_
    refine lv_aload_n hx hb dX5_isWord_5 rfl (lv_at hl 0 rfl) ?_
    refine va_get (D := D) (ci := 7) (v := .ref h1) (C := RX5) (T := TX5) (N := 10) hx hb hts wi_X5_isWord_RX5 hown hK hP 0 rfl rfl 0 (by decide) (hts _ wd147_X5_isWord) (fun _ h9 => h9) rfl dX5_isWord_6 ?_
    refine va_get (D := D) (ci := 2) (v := .int 0) (C := RX0) (T := TX0) (N := 4) hx hb hts wi_X5_isWord_RX0 hown hK hP 1 rfl rfl 0 (by decide) (hts _ wd148_X5_isWord) (fun _ h9 => h9) rfl dX5_isWord_9 ?_
    refine lv_icmp_ge (tgt := 19) hx hb dX5_isWord_12 (by decide) (fun _ => ?_) (fun h => absurd (iv2 _ c1) h)
    refine lv_iconst (v := 0) hx hb dX5_isWord_19 (by decide) ?_
    exact W.zret (v := 0) hx hb hr rfl (fun t ht hW => ⟨0, rfl, (Or.inr ⟨c1, rfl⟩), ht⟩) (fun q hq => absurd hq List.not_mem_nil) dX5_isWord_20

theorem at1_X5_say_94 : ∀ w ∈ (vx_atS RX5 94 "java/lang/IndexOutOfBoundsException" ["java/lang/RuntimeException", "java/lang/Exception"]).filter goodWord, w ∈ wsX5_say := by decide +kernel

theorem at2_RX5_94 : ∀ w ∈ (vx_atS RX5 94 "java/lang/IndexOutOfBoundsException" ["java/lang/RuntimeException", "java/lang/Exception"]).filter (fun w => !goodWord w), w ∈ ([.castable "java/lang/IndexOutOfBoundsException" "java/lang/IndexOutOfBoundsException", .declares (Bundle.initS "java/lang/RuntimeException"), .declares (Bundle.initS "java/lang/Exception"), .declares (Bundle.initS "java/lang/Throwable")] : List Cond) := by decide +kernel
theorem at2_RX5_94g : ∀ w ∈ Cond.classLink RX5 90 "java/lang/IndexOutOfBoundsException" :: Cond.initialized "java/lang/IndexOutOfBoundsException" :: (vx_atS RX5 94 "java/lang/IndexOutOfBoundsException" ["java/lang/RuntimeException", "java/lang/Exception"]), vx_ot w = true := by decide +kernel

theorem wd149_X5_say : (.classLink RX5 90 "java/lang/IndexOutOfBoundsException" : Cond) ∈ wsX5_say := by decide +kernel

theorem wd150_X5_say : (.initialized "java/lang/IndexOutOfBoundsException" : Cond) ∈ wsX5_say := by decide +kernel

set_option maxHeartbeats 4000000 in
set_option maxRecDepth 100000 in
theorem k_X5_say_0 (l : Launch) (hst : l.stackTraces = false) (D : va_G) (κ ε : Nat → Nat) (h0 h1 h2 h3 h4 h5 h6 h7 h8 : Nat) (sz : Nat) (p0 : Int32) : vx_Met l yX5_say wsX5_say ({ frames := 6, cells := 1, slots := 6, locals := 120 }) (va_Pc [.ref h0, .int p0] (Pre2 D κ ε [(h0, .inr (7, [.ref h1, .ref h2, .ref h3, .ref h4, .ref h5, .ref h6, .int 0, .int 0, .int 0, .int 0])), (h1, .inr (2, [.int 0, .int 2, .ref h7, .ref h8]))] sz)) (va_Qi (fun r (u : Unit) => False) (fun _ _ => True) (va_A [(h0, .inr (7, [.ref h1, .ref h2, .ref h3, .ref h4, .ref h5, .ref h6, .int 0, .int 0, .int 0, .int 0])), (h1, .inr (2, [.int 0, .int 2, .ref h7, .ref h8]))] sz)) (vx_X (fun _ : Unit => True) (fun E _ _ => ((p0 < 0) ∧ E = "java/lang/IndexOutOfBoundsException") ∨ ((¬ p0 < 0) ∧ E = "java/lang/IndexOutOfBoundsException")) (va_A [(h0, .inr (7, [.ref h1, .ref h2, .ref h3, .ref h4, .ref h5, .ref h6, .int 0, .int 0, .int 0, .int 0])), (h1, .inr (2, [.int 0, .int 2, .ref h7, .ref h8]))] sz)) 1 6 (va_A [(h0, .inr (7, [.ref h1, .ref h2, .ref h3, .ref h4, .ref h5, .ref h6, .int 0, .int 0, .int 0, .int 0])), (h1, .inr (2, [.int 0, .int 2, .ref h7, .ref h8]))] sz) := by
  refine vx_ofW (cc := cX5_say) (maxL := 2) (ret := (some .int)) (by decide) rfl ?_
  intro p e s m args below meth c s₁ B hml hnx hv
  obtain ⟨rfl, hsz, hP, hK, hD0, hE9⟩ := hv
  have hx := B.exec
  have hb := B.bytes
  have hr := B.returns
  have hts := atoms_spec (ws := wsX5_say) B.pre
  have hown : s.vm.findClass RX5 = some m.cls := findClass_of_methodNamed B.named
  have hlocks := B.notSynchronized
  subst hsz
  have hD := hD0.self (sz := s.heap.size)
  generalize hAe : va_A [(h0, .inr (7, [.ref h1, .ref h2, .ref h3, .ref h4, .ref h5, .ref h6, .int 0, .int 0, .int 0, .int 0])), (h1, .inr (2, [.int 0, .int 2, .ref h7, .ref h8]))] s.heap.size = A at hD hE9 ⊢
  have hE := hE9.1
  have hDc := hE9.2
  have hA : ∀ q : Nat, s.heap.size ≤ q → A q := fun q h => by rw [← hAe]; exact Or.inr h
  have hS : va_S A s.heap s.heap [] := va_S.rf
  have hP : va_P D vwCl [(h0, .inr (7, [.ref h1, .ref h2, .ref h3, .ref h4, .ref h5, .ref h6, .int 0, .int 0, .int 0, .int 0])), (h1, .inr (2, [.int 0, .int 2, .ref h7, .ref h8]))] s.heap := hP
  have hl := lv_entry [.ref h0, .int p0] (n := 2) (Nat.le_of_ble_eq_true rfl)
  rw [lg_entry_eq]
  generalize (lg_sl [.ref h0, .int p0] ++ List.replicate (2 - (lg_sl [.ref h0, .int p0]).length) Slot.unset).toArray = ls at hl ⊢
  have hl : lv_has ls 2 [(0, .ref h0), (1, .int p0)] := hl
  refine lv_aload_n hx hb dX5_say_0 rfl (lv_at hl 0 rfl) ?_
  refine lv_iload_n hx hb dX5_say_1 rfl (lv_at hl 1 rfl) ?_
  refine vp_callSi (W.runV (As := [.int p0]) (rest := []) ⟨hx, hb, hml, hown, hts⟩ (k_X5_isWord_0 l D κ ε h0 h1 h2 h3 h4 h5 h6 h7 h8 (p0) (0) (0) (0) (2)) (cwV 1 hts gX5_say_X5_isWord rfl rfl rfl (by decide +kernel) ⟨(Nat.le_of_ble_eq_true rfl), (Nat.le_of_ble_eq_true rfl)⟩) (pre0_V (q0 := 0) (ci := 7) (wc := [(h0, .inr (7, [.ref h1, .ref h2, .ref h3, .ref h4, .ref h5, .ref h6, .int 0, .int 0, .int 0, .int 0])), (h1, .inr (2, [.int 0, .int 2, .ref h7, .ref h8]))]) hP hK [0, 1] rfl rfl rfl) rfl rfl hl.1 rfl (lv_room (Nat.le_of_ble_eq_true rfl)) dX5_say_2 ⟨(Nat.le_of_ble_eq_true rfl), (Nat.le_of_ble_eq_true rfl)⟩) (fun r hw => ?_)
  rcases hw with ⟨c1, rfl⟩ | ⟨c2, rfl⟩
  · skip
    refine lv_if_ne (tgt := 18) hx hb dX5_say_5 (by decide) (fun h => absurd (by decide) h) (fun _ => ?_)
    exact vx_throwS (names := ["java/lang/RuntimeException", "java/lang/Exception"]) (sa := ε 12) hx hb hst hown (by decide +kernel) (by decide +kernel) (hts _ wd149_X5_say) (hts _ wd150_X5_say) (hE.2.2.2.2.2.2.1 _ (List.mem_of_getElem? (i := 2) rfl)) (vx_hat (B := [.castable "java/lang/IndexOutOfBoundsException" "java/lang/IndexOutOfBoundsException", .declares (Bundle.initS "java/lang/RuntimeException"), .declares (Bundle.initS "java/lang/Exception"), .declares (Bundle.initS "java/lang/Throwable")]) (fun w hw => hts w (at1_X5_say_94 w hw)) at2_RX5_94 (vx_c (va_Nw.use rfl hE.2.2.2.2.2.2.2.2.2.2.2.2.2.2.2.1) (vx_c (va_Nw.use rfl hDc.1) (vx_c (va_Nw.use rfl hDc.2.1) (vx_c (va_Nw.use rfl hDc.2.2) vx_n))))) at2_RX5_94g hE.1 hE.2.1 hS (by rw [hml]; exact hl.1) dX5_say_8 dX5_say_11 dX5_say_12 dX5_say_14 dX5_say_17 (fun x hx => (hnx x hx).elim) (by decide) (by decide) (Nat.le_of_ble_eq_true rfl) (Nat.le_of_ble_eq_true rfl) hlocks (fun t _ h1 h2 => ⟨(), trivial, (Or.inl ⟨c1, rfl⟩), thF (H0 := s.heap) hS h1 h2⟩) hS.2.2 (Nat.le_of_ble_eq_true rfl) (Nat.le_of_ble_eq_true rfl)
  · skip
    refine lv_if_ne (tgt := 18) hx hb dX5_say_5 (by decide) (fun h => absurd (by decide) h) (fun _ => ?_)
    exact vx_throwS (names := ["java/lang/RuntimeException", "java/lang/Exception"]) (sa := ε 12) hx hb hst hown (by decide +kernel) (by decide +kernel) (hts _ wd149_X5_say) (hts _ wd150_X5_say) (hE.2.2.2.2.2.2.1 _ (List.mem_of_getElem? (i := 2) rfl)) (vx_hat (B := [.castable "java/lang/IndexOutOfBoundsException" "java/lang/IndexOutOfBoundsException", .declares (Bundle.initS "java/lang/RuntimeException"), .declares (Bundle.initS "java/lang/Exception"), .declares (Bundle.initS "java/lang/Throwable")]) (fun w hw => hts w (at1_X5_say_94 w hw)) at2_RX5_94 (vx_c (va_Nw.use rfl hE.2.2.2.2.2.2.2.2.2.2.2.2.2.2.2.1) (vx_c (va_Nw.use rfl hDc.1) (vx_c (va_Nw.use rfl hDc.2.1) (vx_c (va_Nw.use rfl hDc.2.2) vx_n))))) at2_RX5_94g hE.1 hE.2.1 hS (by rw [hml]; exact hl.1) dX5_say_8 dX5_say_11 dX5_say_12 dX5_say_14 dX5_say_17 (fun x hx => (hnx x hx).elim) (by decide) (by decide) (Nat.le_of_ble_eq_true rfl) (Nat.le_of_ble_eq_true rfl) hlocks (fun t _ h1 h2 => ⟨(), trivial, (Or.inr ⟨c2, rfl⟩), thF (H0 := s.heap) hS h1 h2⟩) hS.2.2 (Nat.le_of_ble_eq_true rfl) (Nat.le_of_ble_eq_true rfl)

def wsL_sayx : List Cond := wsL_say ++ [.classLink RL 13 "java/lang/IllegalStateException"]

theorem gL_say_X5_say_x : GoodIn wsL_sayx (wsV RL 21 RX5 yX5_say wsX5_say) := fun w h => ⟨List.mem_append_left _ (gL_say_X5_say w h).1, (gL_say_X5_say w h).2⟩

theorem wd151_L_say : (.classLink RL 24 "java/lang/IndexOutOfBoundsException" : Cond) ∈ wsL_sayx := by decide +kernel

set_option maxHeartbeats 4000000 in
set_option maxRecDepth 100000 in
theorem k_L_say_0 (l : Launch) (hst : l.stackTraces = false) (D : va_G) (κ ε : Nat → Nat) (h0 h1 h2 h3 h4 h5 h6 h7 h8 h9 : Nat) (sz : Nat) (p0 : Int32) : Met l yL_say wsL_sayx ({ frames := 7, cells := 1, slots := 6, locals := 141 }) (va_Pc [.ref h0, .int p0, .ref h1] (Pre2 D κ ε [(h0, .inr (7, [.ref h2, .ref h3, .ref h4, .ref h5, .ref h6, .ref h7, .int 0, .int 0, .int 0, .int 0])), (h1, .inl (κ 2, 1, .inr (.inl (fun _ => 0)))), (h2, .inr (2, [.int 0, .int 2, .ref h8, .ref h9]))] sz)) (va_Qi (fun r (u : Nat → Int64) => ((p0 < 0) ∧ (r = 1)) ∨ ((¬ p0 < 0) ∧ (r = 1))) (fun u t => va_P D vwCl [(h1, .inl (κ 2, 1, .inr (.inl u)))] t.heap ∧ va_D (va_A [(h0, .inr (7, [.ref h2, .ref h3, .ref h4, .ref h5, .ref h6, .ref h7, .int 0, .int 0, .int 0, .int 0])), (h1, .inl (κ 2, 1, .inr (.inl (fun _ => 0)))), (h2, .inr (2, [.int 0, .int 2, .ref h8, .ref h9]))] sz) [(h1, .inl (κ 2, 1, .inr (.inl u)))]) (va_A [(h0, .inr (7, [.ref h2, .ref h3, .ref h4, .ref h5, .ref h6, .ref h7, .int 0, .int 0, .int 0, .int 0])), (h1, .inl (κ 2, 1, .inr (.inl (fun _ => 0)))), (h2, .inr (2, [.int 0, .int 2, .ref h8, .ref h9]))] sz)) 1 6 (va_A [(h0, .inr (7, [.ref h2, .ref h3, .ref h4, .ref h5, .ref h6, .ref h7, .int 0, .int 0, .int 0, .int 0])), (h1, .inl (κ 2, 1, .inr (.inl (fun _ => 0)))), (h2, .inr (2, [.int 0, .int 2, .ref h8, .ref h9]))] sz) := by
  refine va_MetW (cc := cL_say) (maxL := 4) (ret := (some .int)) (hh := [(0, 9, 12, 24), (0, 9, 15, 13)]) (by decide) rfl ?_
  intro p e s m args below meth c s₁ B hml hv
  obtain ⟨rfl, hsz, hP, hK, hD0, hE9⟩ := hv
  have hx := B.exec
  have hb := B.bytes
  have hr := B.returns
  have hts := atoms_spec (ws := wsL_sayx) B.pre
  have hown : s.vm.findClass RL = some m.cls := findClass_of_methodNamed B.named
  have hlocks := B.notSynchronized
  have htab : c.exceptionTable.toList = tableOf [(0, 9, 12, 24), (0, 9, 15, 13)] := vx_table (x := yL_say) B (hts (.codeWith yL_say cL_say 4 (some .int) [(0, 9, 12, 24), (0, 9, 15, 13)]) List.mem_cons_self)
  subst hsz
  have hD := hD0.self (sz := s.heap.size)
  generalize hAe : va_A [(h0, .inr (7, [.ref h2, .ref h3, .ref h4, .ref h5, .ref h6, .ref h7, .int 0, .int 0, .int 0, .int 0])), (h1, .inl (κ 2, 1, .inr (.inl (fun _ => 0)))), (h2, .inr (2, [.int 0, .int 2, .ref h8, .ref h9]))] s.heap.size = A at hD hE9 ⊢
  have hE := hE9.1
  have hDc := hE9.2
  have hA : ∀ q : Nat, s.heap.size ≤ q → A q := fun q h => by rw [← hAe]; exact Or.inr h
  have hS : va_S A s.heap s.heap [] := va_S.rf
  have hP : va_P D vwCl [(h0, .inr (7, [.ref h2, .ref h3, .ref h4, .ref h5, .ref h6, .ref h7, .int 0, .int 0, .int 0, .int 0])), (h1, .inl (κ 2, 1, .inr (.inl (fun _ => 0)))), (h2, .inr (2, [.int 0, .int 2, .ref h8, .ref h9]))] s.heap := hP
  have hl := lv_entry [.ref h0, .int p0, .ref h1] (n := 4) (Nat.le_of_ble_eq_true rfl)
  rw [lg_entry_eq]
  generalize (lg_sl [.ref h0, .int p0, .ref h1] ++ List.replicate (4 - (lg_sl [.ref h0, .int p0, .ref h1]).length) Slot.unset).toArray = ls at hl ⊢
  have hl : lv_has ls 4 [(0, .ref h0), (1, .int p0), (2, .ref h1)] := hl
  refine lv_aload_n hx hb dL_say_0 rfl (lv_at hl 2 rfl) ?_
  refine lv_iconst (v := 0) hx hb dL_say_1 (by decide) ?_
  refine lv_aload_n hx hb dL_say_2 rfl (lv_at hl 0 rfl) ?_
  refine lv_iload_n hx hb dL_say_3 rfl (lv_at hl 1 rfl) ?_
  have hF := va_free (wc := [(h0, .inr (7, [.ref h2, .ref h3, .ref h4, .ref h5, .ref h6, .ref h7, .int 0, .int 0, .int 0, .int 0])), (h2, .inr (2, [.int 0, .int 2, .ref h8, .ref h9]))]) hD hS hA [0, 2] rfl
  refine vx_calli (vx_runV (As := [.int p0]) (rest := [.int 0, .ref h1]) ⟨hx, hb, hml, hown, hts⟩ (k_X5_say_0 l hst D κ ε h0 h2 h3 h4 h5 h6 h7 h8 h9 s.heap.size (p0)) (cwV 1 hts gL_say_X5_say_x rfl rfl rfl (by decide +kernel) ⟨(Nat.le_of_ble_eq_true rfl), (Nat.le_of_ble_eq_true rfl)⟩) (pre2_V (q0 := 0) (ci := 7) (wc := [(h0, .inr (7, [.ref h2, .ref h3, .ref h4, .ref h5, .ref h6, .ref h7, .int 0, .int 0, .int 0, .int 0])), (h2, .inr (2, [.int 0, .int 2, .ref h8, .ref h9]))]) hP hD hK hE9 hS hA [0, 2] (by decide) rfl rfl rfl) rfl rfl hl.1 rfl (lv_room (Nat.le_of_ble_eq_true rfl)) dL_say_4 ⟨(Nat.le_of_ble_eq_true rfl), (Nat.le_of_ble_eq_true rfl)⟩) hS (fun q _ h => hF q h) hF (fun q _ h => hF q h) (fun E9 ce q9 u t H locs ht hvm hw hB hz1 hk1 hS hce hcv hcl => ?_) (fun r u t H locs ht hvm hw hB hz1 hk1 hS => ?_)
  · try dsimp only at hB
    have hP1 : va_P D vwCl [] H := P_nil
    obtain ⟨hP, hD⟩ := post_j (ws' := [(h1, .inl (κ 2, 1, .inr (.inl (fun _ => 0))))]) (wr := [(h1, .inl (κ 2, 1, .inr (.inl (fun _ => 0))))]) (w1 := []) hP hD hF [0, 2] rfl [1] rfl (by decide) (by decide) hk1 hP1 D_nil [0] (by decide) rfl
    have hP : va_P D vwCl [(h1, .inl (κ 2, 1, .inr (.inl (fun _ => 0))))] H := hP
    have hD : va_D A [(h1, .inl (κ 2, 1, .inr (.inl (fun _ => 0))))] := hD
    rcases hB with ⟨c2, rfl⟩ | ⟨c3, rfl⟩
    · skip
      refine vx_catch (name := "java/lang/IndexOutOfBoundsException") hown [] ⟨0, 9, 12, 24⟩ [⟨0, 9, 15, 13⟩] (htab.trans rfl) (fun z hz => nomatch hz) (by decide) (by decide) (hts _ wd151_L_say) (va_Nw.use rfl hE.2.2.2.2.2.2.2.2.2.2.2.2.2.2.2.1) hce hcv hcl ?_
      refine lv_astore_n (lv' := [(3, .ref q9), (0, .ref h0), (1, .int p0), (2, .ref h1)]) hx hb dL_say_12 rfl hl (by decide) rfl (fun ls hl => ?_)
      refine lv_iconst (v := 1) hx hb dL_say_13 (by decide) ?_
      have hP9 := hP.sub (ws' := [(h1, .inl (κ 2, 1, .inr (.inl (fun _ => 0))))]) [0] rfl
      have hD9 := hD.sub (ws' := [(h1, .inl (κ 2, 1, .inr (.inl (fun _ => 0))))]) [0] (by decide) rfl
      refine W.widen (k := 1) (n := 6) (Nat.le_of_ble_eq_true rfl) (Nat.le_of_ble_eq_true rfl) ?_
      exact W.iret (v := 1) hx hb hr (fun t ht hW => ⟨⟨1, (fun _ => 0), rfl, (Or.inl ⟨c2, rfl⟩), by rw [ht]; exact hP9, hD9⟩, hS.F ht⟩) hS.2.2 dL_say_14
    · skip
      refine vx_catch (name := "java/lang/IndexOutOfBoundsException") hown [] ⟨0, 9, 12, 24⟩ [⟨0, 9, 15, 13⟩] (htab.trans rfl) (fun z hz => nomatch hz) (by decide) (by decide) (hts _ wd151_L_say) (va_Nw.use rfl hE.2.2.2.2.2.2.2.2.2.2.2.2.2.2.2.1) hce hcv hcl ?_
      refine lv_astore_n (lv' := [(3, .ref q9), (0, .ref h0), (1, .int p0), (2, .ref h1)]) hx hb dL_say_12 rfl hl (by decide) rfl (fun ls hl => ?_)
      refine lv_iconst (v := 1) hx hb dL_say_13 (by decide) ?_
      have hP9 := hP.sub (ws' := [(h1, .inl (κ 2, 1, .inr (.inl (fun _ => 0))))]) [0] rfl
      have hD9 := hD.sub (ws' := [(h1, .inl (κ 2, 1, .inr (.inl (fun _ => 0))))]) [0] (by decide) rfl
      refine W.widen (k := 1) (n := 6) (Nat.le_of_ble_eq_true rfl) (Nat.le_of_ble_eq_true rfl) ?_
      exact W.iret (v := 1) hx hb hr (fun t ht hW => ⟨⟨1, (fun _ => 0), rfl, (Or.inr ⟨c3, rfl⟩), by rw [ht]; exact hP9, hD9⟩, hS.F ht⟩) hS.2.2 dL_say_14
  · exact False.elim hw

set_option maxHeartbeats 4000000 in
set_option maxRecDepth 100000 in
theorem k_X6_isIn_3 (l : Launch) (D : va_G) (κ ε : Nat → Nat) (p0 : Int32) (hf0 : p0 < 0) : Met l yX6_isIn wsX6_isIn ({ frames := 0, cells := 0, slots := 0, locals := 0 }) (va_Pc [.int p0, .int 0, .int (-1)] (Pre0 D κ [])) (vp_Si (fun r => (r = 0))) 0 0 (fun _ => False) := by
  refine Met.ofW (cc := cX6_isIn) (maxL := 3) (ret := (some .boolean)) (by decide) rfl ?_
  intro p e s m args below meth c s₁ B hml hv
  obtain ⟨rfl, hP, hK⟩ := hv
  have hx := B.exec
  have hb := B.bytes
  have hr := B.returns
  have hts := atoms_spec (ws := wsX6_isIn) B.pre
  have hown : s.vm.findClass RX6 = some m.cls := findClass_of_methodNamed B.named
  have hlocks := B.notSynchronized
  have hP : va_P D vwCl [] s.heap := hP
  have hl := lv_entry [.int p0, .int 0, .int (-1)] (n := 3) (Nat.le_of_ble_eq_true rfl)
  rw [lg_entry_eq]
  generalize (lg_sl [.int p0, .int 0, .int (-1)] ++ List.replicate (3 - (lg_sl [.int p0, .int 0, .int (-1)]).length) Slot.unset).toArray = ls at hl ⊢
  have hl : lv_has ls 3 [(0, .int p0), (1, .int 0), (2, .int (-1))] := hl
  refine lv_iload_n hx hb dX6_isIn_0 rfl (lv_at hl 0 rfl) ?_
  refine lv_iload_n hx hb dX6_isIn_1 rfl (lv_at hl 1 rfl) ?_
  refine lv_icmp_lt (tgt := 14) hx hb dX6_isIn_2 (by decide) (fun _ => ?_) (fun h => absurd hf0 h)
  refine lv_iconst (v := 0) hx hb dX6_isIn_14 (by decide) ?_
  exact W.zret (v := 0) hx hb hr rfl (fun t ht hW => ⟨0, rfl, rfl, ht⟩) (fun q hq => absurd hq List.not_mem_nil) dX6_isIn_15

theorem wi_X6_say_RX6 : ∀ w ∈ u_ws RX6 TX6 11, w ∈ wsX6_say := by decide +kernel

theorem wd152_X6_say : (.fieldLink RX6 56 "CanticleModel" "words" "I" : Cond) ∈ wsX6_say := by decide +kernel

set_option maxHeartbeats 4000000 in
set_option maxRecDepth 100000 in
theorem k_X6_say_0 (l : Launch) (D : va_G) (κ ε : Nat → Nat) (h0 h1 h2 h3 : Nat) (sz : Nat) (p0 : Int32) (hf0 : p0 < 0) : Met l yX6_say wsX6_say ({ frames := 2, cells := 0, slots := 0, locals := 44 }) (va_Pc [.ref h0, .int p0] (Pre2 D κ ε [(h0, .inr (8, [.int 0, .int 0, .int 2, .ref h1, .ref h2, .int 0, .int 500, .int 0, .int 0, .int 0, .ref h3]))] sz)) (va_Qi (fun r (u : List Value) => (u[0]? = some (.int 1)) ∧ (r = 0)) (fun u t => va_P D vwCl [(h0, .inr (8, u))] t.heap ∧ va_D (va_A [(h0, .inr (8, [.int 0, .int 0, .int 2, .ref h1, .ref h2, .int 0, .int 500, .int 0, .int 0, .int 0, .ref h3]))] sz) [(h0, .inr (8, u))]) (va_A [(h0, .inr (8, [.int 0, .int 0, .int 2, .ref h1, .ref h2, .int 0, .int 500, .int 0, .int 0, .int 0, .ref h3]))] sz)) 0 0 (va_A [(h0, .inr (8, [.int 0, .int 0, .int 2, .ref h1, .ref h2, .int 0, .int 500, .int 0, .int 0, .int 0, .ref h3]))] sz) := by
  refine Met.ofW (cc := cX6_say) (maxL := 2) (ret := (some .int)) (by decide) rfl ?_
  intro p e s m args below meth c s₁ B hml hv
  obtain ⟨rfl, hsz, hP, hK, hD0, hE9⟩ := hv
  have hx := B.exec
  have hb := B.bytes
  have hr := B.returns
  have hts := atoms_spec (ws := wsX6_say) B.pre
  have hown : s.vm.findClass RX6 = some m.cls := findClass_of_methodNamed B.named
  have hlocks := B.notSynchronized
  subst hsz
  have hD := hD0.self (sz := s.heap.size)
  generalize hAe : va_A [(h0, .inr (8, [.int 0, .int 0, .int 2, .ref h1, .ref h2, .int 0, .int 500, .int 0, .int 0, .int 0, .ref h3]))] s.heap.size = A at hD hE9 ⊢
  have hE := hE9.1
  have hDc := hE9.2
  have hA : ∀ q : Nat, s.heap.size ≤ q → A q := fun q h => by rw [← hAe]; exact Or.inr h
  have hS : va_S A s.heap s.heap [] := va_S.rf
  have hP : va_P D vwCl [(h0, .inr (8, [.int 0, .int 0, .int 2, .ref h1, .ref h2, .int 0, .int 500, .int 0, .int 0, .int 0, .ref h3]))] s.heap := hP
  have hl := lv_entry [.ref h0, .int p0] (n := 2) (Nat.le_of_ble_eq_true rfl)
  rw [lg_entry_eq]
  generalize (lg_sl [.ref h0, .int p0] ++ List.replicate (2 - (lg_sl [.ref h0, .int p0]).length) Slot.unset).toArray = ls at hl ⊢
  have hl : lv_has ls 2 [(0, .ref h0), (1, .int p0)] := hl
  refine lv_aload_n hx hb dX6_say_0 rfl (lv_at hl 0 rfl) ?_
  refine lv_iload_n hx hb dX6_say_1 rfl (lv_at hl 1 rfl) ?_
  refine lv_iconst (v := 0) hx hb dX6_say_2 (by decide) ?_
  refine lv_aload_n hx hb dX6_say_3 rfl (lv_at hl 0 rfl) ?_
  refine va_get (D := D) (ci := 8) (v := .int 0) (C := RX6) (T := TX6) (N := 11) hx hb hts wi_X6_say_RX6 hown hK hP 0 rfl rfl 1 (by decide) (hts _ wd152_X6_say) (fun _ h9 => h9) rfl dX6_say_4 ?_
  refine lv_iconst (v := 1) hx hb dX6_say_7 (by decide) ?_
  refine lv_isub hx hb dX6_say_8 ?_
  refine tpi (v := (-1)) (by decide) ?_
  refine vp_callSi (W.runS (As := [.int p0, .int 0, .int (-1)]) (rest := [.ref h0]) ⟨hx, hb, hml, hown, hts⟩ (k_X6_isIn_3 l D κ ε (p0) hf0) (va_cwS 3 hts gX6_say_X6_isIn rfl rfl rfl (by decide +kernel) ⟨(Nat.le_of_ble_eq_true rfl), (Nat.le_of_ble_eq_true rfl)⟩) (pre0_S (wc := []) hP hK [] rfl) rfl rfl hl.1 rfl (lv_room (Nat.le_of_ble_eq_true rfl)) dX6_say_9 ⟨(Nat.le_of_ble_eq_true rfl), (Nat.le_of_ble_eq_true rfl)⟩) (fun r hw => ?_)
  rw [hw]
  refine lv_if_ne (tgt := 19) hx hb dX6_say_12 (by decide) (fun h => absurd (by decide) h) (fun _ => ?_)
  refine lv_iconst (v := 1) hx hb dX6_say_15 (by decide) ?_
  refine lv_goto (tgt := 20) hx hb dX6_say_16 (by decide) ?_
  refine lv_iconst (v := 1) hx hb dX6_say_20 (by decide) ?_
  have hF := va_free (wc := [(h0, .inr (8, [.int 0, .int 0, .int 2, .ref h1, .ref h2, .int 0, .int 500, .int 0, .int 0, .int 0, .ref h3]))]) hD hS hA [0] rfl
  refine va_calli (va_runV (As := [.int 1, .int 1]) (rest := []) ⟨hx, hb, hml, hown, hts⟩ (k_X6_start_1 l D κ ε h0 h1 h2 h3 s.heap.size (0) (2) (0) (500) (0) (0)) (cwV 2 hts gX6_say_X6_start rfl rfl rfl (by decide +kernel) ⟨(Nat.le_of_ble_eq_true rfl), (Nat.le_of_ble_eq_true rfl)⟩) (pre2_V (q0 := 0) (ci := 8) (wc := [(h0, .inr (8, [.int 0, .int 0, .int 2, .ref h1, .ref h2, .int 0, .int 500, .int 0, .int 0, .int 0, .ref h3]))]) hP hD hK hE9 hS hA [0] (by decide) rfl rfl rfl) rfl rfl hl.1 rfl (lv_room (Nat.le_of_ble_eq_true rfl)) dX6_say_21 ⟨(Nat.le_of_ble_eq_true rfl), (Nat.le_of_ble_eq_true rfl)⟩) hS (fun q _ h => hF q h) hF (fun r u1 t H locs ht hvm hw hB hz1 hk1 hS => ?_)
  try dsimp only at hw hB
  obtain ⟨hP1, hD1⟩ := hB
  rw [ht] at hP1
  obtain ⟨hP, hD⟩ := post_j (ws' := [(h0, .inr (8, [.int 1, .int 0, .int 2, .ref h1, .ref h2, .int 0, .int 500, .int 0, .int 0, .int 0, .ref h3]))]) (wr := []) (w1 := [(h0, .inr (8, [.int 1, .int 0, .int 2, .ref h1, .ref h2, .int 0, .int 500, .int 0, .int 0, .int 0, .ref h3]))]) hP hD hF [0] rfl [] rfl (by decide) (by decide) hk1 hP1 hD1 [0] (by decide) rfl
  have hP : va_P D vwCl [(h0, .inr (8, [.int 1, .int 0, .int 2, .ref h1, .ref h2, .int 0, .int 500, .int 0, .int 0, .int 0, .ref h3]))] H := hP
  have hD : va_D A [(h0, .inr (8, [.int 1, .int 0, .int 2, .ref h1, .ref h2, .int 0, .int 500, .int 0, .int 0, .int 0, .ref h3]))] := hD
  rw [hw]
  refine lv_if_ne (tgt := 52) hx hb dX6_say_24 (by decide) (fun _ => ?_) (fun h => absurd h (by decide))
  refine lv_iconst (v := 0) hx hb dX6_say_52 (by decide) ?_
  have hP9 := hP.sub (ws' := [(h0, .inr (8, [.int 1, .int 0, .int 2, .ref h1, .ref h2, .int 0, .int 500, .int 0, .int 0, .int 0, .ref h3]))]) [0] rfl
  have hD9 := hD.sub (ws' := [(h0, .inr (8, [.int 1, .int 0, .int 2, .ref h1, .ref h2, .int 0, .int 500, .int 0, .int 0, .int 0, .ref h3]))]) [0] (by decide) rfl
  exact W.iret (v := 0) hx hb hr (fun t ht hW => ⟨⟨0, [.int 1, .int 0, .int 2, .ref h1, .ref h2, .int 0, .int 500, .int 0, .int 0, .int 0, .ref h3], rfl, ⟨rfl, rfl⟩, by rw [ht]; exact hP9, hD9⟩, hS.F ht⟩) hS.2.2 dX6_say_53

theorem iv3 (x : Int32) (h0 : ¬ x < 0) : (-1) < x := by
  have e0 : ((-1) : Int32).toInt = -1 := by decide
  have e1 : (0 : Int32).toInt = 0 := by decide
  simp only [Int32.lt_iff_toInt_lt, Int32.le_iff_toInt_le, ← Int32.toInt_inj, e0, e1] at *
  omega

set_option maxHeartbeats 4000000 in
set_option maxRecDepth 100000 in
theorem k_X6_isIn_4 (l : Launch) (D : va_G) (κ ε : Nat → Nat) (p0 : Int32) (hf0 : ¬ p0 < 0) : Met l yX6_isIn wsX6_isIn ({ frames := 0, cells := 0, slots := 0, locals := 0 }) (va_Pc [.int p0, .int 0, .int (-1)] (Pre0 D κ [])) (vp_Si (fun r => (r = 0))) 0 0 (fun _ => False) := by
  refine Met.ofW (cc := cX6_isIn) (maxL := 3) (ret := (some .boolean)) (by decide) rfl ?_
  intro p e s m args below meth c s₁ B hml hv
  obtain ⟨rfl, hP, hK⟩ := hv
  have hx := B.exec
  have hb := B.bytes
  have hr := B.returns
  have hts := atoms_spec (ws := wsX6_isIn) B.pre
  have hown : s.vm.findClass RX6 = some m.cls := findClass_of_methodNamed B.named
  have hlocks := B.notSynchronized
  have hP : va_P D vwCl [] s.heap := hP
  have hl := lv_entry [.int p0, .int 0, .int (-1)] (n := 3) (Nat.le_of_ble_eq_true rfl)
  rw [lg_entry_eq]
  generalize (lg_sl [.int p0, .int 0, .int (-1)] ++ List.replicate (3 - (lg_sl [.int p0, .int 0, .int (-1)]).length) Slot.unset).toArray = ls at hl ⊢
  have hl : lv_has ls 3 [(0, .int p0), (1, .int 0), (2, .int (-1))] := hl
  refine lv_iload_n hx hb dX6_isIn_0 rfl (lv_at hl 0 rfl) ?_
  refine lv_iload_n hx hb dX6_isIn_1 rfl (lv_at hl 1 rfl) ?_
  refine lv_icmp_lt (tgt := 14) hx hb dX6_isIn_2 (by decide) (fun h => absurd h hf0) (fun _ => ?_)
  refine lv_iload_n hx hb dX6_isIn_5 rfl (lv_at hl 0 rfl) ?_
  refine lv_iload_n hx hb dX6_isIn_6 rfl (lv_at hl 2 rfl) ?_
  refine lv_icmp_gt (tgt := 14) hx hb dX6_isIn_7 (by decide) (fun _ => ?_) (fun h => absurd (iv3 _ hf0) h)
  refine lv_iconst (v := 0) hx hb dX6_isIn_14 (by decide) ?_
  exact W.zret (v := 0) hx hb hr rfl (fun t ht hW => ⟨0, rfl, rfl, ht⟩) (fun q hq => absurd hq List.not_mem_nil) dX6_isIn_15

set_option maxHeartbeats 4000000 in
set_option maxRecDepth 100000 in
theorem k_X6_say_1 (l : Launch) (D : va_G) (κ ε : Nat → Nat) (h0 h1 h2 h3 : Nat) (sz : Nat) (p0 : Int32) (hf0 : ¬ p0 < 0) : Met l yX6_say wsX6_say ({ frames := 2, cells := 0, slots := 0, locals := 44 }) (va_Pc [.ref h0, .int p0] (Pre2 D κ ε [(h0, .inr (8, [.int 0, .int 0, .int 2, .ref h1, .ref h2, .int 0, .int 500, .int 0, .int 0, .int 0, .ref h3]))] sz)) (va_Qi (fun r (u : List Value) => (u[0]? = some (.int 1)) ∧ (r = 0)) (fun u t => va_P D vwCl [(h0, .inr (8, u))] t.heap ∧ va_D (va_A [(h0, .inr (8, [.int 0, .int 0, .int 2, .ref h1, .ref h2, .int 0, .int 500, .int 0, .int 0, .int 0, .ref h3]))] sz) [(h0, .inr (8, u))]) (va_A [(h0, .inr (8, [.int 0, .int 0, .int 2, .ref h1, .ref h2, .int 0, .int 500, .int 0, .int 0, .int 0, .ref h3]))] sz)) 0 0 (va_A [(h0, .inr (8, [.int 0, .int 0, .int 2, .ref h1, .ref h2, .int 0, .int 500, .int 0, .int 0, .int 0, .ref h3]))] sz) := by
  refine Met.ofW (cc := cX6_say) (maxL := 2) (ret := (some .int)) (by decide) rfl ?_
  intro p e s m args below meth c s₁ B hml hv
  obtain ⟨rfl, hsz, hP, hK, hD0, hE9⟩ := hv
  have hx := B.exec
  have hb := B.bytes
  have hr := B.returns
  have hts := atoms_spec (ws := wsX6_say) B.pre
  have hown : s.vm.findClass RX6 = some m.cls := findClass_of_methodNamed B.named
  have hlocks := B.notSynchronized
  subst hsz
  have hD := hD0.self (sz := s.heap.size)
  generalize hAe : va_A [(h0, .inr (8, [.int 0, .int 0, .int 2, .ref h1, .ref h2, .int 0, .int 500, .int 0, .int 0, .int 0, .ref h3]))] s.heap.size = A at hD hE9 ⊢
  have hE := hE9.1
  have hDc := hE9.2
  have hA : ∀ q : Nat, s.heap.size ≤ q → A q := fun q h => by rw [← hAe]; exact Or.inr h
  have hS : va_S A s.heap s.heap [] := va_S.rf
  have hP : va_P D vwCl [(h0, .inr (8, [.int 0, .int 0, .int 2, .ref h1, .ref h2, .int 0, .int 500, .int 0, .int 0, .int 0, .ref h3]))] s.heap := hP
  have hl := lv_entry [.ref h0, .int p0] (n := 2) (Nat.le_of_ble_eq_true rfl)
  rw [lg_entry_eq]
  generalize (lg_sl [.ref h0, .int p0] ++ List.replicate (2 - (lg_sl [.ref h0, .int p0]).length) Slot.unset).toArray = ls at hl ⊢
  have hl : lv_has ls 2 [(0, .ref h0), (1, .int p0)] := hl
  refine lv_aload_n hx hb dX6_say_0 rfl (lv_at hl 0 rfl) ?_
  refine lv_iload_n hx hb dX6_say_1 rfl (lv_at hl 1 rfl) ?_
  refine lv_iconst (v := 0) hx hb dX6_say_2 (by decide) ?_
  refine lv_aload_n hx hb dX6_say_3 rfl (lv_at hl 0 rfl) ?_
  refine va_get (D := D) (ci := 8) (v := .int 0) (C := RX6) (T := TX6) (N := 11) hx hb hts wi_X6_say_RX6 hown hK hP 0 rfl rfl 1 (by decide) (hts _ wd152_X6_say) (fun _ h9 => h9) rfl dX6_say_4 ?_
  refine lv_iconst (v := 1) hx hb dX6_say_7 (by decide) ?_
  refine lv_isub hx hb dX6_say_8 ?_
  refine tpi (v := (-1)) (by decide) ?_
  refine vp_callSi (W.runS (As := [.int p0, .int 0, .int (-1)]) (rest := [.ref h0]) ⟨hx, hb, hml, hown, hts⟩ (k_X6_isIn_4 l D κ ε (p0) hf0) (va_cwS 3 hts gX6_say_X6_isIn rfl rfl rfl (by decide +kernel) ⟨(Nat.le_of_ble_eq_true rfl), (Nat.le_of_ble_eq_true rfl)⟩) (pre0_S (wc := []) hP hK [] rfl) rfl rfl hl.1 rfl (lv_room (Nat.le_of_ble_eq_true rfl)) dX6_say_9 ⟨(Nat.le_of_ble_eq_true rfl), (Nat.le_of_ble_eq_true rfl)⟩) (fun r hw => ?_)
  rw [hw]
  refine lv_if_ne (tgt := 19) hx hb dX6_say_12 (by decide) (fun h => absurd (by decide) h) (fun _ => ?_)
  refine lv_iconst (v := 1) hx hb dX6_say_15 (by decide) ?_
  refine lv_goto (tgt := 20) hx hb dX6_say_16 (by decide) ?_
  refine lv_iconst (v := 1) hx hb dX6_say_20 (by decide) ?_
  have hF := va_free (wc := [(h0, .inr (8, [.int 0, .int 0, .int 2, .ref h1, .ref h2, .int 0, .int 500, .int 0, .int 0, .int 0, .ref h3]))]) hD hS hA [0] rfl
  refine va_calli (va_runV (As := [.int 1, .int 1]) (rest := []) ⟨hx, hb, hml, hown, hts⟩ (k_X6_start_1 l D κ ε h0 h1 h2 h3 s.heap.size (0) (2) (0) (500) (0) (0)) (cwV 2 hts gX6_say_X6_start rfl rfl rfl (by decide +kernel) ⟨(Nat.le_of_ble_eq_true rfl), (Nat.le_of_ble_eq_true rfl)⟩) (pre2_V (q0 := 0) (ci := 8) (wc := [(h0, .inr (8, [.int 0, .int 0, .int 2, .ref h1, .ref h2, .int 0, .int 500, .int 0, .int 0, .int 0, .ref h3]))]) hP hD hK hE9 hS hA [0] (by decide) rfl rfl rfl) rfl rfl hl.1 rfl (lv_room (Nat.le_of_ble_eq_true rfl)) dX6_say_21 ⟨(Nat.le_of_ble_eq_true rfl), (Nat.le_of_ble_eq_true rfl)⟩) hS (fun q _ h => hF q h) hF (fun r u1 t H locs ht hvm hw hB hz1 hk1 hS => ?_)
  try dsimp only at hw hB
  obtain ⟨hP1, hD1⟩ := hB
  rw [ht] at hP1
  obtain ⟨hP, hD⟩ := post_j (ws' := [(h0, .inr (8, [.int 1, .int 0, .int 2, .ref h1, .ref h2, .int 0, .int 500, .int 0, .int 0, .int 0, .ref h3]))]) (wr := []) (w1 := [(h0, .inr (8, [.int 1, .int 0, .int 2, .ref h1, .ref h2, .int 0, .int 500, .int 0, .int 0, .int 0, .ref h3]))]) hP hD hF [0] rfl [] rfl (by decide) (by decide) hk1 hP1 hD1 [0] (by decide) rfl
  have hP : va_P D vwCl [(h0, .inr (8, [.int 1, .int 0, .int 2, .ref h1, .ref h2, .int 0, .int 500, .int 0, .int 0, .int 0, .ref h3]))] H := hP
  have hD : va_D A [(h0, .inr (8, [.int 1, .int 0, .int 2, .ref h1, .ref h2, .int 0, .int 500, .int 0, .int 0, .int 0, .ref h3]))] := hD
  rw [hw]
  refine lv_if_ne (tgt := 52) hx hb dX6_say_24 (by decide) (fun _ => ?_) (fun h => absurd h (by decide))
  refine lv_iconst (v := 0) hx hb dX6_say_52 (by decide) ?_
  have hP9 := hP.sub (ws' := [(h0, .inr (8, [.int 1, .int 0, .int 2, .ref h1, .ref h2, .int 0, .int 500, .int 0, .int 0, .int 0, .ref h3]))]) [0] rfl
  have hD9 := hD.sub (ws' := [(h0, .inr (8, [.int 1, .int 0, .int 2, .ref h1, .ref h2, .int 0, .int 500, .int 0, .int 0, .int 0, .ref h3]))]) [0] (by decide) rfl
  exact W.iret (v := 0) hx hb hr (fun t ht hW => ⟨⟨0, [.int 1, .int 0, .int 2, .ref h1, .ref h2, .int 0, .int 500, .int 0, .int 0, .int 0, .ref h3], rfl, ⟨rfl, rfl⟩, by rw [ht]; exact hP9, hD9⟩, hS.F ht⟩) hS.2.2 dX6_say_53

theorem gL_law_L_say_y : GoodIn wsL_law (va_wsS RL 102 yL_say wsL_sayx) := (show GoodIn wsL_law ((va_wsS RL 102 yL_say wsL_say) ++ [.classLink RL 13 "java/lang/IllegalStateException"]) from goodIn_app gL_law_L_say (goodIn_of (big := wsL_law) [.classLink RL 13 "java/lang/IllegalStateException"] (by decide +kernel)))

set_option maxHeartbeats 4000000 in
set_option maxRecDepth 100000 in
theorem case_2 {p : Program} {e : Env} {s : State} {m : MethodId} {below : List Frame} {meth : Method} {c : Code} (l : Launch) (hst : l.stackTraces = false) {b : Nat} {xs : Nat → Int32} (C0 : lw_At p s m meth c b 4 xs) (D : va_G) (κ ε : Nat → Nat) (hK : va_K D vwCl (tys κ) s) (hE9 : En2 ε (fun q : Nat => s.heap.size ≤ q) s s.heap) (qx qm qo : Nat) (ux um : Nat → Nat) {H : Heap} {locs : List Loc} (hP : va_P D vwCl [(qx, .inr (7, [.ref (ux 0), .ref (ux 27), .ref (ux 30), .ref (ux 31), .ref (ux 35), .ref (ux 36), .int 0, .int 0, .int 0, .int 0])), ((ux 0), .inr (2, [.int 0, .int 2, .ref (ux 1), .ref (ux 2)])), (qm, .inr (8, [.int 0, .int 0, .int 2, .ref (um 0), .ref (um 1), .int 0, .int 500, .int 0, .int 0, .int 0, .ref (um 6)])), (qo, .inl (κ 2, 1, .inr (.inl (fun _ => 0))))] H) (hD : va_D (fun q : Nat => s.heap.size ≤ q) [(qx, .inr (7, [.ref (ux 0), .ref (ux 27), .ref (ux 30), .ref (ux 31), .ref (ux 35), .ref (ux 36), .int 0, .int 0, .int 0, .int 0])), ((ux 0), .inr (2, [.int 0, .int 2, .ref (ux 1), .ref (ux 2)])), (qm, .inr (8, [.int 0, .int 0, .int 2, .ref (um 0), .ref (um 1), .int 0, .int 500, .int 0, .int 0, .int 0, .ref (um 6)])), (qo, .inl (κ 2, 1, .inr (.inl (fun _ => 0))))]) (hS : va_S (fun q : Nat => s.heap.size ≤ q) s.heap H locs) {ls : Array Slot} (hl : lv_has ls 9 [(0, .ref b), (1, .ref qx), (2, .ref qm), (3, .ref qo), (4, .int 0)]) : W p l e room_1 s m #[Value.ref b] below meth c H locs 100 120000 (lw_Z below #[Value.ref b] s) (F0 m 288 ls []) := by
  obtain ⟨hx, hb, hr, hml, hown0, hts0, hX, hbl, hlocks, hgv⟩ := id C0
  have hts : ∀ w ∈ wsL_law, w.before #[Value.ref b] s = true := fun w h => hts0 w (wsL_law_in w h)
  have hown : s.vm.findClass RL = some m.cls := hown0
  have hE := hE9.1
  have hDc := hE9.2
  have hA : ∀ q : Nat, s.heap.size ≤ q → (fun q : Nat => s.heap.size ≤ q) q := fun _ h => h
  have hbA : ¬ (fun q : Nat => s.heap.size ≤ q) b := Nat.not_le.mpr hbl
  refine lv_aload_n hx hb dL_law_288 rfl (lv_at hl 1 rfl) ?_
  refine lv_aload_n hx hb dL_law_289 rfl (lv_at hl 0 rfl) ?_
  refine lv_iload hx hb dL_law_290 (lv_at hl 4 rfl) ?_
  refine lv_iconst (v := 1) hx hb dL_law_292 (by decide) ?_
  refine lv_iadd hx hb dL_law_293 ?_
  refine tpi (v := 1) (by decide) ?_
  refine va_sld hx hb hX hbl hbA hS (vpl (by decide)) dL_law_294 ?_
  refine tpi (v := (xs 1)) rfl ?_
  refine lv_aload_n hx hb dL_law_295 rfl (lv_at hl 3 rfl) ?_
  have hF := va_free (wc := [(qx, .inr (7, [.ref (ux 0), .ref (ux 27), .ref (ux 30), .ref (ux 31), .ref (ux 35), .ref (ux 36), .int 0, .int 0, .int 0, .int 0])), (qo, .inl (κ 2, 1, .inr (.inl (fun _ => 0)))), ((ux 0), .inr (2, [.int 0, .int 2, .ref (ux 1), .ref (ux 2)]))]) hD hS hA [0, 3, 1] rfl
  refine va_calli (vx_runSW (As := [.ref qx, .int (xs 1), .ref qo]) (rest := []) ⟨hx, hb, hml, hown, hts⟩ (k_L_say_0 l hst D κ ε qx qo (ux 0) (ux 27) (ux 30) (ux 31) (ux 35) (ux 36) (ux 1) (ux 2) H.size ((xs 1))) (vx_cwSW 3 hts gL_law_L_say_y rfl rfl rfl (by decide +kernel) ⟨(Nat.le_of_ble_eq_true rfl), (Nat.le_of_ble_eq_true rfl)⟩) (pre2_S (wc := [(qx, .inr (7, [.ref (ux 0), .ref (ux 27), .ref (ux 30), .ref (ux 31), .ref (ux 35), .ref (ux 36), .int 0, .int 0, .int 0, .int 0])), (qo, .inl (κ 2, 1, .inr (.inl (fun _ => 0)))), ((ux 0), .inr (2, [.int 0, .int 2, .ref (ux 1), .ref (ux 2)]))]) hP hD hK hE9 hS hA [0, 3, 1] (by decide) rfl) rfl rfl hl.1 rfl (lv_room (Nat.le_of_ble_eq_true rfl)) dL_law_296 ⟨(Nat.le_of_ble_eq_true rfl), (Nat.le_of_ble_eq_true rfl)⟩) hS (fun q _ h => hF q h) hF (fun r u1 t H locs ht hvm hw hB hz1 hk1 hS => ?_)
  try dsimp only at hw hB
  obtain ⟨hP1, hD1⟩ := hB
  rw [ht] at hP1
  obtain ⟨hP, hD⟩ := post_j (ws' := [(qm, .inr (8, [.int 0, .int 0, .int 2, .ref (um 0), .ref (um 1), .int 0, .int 500, .int 0, .int 0, .int 0, .ref (um 6)])), (qo, .inl (κ 2, 1, .inr (.inl u1)))]) (wr := [(qm, .inr (8, [.int 0, .int 0, .int 2, .ref (um 0), .ref (um 1), .int 0, .int 500, .int 0, .int 0, .int 0, .ref (um 6)]))]) (w1 := [(qo, .inl (κ 2, 1, .inr (.inl u1)))]) hP hD hF [0, 3, 1] rfl [2] rfl (by decide) (by decide) hk1 hP1 hD1 [0, 1] (by decide) rfl
  have hP : va_P D vwCl [(qm, .inr (8, [.int 0, .int 0, .int 2, .ref (um 0), .ref (um 1), .int 0, .int 500, .int 0, .int 0, .int 0, .ref (um 6)])), (qo, .inl (κ 2, 1, .inr (.inl u1)))] H := hP
  have hD : va_D (fun q : Nat => s.heap.size ≤ q) [(qm, .inr (8, [.int 0, .int 0, .int 2, .ref (um 0), .ref (um 1), .int 0, .int 500, .int 0, .int 0, .int 0, .ref (um 6)])), (qo, .inl (κ 2, 1, .inr (.inl u1)))] := hD
  rcases hw with ⟨c2, rfl⟩ | ⟨c3, rfl⟩
  · skip
    refine lv_istore (lv' := [(5, .int 1), (0, .ref b), (1, .ref qx), (2, .ref qm), (3, .ref qo), (4, .int 0)]) hx hb dL_law_299 hl (by decide) rfl (fun ls hl => ?_)
    refine lv_aload_n hx hb dL_law_301 rfl (lv_at hl 3 rfl) ?_
    refine lv_aload_n hx hb dL_law_302 rfl (lv_at hl 1 rfl) ?_
    refine lv_iload hx hb dL_law_303 (lv_at hl 5 rfl) ?_
    refine lv_iconst (v := 1) hx hb dL_law_305 (by decide) ?_
    refine lv_iadd hx hb dL_law_306 ?_
    refine tpi (v := 1) (by decide) ?_
    refine va_sld hx hb hX hbl hbA hS (vpl (by decide)) dL_law_307 ?_
    refine tpi (v := (xs 1)) rfl ?_
    have hF := va_free (wc := [(qm, .inr (8, [.int 0, .int 0, .int 2, .ref (um 0), .ref (um 1), .int 0, .int 500, .int 0, .int 0, .int 0, .ref (um 6)]))]) hD hS hA [0] rfl
    refine va_calli (va_runV (As := [.int (xs 1)]) (rest := []) ⟨hx, hb, hml, hown, hts⟩ (k_X6_say_0 l D κ ε qm (um 0) (um 1) (um 6) H.size ((xs 1)) c2) (cwV 1 hts gL_law_X6_say rfl rfl rfl (by decide +kernel) ⟨(Nat.le_of_ble_eq_true rfl), (Nat.le_of_ble_eq_true rfl)⟩) (pre2_V (q0 := 0) (ci := 8) (wc := [(qm, .inr (8, [.int 0, .int 0, .int 2, .ref (um 0), .ref (um 1), .int 0, .int 500, .int 0, .int 0, .int 0, .ref (um 6)]))]) hP hD hK hE9 hS hA [0] (by decide) rfl rfl rfl) rfl rfl hl.1 rfl (lv_room (Nat.le_of_ble_eq_true rfl)) dL_law_308 ⟨(Nat.le_of_ble_eq_true rfl), (Nat.le_of_ble_eq_true rfl)⟩) hS (fun q _ h => hF q h) hF (fun r u4 t H locs ht hvm hw hB hz1 hk1 hS => ?_)
    try dsimp only at hw hB
    obtain ⟨hP1, hD1⟩ := hB
    rw [ht] at hP1
    obtain ⟨hP, hD⟩ := post_j (ws' := [(qm, .inr (8, u4)), (qo, .inl (κ 2, 1, .inr (.inl u1)))]) (wr := [(qo, .inl (κ 2, 1, .inr (.inl u1)))]) (w1 := [(qm, .inr (8, u4))]) hP hD hF [0] rfl [1] rfl (by decide) (by decide) hk1 hP1 hD1 [1, 0] (by decide) rfl
    have hP : va_P D vwCl [(qm, .inr (8, u4)), (qo, .inl (κ 2, 1, .inr (.inl u1)))] H := hP
    have hD : va_D (fun q : Nat => s.heap.size ≤ q) [(qm, .inr (8, u4)), (qo, .inl (κ 2, 1, .inr (.inl u1)))] := hD
    obtain ⟨hu5, rfl⟩ := hw
    refine lv_istore (lv' := [(6, .int 0), (5, .int 1), (0, .ref b), (1, .ref qx), (2, .ref qm), (3, .ref qo), (4, .int 0)]) hx hb dL_law_311 hl (by decide) rfl (fun ls hl => ?_)
    refine lv_aload_n hx hb dL_law_313 rfl (lv_at hl 4 rfl) ?_
    refine vp_callSi (W.runV (As := []) (rest := []) ⟨hx, hb, hml, hown, hts⟩ (k_thrown l D κ qm u4 (1) hu5) (cwV 0 hts gL_law_X6_thrown rfl rfl rfl (by decide +kernel) ⟨(Nat.le_of_ble_eq_true rfl), (Nat.le_of_ble_eq_true rfl)⟩) (pre0_V (q0 := 0) (ci := 8) (wc := [(qm, .inr (8, u4))]) hP hK [0] rfl rfl rfl) rfl rfl hl.1 rfl (lv_room (Nat.le_of_ble_eq_true rfl)) dL_law_314 ⟨(Nat.le_of_ble_eq_true rfl), (Nat.le_of_ble_eq_true rfl)⟩) (fun r hw => ?_)
    subst hw
    refine lv_iload hx hb dL_law_317 (lv_at hl 1 rfl) ?_
    refine lv_icmp_eq (tgt := 324) hx hb dL_law_319 (by decide) (fun _ => ?_) (fun h => absurd (by decide) h)
    refine lv_iload hx hb dL_law_324 (lv_at hl 1 rfl) ?_
    refine lv_if_ne (tgt := 341) hx hb dL_law_326 (by decide) (fun _ => ?_) (fun h => absurd h (by decide))
    refine lv_goto (tgt := 1677) hx hb dL_law_341 (by decide) ?_
    exact law_end C0 (Nat.le_of_ble_eq_true rfl) (Nat.le_of_ble_eq_true rfl) hS (lv_sub hl [2, 6] rfl)
  · skip
    refine lv_istore (lv' := [(5, .int 1), (0, .ref b), (1, .ref qx), (2, .ref qm), (3, .ref qo), (4, .int 0)]) hx hb dL_law_299 hl (by decide) rfl (fun ls hl => ?_)
    refine lv_aload_n hx hb dL_law_301 rfl (lv_at hl 3 rfl) ?_
    refine lv_aload_n hx hb dL_law_302 rfl (lv_at hl 1 rfl) ?_
    refine lv_iload hx hb dL_law_303 (lv_at hl 5 rfl) ?_
    refine lv_iconst (v := 1) hx hb dL_law_305 (by decide) ?_
    refine lv_iadd hx hb dL_law_306 ?_
    refine tpi (v := 1) (by decide) ?_
    refine va_sld hx hb hX hbl hbA hS (vpl (by decide)) dL_law_307 ?_
    refine tpi (v := (xs 1)) rfl ?_
    have hF := va_free (wc := [(qm, .inr (8, [.int 0, .int 0, .int 2, .ref (um 0), .ref (um 1), .int 0, .int 500, .int 0, .int 0, .int 0, .ref (um 6)]))]) hD hS hA [0] rfl
    refine va_calli (va_runV (As := [.int (xs 1)]) (rest := []) ⟨hx, hb, hml, hown, hts⟩ (k_X6_say_1 l D κ ε qm (um 0) (um 1) (um 6) H.size ((xs 1)) c3) (cwV 1 hts gL_law_X6_say rfl rfl rfl (by decide +kernel) ⟨(Nat.le_of_ble_eq_true rfl), (Nat.le_of_ble_eq_true rfl)⟩) (pre2_V (q0 := 0) (ci := 8) (wc := [(qm, .inr (8, [.int 0, .int 0, .int 2, .ref (um 0), .ref (um 1), .int 0, .int 500, .int 0, .int 0, .int 0, .ref (um 6)]))]) hP hD hK hE9 hS hA [0] (by decide) rfl rfl rfl) rfl rfl hl.1 rfl (lv_room (Nat.le_of_ble_eq_true rfl)) dL_law_308 ⟨(Nat.le_of_ble_eq_true rfl), (Nat.le_of_ble_eq_true rfl)⟩) hS (fun q _ h => hF q h) hF (fun r u6 t H locs ht hvm hw hB hz1 hk1 hS => ?_)
    try dsimp only at hw hB
    obtain ⟨hP1, hD1⟩ := hB
    rw [ht] at hP1
    obtain ⟨hP, hD⟩ := post_j (ws' := [(qm, .inr (8, u6)), (qo, .inl (κ 2, 1, .inr (.inl u1)))]) (wr := [(qo, .inl (κ 2, 1, .inr (.inl u1)))]) (w1 := [(qm, .inr (8, u6))]) hP hD hF [0] rfl [1] rfl (by decide) (by decide) hk1 hP1 hD1 [1, 0] (by decide) rfl
    have hP : va_P D vwCl [(qm, .inr (8, u6)), (qo, .inl (κ 2, 1, .inr (.inl u1)))] H := hP
    have hD : va_D (fun q : Nat => s.heap.size ≤ q) [(qm, .inr (8, u6)), (qo, .inl (κ 2, 1, .inr (.inl u1)))] := hD
    obtain ⟨hu7, rfl⟩ := hw
    refine lv_istore (lv' := [(6, .int 0), (5, .int 1), (0, .ref b), (1, .ref qx), (2, .ref qm), (3, .ref qo), (4, .int 0)]) hx hb dL_law_311 hl (by decide) rfl (fun ls hl => ?_)
    refine lv_aload_n hx hb dL_law_313 rfl (lv_at hl 4 rfl) ?_
    refine vp_callSi (W.runV (As := []) (rest := []) ⟨hx, hb, hml, hown, hts⟩ (k_thrown l D κ qm u6 (1) hu7) (cwV 0 hts gL_law_X6_thrown rfl rfl rfl (by decide +kernel) ⟨(Nat.le_of_ble_eq_true rfl), (Nat.le_of_ble_eq_true rfl)⟩) (pre0_V (q0 := 0) (ci := 8) (wc := [(qm, .inr (8, u6))]) hP hK [0] rfl rfl rfl) rfl rfl hl.1 rfl (lv_room (Nat.le_of_ble_eq_true rfl)) dL_law_314 ⟨(Nat.le_of_ble_eq_true rfl), (Nat.le_of_ble_eq_true rfl)⟩) (fun r hw => ?_)
    subst hw
    refine lv_iload hx hb dL_law_317 (lv_at hl 1 rfl) ?_
    refine lv_icmp_eq (tgt := 324) hx hb dL_law_319 (by decide) (fun _ => ?_) (fun h => absurd (by decide) h)
    refine lv_iload hx hb dL_law_324 (lv_at hl 1 rfl) ?_
    refine lv_if_ne (tgt := 341) hx hb dL_law_326 (by decide) (fun _ => ?_) (fun h => absurd h (by decide))
    refine lv_goto (tgt := 1677) hx hb dL_law_341 (by decide) ?_
    exact law_end C0 (Nat.le_of_ble_eq_true rfl) (Nat.le_of_ble_eq_true rfl) hS (lv_sub hl [2, 6] rfl)
