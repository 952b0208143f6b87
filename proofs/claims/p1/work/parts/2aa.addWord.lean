theorem wi_X0_countsOf_RX0 : ∀ w ∈ u_ws RX0 TX0 4, w ∈ wsX0_countsOf := by decide +kernel

theorem wd109_X0_countsOf : (.fieldLink RX0 20 "Canticle$Ledger" "counted" "[LCanticle$Tally;" : Cond) ∈ wsX0_countsOf := by decide +kernel

theorem wd110_X0_countsOf : (.methodLink RX0 28 Lib.Math.min.name : Cond) ∈ wsX0_countsOf := by decide +kernel

theorem wd111_X0_countsOf : (.static Lib.Math.min.name : Cond) ∈ wsX0_countsOf := by decide +kernel

theorem wd112_X0_countsOf : (.initialized "java/lang/Math" : Cond) ∈ wsX0_countsOf := by decide +kernel

theorem wd113_X0_countsOf : (.code Lib.Math.min.name Lib.Math.min.code 2 (some .int) : Cond) ∈ wsX0_countsOf := by decide +kernel

theorem wd114_X0_countsOf : (.methodLink RX0 34 Lib.Math.max.name : Cond) ∈ wsX0_countsOf := by decide +kernel

theorem wd115_X0_countsOf : (.static Lib.Math.max.name : Cond) ∈ wsX0_countsOf := by decide +kernel

theorem wd116_X0_countsOf : (.code Lib.Math.max.name Lib.Math.max.code 2 (some .int) : Cond) ∈ wsX0_countsOf := by decide +kernel

set_option maxHeartbeats 4000000 in
set_option maxRecDepth 100000 in
theorem k_X0_countsOf_0 (l : Launch) (D : va_G) (κ ε : Nat → Nat) (h0 h1 h2 h3 h4 h5 h6 : Nat) (p0 : Int32) (p1 : Int32) : Met l yX0_countsOf wsX0_countsOf ({ frames := 1, cells := 0, slots := 0, locals := 18 }) (va_Pc [.ref h0, .int 1] (Pre0 D κ [(h0, .inr (2, [.int p0, .int p1, .ref h1, .ref h2])), (h1, .inl (κ 3, 4, .inr (.inr (.inr (.inr (sel [h3, h4, h5, h6]))))))])) (va_Sr (fun k => k = h3) (fun k => .ref k)) 0 0 (fun _ => False) := by
  refine Met.ofW (cc := cX0_countsOf) (maxL := 2) (ret := (some (.object "Canticle$Tally"))) (by decide) rfl ?_
  intro p e s m args below meth c s₁ B hml hv
  obtain ⟨rfl, hP, hK⟩ := hv
  have hx := B.exec
  have hb := B.bytes
  have hr := B.returns
  have hts := atoms_spec (ws := wsX0_countsOf) B.pre
  have hown : s.vm.findClass RX0 = some m.cls := findClass_of_methodNamed B.named
  have hlocks := B.notSynchronized
  have hP : va_P D vwCl [(h0, .inr (2, [.int p0, .int p1, .ref h1, .ref h2])), (h1, .inl (κ 3, 4, .inr (.inr (.inr (.inr (sel [h3, h4, h5, h6]))))))] s.heap := hP
  have hl := lv_entry [.ref h0, .int 1] (n := 2) (Nat.le_of_ble_eq_true rfl)
  rw [lg_entry_eq]
  generalize (lg_sl [.ref h0, .int 1] ++ List.replicate (2 - (lg_sl [.ref h0, .int 1]).length) Slot.unset).toArray = ls at hl ⊢
  have hl : lv_has ls 2 [(0, .ref h0), (1, .int 1)] := hl
  refine lv_aload_n hx hb dX0_countsOf_0 rfl (lv_at hl 0 rfl) ?_
  refine va_get (D := D) (ci := 2) (v := .ref h1) (C := RX0) (T := TX0) (N := 4) hx hb hts wi_X0_countsOf_RX0 hown hK hP 0 rfl rfl 2 (by decide) (hts _ wd109_X0_countsOf) (fun _ h9 => h9) rfl dX0_countsOf_1 ?_
  refine lv_iconst (v := 1) hx hb dX0_countsOf_4 (by decide) ?_
  refine lv_iload_n hx hb dX0_countsOf_5 rfl (lv_at hl 1 rfl) ?_
  refine lv_iconst (v := 4) hx hb dX0_countsOf_6 (by decide) ?_
  refine va_mmin hx hb (by rw [hml]; exact hl.1.symm) hown (hts _ wd110_X0_countsOf) (hts _ wd111_X0_countsOf) (hts _ wd112_X0_countsOf) (hts _ wd113_X0_countsOf) (Nat.le_of_ble_eq_true rfl) (Nat.le_of_ble_eq_true rfl) (Nat.le_of_ble_eq_true rfl) (Nat.le_of_ble_eq_true rfl) dX0_countsOf_7 ?_
  refine tpi (v := 1) (by decide) ?_
  refine va_mmax hx hb (by rw [hml]; exact hl.1.symm) hown (hts _ wd114_X0_countsOf) (hts _ wd115_X0_countsOf) (hts _ wd112_X0_countsOf) (hts _ wd116_X0_countsOf) (Nat.le_of_ble_eq_true rfl) (Nat.le_of_ble_eq_true rfl) (Nat.le_of_ble_eq_true rfl) (Nat.le_of_ble_eq_true rfl) dX0_countsOf_10 ?_
  refine tpi (v := 1) (by decide) ?_
  refine lv_iconst (v := 1) hx hb dX0_countsOf_13 (by decide) ?_
  refine lv_isub hx hb dX0_countsOf_14 ?_
  refine tpi (v := 0) (by decide) ?_
  refine va_aldq (cA := κ 3) (n := 4) (f := (sel [h3, h4, h5, h6])) hx hb hK hP 1 3 rfl rfl (vpl (by decide)) dX0_countsOf_15 ?_
  refine tpv (v := .ref h3) rfl ?_
  exact W.aret (v := .ref h3) hx hb hr (Or.inl ⟨_, rfl⟩) (Or.inr ⟨_, rfl⟩) (fun t ht hW => ⟨h3, rfl, rfl, ht⟩) (fun q hq => absurd hq List.not_mem_nil) dX0_countsOf_16

theorem wi_X0_varietyOf_RX0 : ∀ w ∈ u_ws RX0 TX0 4, w ∈ wsX0_varietyOf := by decide +kernel

theorem wd117_X0_varietyOf : (.fieldLink RX0 24 "Canticle$Ledger" "varied" "[LCanticle$Tally;" : Cond) ∈ wsX0_varietyOf := by decide +kernel

theorem wd118_X0_varietyOf : (.methodLink RX0 28 Lib.Math.min.name : Cond) ∈ wsX0_varietyOf := by decide +kernel

theorem wd119_X0_varietyOf : (.static Lib.Math.min.name : Cond) ∈ wsX0_varietyOf := by decide +kernel

theorem wd120_X0_varietyOf : (.initialized "java/lang/Math" : Cond) ∈ wsX0_varietyOf := by decide +kernel

theorem wd121_X0_varietyOf : (.code Lib.Math.min.name Lib.Math.min.code 2 (some .int) : Cond) ∈ wsX0_varietyOf := by decide +kernel

theorem wd122_X0_varietyOf : (.methodLink RX0 34 Lib.Math.max.name : Cond) ∈ wsX0_varietyOf := by decide +kernel

theorem wd123_X0_varietyOf : (.static Lib.Math.max.name : Cond) ∈ wsX0_varietyOf := by decide +kernel

theorem wd124_X0_varietyOf : (.code Lib.Math.max.name Lib.Math.max.code 2 (some .int) : Cond) ∈ wsX0_varietyOf := by decide +kernel

set_option maxHeartbeats 4000000 in
set_option maxRecDepth 100000 in
theorem k_X0_varietyOf_0 (l : Launch) (D : va_G) (κ ε : Nat → Nat) (h0 h1 h2 h3 h4 h5 h6 : Nat) (p0 : Int32) (p1 : Int32) : Met l yX0_varietyOf wsX0_varietyOf ({ frames := 1, cells := 0, slots := 0, locals := 18 }) (va_Pc [.ref h0, .int 1] (Pre0 D κ [(h0, .inr (2, [.int p0, .int p1, .ref h1, .ref h2])), (h2, .inl (κ 3, 4, .inr (.inr (.inr (.inr (sel [h3, h4, h5, h6]))))))])) (va_Sr (fun k => k = h3) (fun k => .ref k)) 0 0 (fun _ => False) := by
  refine Met.ofW (cc := cX0_varietyOf) (maxL := 2) (ret := (some (.object "Canticle$Tally"))) (by decide) rfl ?_
  intro p e s m args below meth c s₁ B hml hv
  obtain ⟨rfl, hP, hK⟩ := hv
  have hx := B.exec
  have hb := B.bytes
  have hr := B.returns
  have hts := atoms_spec (ws := wsX0_varietyOf) B.pre
  have hown : s.vm.findClass RX0 = some m.cls := findClass_of_methodNamed B.named
  have hlocks := B.notSynchronized
  have hP : va_P D vwCl [(h0, .inr (2, [.int p0, .int p1, .ref h1, .ref h2])), (h2, .inl (κ 3, 4, .inr (.inr (.inr (.inr (sel [h3, h4, h5, h6]))))))] s.heap := hP
  have hl := lv_entry [.ref h0, .int 1] (n := 2) (Nat.le_of_ble_eq_true rfl)
  rw [lg_entry_eq]
  generalize (lg_sl [.ref h0, .int 1] ++ List.replicate (2 - (lg_sl [.ref h0, .int 1]).length) Slot.unset).toArray = ls at hl ⊢
  have hl : lv_has ls 2 [(0, .ref h0), (1, .int 1)] := hl
  refine lv_aload_n hx hb dX0_varietyOf_0 rfl (lv_at hl 0 rfl) ?_
  refine va_get (D := D) (ci := 2) (v := .ref h2) (C := RX0) (T := TX0) (N := 4) hx hb hts wi_X0_varietyOf_RX0 hown hK hP 0 rfl rfl 3 (by decide) (hts _ wd117_X0_varietyOf) (fun _ h9 => h9) rfl dX0_varietyOf_1 ?_
  refine lv_iconst (v := 1) hx hb dX0_varietyOf_4 (by decide) ?_
  refine lv_iload_n hx hb dX0_varietyOf_5 rfl (lv_at hl 1 rfl) ?_
  refine lv_iconst (v := 4) hx hb dX0_varietyOf_6 (by decide) ?_
  refine va_mmin hx hb (by rw [hml]; exact hl.1.symm) hown (hts _ wd118_X0_varietyOf) (hts _ wd119_X0_varietyOf) (hts _ wd120_X0_varietyOf) (hts _ wd121_X0_varietyOf) (Nat.le_of_ble_eq_true rfl) (Nat.le_of_ble_eq_true rfl) (Nat.le_of_ble_eq_true rfl) (Nat.le_of_ble_eq_true rfl) dX0_varietyOf_7 ?_
  refine tpi (v := 1) (by decide) ?_
  refine va_mmax hx hb (by rw [hml]; exact hl.1.symm) hown (hts _ wd122_X0_varietyOf) (hts _ wd123_X0_varietyOf) (hts _ wd120_X0_varietyOf) (hts _ wd124_X0_varietyOf) (Nat.le_of_ble_eq_true rfl) (Nat.le_of_ble_eq_true rfl) (Nat.le_of_ble_eq_true rfl) (Nat.le_of_ble_eq_true rfl) dX0_varietyOf_10 ?_
  refine tpi (v := 1) (by decide) ?_
  refine lv_iconst (v := 1) hx hb dX0_varietyOf_13 (by decide) ?_
  refine lv_isub hx hb dX0_varietyOf_14 ?_
  refine tpi (v := 0) (by decide) ?_
  refine va_aldq (cA := κ 3) (n := 4) (f := (sel [h3, h4, h5, h6])) hx hb hK hP 1 3 rfl rfl (vpl (by decide)) dX0_varietyOf_15 ?_
  refine tpv (v := .ref h3) rfl ?_
  exact W.aret (v := .ref h3) hx hb hr (Or.inl ⟨_, rfl⟩) (Or.inr ⟨_, rfl⟩) (fun t ht hW => ⟨h3, rfl, rfl, ht⟩) (fun q hq => absurd hq List.not_mem_nil) dX0_varietyOf_16

set_option maxHeartbeats 4000000 in
set_option maxRecDepth 100000 in
theorem k_X0_countsOf_1 (l : Launch) (D : va_G) (κ ε : Nat → Nat) (h0 h1 h2 h3 h4 h5 h6 : Nat) (p0 : Int32) (p1 : Int32) : Met l yX0_countsOf wsX0_countsOf ({ frames := 1, cells := 0, slots := 0, locals := 18 }) (va_Pc [.ref h0, .int 2] (Pre0 D κ [(h0, .inr (2, [.int p0, .int p1, .ref h1, .ref h2])), (h1, .inl (κ 3, 4, .inr (.inr (.inr (.inr (sel [h3, h4, h5, h6]))))))])) (va_Sr (fun k => k = h4) (fun k => .ref k)) 0 0 (fun _ => False) := by
  refine Met.ofW (cc := cX0_countsOf) (maxL := 2) (ret := (some (.object "Canticle$Tally"))) (by decide) rfl ?_
  intro p e s m args below meth c s₁ B hml hv
  obtain ⟨rfl, hP, hK⟩ := hv
  have hx := B.exec
  have hb := B.bytes
  have hr := B.returns
  have hts := atoms_spec (ws := wsX0_countsOf) B.pre
  have hown : s.vm.findClass RX0 = some m.cls := findClass_of_methodNamed B.named
  have hlocks := B.notSynchronized
  have hP : va_P D vwCl [(h0, .inr (2, [.int p0, .int p1, .ref h1, .ref h2])), (h1, .inl (κ 3, 4, .inr (.inr (.inr (.inr (sel [h3, h4, h5, h6]))))))] s.heap := hP
  have hl := lv_entry [.ref h0, .int 2] (n := 2) (Nat.le_of_ble_eq_true rfl)
  rw [lg_entry_eq]
  generalize (lg_sl [.ref h0, .int 2] ++ List.replicate (2 - (lg_sl [.ref h0, .int 2]).length) Slot.unset).toArray = ls at hl ⊢
  have hl : lv_has ls 2 [(0, .ref h0), (1, .int 2)] := hl
  refine lv_aload_n hx hb dX0_countsOf_0 rfl (lv_at hl 0 rfl) ?_
  refine va_get (D := D) (ci := 2) (v := .ref h1) (C := RX0) (T := TX0) (N := 4) hx hb hts wi_X0_countsOf_RX0 hown hK hP 0 rfl rfl 2 (by decide) (hts _ wd109_X0_countsOf) (fun _ h9 => h9) rfl dX0_countsOf_1 ?_
  refine lv_iconst (v := 1) hx hb dX0_countsOf_4 (by decide) ?_
  refine lv_iload_n hx hb dX0_countsOf_5 rfl (lv_at hl 1 rfl) ?_
  refine lv_iconst (v := 4) hx hb dX0_countsOf_6 (by decide) ?_
  refine va_mmin hx hb (by rw [hml]; exact hl.1.symm) hown (hts _ wd110_X0_countsOf) (hts _ wd111_X0_countsOf) (hts _ wd112_X0_countsOf) (hts _ wd113_X0_countsOf) (Nat.le_of_ble_eq_true rfl) (Nat.le_of_ble_eq_true rfl) (Nat.le_of_ble_eq_true rfl) (Nat.le_of_ble_eq_true rfl) dX0_countsOf_7 ?_
  refine tpi (v := 2) (by decide) ?_
  refine va_mmax hx hb (by rw [hml]; exact hl.1.symm) hown (hts _ wd114_X0_countsOf) (hts _ wd115_X0_countsOf) (hts _ wd112_X0_countsOf) (hts _ wd116_X0_countsOf) (Nat.le_of_ble_eq_true rfl) (Nat.le_of_ble_eq_true rfl) (Nat.le_of_ble_eq_true rfl) (Nat.le_of_ble_eq_true rfl) dX0_countsOf_10 ?_
  refine tpi (v := 2) (by decide) ?_
  refine lv_iconst (v := 1) hx hb dX0_countsOf_13 (by decide) ?_
  refine lv_isub hx hb dX0_countsOf_14 ?_
  refine tpi (v := 1) (by decide) ?_
  refine va_aldq (cA := κ 3) (n := 4) (f := (sel [h3, h4, h5, h6])) hx hb hK hP 1 3 rfl rfl (vpl (by decide)) dX0_countsOf_15 ?_
  refine tpv (v := .ref h4) rfl ?_
  exact W.aret (v := .ref h4) hx hb hr (Or.inl ⟨_, rfl⟩) (Or.inr ⟨_, rfl⟩) (fun t ht hW => ⟨h4, rfl, rfl, ht⟩) (fun q hq => absurd hq List.not_mem_nil) dX0_countsOf_16

set_option maxHeartbeats 4000000 in
set_option maxRecDepth 100000 in
theorem k_X0_varietyOf_1 (l : Launch) (D : va_G) (κ ε : Nat → Nat) (h0 h1 h2 h3 h4 h5 h6 : Nat) (p0 : Int32) (p1 : Int32) : Met l yX0_varietyOf wsX0_varietyOf ({ frames := 1, cells := 0, slots := 0, locals := 18 }) (va_Pc [.ref h0, .int 2] (Pre0 D κ [(h0, .inr (2, [.int p0, .int p1, .ref h1, .ref h2])), (h2, .inl (κ 3, 4, .inr (.inr (.inr (.inr (sel [h3, h4, h5, h6]))))))])) (va_Sr (fun k => k = h4) (fun k => .ref k)) 0 0 (fun _ => False) := by
  refine Met.ofW (cc := cX0_varietyOf) (maxL := 2) (ret := (some (.object "Canticle$Tally"))) (by decide) rfl ?_
  intro p e s m args below meth c s₁ B hml hv
  obtain ⟨rfl, hP, hK⟩ := hv
  have hx := B.exec
  have hb := B.bytes
  have hr := B.returns
  have hts := atoms_spec (ws := wsX0_varietyOf) B.pre
  have hown : s.vm.findClass RX0 = some m.cls := findClass_of_methodNamed B.named
  have hlocks := B.notSynchronized
  have hP : va_P D vwCl [(h0, .inr (2, [.int p0, .int p1, .ref h1, .ref h2])), (h2, .inl (κ 3, 4, .inr (.inr (.inr (.inr (sel [h3, h4, h5, h6]))))))] s.heap := hP
  have hl := lv_entry [.ref h0, .int 2] (n := 2) (Nat.le_of_ble_eq_true rfl)
  rw [lg_entry_eq]
  generalize (lg_sl [.ref h0, .int 2] ++ List.replicate (2 - (lg_sl [.ref h0, .int 2]).length) Slot.unset).toArray = ls at hl ⊢
  have hl : lv_has ls 2 [(0, .ref h0), (1, .int 2)] := hl
  refine lv_aload_n hx hb dX0_varietyOf_0 rfl (lv_at hl 0 rfl) ?_
  refine va_get (D := D) (ci := 2) (v := .ref h2) (C := RX0) (T := TX0) (N := 4) hx hb hts wi_X0_varietyOf_RX0 hown hK hP 0 rfl rfl 3 (by decide) (hts _ wd117_X0_varietyOf) (fun _ h9 => h9) rfl dX0_varietyOf_1 ?_
  refine lv_iconst (v := 1) hx hb dX0_varietyOf_4 (by decide) ?_
  refine lv_iload_n hx hb dX0_varietyOf_5 rfl (lv_at hl 1 rfl) ?_
  refine lv_iconst (v := 4) hx hb dX0_varietyOf_6 (by decide) ?_
  refine va_mmin hx hb (by rw [hml]; exact hl.1.symm) hown (hts _ wd118_X0_varietyOf) (hts _ wd119_X0_varietyOf) (hts _ wd120_X0_varietyOf) (hts _ wd121_X0_varietyOf) (Nat.le_of_ble_eq_true rfl) (Nat.le_of_ble_eq_true rfl) (Nat.le_of_ble_eq_true rfl) (Nat.le_of_ble_eq_true rfl) dX0_varietyOf_7 ?_
  refine tpi (v := 2) (by decide) ?_
  refine va_mmax hx hb (by rw [hml]; exact hl.1.symm) hown (hts _ wd122_X0_varietyOf) (hts _ wd123_X0_varietyOf) (hts _ wd120_X0_varietyOf) (hts _ wd124_X0_varietyOf) (Nat.le_of_ble_eq_true rfl) (Nat.le_of_ble_eq_true rfl) (Nat.le_of_ble_eq_true rfl) (Nat.le_of_ble_eq_true rfl) dX0_varietyOf_10 ?_
  refine tpi (v := 2) (by decide) ?_
  refine lv_iconst (v := 1) hx hb dX0_varietyOf_13 (by decide) ?_
  refine lv_isub hx hb dX0_varietyOf_14 ?_
  refine tpi (v := 1) (by decide) ?_
  refine va_aldq (cA := κ 3) (n := 4) (f := (sel [h3, h4, h5, h6])) hx hb hK hP 1 3 rfl rfl (vpl (by decide)) dX0_varietyOf_15 ?_
  refine tpv (v := .ref h4) rfl ?_
  exact W.aret (v := .ref h4) hx hb hr (Or.inl ⟨_, rfl⟩) (Or.inr ⟨_, rfl⟩) (fun t ht hW => ⟨h4, rfl, rfl, ht⟩) (fun q hq => absurd hq List.not_mem_nil) dX0_varietyOf_16

set_option maxHeartbeats 4000000 in
set_option maxRecDepth 100000 in
theorem k_X0_countsOf_2 (l : Launch) (D : va_G) (κ ε : Nat → Nat) (h0 h1 h2 h3 h4 h5 h6 : Nat) (p0 : Int32) (p1 : Int32) : Met l yX0_countsOf wsX0_countsOf ({ frames := 1, cells := 0, slots := 0, locals := 18 }) (va_Pc [.ref h0, .int 3] (Pre0 D κ [(h0, .inr (2, [.int p0, .int p1, .ref h1, .ref h2])), (h1, .inl (κ 3, 4, .inr (.inr (.inr (.inr (sel [h3, h4, h5, h6]))))))])) (va_Sr (fun k => k = h5) (fun k => .ref k)) 0 0 (fun _ => False) := by
  refine Met.ofW (cc := cX0_countsOf) (maxL := 2) (ret := (some (.object "Canticle$Tally"))) (by decide) rfl ?_
  intro p e s m args below meth c s₁ B hml hv
  obtain ⟨rfl, hP, hK⟩ := hv
  have hx := B.exec
  have hb := B.bytes
  have hr := B.returns
  have hts := atoms_spec (ws := wsX0_countsOf) B.pre
  have hown : s.vm.findClass RX0 = some m.cls := findClass_of_methodNamed B.named
  have hlocks := B.notSynchronized
  have hP : va_P D vwCl [(h0, .inr (2, [.int p0, .int p1, .ref h1, .ref h2])), (h1, .inl (κ 3, 4, .inr (.inr (.inr (.inr (sel [h3, h4, h5, h6]))))))] s.heap := hP
  have hl := lv_entry [.ref h0, .int 3] (n := 2) (Nat.le_of_ble_eq_true rfl)
  rw [lg_entry_eq]
  generalize (lg_sl [.ref h0, .int 3] ++ List.replicate (2 - (lg_sl [.ref h0, .int 3]).length) Slot.unset).toArray = ls at hl ⊢
  have hl : lv_has ls 2 [(0, .ref h0), (1, .int 3)] := hl
  refine lv_aload_n hx hb dX0_countsOf_0 rfl (lv_at hl 0 rfl) ?_
  refine va_get (D := D) (ci := 2) (v := .ref h1) (C := RX0) (T := TX0) (N := 4) hx hb hts wi_X0_countsOf_RX0 hown hK hP 0 rfl rfl 2 (by decide) (hts _ wd109_X0_countsOf) (fun _ h9 => h9) rfl dX0_countsOf_1 ?_
  refine lv_iconst (v := 1) hx hb dX0_countsOf_4 (by decide) ?_
  refine lv_iload_n hx hb dX0_countsOf_5 rfl (lv_at hl 1 rfl) ?_
  refine lv_iconst (v := 4) hx hb dX0_countsOf_6 (by decide) ?_
  refine va_mmin hx hb (by rw [hml]; exact hl.1.symm) hown (hts _ wd110_X0_countsOf) (hts _ wd111_X0_countsOf) (hts _ wd112_X0_countsOf) (hts _ wd113_X0_countsOf) (Nat.le_of_ble_eq_true rfl) (Nat.le_of_ble_eq_true rfl) (Nat.le_of_ble_eq_true rfl) (Nat.le_of_ble_eq_true rfl) dX0_countsOf_7 ?_
  refine tpi (v := 3) (by decide) ?_
  refine va_mmax hx hb (by rw [hml]; exact hl.1.symm) hown (hts _ wd114_X0_countsOf) (hts _ wd115_X0_countsOf) (hts _ wd112_X0_countsOf) (hts _ wd116_X0_countsOf) (Nat.le_of_ble_eq_true rfl) (Nat.le_of_ble_eq_true rfl) (Nat.le_of_ble_eq_true rfl) (Nat.le_of_ble_eq_true rfl) dX0_countsOf_10 ?_
  refine tpi (v := 3) (by decide) ?_
  refine lv_iconst (v := 1) hx hb dX0_countsOf_13 (by decide) ?_
  refine lv_isub hx hb dX0_countsOf_14 ?_
  refine tpi (v := 2) (by decide) ?_
  refine va_aldq (cA := κ 3) (n := 4) (f := (sel [h3, h4, h5, h6])) hx hb hK hP 1 3 rfl rfl (vpl (by decide)) dX0_countsOf_15 ?_
  refine tpv (v := .ref h5) rfl ?_
  exact W.aret (v := .ref h5) hx hb hr (Or.inl ⟨_, rfl⟩) (Or.inr ⟨_, rfl⟩) (fun t ht hW => ⟨h5, rfl, rfl, ht⟩) (fun q hq => absurd hq List.not_mem_nil) dX0_countsOf_16

set_option maxHeartbeats 4000000 in
set_option maxRecDepth 100000 in
theorem k_X0_varietyOf_2 (l : Launch) (D : va_G) (κ ε : Nat → Nat) (h0 h1 h2 h3 h4 h5 h6 : Nat) (p0 : Int32) (p1 : Int32) : Met l yX0_varietyOf wsX0_varietyOf ({ frames := 1, cells := 0, slots := 0, locals := 18 }) (va_Pc [.ref h0, .int 3] (Pre0 D κ [(h0, .inr (2, [.int p0, .int p1, .ref h1, .ref h2])), (h2, .inl (κ 3, 4, .inr (.inr (.inr (.inr (sel [h3, h4, h5, h6]))))))])) (va_Sr (fun k => k = h5) (fun k => .ref k)) 0 0 (fun _ => False) := by
  refine Met.ofW (cc := cX0_varietyOf) (maxL := 2) (ret := (some (.object "Canticle$Tally"))) (by decide) rfl ?_
  intro p e s m args below meth c s₁ B hml hv
  obtain ⟨rfl, hP, hK⟩ := hv
  have hx := B.exec
  have hb := B.bytes
  have hr := B.returns
  have hts := atoms_spec (ws := wsX0_varietyOf) B.pre
  have hown : s.vm.findClass RX0 = some m.cls := findClass_of_methodNamed B.named
  have hlocks := B.notSynchronized
  have hP : va_P D vwCl [(h0, .inr (2, [.int p0, .int p1, .ref h1, .ref h2])), (h2, .inl (κ 3, 4, .inr (.inr (.inr (.inr (sel [h3, h4, h5, h6]))))))] s.heap := hP
  have hl := lv_entry [.ref h0, .int 3] (n := 2) (Nat.le_of_ble_eq_true rfl)
  rw [lg_entry_eq]
  generalize (lg_sl [.ref h0, .int 3] ++ List.replicate (2 - (lg_sl [.ref h0, .int 3]).length) Slot.unset).toArray = ls at hl ⊢
  have hl : lv_has ls 2 [(0, .ref h0), (1, .int 3)] := hl
  refine lv_aload_n hx hb dX0_varietyOf_0 rfl (lv_at hl 0 rfl) ?_
  refine va_get (D := D) (ci := 2) (v := .ref h2) (C := RX0) (T := TX0) (N := 4) hx hb hts wi_X0_varietyOf_RX0 hown hK hP 0 rfl rfl 3 (by decide) (hts _ wd117_X0_varietyOf) (fun _ h9 => h9) rfl dX0_varietyOf_1 ?_
  refine lv_iconst (v := 1) hx hb dX0_varietyOf_4 (by decide) ?_
  refine lv_iload_n hx hb dX0_varietyOf_5 rfl (lv_at hl 1 rfl) ?_
  refine lv_iconst (v := 4) hx hb dX0_varietyOf_6 (by decide) ?_
  refine va_mmin hx hb (by rw [hml]; exact hl.1.symm) hown (hts _ wd118_X0_varietyOf) (hts _ wd119_X0_varietyOf) (hts _ wd120_X0_varietyOf) (hts _ wd121_X0_varietyOf) (Nat.le_of_ble_eq_true rfl) (Nat.le_of_ble_eq_true rfl) (Nat.le_of_ble_eq_true rfl) (Nat.le_of_ble_eq_true rfl) dX0_varietyOf_7 ?_
  refine tpi (v := 3) (by decide) ?_
  refine va_mmax hx hb (by rw [hml]; exact hl.1.symm) hown (hts _ wd122_X0_varietyOf) (hts _ wd123_X0_varietyOf) (hts _ wd120_X0_varietyOf) (hts _ wd124_X0_varietyOf) (Nat.le_of_ble_eq_true rfl) (Nat.le_of_ble_eq_true rfl) (Nat.le_of_ble_eq_true rfl) (Nat.le_of_ble_eq_true rfl) dX0_varietyOf_10 ?_
  refine tpi (v := 3) (by decide) ?_
  refine lv_iconst (v := 1) hx hb dX0_varietyOf_13 (by decide) ?_
  refine lv_isub hx hb dX0_varietyOf_14 ?_
  refine tpi (v := 2) (by decide) ?_
  refine va_aldq (cA := κ 3) (n := 4) (f := (sel [h3, h4, h5, h6])) hx hb hK hP 1 3 rfl rfl (vpl (by decide)) dX0_varietyOf_15 ?_
  refine tpv (v := .ref h5) rfl ?_
  exact W.aret (v := .ref h5) hx hb hr (Or.inl ⟨_, rfl⟩) (Or.inr ⟨_, rfl⟩) (fun t ht hW => ⟨h5, rfl, rfl, ht⟩) (fun q hq => absurd hq List.not_mem_nil) dX0_varietyOf_16

set_option maxHeartbeats 4000000 in
set_option maxRecDepth 100000 in
theorem k_X0_countsOf_3 (l : Launch) (D : va_G) (κ ε : Nat → Nat) (h0 h1 h2 h3 h4 h5 h6 : Nat) (p0 : Int32) (p1 : Int32) : Met l yX0_countsOf wsX0_countsOf ({ frames := 1, cells := 0, slots := 0, locals := 18 }) (va_Pc [.ref h0, .int 4] (Pre0 D κ [(h0, .inr (2, [.int p0, .int p1, .ref h1, .ref h2])), (h1, .inl (κ 3, 4, .inr (.inr (.inr (.inr (sel [h3, h4, h5, h6]))))))])) (va_Sr (fun k => k = h6) (fun k => .ref k)) 0 0 (fun _ => False) := by
  refine Met.ofW (cc := cX0_countsOf) (maxL := 2) (ret := (some (.object "Canticle$Tally"))) (by decide) rfl ?_
  intro p e s m args below meth c s₁ B hml hv
  obtain ⟨rfl, hP, hK⟩ := hv
  have hx := B.exec
  have hb := B.bytes
  have hr := B.returns
  have hts := atoms_spec (ws := wsX0_countsOf) B.pre
  have hown : s.vm.findClass RX0 = some m.cls := findClass_of_methodNamed B.named
  have hlocks := B.notSynchronized
  have hP : va_P D vwCl [(h0, .inr (2, [.int p0, .int p1, .ref h1, .ref h2])), (h1, .inl (κ 3, 4, .inr (.inr (.inr (.inr (sel [h3, h4, h5, h6]))))))] s.heap := hP
  have hl := lv_entry [.ref h0, .int 4] (n := 2) (Nat.le_of_ble_eq_true rfl)
  rw [lg_entry_eq]
  generalize (lg_sl [.ref h0, .int 4] ++ List.replicate (2 - (lg_sl [.ref h0, .int 4]).length) Slot.unset).toArray = ls at hl ⊢
  have hl : lv_has ls 2 [(0, .ref h0), (1, .int 4)] := hl
  refine lv_aload_n hx hb dX0_countsOf_0 rfl (lv_at hl 0 rfl) ?_
  refine va_get (D := D) (ci := 2) (v := .ref h1) (C := RX0) (T := TX0) (N := 4) hx hb hts wi_X0_countsOf_RX0 hown hK hP 0 rfl rfl 2 (by decide) (hts _ wd109_X0_countsOf) (fun _ h9 => h9) rfl dX0_countsOf_1 ?_
  refine lv_iconst (v := 1) hx hb dX0_countsOf_4 (by decide) ?_
  refine lv_iload_n hx hb dX0_countsOf_5 rfl (lv_at hl 1 rfl) ?_
  refine lv_iconst (v := 4) hx hb dX0_countsOf_6 (by decide) ?_
  refine va_mmin hx hb (by rw [hml]; exact hl.1.symm) hown (hts _ wd110_X0_countsOf) (hts _ wd111_X0_countsOf) (hts _ wd112_X0_countsOf) (hts _ wd113_X0_countsOf) (Nat.le_of_ble_eq_true rfl) (Nat.le_of_ble_eq_true rfl) (Nat.le_of_ble_eq_true rfl) (Nat.le_of_ble_eq_true rfl) dX0_countsOf_7 ?_
  refine tpi (v := 4) (by decide) ?_
  refine va_mmax hx hb (by rw [hml]; exact hl.1.symm) hown (hts _ wd114_X0_countsOf) (hts _ wd115_X0_countsOf) (hts _ wd112_X0_countsOf) (hts _ wd116_X0_countsOf) (Nat.le_of_ble_eq_true rfl) (Nat.le_of_ble_eq_true rfl) (Nat.le_of_ble_eq_true rfl) (Nat.le_of_ble_eq_true rfl) dX0_countsOf_10 ?_
  refine tpi (v := 4) (by decide) ?_
  refine lv_iconst (v := 1) hx hb dX0_countsOf_13 (by decide) ?_
  refine lv_isub hx hb dX0_countsOf_14 ?_
  refine tpi (v := 3) (by decide) ?_
  refine va_aldq (cA := κ 3) (n := 4) (f := (sel [h3, h4, h5, h6])) hx hb hK hP 1 3 rfl rfl (vpl (by decide)) dX0_countsOf_15 ?_
  refine tpv (v := .ref h6) rfl ?_
  exact W.aret (v := .ref h6) hx hb hr (Or.inl ⟨_, rfl⟩) (Or.inr ⟨_, rfl⟩) (fun t ht hW => ⟨h6, rfl, rfl, ht⟩) (fun q hq => absurd hq List.not_mem_nil) dX0_countsOf_16

set_option maxHeartbeats 4000000 in
set_option maxRecDepth 100000 in
theorem k_X0_varietyOf_3 (l : Launch) (D : va_G) (κ ε : Nat → Nat) (h0 h1 h2 h3 h4 h5 h6 : Nat) (p0 : Int32) (p1 : Int32) : Met l yX0_varietyOf wsX0_varietyOf ({ frames := 1, cells := 0, slots := 0, locals := 18 }) (va_Pc [.ref h0, .int 4] (Pre0 D κ [(h0, .inr (2, [.int p0, .int p1, .ref h1, .ref h2])), (h2, .inl (κ 3, 4, .inr (.inr (.inr (.inr (sel [h3, h4, h5, h6]))))))])) (va_Sr (fun k => k = h6) (fun k => .ref k)) 0 0 (fun _ => False) := by
  refine Met.ofW (cc := cX0_varietyOf) (maxL := 2) (ret := (some (.object "Canticle$Tally"))) (by decide) rfl ?_
  intro p e s m args below meth c s₁ B hml hv
  obtain ⟨rfl, hP, hK⟩ := hv
  have hx := B.exec
  have hb := B.bytes
  have hr := B.returns
  have hts := atoms_spec (ws := wsX0_varietyOf) B.pre
  have hown : s.vm.findClass RX0 = some m.cls := findClass_of_methodNamed B.named
  have hlocks := B.notSynchronized
  have hP : va_P D vwCl [(h0, .inr (2, [.int p0, .int p1, .ref h1, .ref h2])), (h2, .inl (κ 3, 4, .inr (.inr (.inr (.inr (sel [h3, h4, h5, h6]))))))] s.heap := hP
  have hl := lv_entry [.ref h0, .int 4] (n := 2) (Nat.le_of_ble_eq_true rfl)
  rw [lg_entry_eq]
  generalize (lg_sl [.ref h0, .int 4] ++ List.replicate (2 - (lg_sl [.ref h0, .int 4]).length) Slot.unset).toArray = ls at hl ⊢
  have hl : lv_has ls 2 [(0, .ref h0), (1, .int 4)] := hl
  refine lv_aload_n hx hb dX0_varietyOf_0 rfl (lv_at hl 0 rfl) ?_
  refine va_get (D := D) (ci := 2) (v := .ref h2) (C := RX0) (T := TX0) (N := 4) hx hb hts wi_X0_varietyOf_RX0 hown hK hP 0 rfl rfl 3 (by decide) (hts _ wd117_X0_varietyOf) (fun _ h9 => h9) rfl dX0_varietyOf_1 ?_
  refine lv_iconst (v := 1) hx hb dX0_varietyOf_4 (by decide) ?_
  refine lv_iload_n hx hb dX0_varietyOf_5 rfl (lv_at hl 1 rfl) ?_
  refine lv_iconst (v := 4) hx hb dX0_varietyOf_6 (by decide) ?_
  refine va_mmin hx hb (by rw [hml]; exact hl.1.symm) hown (hts _ wd118_X0_varietyOf) (hts _ wd119_X0_varietyOf) (hts _ wd120_X0_varietyOf) (hts _ wd121_X0_varietyOf) (Nat.le_of_ble_eq_true rfl) (Nat.le_of_ble_eq_true rfl) (Nat.le_of_ble_eq_true rfl) (Nat.le_of_ble_eq_true rfl) dX0_varietyOf_7 ?_
  refine tpi (v := 4) (by decide) ?_
  refine va_mmax hx hb (by rw [hml]; exact hl.1.symm) hown (hts _ wd122_X0_varietyOf) (hts _ wd123_X0_varietyOf) (hts _ wd120_X0_varietyOf) (hts _ wd124_X0_varietyOf) (Nat.le_of_ble_eq_true rfl) (Nat.le_of_ble_eq_true rfl) (Nat.le_of_ble_eq_true rfl) (Nat.le_of_ble_eq_true rfl) dX0_varietyOf_10 ?_
  refine tpi (v := 4) (by decide) ?_
  refine lv_iconst (v := 1) hx hb dX0_varietyOf_13 (by decide) ?_
  refine lv_isub hx hb dX0_varietyOf_14 ?_
  refine tpi (v := 3) (by decide) ?_
  refine va_aldq (cA := κ 3) (n := 4) (f := (sel [h3, h4, h5, h6])) hx hb hK hP 1 3 rfl rfl (vpl (by decide)) dX0_varietyOf_15 ?_
  refine tpv (v := .ref h6) rfl ?_
  exact W.aret (v := .ref h6) hx hb hr (Or.inl ⟨_, rfl⟩) (Or.inr ⟨_, rfl⟩) (fun t ht hW => ⟨h6, rfl, rfl, ht⟩) (fun q hq => absurd hq List.not_mem_nil) dX0_varietyOf_16

theorem wi_X0_forgetAll_RX4 : ∀ w ∈ u_ws RX4 TX4 3, w ∈ wsX0_forgetAll := by decide +kernel

theorem wd125_X0_forgetAll : (.fieldLink RX0 59 "Canticle$Tally" "size" "I" : Cond) ∈ wsX0_forgetAll := by decide +kernel

set_option maxHeartbeats 4000000 in
set_option maxRecDepth 100000 in
theorem k_X0_forgetAll_0 (l : Launch) (D : va_G) (κ ε : Nat → Nat) (h0 h1 h2 h3 h4 h5 h6 h7 h8 h9 h10 h11 h12 h13 h14 h15 h16 h17 h18 h19 h20 h21 h22 h23 h24 h25 h26 : Nat) (sz : Nat) (p0 : Int32) (p1 : Int32) (p2 : Int32) (p3 : Int32) (p4 : Int32) (p5 : Int32) (p6 : Int32) (p7 : Int32) (p8 : Int32) (p9 : Int32) : Met l yX0_forgetAll wsX0_forgetAll ({ frames := 2, cells := 0, slots := 0, locals := 39 }) (va_Pc [.ref h0] (Pre2 D κ ε [(h0, .inr (2, [.int p0, .int p1, .ref h1, .ref h2])), (h1, .inl (κ 3, 4, .inr (.inr (.inr (.inr (sel [h3, h4, h5, h6])))))), (h2, .inl (κ 3, 4, .inr (.inr (.inr (.inr (sel [h7, h8, h9, h10])))))), (h3, .inr (6, [.ref h11, .ref h12, .int p2])), (h4, .inr (6, [.ref h13, .ref h14, .int p3])), (h5, .inr (6, [.ref h15, .ref h16, .int p4])), (h6, .inr (6, [.ref h17, .ref h18, .int p5])), (h7, .inr (6, [.ref h19, .ref h20, .int p6])), (h8, .inr (6, [.ref h21, .ref h22, .int p7])), (h9, .inr (6, [.ref h23, .ref h24, .int p8])), (h10, .inr (6, [.ref h25, .ref h26, .int p9]))] sz)) (va_Qv (fun u : Unit => True) (fun u t => va_P D vwCl [(h0, .inr (2, [.int p0, .int p1, .ref h1, .ref h2])), (h1, .inl (κ 3, 4, .inr (.inr (.inr (.inr (sel [h3, h4, h5, h6])))))), (h2, .inl (κ 3, 4, .inr (.inr (.inr (.inr (sel [h7, h8, h9, h10])))))), (h3, .inr (6, [.ref h11, .ref h12, .int 0])), (h4, .inr (6, [.ref h13, .ref h14, .int 0])), (h5, .inr (6, [.ref h15, .ref h16, .int 0])), (h6, .inr (6, [.ref h17, .ref h18, .int 0])), (h7, .inr (6, [.ref h19, .ref h20, .int 0])), (h8, .inr (6, [.ref h21, .ref h22, .int 0])), (h9, .inr (6, [.ref h23, .ref h24, .int 0])), (h10, .inr (6, [.ref h25, .ref h26, .int 0]))] t.heap ∧ va_D (va_A [(h0, .inr (2, [.int p0, .int p1, .ref h1, .ref h2])), (h1, .inl (κ 3, 4, .inr (.inr (.inr (.inr (sel [h3, h4, h5, h6])))))), (h2, .inl (κ 3, 4, .inr (.inr (.inr (.inr (sel [h7, h8, h9, h10])))))), (h3, .inr (6, [.ref h11, .ref h12, .int p2])), (h4, .inr (6, [.ref h13, .ref h14, .int p3])), (h5, .inr (6, [.ref h15, .ref h16, .int p4])), (h6, .inr (6, [.ref h17, .ref h18, .int p5])), (h7, .inr (6, [.ref h19, .ref h20, .int p6])), (h8, .inr (6, [.ref h21, .ref h22, .int p7])), (h9, .inr (6, [.ref h23, .ref h24, .int p8])), (h10, .inr (6, [.ref h25, .ref h26, .int p9]))] sz) [(h0, .inr (2, [.int p0, .int p1, .ref h1, .ref h2])), (h1, .inl (κ 3, 4, .inr (.inr (.inr (.inr (sel [h3, h4, h5, h6])))))), (h2, .inl (κ 3, 4, .inr (.inr (.inr (.inr (sel [h7, h8, h9, h10])))))), (h3, .inr (6, [.ref h11, .ref h12, .int 0])), (h4, .inr (6, [.ref h13, .ref h14, .int 0])), (h5, .inr (6, [.ref h15, .ref h16, .int 0])), (h6, .inr (6, [.ref h17, .ref h18, .int 0])), (h7, .inr (6, [.ref h19, .ref h20, .int 0])), (h8, .inr (6, [.ref h21, .ref h22, .int 0])), (h9, .inr (6, [.ref h23, .ref h24, .int 0])), (h10, .inr (6, [.ref h25, .ref h26, .int 0]))]) (va_A [(h0, .inr (2, [.int p0, .int p1, .ref h1, .ref h2])), (h1, .inl (κ 3, 4, .inr (.inr (.inr (.inr (sel [h3, h4, h5, h6])))))), (h2, .inl (κ 3, 4, .inr (.inr (.inr (.inr (sel [h7, h8, h9, h10])))))), (h3, .inr (6, [.ref h11, .ref h12, .int p2])), (h4, .inr (6, [.ref h13, .ref h14, .int p3])), (h5, .inr (6, [.ref h15, .ref h16, .int p4])), (h6, .inr (6, [.ref h17, .ref h18, .int p5])), (h7, .inr (6, [.ref h19, .ref h20, .int p6])), (h8, .inr (6, [.ref h21, .ref h22, .int p7])), (h9, .inr (6, [.ref h23, .ref h24, .int p8])), (h10, .inr (6, [.ref h25, .ref h26, .int p9]))] sz)) 0 0 (va_A [(h0, .inr (2, [.int p0, .int p1, .ref h1, .ref h2])), (h1, .inl (κ 3, 4, .inr (.inr (.inr (.inr (sel [h3, h4, h5, h6])))))), (h2, .inl (κ 3, 4, .inr (.inr (.inr (.inr (sel [h7, h8, h9, h10])))))), (h3, .inr (6, [.ref h11, .ref h12, .int p2])), (h4, .inr (6, [.ref h13, .ref h14, .int p3])), (h5, .inr (6, [.ref h15, .ref h16, .int p4])), (h6, .inr (6, [.ref h17, .ref h18, .int p5])), (h7, .inr (6, [.ref h19, .ref h20, .int p6])), (h8, .inr (6, [.ref h21, .ref h22, .int p7])), (h9, .inr (6, [.ref h23, .ref h24, .int p8])), (h10, .inr (6, [.ref h25, .ref h26, .int p9]))] sz) := by
  refine Met.ofW (cc := cX0_forgetAll) (maxL := 2) (ret := none) (by decide) rfl ?_
  intro p e s m args below meth c s₁ B hml hv
  obtain ⟨rfl, hsz, hP, hK, hD0, hE9⟩ := hv
  have hx := B.exec
  have hb := B.bytes
  have hr := B.returns
  have hts := atoms_spec (ws := wsX0_forgetAll) B.pre
  have hown : s.vm.findClass RX0 = some m.cls := findClass_of_methodNamed B.named
  have hlocks := B.notSynchronized
  subst hsz
  have hD := hD0.self (sz := s.heap.size)
  generalize hAe : va_A [(h0, .inr (2, [.int p0, .int p1, .ref h1, .ref h2])), (h1, .inl (κ 3, 4, .inr (.inr (.inr (.inr (sel [h3, h4, h5, h6])))))), (h2, .inl (κ 3, 4, .inr (.inr (.inr (.inr (sel [h7, h8, h9, h10])))))), (h3, .inr (6, [.ref h11, .ref h12, .int p2])), (h4, .inr (6, [.ref h13, .ref h14, .int p3])), (h5, .inr (6, [.ref h15, .ref h16, .int p4])), (h6, .inr (6, [.ref h17, .ref h18, .int p5])), (h7, .inr (6, [.ref h19, .ref h20, .int p6])), (h8, .inr (6, [.ref h21, .ref h22, .int p7])), (h9, .inr (6, [.ref h23, .ref h24, .int p8])), (h10, .inr (6, [.ref h25, .ref h26, .int p9]))] s.heap.size = A at hD hE9 ⊢
  have hE := hE9.1
  have hDc := hE9.2
  have hA : ∀ q : Nat, s.heap.size ≤ q → A q := fun q h => by rw [← hAe]; exact Or.inr h
  have hS : va_S A s.heap s.heap [] := va_S.rf
  have hP : va_P D vwCl [(h0, .inr (2, [.int p0, .int p1, .ref h1, .ref h2])), (h1, .inl (κ 3, 4, .inr (.inr (.inr (.inr (sel [h3, h4, h5, h6])))))), (h2, .inl (κ 3, 4, .inr (.inr (.inr (.inr (sel [h7, h8, h9, h10])))))), (h3, .inr (6, [.ref h11, .ref h12, .int p2])), (h4, .inr (6, [.ref h13, .ref h14, .int p3])), (h5, .inr (6, [.ref h15, .ref h16, .int p4])), (h6, .inr (6, [.ref h17, .ref h18, .int p5])), (h7, .inr (6, [.ref h19, .ref h20, .int p6])), (h8, .inr (6, [.ref h21, .ref h22, .int p7])), (h9, .inr (6, [.ref h23, .ref h24, .int p8])), (h10, .inr (6, [.ref h25, .ref h26, .int p9]))] s.heap := hP
  have hl := lv_entry [.ref h0] (n := 2) (Nat.le_of_ble_eq_true rfl)
  rw [lg_entry_eq]
  generalize (lg_sl [.ref h0] ++ List.replicate (2 - (lg_sl [.ref h0]).length) Slot.unset).toArray = ls at hl ⊢
  have hl : lv_has ls 2 [(0, .ref h0)] := hl
  refine lv_iconst (v := 1) hx hb dX0_forgetAll_0 (by decide) ?_
  refine lv_istore_n (lv' := [(1, .int 1), (0, .ref h0)]) hx hb dX0_forgetAll_1 rfl hl (by decide) rfl (fun ls hl => ?_)
  refine lv_iload_n hx hb dX0_forgetAll_2 rfl (lv_at hl 0 rfl) ?_
  refine lv_iconst (v := 4) hx hb dX0_forgetAll_3 (by decide) ?_
  refine lv_icmp_gt (tgt := 31) hx hb dX0_forgetAll_4 (by decide) (fun h => absurd h (by decide)) (fun _ => ?_)
  refine lv_aload_n hx hb dX0_forgetAll_7 rfl (lv_at hl 1 rfl) ?_
  refine lv_iload_n hx hb dX0_forgetAll_8 rfl (lv_at hl 0 rfl) ?_
  refine va_csr (W.runV (As := [.int 1]) (rest := []) ⟨hx, hb, hml, hown, hts⟩ (k_X0_countsOf_0 l D κ ε h0 h1 h2 h3 h4 h5 h6 (p0) (p1)) (cwV 1 hts gX0_forgetAll_X0_countsOf rfl rfl rfl (by decide +kernel) ⟨(Nat.le_of_ble_eq_true rfl), (Nat.le_of_ble_eq_true rfl)⟩) (pre0_V (q0 := 0) (ci := 2) (wc := [(h0, .inr (2, [.int p0, .int p1, .ref h1, .ref h2])), (h1, .inl (κ 3, 4, .inr (.inr (.inr (.inr (sel [h3, h4, h5, h6]))))))]) hP hK [0, 1] rfl rfl rfl) rfl rfl hl.1 rfl (lv_room (Nat.le_of_ble_eq_true rfl)) dX0_forgetAll_9 ⟨(Nat.le_of_ble_eq_true rfl), (Nat.le_of_ble_eq_true rfl)⟩) (fun r hw => ?_)
  rw [hw]
  refine lv_iconst (v := 0) hx hb dX0_forgetAll_12 (by decide) ?_
  refine va_put (D := D) (ci := 6) (v := .int 0) (ty := .int) (C := RX4) (T := TX4) (N := 3) hx hb hts wi_X0_forgetAll_RX4 tyX4 tyX4_ok nmX4 hown hK hP hD hS 3 rfl rfl 2 (by decide) (hts _ wd125_X0_forgetAll) (fun _ h9 => h9) rfl (by decide +kernel) rfl rfl (Nat.le_of_ble_eq_true rfl) dX0_forgetAll_13 (fun H locs hP hD hS => ?_)
  have hP : va_P D vwCl [(h0, .inr (2, [.int p0, .int p1, .ref h1, .ref h2])), (h1, .inl (κ 3, 4, .inr (.inr (.inr (.inr (sel [h3, h4, h5, h6])))))), (h2, .inl (κ 3, 4, .inr (.inr (.inr (.inr (sel [h7, h8, h9, h10])))))), (h3, .inr (6, [.ref h11, .ref h12, .int 0])), (h4, .inr (6, [.ref h13, .ref h14, .int p3])), (h5, .inr (6, [.ref h15, .ref h16, .int p4])), (h6, .inr (6, [.ref h17, .ref h18, .int p5])), (h7, .inr (6, [.ref h19, .ref h20, .int p6])), (h8, .inr (6, [.ref h21, .ref h22, .int p7])), (h9, .inr (6, [.ref h23, .ref h24, .int p8])), (h10, .inr (6, [.ref h25, .ref h26, .int p9]))] H := hP
  have hD : va_D A [(h0, .inr (2, [.int p0, .int p1, .ref h1, .ref h2])), (h1, .inl (κ 3, 4, .inr (.inr (.inr (.inr (sel [h3, h4, h5, h6])))))), (h2, .inl (κ 3, 4, .inr (.inr (.inr (.inr (sel [h7, h8, h9, h10])))))), (h3, .inr (6, [.ref h11, .ref h12, .int 0])), (h4, .inr (6, [.ref h13, .ref h14, .int p3])), (h5, .inr (6, [.ref h15, .ref h16, .int p4])), (h6, .inr (6, [.ref h17, .ref h18, .int p5])), (h7, .inr (6, [.ref h19, .ref h20, .int p6])), (h8, .inr (6, [.ref h21, .ref h22, .int p7])), (h9, .inr (6, [.ref h23, .ref h24, .int p8])), (h10, .inr (6, [.ref h25, .ref h26, .int p9]))] := hD
  refine lv_aload_n hx hb dX0_forgetAll_16 rfl (lv_at hl 1 rfl) ?_
  refine lv_iload_n hx hb dX0_forgetAll_17 rfl (lv_at hl 0 rfl) ?_
  refine va_csr (W.runV (As := [.int 1]) (rest := []) ⟨hx, hb, hml, hown, hts⟩ (k_X0_varietyOf_0 l D κ ε h0 h1 h2 h7 h8 h9 h10 (p0) (p1)) (cwV 1 hts gX0_forgetAll_X0_varietyOf rfl rfl rfl (by decide +kernel) ⟨(Nat.le_of_ble_eq_true rfl), (Nat.le_of_ble_eq_true rfl)⟩) (pre0_V (q0 := 0) (ci := 2) (wc := [(h0, .inr (2, [.int p0, .int p1, .ref h1, .ref h2])), (h2, .inl (κ 3, 4, .inr (.inr (.inr (.inr (sel [h7, h8, h9, h10]))))))]) hP hK [0, 2] rfl rfl rfl) rfl rfl hl.1 rfl (lv_room (Nat.le_of_ble_eq_true rfl)) dX0_forgetAll_18 ⟨(Nat.le_of_ble_eq_true rfl), (Nat.le_of_ble_eq_true rfl)⟩) (fun r hw => ?_)
  rw [hw]
  refine lv_iconst (v := 0) hx hb dX0_forgetAll_21 (by decide) ?_
  refine va_put (D := D) (ci := 6) (v := .int 0) (ty := .int) (C := RX4) (T := TX4) (N := 3) hx hb hts wi_X0_forgetAll_RX4 tyX4 tyX4_ok nmX4 hown hK hP hD hS 7 rfl rfl 2 (by decide) (hts _ wd125_X0_forgetAll) (fun _ h9 => h9) rfl (by decide +kernel) rfl rfl (Nat.le_of_ble_eq_true rfl) dX0_forgetAll_22 (fun H locs hP hD hS => ?_)
  have hP : va_P D vwCl [(h0, .inr (2, [.int p0, .int p1, .ref h1, .ref h2])), (h1, .inl (κ 3, 4, .inr (.inr (.inr (.inr (sel [h3, h4, h5, h6])))))), (h2, .inl (κ 3, 4, .inr (.inr (.inr (.inr (sel [h7, h8, h9, h10])))))), (h3, .inr (6, [.ref h11, .ref h12, .int 0])), (h4, .inr (6, [.ref h13, .ref h14, .int p3])), (h5, .inr (6, [.ref h15, .ref h16, .int p4])), (h6, .inr (6, [.ref h17, .ref h18, .int p5])), (h7, .inr (6, [.ref h19, .ref h20, .int 0])), (h8, .inr (6, [.ref h21, .ref h22, .int p7])), (h9, .inr (6, [.ref h23, .ref h24, .int p8])), (h10, .inr (6, [.ref h25, .ref h26, .int p9]))] H := hP
  have hD : va_D A [(h0, .inr (2, [.int p0, .int p1, .ref h1, .ref h2])), (h1, .inl (κ 3, 4, .inr (.inr (.inr (.inr (sel [h3, h4, h5, h6])))))), (h2, .inl (κ 3, 4, .inr (.inr (.inr (.inr (sel [h7, h8, h9, h10])))))), (h3, .inr (6, [.ref h11, .ref h12, .int 0])), (h4, .inr (6, [.ref h13, .ref h14, .int p3])), (h5, .inr (6, [.ref h15, .ref h16, .int p4])), (h6, .inr (6, [.ref h17, .ref h18, .int p5])), (h7, .inr (6, [.ref h19, .ref h20, .int 0])), (h8, .inr (6, [.ref h21, .ref h22, .int p7])), (h9, .inr (6, [.ref h23, .ref h24, .int p8])), (h10, .inr (6, [.ref h25, .ref h26, .int p9]))] := hD
  refine lv_iinc (v := 2) (lv' := [(1, .int 2), (0, .ref h0)]) hx hb dX0_forgetAll_25 hl (k := 0) rfl (by decide) (by decide) rfl (fun ls hl => ?_)
  refine lv_goto (tgt := 2) hx hb dX0_forgetAll_28 (by decide) ?_
  refine lv_iload_n hx hb dX0_forgetAll_2 rfl (lv_at hl 0 rfl) ?_
  refine lv_iconst (v := 4) hx hb dX0_forgetAll_3 (by decide) ?_
  refine lv_icmp_gt (tgt := 31) hx hb dX0_forgetAll_4 (by decide) (fun h => absurd h (by decide)) (fun _ => ?_)
  refine lv_aload_n hx hb dX0_forgetAll_7 rfl (lv_at hl 1 rfl) ?_
  refine lv_iload_n hx hb dX0_forgetAll_8 rfl (lv_at hl 0 rfl) ?_
  refine va_csr (W.runV (As := [.int 2]) (rest := []) ⟨hx, hb, hml, hown, hts⟩ (k_X0_countsOf_1 l D κ ε h0 h1 h2 h3 h4 h5 h6 (p0) (p1)) (cwV 1 hts gX0_forgetAll_X0_countsOf rfl rfl rfl (by decide +kernel) ⟨(Nat.le_of_ble_eq_true rfl), (Nat.le_of_ble_eq_true rfl)⟩) (pre0_V (q0 := 0) (ci := 2) (wc := [(h0, .inr (2, [.int p0, .int p1, .ref h1, .ref h2])), (h1, .inl (κ 3, 4, .inr (.inr (.inr (.inr (sel [h3, h4, h5, h6]))))))]) hP hK [0, 1] rfl rfl rfl) rfl rfl hl.1 rfl (lv_room (Nat.le_of_ble_eq_true rfl)) dX0_forgetAll_9 ⟨(Nat.le_of_ble_eq_true rfl), (Nat.le_of_ble_eq_true rfl)⟩) (fun r hw => ?_)
  rw [hw]
  refine lv_iconst (v := 0) hx hb dX0_forgetAll_12 (by decide) ?_
  refine va_put (D := D) (ci := 6) (v := .int 0) (ty := .int) (C := RX4) (T := TX4) (N := 3) hx hb hts wi_X0_forgetAll_RX4 tyX4 tyX4_ok nmX4 hown hK hP hD hS 4 rfl rfl 2 (by decide) (hts _ wd125_X0_forgetAll) (fun _ h9 => h9) rfl (by decide +kernel) rfl rfl (Nat.le_of_ble_eq_true rfl) dX0_forgetAll_13 (fun H locs hP hD hS => ?_)
  have hP : va_P D vwCl [(h0, .inr (2, [.int p0, .int p1, .ref h1, .ref h2])), (h1, .inl (κ 3, 4, .inr (.inr (.inr (.inr (sel [h3, h4, h5, h6])))))), (h2, .inl (κ 3, 4, .inr (.inr (.inr (.inr (sel [h7, h8, h9, h10])))))), (h3, .inr (6, [.ref h11, .ref h12, .int 0])), (h4, .inr (6, [.ref h13, .ref h14, .int 0])), (h5, .inr (6, [.ref h15, .ref h16, .int p4])), (h6, .inr (6, [.ref h17, .ref h18, .int p5])), (h7, .inr (6, [.ref h19, .ref h20, .int 0])), (h8, .inr (6, [.ref h21, .ref h22, .int p7])), (h9, .inr (6, [.ref h23, .ref h24, .int p8])), (h10, .inr (6, [.ref h25, .ref h26, .int p9]))] H := hP
  have hD : va_D A [(h0, .inr (2, [.int p0, .int p1, .ref h1, .ref h2])), (h1, .inl (κ 3, 4, .inr (.inr (.inr (.inr (sel [h3, h4, h5, h6])))))), (h2, .inl (κ 3, 4, .inr (.inr (.inr (.inr (sel [h7, h8, h9, h10])))))), (h3, .inr (6, [.ref h11, .ref h12, .int 0])), (h4, .inr (6, [.ref h13, .ref h14, .int 0])), (h5, .inr (6, [.ref h15, .ref h16, .int p4])), (h6, .inr (6, [.ref h17, .ref h18, .int p5])), (h7, .inr (6, [.ref h19, .ref h20, .int 0])), (h8, .inr (6, [.ref h21, .ref h22, .int p7])), (h9, .inr (6, [.ref h23, .ref h24, .int p8])), (h10, .inr (6, [.ref h25, .ref h26, .int p9]))] := hD
  refine lv_aload_n hx hb dX0_forgetAll_16 rfl (lv_at hl 1 rfl) ?_
  refine lv_iload_n hx hb dX0_forgetAll_17 rfl (lv_at hl 0 rfl) ?_
  refine va_csr (W.runV (As := [.int 2]) (rest := []) ⟨hx, hb, hml, hown, hts⟩ (k_X0_varietyOf_1 l D κ ε h0 h1 h2 h7 h8 h9 h10 (p0) (p1)) (cwV 1 hts gX0_forgetAll_X0_varietyOf rfl rfl rfl (by decide +kernel) ⟨(Nat.le_of_ble_eq_true rfl), (Nat.le_of_ble_eq_true rfl)⟩) (pre0_V (q0 := 0) (ci := 2) (wc := [(h0, .inr (2, [.int p0, .int p1, .ref h1, .ref h2])), (h2, .inl (κ 3, 4, .inr (.inr (.inr (.inr (sel [h7, h8, h9, h10]))))))]) hP hK [0, 2] rfl rfl rfl) rfl rfl hl.1 rfl (lv_room (Nat.le_of_ble_eq_true rfl)) dX0_forgetAll_18 ⟨(Nat.le_of_ble_eq_true rfl), (Nat.le_of_ble_eq_true rfl)⟩) (fun r hw => ?_)
  rw [hw]
  refine lv_iconst (v := 0) hx hb dX0_forgetAll_21 (by decide) ?_
  refine va_put (D := D) (ci := 6) (v := .int 0) (ty := .int) (C := RX4) (T := TX4) (N := 3) hx hb hts wi_X0_forgetAll_RX4 tyX4 tyX4_ok nmX4 hown hK hP hD hS 8 rfl rfl 2 (by decide) (hts _ wd125_X0_forgetAll) (fun _ h9 => h9) rfl (by decide +kernel) rfl rfl (Nat.le_of_ble_eq_true rfl) dX0_forgetAll_22 (fun H locs hP hD hS => ?_)
  have hP : va_P D vwCl [(h0, .inr (2, [.int p0, .int p1, .ref h1, .ref h2])), (h1, .inl (κ 3, 4, .inr (.inr (.inr (.inr (sel [h3, h4, h5, h6])))))), (h2, .inl (κ 3, 4, .inr (.inr (.inr (.inr (sel [h7, h8, h9, h10])))))), (h3, .inr (6, [.ref h11, .ref h12, .int 0])), (h4, .inr (6, [.ref h13, .ref h14, .int 0])), (h5, .inr (6, [.ref h15, .ref h16, .int p4])), (h6, .inr (6, [.ref h17, .ref h18, .int p5])), (h7, .inr (6, [.ref h19, .ref h20, .int 0])), (h8, .inr (6, [.ref h21, .ref h22, .int 0])), (h9, .inr (6, [.ref h23, .ref h24, .int p8])), (h10, .inr (6, [.ref h25, .ref h26, .int p9]))] H := hP
  have hD : va_D A [(h0, .inr (2, [.int p0, .int p1, .ref h1, .ref h2])), (h1, .inl (κ 3, 4, .inr (.inr (.inr (.inr (sel [h3, h4, h5, h6])))))), (h2, .inl (κ 3, 4, .inr (.inr (.inr (.inr (sel [h7, h8, h9, h10])))))), (h3, .inr (6, [.ref h11, .ref h12, .int 0])), (h4, .inr (6, [.ref h13, .ref h14, .int 0])), (h5, .inr (6, [.ref h15, .ref h16, .int p4])), (h6, .inr (6, [.ref h17, .ref h18, .int p5])), (h7, .inr (6, [.ref h19, .ref h20, .int 0])), (h8, .inr (6, [.ref h21, .ref h22, .int 0])), (h9, .inr (6, [.ref h23, .ref h24, .int p8])), (h10, .inr (6, [.ref h25, .ref h26, .int p9]))] := hD
  refine lv_iinc (v := 3) (lv' := [(1, .int 3), (0, .ref h0)]) hx hb dX0_forgetAll_25 hl (k := 0) rfl (by decide) (by decide) rfl (fun ls hl => ?_)
  refine lv_goto (tgt := 2) hx hb dX0_forgetAll_28 (by decide) ?_
  refine lv_iload_n hx hb dX0_forgetAll_2 rfl (lv_at hl 0 rfl) ?_
  refine lv_iconst (v := 4) hx hb dX0_forgetAll_3 (by decide) ?_
  refine lv_icmp_gt (tgt := 31) hx hb dX0_forgetAll_4 (by decide) (fun h => absurd h (by decide)) (fun _ => ?_)
  refine lv_aload_n hx hb dX0_forgetAll_7 rfl (lv_at hl 1 rfl) ?_
  refine lv_iload_n hx hb dX0_forgetAll_8 rfl (lv_at hl 0 rfl) ?_
  refine va_csr (W.runV (As := [.int 3]) (rest := []) ⟨hx, hb, hml, hown, hts⟩ (k_X0_countsOf_2 l D κ ε h0 h1 h2 h3 h4 h5 h6 (p0) (p1)) (cwV 1 hts gX0_forgetAll_X0_countsOf rfl rfl rfl (by decide +kernel) ⟨(Nat.le_of_ble_eq_true rfl), (Nat.le_of_ble_eq_true rfl)⟩) (pre0_V (q0 := 0) (ci := 2) (wc := [(h0, .inr (2, [.int p0, .int p1, .ref h1, .ref h2])), (h1, .inl (κ 3, 4, .inr (.inr (.inr (.inr (sel [h3, h4, h5, h6]))))))]) hP hK [0, 1] rfl rfl rfl) rfl rfl hl.1 rfl (lv_room (Nat.le_of_ble_eq_true rfl)) dX0_forgetAll_9 ⟨(Nat.le_of_ble_eq_true rfl), (Nat.le_of_ble_eq_true rfl)⟩) (fun r hw => ?_)
  rw [hw]
  refine lv_iconst (v := 0) hx hb dX0_forgetAll_12 (by decide) ?_
  refine va_put (D := D) (ci := 6) (v := .int 0) (ty := .int) (C := RX4) (T := TX4) (N := 3) hx hb hts wi_X0_forgetAll_RX4 tyX4 tyX4_ok nmX4 hown hK hP hD hS 5 rfl rfl 2 (by decide) (hts _ wd125_X0_forgetAll) (fun _ h9 => h9) rfl (by decide +kernel) rfl rfl (Nat.le_of_ble_eq_true rfl) dX0_forgetAll_13 (fun H locs hP hD hS => ?_)
  have hP : va_P D vwCl [(h0, .inr (2, [.int p0, .int p1, .ref h1, .ref h2])), (h1, .inl (κ 3, 4, .inr (.inr (.inr (.inr (sel [h3, h4, h5, h6])))))), (h2, .inl (κ 3, 4, .inr (.inr (.inr (.inr (sel [h7, h8, h9, h10])))))), (h3, .inr (6, [.ref h11, .ref h12, .int 0])), (h4, .inr (6, [.ref h13, .ref h14, .int 0])), (h5, .inr (6, [.ref h15, .ref h16, .int 0])), (h6, .inr (6, [.ref h17, .ref h18, .int p5])), (h7, .inr (6, [.ref h19, .ref h20, .int 0])), (h8, .inr (6, [.ref h21, .ref h22, .int 0])), (h9, .inr (6, [.ref h23, .ref h24, .int p8])), (h10, .inr (6, [.ref h25, .ref h26, .int p9]))] H := hP
  have hD : va_D A [(h0, .inr (2, [.int p0, .int p1, .ref h1, .ref h2])), (h1, .inl (κ 3, 4, .inr (.inr (.inr (.inr (sel [h3, h4, h5, h6])))))), (h2, .inl (κ 3, 4, .inr (.inr (.inr (.inr (sel [h7, h8, h9, h10])))))), (h3, .inr (6, [.ref h11, .ref h12, .int 0])), (h4, .inr (6, [.ref h13, .ref h14, .int 0])), (h5, .inr (6, [.ref h15, .ref h16, .int 0])), (h6, .inr (6, [.ref h17, .ref h18, .int p5])), (h7, .inr (6, [.ref h19, .ref h20, .int 0])), (h8, .inr (6, [.ref h21, .ref h22, .int 0])), (h9, .inr (6, [.ref h23, .ref h24, .int p8])), (h10, .inr (6, [.ref h25, .ref h26, .int p9]))] := hD
  refine lv_aload_n hx hb dX0_forgetAll_16 rfl (lv_at hl 1 rfl) ?_
  refine lv_iload_n hx hb dX0_forgetAll_17 rfl (lv_at hl 0 rfl) ?_
  refine va_csr (W.runV (As := [.int 3]) (rest := []) ⟨hx, hb, hml, hown, hts⟩ (k_X0_varietyOf_2 l D κ ε h0 h1 h2 h7 h8 h9 h10 (p0) (p1)) (cwV 1 hts gX0_forgetAll_X0_varietyOf rfl rfl rfl (by decide +kernel) ⟨(Nat.le_of_ble_eq_true rfl), (Nat.le_of_ble_eq_true rfl)⟩) (pre0_V (q0 := 0) (ci := 2) (wc := [(h0, .inr (2, [.int p0, .int p1, .ref h1, .ref h2])), (h2, .inl (κ 3, 4, .inr (.inr (.inr (.inr (sel [h7, h8, h9, h10]))))))]) hP hK [0, 2] rfl rfl rfl) rfl rfl hl.1 rfl (lv_room (Nat.le_of_ble_eq_true rfl)) dX0_forgetAll_18 ⟨(Nat.le_of_ble_eq_true rfl), (Nat.le_of_ble_eq_true rfl)⟩) (fun r hw => ?_)
  rw [hw]
  refine lv_iconst (v := 0) hx hb dX0_forgetAll_21 (by decide) ?_
  refine va_put (D := D) (ci := 6) (v := .int 0) (ty := .int) (C := RX4) (T := TX4) (N := 3) hx hb hts wi_X0_forgetAll_RX4 tyX4 tyX4_ok nmX4 hown hK hP hD hS 9 rfl rfl 2 (by decide) (hts _ wd125_X0_forgetAll) (fun _ h9 => h9) rfl (by decide +kernel) rfl rfl (Nat.le_of_ble_eq_true rfl) dX0_forgetAll_22 (fun H locs hP hD hS => ?_)
  have hP : va_P D vwCl [(h0, .inr (2, [.int p0, .int p1, .ref h1, .ref h2])), (h1, .inl (κ 3, 4, .inr (.inr (.inr (.inr (sel [h3, h4, h5, h6])))))), (h2, .inl (κ 3, 4, .inr (.inr (.inr (.inr (sel [h7, h8, h9, h10])))))), (h3, .inr (6, [.ref h11, .ref h12, .int 0])), (h4, .inr (6, [.ref h13, .ref h14, .int 0])), (h5, .inr (6, [.ref h15, .ref h16, .int 0])), (h6, .inr (6, [.ref h17, .ref h18, .int p5])), (h7, .inr (6, [.ref h19, .ref h20, .int 0])), (h8, .inr (6, [.ref h21, .ref h22, .int 0])), (h9, .inr (6, [.ref h23, .ref h24, .int 0])), (h10, .inr (6, [.ref h25, .ref h26, .int p9]))] H := hP
  have hD : va_D A [(h0, .inr (2, [.int p0, .int p1, .ref h1, .ref h2])), (h1, .inl (κ 3, 4, .inr (.inr (.inr (.inr (sel [h3, h4, h5, h6])))))), (h2, .inl (κ 3, 4, .inr (.inr (.inr (.inr (sel [h7, h8, h9, h10])))))), (h3, .inr (6, [.ref h11, .ref h12, .int 0])), (h4, .inr (6, [.ref h13, .ref h14, .int 0])), (h5, .inr (6, [.ref h15, .ref h16, .int 0])), (h6, .inr (6, [.ref h17, .ref h18, .int p5])), (h7, .inr (6, [.ref h19, .ref h20, .int 0])), (h8, .inr (6, [.ref h21, .ref h22, .int 0])), (h9, .inr (6, [.ref h23, .ref h24, .int 0])), (h10, .inr (6, [.ref h25, .ref h26, .int p9]))] := hD
  refine lv_iinc (v := 4) (lv' := [(1, .int 4), (0, .ref h0)]) hx hb dX0_forgetAll_25 hl (k := 0) rfl (by decide) (by decide) rfl (fun ls hl => ?_)
  refine lv_goto (tgt := 2) hx hb dX0_forgetAll_28 (by decide) ?_
  refine lv_iload_n hx hb dX0_forgetAll_2 rfl (lv_at hl 0 rfl) ?_
  refine lv_iconst (v := 4) hx hb dX0_forgetAll_3 (by decide) ?_
  refine lv_icmp_gt (tgt := 31) hx hb dX0_forgetAll_4 (by decide) (fun h => absurd h (by decide)) (fun _ => ?_)
  refine lv_aload_n hx hb dX0_forgetAll_7 rfl (lv_at hl 1 rfl) ?_
  refine lv_iload_n hx hb dX0_forgetAll_8 rfl (lv_at hl 0 rfl) ?_
  refine va_csr (W.runV (As := [.int 4]) (rest := []) ⟨hx, hb, hml, hown, hts⟩ (k_X0_countsOf_3 l D κ ε h0 h1 h2 h3 h4 h5 h6 (p0) (p1)) (cwV 1 hts gX0_forgetAll_X0_countsOf rfl rfl rfl (by decide +kernel) ⟨(Nat.le_of_ble_eq_true rfl), (Nat.le_of_ble_eq_true rfl)⟩) (pre0_V (q0 := 0) (ci := 2) (wc := [(h0, .inr (2, [.int p0, .int p1, .ref h1, .ref h2])), (h1, .inl (κ 3, 4, .inr (.inr (.inr (.inr (sel [h3, h4, h5, h6]))))))]) hP hK [0, 1] rfl rfl rfl) rfl rfl hl.1 rfl (lv_room (Nat.le_of_ble_eq_true rfl)) dX0_forgetAll_9 ⟨(Nat.le_of_ble_eq_true rfl), (Nat.le_of_ble_eq_true rfl)⟩) (fun r hw => ?_)
  rw [hw]
  refine lv_iconst (v := 0) hx hb dX0_forgetAll_12 (by decide) ?_
  refine va_put (D := D) (ci := 6) (v := .int 0) (ty := .int) (C := RX4) (T := TX4) (N := 3) hx hb hts wi_X0_forgetAll_RX4 tyX4 tyX4_ok nmX4 hown hK hP hD hS 6 rfl rfl 2 (by decide) (hts _ wd125_X0_forgetAll) (fun _ h9 => h9) rfl (by decide +kernel) rfl rfl (Nat.le_of_ble_eq_true rfl) dX0_forgetAll_13 (fun H locs hP hD hS => ?_)
  have hP : va_P D vwCl [(h0, .inr (2, [.int p0, .int p1, .ref h1, .ref h2])), (h1, .inl (κ 3, 4, .inr (.inr (.inr (.inr (sel [h3, h4, h5, h6])))))), (h2, .inl (κ 3, 4, .inr (.inr (.inr (.inr (sel [h7, h8, h9, h10])))))), (h3, .inr (6, [.ref h11, .ref h12, .int 0])), (h4, .inr (6, [.ref h13, .ref h14, .int 0])), (h5, .inr (6, [.ref h15, .ref h16, .int 0])), (h6, .inr (6, [.ref h17, .ref h18, .int 0])), (h7, .inr (6, [.ref h19, .ref h20, .int 0])), (h8, .inr (6, [.ref h21, .ref h22, .int 0])), (h9, .inr (6, [.ref h23, .ref h24, .int 0])), (h10, .inr (6, [.ref h25, .ref h26, .int p9]))] H := hP
  have hD : va_D A [(h0, .inr (2, [.int p0, .int p1, .ref h1, .ref h2])), (h1, .inl (κ 3, 4, .inr (.inr (.inr (.inr (sel [h3, h4, h5, h6])))))), (h2, .inl (κ 3, 4, .inr (.inr (.inr (.inr (sel [h7, h8, h9, h10])))))), (h3, .inr (6, [.ref h11, .ref h12, .int 0])), (h4, .inr (6, [.ref h13, .ref h14, .int 0])), (h5, .inr (6, [.ref h15, .ref h16, .int 0])), (h6, .inr (6, [.ref h17, .ref h18, .int 0])), (h7, .inr (6, [.ref h19, .ref h20, .int 0])), (h8, .inr (6, [.ref h21, .ref h22, .int 0])), (h9, .inr (6, [.ref h23, .ref h24, .int 0])), (h10, .inr (6, [.ref h25, .ref h26, .int p9]))] := hD
  refine lv_aload_n hx hb dX0_forgetAll_16 rfl (lv_at hl 1 rfl) ?_
  refine lv_iload_n hx hb dX0_forgetAll_17 rfl (lv_at hl 0 rfl) ?_
  refine va_csr (W.runV (As := [.int 4]) (rest := []) ⟨hx, hb, hml, hown, hts⟩ (k_X0_varietyOf_3 l D κ ε h0 h1 h2 h7 h8 h9 h10 (p0) (p1)) (cwV 1 hts gX0_forgetAll_X0_varietyOf rfl rfl rfl (by decide +kernel) ⟨(Nat.le_of_ble_eq_true rfl), (Nat.le_of_ble_eq_true rfl)⟩) (pre0_V (q0 := 0) (ci := 2) (wc := [(h0, .inr (2, [.int p0, .int p1, .ref h1, .ref h2])), (h2, .inl (κ 3, 4, .inr (.inr (.inr (.inr (sel [h7, h8, h9, h10]))))))]) hP hK [0, 2] rfl rfl rfl) rfl rfl hl.1 rfl (lv_room (Nat.le_of_ble_eq_true rfl)) dX0_forgetAll_18 ⟨(Nat.le_of_ble_eq_true rfl), (Nat.le_of_ble_eq_true rfl)⟩) (fun r hw => ?_)
  rw [hw]
  refine lv_iconst (v := 0) hx hb dX0_forgetAll_21 (by decide) ?_
  refine va_put (D := D) (ci := 6) (v := .int 0) (ty := .int) (C := RX4) (T := TX4) (N := 3) hx hb hts wi_X0_forgetAll_RX4 tyX4 tyX4_ok nmX4 hown hK hP hD hS 10 rfl rfl 2 (by decide) (hts _ wd125_X0_forgetAll) (fun _ h9 => h9) rfl (by decide +kernel) rfl rfl (Nat.le_of_ble_eq_true rfl) dX0_forgetAll_22 (fun H locs hP hD hS => ?_)
  have hP : va_P D vwCl [(h0, .inr (2, [.int p0, .int p1, .ref h1, .ref h2])), (h1, .inl (κ 3, 4, .inr (.inr (.inr (.inr (sel [h3, h4, h5, h6])))))), (h2, .inl (κ 3, 4, .inr (.inr (.inr (.inr (sel [h7, h8, h9, h10])))))), (h3, .inr (6, [.ref h11, .ref h12, .int 0])), (h4, .inr (6, [.ref h13, .ref h14, .int 0])), (h5, .inr (6, [.ref h15, .ref h16, .int 0])), (h6, .inr (6, [.ref h17, .ref h18, .int 0])), (h7, .inr (6, [.ref h19, .ref h20, .int 0])), (h8, .inr (6, [.ref h21, .ref h22, .int 0])), (h9, .inr (6, [.ref h23, .ref h24, .int 0])), (h10, .inr (6, [.ref h25, .ref h26, .int 0]))] H := hP
  have hD : va_D A [(h0, .inr (2, [.int p0, .int p1, .ref h1, .ref h2])), (h1, .inl (κ 3, 4, .inr (.inr (.inr (.inr (sel [h3, h4, h5, h6])))))), (h2, .inl (κ 3, 4, .inr (.inr (.inr (.inr (sel [h7, h8, h9, h10])))))), (h3, .inr (6, [.ref h11, .ref h12, .int 0])), (h4, .inr (6, [.ref h13, .ref h14, .int 0])), (h5, .inr (6, [.ref h15, .ref h16, .int 0])), (h6, .inr (6, [.ref h17, .ref h18, .int 0])), (h7, .inr (6, [.ref h19, .ref h20, .int 0])), (h8, .inr (6, [.ref h21, .ref h22, .int 0])), (h9, .inr (6, [.ref h23, .ref h24, .int 0])), (h10, .inr (6, [.ref h25, .ref h26, .int 0]))] := hD
  refine lv_iinc (v := 5) (lv' := [(1, .int 5), (0, .ref h0)]) hx hb dX0_forgetAll_25 hl (k := 0) rfl (by decide) (by decide) rfl (fun ls hl => ?_)
  refine lv_goto (tgt := 2) hx hb dX0_forgetAll_28 (by decide) ?_
  refine lv_iload_n hx hb dX0_forgetAll_2 rfl (lv_at hl 0 rfl) ?_
  refine lv_iconst (v := 4) hx hb dX0_forgetAll_3 (by decide) ?_
  refine lv_icmp_gt (tgt := 31) hx hb dX0_forgetAll_4 (by decide) (fun _ => ?_) (fun h => absurd (by decide) h)
  have hP9 := hP
  have hD9 := hD
  exact W.vret hx hb hr (fun t ht hW => ⟨⟨(), rfl, trivial, by rw [ht]; exact hP9, hD9⟩, hS.F ht⟩) hS.2.2 dX0_forgetAll_31

theorem wi_X5_addWord_RX5 : ∀ w ∈ u_ws RX5 TX5 10, w ∈ wsX5_addWord := by decide +kernel

theorem wd126_X5_addWord : (.fieldLink RX5 10 "Canticle" "ledger" "LCanticle$Ledger;" : Cond) ∈ wsX5_addWord := by decide +kernel

theorem wi_X5_addWord_RX0 : ∀ w ∈ u_ws RX0 TX0 4, w ∈ wsX5_addWord := by decide +kernel

theorem wd127_X5_addWord : (.fieldLink RX5 65 "Canticle$Ledger" "words" "I" : Cond) ∈ wsX5_addWord := by decide +kernel

theorem wd128_X5_addWord : (.fieldLink RX5 51 "Canticle" "length" "I" : Cond) ∈ wsX5_addWord := by decide +kernel

set_option maxHeartbeats 4000000 in
set_option maxRecDepth 100000 in
theorem k_X5_addWord_0 (l : Launch) (D : va_G) (κ ε : Nat → Nat) (h0 h1 h2 h3 h4 h5 h6 h7 h8 h9 h10 h11 h12 h13 h14 h15 h16 h17 h18 h19 h20 h21 h22 h23 h24 h25 h26 h27 h28 h29 h30 h31 h32 : Nat) (sz : Nat) : Met l yX5_addWord wsX5_addWord ({ frames := 3, cells := 0, slots := 0, locals := 60 }) (va_Pc [.ref h0] (Pre2 D κ ε [(h0, .inr (7, [.ref h1, .ref h2, .ref h3, .ref h4, .ref h5, .ref h6, .int 0, .int 0, .int 0, .int 0])), (h1, .inr (2, [.int 0, .int 2, .ref h7, .ref h8])), (h7, .inl (κ 3, 4, .inr (.inr (.inr (.inr (sel [h9, h10, h11, h12])))))), (h8, .inl (κ 3, 4, .inr (.inr (.inr (.inr (sel [h13, h14, h15, h16])))))), (h9, .inr (6, [.ref h17, .ref h18, .int 0])), (h10, .inr (6, [.ref h19, .ref h20, .int 0])), (h11, .inr (6, [.ref h21, .ref h22, .int 0])), (h12, .inr (6, [.ref h23, .ref h24, .int 0])), (h13, .inr (6, [.ref h25, .ref h26, .int 0])), (h14, .inr (6, [.ref h27, .ref h28, .int 0])), (h15, .inr (6, [.ref h29, .ref h30, .int 0])), (h16, .inr (6, [.ref h31, .ref h32, .int 0]))] sz)) (va_Qi (fun r (u : Unit) => (r = 0)) (fun _ _ => True) (va_A [(h0, .inr (7, [.ref h1, .ref h2, .ref h3, .ref h4, .ref h5, .ref h6, .int 0, .int 0, .int 0, .int 0])), (h1, .inr (2, [.int 0, .int 2, .ref h7, .ref h8])), (h7, .inl (κ 3, 4, .inr (.inr (.inr (.inr (sel [h9, h10, h11, h12])))))), (h8, .inl (κ 3, 4, .inr (.inr (.inr (.inr (sel [h13, h14, h15, h16])))))), (h9, .inr (6, [.ref h17, .ref h18, .int 0])), (h10, .inr (6, [.ref h19, .ref h20, .int 0])), (h11, .inr (6, [.ref h21, .ref h22, .int 0])), (h12, .inr (6, [.ref h23, .ref h24, .int 0])), (h13, .inr (6, [.ref h25, .ref h26, .int 0])), (h14, .inr (6, [.ref h27, .ref h28, .int 0])), (h15, .inr (6, [.ref h29, .ref h30, .int 0])), (h16, .inr (6, [.ref h31, .ref h32, .int 0]))] sz)) 0 0 (va_A [(h0, .inr (7, [.ref h1, .ref h2, .ref h3, .ref h4, .ref h5, .ref h6, .int 0, .int 0, .int 0, .int 0])), (h1, .inr (2, [.int 0, .int 2, .ref h7, .ref h8])), (h7, .inl (κ 3, 4, .inr (.inr (.inr (.inr (sel [h9, h10, h11, h12])))))), (h8, .inl (κ 3, 4, .inr (.inr (.inr (.inr (sel [h13, h14, h15, h16])))))), (h9, .inr (6, [.ref h17, .ref h18, .int 0])), (h10, .inr (6, [.ref h19, .ref h20, .int 0])), (h11, .inr (6, [.ref h21, .ref h22, .int 0])), (h12, .inr (6, [.ref h23, .ref h24, .int 0])), (h13, .inr (6, [.ref h25, .ref h26, .int 0])), (h14, .inr (6, [.ref h27, .ref h28, .int 0])), (h15, .inr (6, [.ref h29, .ref h30, .int 0])), (h16, .inr (6, [.ref h31, .ref h32, .int 0]))] sz) := by
  refine Met.ofW (cc := cX5_addWord) (maxL := 1) (ret := (some .int)) (by decide) rfl ?_
  intro p e s m args below meth c s₁ B hml hv
  obtain ⟨rfl, hsz, hP, hK, hD0, hE9⟩ := hv
  have hx := B.exec
  have hb := B.bytes
  have hr := B.returns
  have hts := atoms_spec (ws := wsX5_addWord) B.pre
  have hown : s.vm.findClass RX5 = some m.cls := findClass_of_methodNamed B.named
  have hlocks := B.notSynchronized
  subst hsz
  have hD := hD0.self (sz := s.heap.size)
  generalize hAe : va_A [(h0, .inr (7, [.ref h1, .ref h2, .ref h3, .ref h4, .ref h5, .ref h6, .int 0, .int 0, .int 0, .int 0])), (h1, .inr (2, [.int 0, .int 2, .ref h7, .ref h8])), (h7, .inl (κ 3, 4, .inr (.inr (.inr (.inr (sel [h9, h10, h11, h12])))))), (h8, .inl (κ 3, 4, .inr (.inr (.inr (.inr (sel [h13, h14, h15, h16])))))), (h9, .inr (6, [.ref h17, .ref h18, .int 0])), (h10, .inr (6, [.ref h19, .ref h20, .int 0])), (h11, .inr (6, [.ref h21, .ref h22, .int 0])), (h12, .inr (6, [.ref h23, .ref h24, .int 0])), (h13, .inr (6, [.ref h25, .ref h26, .int 0])), (h14, .inr (6, [.ref h27, .ref h28, .int 0])), (h15, .inr (6, [.ref h29, .ref h30, .int 0])), (h16, .inr (6, [.ref h31, .ref h32, .int 0]))] s.heap.size = A at hD hE9 ⊢
  have hE := hE9.1
  have hDc := hE9.2
  have hA : ∀ q : Nat, s.heap.size ≤ q → A q := fun q h => by rw [← hAe]; exact Or.inr h
  have hS : va_S A s.heap s.heap [] := va_S.rf
  have hP : va_P D vwCl [(h0, .inr (7, [.ref h1, .ref h2, .ref h3, .ref h4, .ref h5, .ref h6, .int 0, .int 0, .int 0, .int 0])), (h1, .inr (2, [.int 0, .int 2, .ref h7, .ref h8])), (h7, .inl (κ 3, 4, .inr (.inr (.inr (.inr (sel [h9, h10, h11, h12])))))), (h8, .inl (κ 3, 4, .inr (.inr (.inr (.inr (sel [h13, h14, h15, h16])))))), (h9, .inr (6, [.ref h17, .ref h18, .int 0])), (h10, .inr (6, [.ref h19, .ref h20, .int 0])), (h11, .inr (6, [.ref h21, .ref h22, .int 0])), (h12, .inr (6, [.ref h23, .ref h24, .int 0])), (h13, .inr (6, [.ref h25, .ref h26, .int 0])), (h14, .inr (6, [.ref h27, .ref h28, .int 0])), (h15, .inr (6, [.ref h29, .ref h30, .int 0])), (h16, .inr (6, [.ref h31, .ref h32, .int 0]))] s.heap := hP
  have hl := lv_entry [.ref h0] (n := 1) (Nat.le_of_ble_eq_true rfl)
  rw [lg_entry_eq]
  generalize (lg_sl [.ref h0] ++ List.replicate (1 - (lg_sl [.ref h0]).length) Slot.unset).toArray = ls at hl ⊢
  have hl : lv_has ls 1 [(0, .ref h0)] := hl
  refine lv_aload_n hx hb dX5_addWord_0 rfl (lv_at hl 0 rfl) ?_
  refine va_get (D := D) (ci := 7) (v := .ref h1) (C := RX5) (T := TX5) (N := 10) hx hb hts wi_X5_addWord_RX5 hown hK hP 0 rfl rfl 0 (by decide) (hts _ wd126_X5_addWord) (fun _ h9 => h9) rfl dX5_addWord_1 ?_
  refine va_get (D := D) (ci := 2) (v := .int 0) (C := RX0) (T := TX0) (N := 4) hx hb hts wi_X5_addWord_RX0 hown hK hP 1 rfl rfl 0 (by decide) (hts _ wd127_X5_addWord) (fun _ h9 => h9) rfl dX5_addWord_4 ?_
  refine lv_bipush (v := 12) hx hb dX5_addWord_7 (by decide) ?_
  refine lv_icmp_lt (tgt := 22) hx hb dX5_addWord_9 (by decide) (fun _ => ?_) (fun h => absurd (by decide) h)
  refine lv_aload_n hx hb dX5_addWord_22 rfl (lv_at hl 0 rfl) ?_
  refine va_get (D := D) (ci := 7) (v := .ref h1) (C := RX5) (T := TX5) (N := 10) hx hb hts wi_X5_addWord_RX5 hown hK hP 0 rfl rfl 0 (by decide) (hts _ wd126_X5_addWord) (fun _ h9 => h9) rfl dX5_addWord_23 ?_
  have hF := va_free (wc := [(h1, .inr (2, [.int 0, .int 2, .ref h7, .ref h8])), (h7, .inl (κ 3, 4, .inr (.inr (.inr (.inr (sel [h9, h10, h11, h12])))))), (h8, .inl (κ 3, 4, .inr (.inr (.inr (.inr (sel [h13, h14, h15, h16])))))), (h9, .inr (6, [.ref h17, .ref h18, .int 0])), (h10, .inr (6, [.ref h19, .ref h20, .int 0])), (h11, .inr (6, [.ref h21, .ref h22, .int 0])), (h12, .inr (6, [.ref h23, .ref h24, .int 0])), (h13, .inr (6, [.ref h25, .ref h26, .int 0])), (h14, .inr (6, [.ref h27, .ref h28, .int 0])), (h15, .inr (6, [.ref h29, .ref h30, .int 0])), (h16, .inr (6, [.ref h31, .ref h32, .int 0]))]) hD hS hA [1, 2, 3, 4, 5, 6, 7, 8, 9, 10, 11] rfl
  refine va_callv (va_runV (As := []) (rest := []) ⟨hx, hb, hml, hown, hts⟩ (k_X0_forgetAll_0 l D κ ε h1 h7 h8 h9 h10 h11 h12 h13 h14 h15 h16 h17 h18 h19 h20 h21 h22 h23 h24 h25 h26 h27 h28 h29 h30 h31 h32 s.heap.size (0) (2) (0) (0) (0) (0) (0) (0) (0) (0)) (cwV 0 hts gX5_addWord_X0_forgetAll rfl rfl rfl (by decide +kernel) ⟨(Nat.le_of_ble_eq_true rfl), (Nat.le_of_ble_eq_true rfl)⟩) (pre2_V (q0 := 1) (ci := 2) (wc := [(h1, .inr (2, [.int 0, .int 2, .ref h7, .ref h8])), (h7, .inl (κ 3, 4, .inr (.inr (.inr (.inr (sel [h9, h10, h11, h12])))))), (h8, .inl (κ 3, 4, .inr (.inr (.inr (.inr (sel [h13, h14, h15, h16])))))), (h9, .inr (6, [.ref h17, .ref h18, .int 0])), (h10, .inr (6, [.ref h19, .ref h20, .int 0])), (h11, .inr (6, [.ref h21, .ref h22, .int 0])), (h12, .inr (6, [.ref h23, .ref h24, .int 0])), (h13, .inr (6, [.ref h25, .ref h26, .int 0])), (h14, .inr (6, [.ref h27, .ref h28, .int 0])), (h15, .inr (6, [.ref h29, .ref h30, .int 0])), (h16, .inr (6, [.ref h31, .ref h32, .int 0]))]) hP hD hK hE9 hS hA [1, 2, 3, 4, 5, 6, 7, 8, 9, 10, 11] (by decide) rfl rfl rfl) rfl rfl hl.1 rfl (lv_room (Nat.le_of_ble_eq_true rfl)) dX5_addWord_26 ⟨(Nat.le_of_ble_eq_true rfl), (Nat.le_of_ble_eq_true rfl)⟩) hS (fun q _ h => hF q h) hF (fun u1 t H locs ht hvm hw hB hz1 hk1 hS => ?_)
  try dsimp only at hw hB
  obtain ⟨hP1, hD1⟩ := hB
  rw [ht] at hP1
  obtain ⟨hP, hD⟩ := post_j (ws' := [(h0, .inr (7, [.ref h1, .ref h2, .ref h3, .ref h4, .ref h5, .ref h6, .int 0, .int 0, .int 0, .int 0])), (h1, .inr (2, [.int 0, .int 2, .ref h7, .ref h8])), (h7, .inl (κ 3, 4, .inr (.inr (.inr (.inr (sel [h9, h10, h11, h12])))))), (h8, .inl (κ 3, 4, .inr (.inr (.inr (.inr (sel [h13, h14, h15, h16])))))), (h9, .inr (6, [.ref h17, .ref h18, .int 0])), (h10, .inr (6, [.ref h19, .ref h20, .int 0])), (h11, .inr (6, [.ref h21, .ref h22, .int 0])), (h12, .inr (6, [.ref h23, .ref h24, .int 0])), (h13, .inr (6, [.ref h25, .ref h26, .int 0])), (h14, .inr (6, [.ref h27, .ref h28, .int 0])), (h15, .inr (6, [.ref h29, .ref h30, .int 0])), (h16, .inr (6, [.ref h31, .ref h32, .int 0]))]) (wr := [(h0, .inr (7, [.ref h1, .ref h2, .ref h3, .ref h4, .ref h5, .ref h6, .int 0, .int 0, .int 0, .int 0]))]) (w1 := [(h1, .inr (2, [.int 0, .int 2, .ref h7, .ref h8])), (h7, .inl (κ 3, 4, .inr (.inr (.inr (.inr (sel [h9, h10, h11, h12])))))), (h8, .inl (κ 3, 4, .inr (.inr (.inr (.inr (sel [h13, h14, h15, h16])))))), (h9, .inr (6, [.ref h17, .ref h18, .int 0])), (h10, .inr (6, [.ref h19, .ref h20, .int 0])), (h11, .inr (6, [.ref h21, .ref h22, .int 0])), (h12, .inr (6, [.ref h23, .ref h24, .int 0])), (h13, .inr (6, [.ref h25, .ref h26, .int 0])), (h14, .inr (6, [.ref h27, .ref h28, .int 0])), (h15, .inr (6, [.ref h29, .ref h30, .int 0])), (h16, .inr (6, [.ref h31, .ref h32, .int 0]))]) hP hD hF [1, 2, 3, 4, 5, 6, 7, 8, 9, 10, 11] rfl [0] rfl (by decide) (by decide) hk1 hP1 hD1 [0, 1, 2, 3, 4, 5, 6, 7, 8, 9, 10, 11] (by decide) rfl
  have hP : va_P D vwCl [(h0, .inr (7, [.ref h1, .ref h2, .ref h3, .ref h4, .ref h5, .ref h6, .int 0, .int 0, .int 0, .int 0])), (h1, .inr (2, [.int 0, .int 2, .ref h7, .ref h8])), (h7, .inl (κ 3, 4, .inr (.inr (.inr (.inr (sel [h9, h10, h11, h12])))))), (h8, .inl (κ 3, 4, .inr (.inr (.inr (.inr (sel [h13, h14, h15, h16])))))), (h9, .inr (6, [.ref h17, .ref h18, .int 0])), (h10, .inr (6, [.ref h19, .ref h20, .int 0])), (h11, .inr (6, [.ref h21, .ref h22, .int 0])), (h12, .inr (6, [.ref h23, .ref h24, .int 0])), (h13, .inr (6, [.ref h25, .ref h26, .int 0])), (h14, .inr (6, [.ref h27, .ref h28, .int 0])), (h15, .inr (6, [.ref h29, .ref h30, .int 0])), (h16, .inr (6, [.ref h31, .ref h32, .int 0]))] H := hP
  have hD : va_D A [(h0, .inr (7, [.ref h1, .ref h2, .ref h3, .ref h4, .ref h5, .ref h6, .int 0, .int 0, .int 0, .int 0])), (h1, .inr (2, [.int 0, .int 2, .ref h7, .ref h8])), (h7, .inl (κ 3, 4, .inr (.inr (.inr (.inr (sel [h9, h10, h11, h12])))))), (h8, .inl (κ 3, 4, .inr (.inr (.inr (.inr (sel [h13, h14, h15, h16])))))), (h9, .inr (6, [.ref h17, .ref h18, .int 0])), (h10, .inr (6, [.ref h19, .ref h20, .int 0])), (h11, .inr (6, [.ref h21, .ref h22, .int 0])), (h12, .inr (6, [.ref h23, .ref h24, .int 0])), (h13, .inr (6, [.ref h25, .ref h26, .int 0])), (h14, .inr (6, [.ref h27, .ref h28, .int 0])), (h15, .inr (6, [.ref h29, .ref h30, .int 0])), (h16, .inr (6, [.ref h31, .ref h32, .int 0]))] := hD
  refine lv_aload_n hx hb dX5_addWord_29 rfl (lv_at hl 0 rfl) ?_
  refine lv_iconst (v := 0) hx hb dX5_addWord_30 (by decide) ?_
  refine va_put (D := D) (ci := 7) (v := .int 0) (ty := .int) (C := RX5) (T := TX5) (N := 10) hx hb hts wi_X5_addWord_RX5 tyX5 tyX5_ok nmX5 hown hK hP hD hS 0 rfl rfl 6 (by decide) (hts _ wd128_X5_addWord) (fun _ h9 => h9) rfl (by decide +kernel) rfl rfl (Nat.le_of_ble_eq_true rfl) dX5_addWord_31 (fun H locs hP hD hS => ?_)
  have hP : va_P D vwCl [(h0, .inr (7, [.ref h1, .ref h2, .ref h3, .ref h4, .ref h5, .ref h6, .int 0, .int 0, .int 0, .int 0])), (h1, .inr (2, [.int 0, .int 2, .ref h7, .ref h8])), (h7, .inl (κ 3, 4, .inr (.inr (.inr (.inr (sel [h9, h10, h11, h12])))))), (h8, .inl (κ 3, 4, .inr (.inr (.inr (.inr (sel [h13, h14, h15, h16])))))), (h9, .inr (6, [.ref h17, .ref h18, .int 0])), (h10, .inr (6, [.ref h19, .ref h20, .int 0])), (h11, .inr (6, [.ref h21, .ref h22, .int 0])), (h12, .inr (6, [.ref h23, .ref h24, .int 0])), (h13, .inr (6, [.ref h25, .ref h26, .int 0])), (h14, .inr (6, [.ref h27, .ref h28, .int 0])), (h15, .inr (6, [.ref h29, .ref h30, .int 0])), (h16, .inr (6, [.ref h31, .ref h32, .int 0]))] H := hP
  have hD : va_D A [(h0, .inr (7, [.ref h1, .ref h2, .ref h3, .ref h4, .ref h5, .ref h6, .int 0, .int 0, .int 0, .int 0])), (h1, .inr (2, [.int 0, .int 2, .ref h7, .ref h8])), (h7, .inl (κ 3, 4, .inr (.inr (.inr (.inr (sel [h9, h10, h11, h12])))))), (h8, .inl (κ 3, 4, .inr (.inr (.inr (.inr (sel [h13, h14, h15, h16])))))), (h9, .inr (6, [.ref h17, .ref h18, .int 0])), (h10, .inr (6, [.ref h19, .ref h20, .int 0])), (h11, .inr (6, [.ref h21, .ref h22, .int 0])), (h12, .inr (6, [.ref h23, .ref h24, .int 0])), (h13, .inr (6, [.ref h25, .ref h26, .int 0])), (h14, .inr (6, [.ref h27, .ref h28, .int 0])), (h15, .inr (6, [.ref h29, .ref h30, .int 0])), (h16, .inr (6, [.ref h31, .ref h32, .int 0]))] := hD
  refine lv_aload_n hx hb dX5_addWord_34 rfl (lv_at hl 0 rfl) ?_
  refine va_get (D := D) (ci := 7) (v := .ref h1) (C := RX5) (T := TX5) (N := 10) hx hb hts wi_X5_addWord_RX5 hown hK hP 0 rfl rfl 0 (by decide) (hts _ wd126_X5_addWord) (fun _ h9 => h9) rfl dX5_addWord_35 ?_
  refine lv_dup hx hb dX5_addWord_38 rfl ?_
  refine va_get (D := D) (ci := 2) (v := .int 0) (C := RX0) (T := TX0) (N := 4) hx hb hts wi_X5_addWord_RX0 hown hK hP 1 rfl rfl 0 (by decide) (hts _ wd127_X5_addWord) (fun _ h9 => h9) rfl dX5_addWord_39 ?_
  refine lv_iconst (v := 1) hx hb dX5_addWord_42 (by decide) ?_
  refine lv_iadd hx hb dX5_addWord_43 ?_
  refine tpi (v := 1) (by decide) ?_
  refine va_put (D := D) (ci := 2) (v := .int 1) (ty := .int) (C := RX0) (T := TX0) (N := 4) hx hb hts wi_X5_addWord_RX0 tyX0 tyX0_ok nmX0 hown hK hP hD hS 1 rfl rfl 0 (by decide) (hts _ wd127_X5_addWord) (fun _ h9 => h9) rfl (by decide +kernel) rfl rfl (Nat.le_of_ble_eq_true rfl) dX5_addWord_44 (fun H locs hP hD hS => ?_)
  have hP : va_P D vwCl [(h0, .inr (7, [.ref h1, .ref h2, .ref h3, .ref h4, .ref h5, .ref h6, .int 0, .int 0, .int 0, .int 0])), (h1, .inr (2, [.int 1, .int 2, .ref h7, .ref h8])), (h7, .inl (κ 3, 4, .inr (.inr (.inr (.inr (sel [h9, h10, h11, h12])))))), (h8, .inl (κ 3, 4, .inr (.inr (.inr (.inr (sel [h13, h14, h15, h16])))))), (h9, .inr (6, [.ref h17, .ref h18, .int 0])), (h10, .inr (6, [.ref h19, .ref h20, .int 0])), (h11, .inr (6, [.ref h21, .ref h22, .int 0])), (h12, .inr (6, [.ref h23, .ref h24, .int 0])), (h13, .inr (6, [.ref h25, .ref h26, .int 0])), (h14, .inr (6, [.ref h27, .ref h28, .int 0])), (h15, .inr (6, [.ref h29, .ref h30, .int 0])), (h16, .inr (6, [.ref h31, .ref h32, .int 0]))] H := hP
  have hD : va_D A [(h0, .inr (7, [.ref h1, .ref h2, .ref h3, .ref h4, .ref h5, .ref h6, .int 0, .int 0, .int 0, .int 0])), (h1, .inr (2, [.int 1, .int 2, .ref h7, .ref h8])), (h7, .inl (κ 3, 4, .inr (.inr (.inr (.inr (sel [h9, h10, h11, h12])))))), (h8, .inl (κ 3, 4, .inr (.inr (.inr (.inr (sel [h13, h14, h15, h16])))))), (h9, .inr (6, [.ref h17, .ref h18, .int 0])), (h10, .inr (6, [.ref h19, .ref h20, .int 0])), (h11, .inr (6, [.ref h21, .ref h22, .int 0])), (h12, .inr (6, [.ref h23, .ref h24, .int 0])), (h13, .inr (6, [.ref h25, .ref h26, .int 0])), (h14, .inr (6, [.ref h27, .ref h28, .int 0])), (h15, .inr (6, [.ref h29, .ref h30, .int 0])), (h16, .inr (6, [.ref h31, .ref h32, .int 0]))] := hD
  refine lv_aload_n hx hb dX5_addWord_47 rfl (lv_at hl 0 rfl) ?_
  refine va_get (D := D) (ci := 7) (v := .ref h1) (C := RX5) (T := TX5) (N := 10) hx hb hts wi_X5_addWord_RX5 hown hK hP 0 rfl rfl 0 (by decide) (hts _ wd126_X5_addWord) (fun _ h9 => h9) rfl dX5_addWord_48 ?_
  refine va_get (D := D) (ci := 2) (v := .int 1) (C := RX0) (T := TX0) (N := 4) hx hb hts wi_X5_addWord_RX0 hown hK hP 1 rfl rfl 0 (by decide) (hts _ wd127_X5_addWord) (fun _ h9 => h9) rfl dX5_addWord_51 ?_
  refine lv_iconst (v := 1) hx hb dX5_addWord_54 (by decide) ?_
  refine lv_isub hx hb dX5_addWord_55 ?_
  refine tpi (v := 0) (by decide) ?_
  exact W.iret (v := 0) hx hb hr (fun t ht hW => ⟨⟨0, (), rfl, rfl, trivial⟩, hS.F ht⟩) hS.2.2 dX5_addWord_56

set_option maxHeartbeats 4000000 in
set_option maxRecDepth 100000 in
theorem k_L_addWord_0 (l : Launch) (hst : l.stackTraces = false) (D : va_G) (κ ε : Nat → Nat) (h0 h1 h2 h3 h4 h5 h6 h7 h8 h9 h10 h11 h12 h13 h14 h15 h16 h17 h18 h19 h20 h21 h22 h23 h24 h25 h26 h27 h28 h29 h30 h31 h32 h33 : Nat) (sz : Nat) : Met l yL_addWord wsL_addWord ({ frames := 4, cells := 0, slots := 0, locals := 80 }) (va_Pc [.ref h0, .ref h1] (Pre2 D κ ε [(h0, .inr (7, [.ref h2, .ref h3, .ref h4, .ref h5, .ref h6, .ref h7, .int 0, .int 0, .int 0, .int 0])), (h1, .inl (κ 2, 1, .inr (.inl (fun _ => 0)))), (h2, .inr (2, [.int 0, .int 2, .ref h8, .ref h9])), (h8, .inl (κ 3, 4, .inr (.inr (.inr (.inr (sel [h10, h11, h12, h13])))))), (h9, .inl (κ 3, 4, .inr (.inr (.inr (.inr (sel [h14, h15, h16, h17])))))), (h10, .inr (6, [.ref h18, .ref h19, .int 0])), (h11, .inr (6, [.ref h20, .ref h21, .int 0])), (h12, .inr (6, [.ref h22, .ref h23, .int 0])), (h13, .inr (6, [.ref h24, .ref h25, .int 0])), (h14, .inr (6, [.ref h26, .ref h27, .int 0])), (h15, .inr (6, [.ref h28, .ref h29, .int 0])), (h16, .inr (6, [.ref h30, .ref h31, .int 0])), (h17, .inr (6, [.ref h32, .ref h33, .int 0]))] sz)) (va_Qi (fun r (u : Nat → Int64) => (u 0 = 0) ∧ (r = 0)) (fun u t => va_P D vwCl [(h1, .inl (κ 2, 1, .inr (.inl u)))] t.heap ∧ va_D (va_A [(h0, .inr (7, [.ref h2, .ref h3, .ref h4, .ref h5, .ref h6, .ref h7, .int 0, .int 0, .int 0, .int 0])), (h1, .inl (κ 2, 1, .inr (.inl (fun _ => 0)))), (h2, .inr (2, [.int 0, .int 2, .ref h8, .ref h9])), (h8, .inl (κ 3, 4, .inr (.inr (.inr (.inr (sel [h10, h11, h12, h13])))))), (h9, .inl (κ 3, 4, .inr (.inr (.inr (.inr (sel [h14, h15, h16, h17])))))), (h10, .inr (6, [.ref h18, .ref h19, .int 0])), (h11, .inr (6, [.ref h20, .ref h21, .int 0])), (h12, .inr (6, [.ref h22, .ref h23, .int 0])), (h13, .inr (6, [.ref h24, .ref h25, .int 0])), (h14, .inr (6, [.ref h26, .ref h27, .int 0])), (h15, .inr (6, [.ref h28, .ref h29, .int 0])), (h16, .inr (6, [.ref h30, .ref h31, .int 0])), (h17, .inr (6, [.ref h32, .ref h33, .int 0]))] sz) [(h1, .inl (κ 2, 1, .inr (.inl u)))]) (va_A [(h0, .inr (7, [.ref h2, .ref h3, .ref h4, .ref h5, .ref h6, .ref h7, .int 0, .int 0, .int 0, .int 0])), (h1, .inl (κ 2, 1, .inr (.inl (fun _ => 0)))), (h2, .inr (2, [.int 0, .int 2, .ref h8, .ref h9])), (h8, .inl (κ 3, 4, .inr (.inr (.inr (.inr (sel [h10, h11, h12, h13])))))), (h9, .inl (κ 3, 4, .inr (.inr (.inr (.inr (sel [h14, h15, h16, h17])))))), (h10, .inr (6, [.ref h18, .ref h19, .int 0])), (h11, .inr (6, [.ref h20, .ref h21, .int 0])), (h12, .inr (6, [.ref h22, .ref h23, .int 0])), (h13, .inr (6, [.ref h24, .ref h25, .int 0])), (h14, .inr (6, [.ref h26, .ref h27, .int 0])), (h15, .inr (6, [.ref h28, .ref h29, .int 0])), (h16, .inr (6, [.ref h30, .ref h31, .int 0])), (h17, .inr (6, [.ref h32, .ref h33, .int 0]))] sz)) 0 0 (va_A [(h0, .inr (7, [.ref h2, .ref h3, .ref h4, .ref h5, .ref h6, .ref h7, .int 0, .int 0, .int 0, .int 0])), (h1, .inl (κ 2, 1, .inr (.inl (fun _ => 0)))), (h2, .inr (2, [.int 0, .int 2, .ref h8, .ref h9])), (h8, .inl (κ 3, 4, .inr (.inr (.inr (.inr (sel [h10, h11, h12, h13])))))), (h9, .inl (κ 3, 4, .inr (.inr (.inr (.inr (sel [h14, h15, h16, h17])))))), (h10, .inr (6, [.ref h18, .ref h19, .int 0])), (h11, .inr (6, [.ref h20, .ref h21, .int 0])), (h12, .inr (6, [.ref h22, .ref h23, .int 0])), (h13, .inr (6, [.ref h24, .ref h25, .int 0])), (h14, .inr (6, [.ref h26, .ref h27, .int 0])), (h15, .inr (6, [.ref h28, .ref h29, .int 0])), (h16, .inr (6, [.ref h30, .ref h31, .int 0])), (h17, .inr (6, [.ref h32, .ref h33, .int 0]))] sz) := by
  refine va_MetW (cc := cL_addWord) (maxL := 3) (ret := (some .int)) (hh := [(0, 8, 11, 13)]) (by decide) rfl ?_
  intro p e s m args below meth c s₁ B hml hv
  obtain ⟨rfl, hsz, hP, hK, hD0, hE9⟩ := hv
  have hx := B.exec
  have hb := B.bytes
  have hr := B.returns
  have hts := atoms_spec (ws := wsL_addWord) B.pre
  have hown : s.vm.findClass RL = some m.cls := findClass_of_methodNamed B.named
  have hlocks := B.notSynchronized
  have htab : c.exceptionTable.toList = tableOf [(0, 8, 11, 13)] := vx_table (x := yL_addWord) B (hts (.codeWith yL_addWord cL_addWord 3 (some .int) [(0, 8, 11, 13)]) List.mem_cons_self)
  subst hsz
  have hD := hD0.self (sz := s.heap.size)
  generalize hAe : va_A [(h0, .inr (7, [.ref h2, .ref h3, .ref h4, .ref h5, .ref h6, .ref h7, .int 0, .int 0, .int 0, .int 0])), (h1, .inl (κ 2, 1, .inr (.inl (fun _ => 0)))), (h2, .inr (2, [.int 0, .int 2, .ref h8, .ref h9])), (h8, .inl (κ 3, 4, .inr (.inr (.inr (.inr (sel [h10, h11, h12, h13])))))), (h9, .inl (κ 3, 4, .inr (.inr (.inr (.inr (sel [h14, h15, h16, h17])))))), (h10, .inr (6, [.ref h18, .ref h19, .int 0])), (h11, .inr (6, [.ref h20, .ref h21, .int 0])), (h12, .inr (6, [.ref h22, .ref h23, .int 0])), (h13, .inr (6, [.ref h24, .ref h25, .int 0])), (h14, .inr (6, [.ref h26, .ref h27, .int 0])), (h15, .inr (6, [.ref h28, .ref h29, .int 0])), (h16, .inr (6, [.ref h30, .ref h31, .int 0])), (h17, .inr (6, [.ref h32, .ref h33, .int 0]))] s.heap.size = A at hD hE9 ⊢
  have hE := hE9.1
  have hDc := hE9.2
  have hA : ∀ q : Nat, s.heap.size ≤ q → A q := fun q h => by rw [← hAe]; exact Or.inr h
  have hS : va_S A s.heap s.heap [] := va_S.rf
  have hP : va_P D vwCl [(h0, .inr (7, [.ref h2, .ref h3, .ref h4, .ref h5, .ref h6, .ref h7, .int 0, .int 0, .int 0, .int 0])), (h1, .inl (κ 2, 1, .inr (.inl (fun _ => 0)))), (h2, .inr (2, [.int 0, .int 2, .ref h8, .ref h9])), (h8, .inl (κ 3, 4, .inr (.inr (.inr (.inr (sel [h10, h11, h12, h13])))))), (h9, .inl (κ 3, 4, .inr (.inr (.inr (.inr (sel [h14, h15, h16, h17])))))), (h10, .inr (6, [.ref h18, .ref h19, .int 0])), (h11, .inr (6, [.ref h20, .ref h21, .int 0])), (h12, .inr (6, [.ref h22, .ref h23, .int 0])), (h13, .inr (6, [.ref h24, .ref h25, .int 0])), (h14, .inr (6, [.ref h26, .ref h27, .int 0])), (h15, .inr (6, [.ref h28, .ref h29, .int 0])), (h16, .inr (6, [.ref h30, .ref h31, .int 0])), (h17, .inr (6, [.ref h32, .ref h33, .int 0]))] s.heap := hP
  have hl := lv_entry [.ref h0, .ref h1] (n := 3) (Nat.le_of_ble_eq_true rfl)
  rw [lg_entry_eq]
  generalize (lg_sl [.ref h0, .ref h1] ++ List.replicate (3 - (lg_sl [.ref h0, .ref h1]).length) Slot.unset).toArray = ls at hl ⊢
  have hl : lv_has ls 3 [(0, .ref h0), (1, .ref h1)] := hl
  refine lv_aload_n hx hb dL_addWord_0 rfl (lv_at hl 1 rfl) ?_
  refine lv_iconst (v := 0) hx hb dL_addWord_1 (by decide) ?_
  refine lv_aload_n hx hb dL_addWord_2 rfl (lv_at hl 0 rfl) ?_
  have hF := va_free (wc := [(h0, .inr (7, [.ref h2, .ref h3, .ref h4, .ref h5, .ref h6, .ref h7, .int 0, .int 0, .int 0, .int 0])), (h2, .inr (2, [.int 0, .int 2, .ref h8, .ref h9])), (h8, .inl (κ 3, 4, .inr (.inr (.inr (.inr (sel [h10, h11, h12, h13])))))), (h9, .inl (κ 3, 4, .inr (.inr (.inr (.inr (sel [h14, h15, h16, h17])))))), (h10, .inr (6, [.ref h18, .ref h19, .int 0])), (h11, .inr (6, [.ref h20, .ref h21, .int 0])), (h12, .inr (6, [.ref h22, .ref h23, .int 0])), (h13, .inr (6, [.ref h24, .ref h25, .int 0])), (h14, .inr (6, [.ref h26, .ref h27, .int 0])), (h15, .inr (6, [.ref h28, .ref h29, .int 0])), (h16, .inr (6, [.ref h30, .ref h31, .int 0])), (h17, .inr (6, [.ref h32, .ref h33, .int 0]))]) hD hS hA [0, 2, 3, 4, 5, 6, 7, 8, 9, 10, 11, 12] rfl
  refine va_calli (va_runV (As := []) (rest := [.int 0, .ref h1]) ⟨hx, hb, hml, hown, hts⟩ (k_X5_addWord_0 l D κ ε h0 h2 h3 h4 h5 h6 h7 h8 h9 h10 h11 h12 h13 h14 h15 h16 h17 h18 h19 h20 h21 h22 h23 h24 h25 h26 h27 h28 h29 h30 h31 h32 h33 s.heap.size) (cwV 0 hts gL_addWord_X5_addWord rfl rfl rfl (by decide +kernel) ⟨(Nat.le_of_ble_eq_true rfl), (Nat.le_of_ble_eq_true rfl)⟩) (pre2_V (q0 := 0) (ci := 7) (wc := [(h0, .inr (7, [.ref h2, .ref h3, .ref h4, .ref h5, .ref h6, .ref h7, .int 0, .int 0, .int 0, .int 0])), (h2, .inr (2, [.int 0, .int 2, .ref h8, .ref h9])), (h8, .inl (κ 3, 4, .inr (.inr (.inr (.inr (sel [h10, h11, h12, h13])))))), (h9, .inl (κ 3, 4, .inr (.inr (.inr (.inr (sel [h14, h15, h16, h17])))))), (h10, .inr (6, [.ref h18, .ref h19, .int 0])), (h11, .inr (6, [.ref h20, .ref h21, .int 0])), (h12, .inr (6, [.ref h22, .ref h23, .int 0])), (h13, .inr (6, [.ref h24, .ref h25, .int 0])), (h14, .inr (6, [.ref h26, .ref h27, .int 0])), (h15, .inr (6, [.ref h28, .ref h29, .int 0])), (h16, .inr (6, [.ref h30, .ref h31, .int 0])), (h17, .inr (6, [.ref h32, .ref h33, .int 0]))]) hP hD hK hE9 hS hA [0, 2, 3, 4, 5, 6, 7, 8, 9, 10, 11, 12] (by decide) rfl rfl rfl) rfl rfl hl.1 rfl (lv_room (Nat.le_of_ble_eq_true rfl)) dL_addWord_3 ⟨(Nat.le_of_ble_eq_true rfl), (Nat.le_of_ble_eq_true rfl)⟩) hS (fun q _ h => hF q h) hF (fun r u1 t H locs ht hvm hw hB hz1 hk1 hS => ?_)
  try dsimp only at hw hB
  have hP1 : va_P D vwCl [] H := P_nil
  obtain ⟨hP, hD⟩ := post_j (ws' := [(h1, .inl (κ 2, 1, .inr (.inl (fun _ => 0))))]) (wr := [(h1, .inl (κ 2, 1, .inr (.inl (fun _ => 0))))]) (w1 := []) hP hD hF [0, 2, 3, 4, 5, 6, 7, 8, 9, 10, 11, 12] rfl [1] rfl (by decide) (by decide) hk1 hP1 D_nil [0] (by decide) rfl
  have hP : va_P D vwCl [(h1, .inl (κ 2, 1, .inr (.inl (fun _ => 0))))] H := hP
  have hD : va_D A [(h1, .inl (κ 2, 1, .inr (.inl (fun _ => 0))))] := hD
  rw [hw]
  refine lv_i2l (v := 0) hx hb dL_addWord_6 (by decide) ?_
  refine va_last (cA := κ 2) (n := 1) (f := (fun _ => 0)) hx hb hK hP hD hS 0 2 rfl rfl (vpl (by decide)) dL_addWord_7 (fun H locs hP hD hS => ?_)
  have hP : va_P D vwCl [(h1, .inl (κ 2, 1, .inr (.inl (vp_updL (fun _ => 0) 0 0))))] H := hP
  have hD : va_D A [(h1, .inl (κ 2, 1, .inr (.inl (vp_updL (fun _ => 0) 0 0))))] := hD
  refine lv_goto (tgt := 14) hx hb dL_addWord_8 (by decide) ?_
  refine lv_iconst (v := 0) hx hb dL_addWord_14 (by decide) ?_
  have hP9 := hP.sub (ws' := [(h1, .inl (κ 2, 1, .inr (.inl (vp_updL (fun _ => 0) 0 0))))]) [0] rfl
  have hD9 := hD.sub (ws' := [(h1, .inl (κ 2, 1, .inr (.inl (vp_updL (fun _ => 0) 0 0))))]) [0] (by decide) rfl
  exact W.iret (v := 0) hx hb hr (fun t ht hW => ⟨⟨0, (vp_updL (fun _ => 0) 0 0), rfl, ⟨rfl, rfl⟩, by rw [ht]; exact hP9, hD9⟩, hS.F ht⟩) hS.2.2 dL_addWord_15

theorem wi_X6_refuse_RX6 : ∀ w ∈ u_ws RX6 TX6 11, w ∈ wsX6_refuse := by decide +kernel

theorem wd129_X6_refuse : (.fieldLink RX6 36 "CanticleModel" "thrown" "I" : Cond) ∈ wsX6_refuse := by decide +kernel

set_option maxHeartbeats 4000000 in
set_option maxRecDepth 100000 in
theorem k_X6_refuse_0 (l : Launch) (D : va_G) (κ ε : Nat → Nat) (h0 h1 h2 h3 : Nat) (p0 : Int32) (p1 : Int32) (p2 : Int32) (p3 : Int32) (p4 : Int32) (p5 : Int32) : Met l yX6_refuse wsX6_refuse ({ frames := 0, cells := 0, slots := 0, locals := 0 }) (va_Pc [.ref h0, .int 0, .int 1] (Pre0 D κ [(h0, .inr (8, [.int 0, .int p0, .int p1, .ref h1, .ref h2, .int p2, .int p3, .int p4, .int p5, .int 0, .ref h3]))])) (vp_Si (fun r => (r = 0))) 0 0 (fun _ => False) := by
  refine Met.ofW (cc := cX6_refuse) (maxL := 3) (ret := (some .boolean)) (by decide) rfl ?_
  intro p e s m args below meth c s₁ B hml hv
  obtain ⟨rfl, hP, hK⟩ := hv
  have hx := B.exec
  have hb := B.bytes
  have hr := B.returns
  have hts := atoms_spec (ws := wsX6_refuse) B.pre
  have hown : s.vm.findClass RX6 = some m.cls := findClass_of_methodNamed B.named
  have hlocks := B.notSynchronized
  have hP : va_P D vwCl [(h0, .inr (8, [.int 0, .int p0, .int p1, .ref h1, .ref h2, .int p2, .int p3, .int p4, .int p5, .int 0, .ref h3]))] s.heap := hP
  have hl := lv_entry [.ref h0, .int 0, .int 1] (n := 3) (Nat.le_of_ble_eq_true rfl)
  rw [lg_entry_eq]
  generalize (lg_sl [.ref h0, .int 0, .int 1] ++ List.replicate (3 - (lg_sl [.ref h0, .int 0, .int 1]).length) Slot.unset).toArray = ls at hl ⊢
  have hl : lv_has ls 3 [(0, .ref h0), (1, .int 0), (2, .int 1)] := hl
  refine lv_iload_n hx hb dX6_refuse_0 rfl (lv_at hl 1 rfl) ?_
  refine lv_if_eq (tgt := 16) hx hb dX6_refuse_1 (by decide) (fun _ => ?_) (fun h => absurd (by decide) h)
  refine lv_aload_n hx hb dX6_refuse_16 rfl (lv_at hl 0 rfl) ?_
  refine va_get (D := D) (ci := 8) (v := .int 0) (C := RX6) (T := TX6) (N := 11) hx hb hts wi_X6_refuse_RX6 hown hK hP 0 rfl rfl 0 (by decide) (hts _ wd129_X6_refuse) (fun _ h9 => h9) rfl dX6_refuse_17 ?_
  refine lv_if_le (tgt := 27) hx hb dX6_refuse_20 (by decide) (fun _ => ?_) (fun h => absurd (by decide) h)
  refine lv_iconst (v := 0) hx hb dX6_refuse_27 (by decide) ?_
  exact W.zret (v := 0) hx hb hr rfl (fun t ht hW => ⟨0, rfl, rfl, ht⟩) (fun q hq => absurd hq List.not_mem_nil) dX6_refuse_28

theorem wi_X6_start_RX6 : ∀ w ∈ u_ws RX6 TX6 11, w ∈ wsX6_start := by decide +kernel

theorem wd130_X6_start : (.fieldLink RX6 36 "CanticleModel" "thrown" "I" : Cond) ∈ wsX6_start := by decide +kernel

set_option maxHeartbeats 4000000 in
set_option maxRecDepth 100000 in
theorem k_X6_start_0 (l : Launch) (D : va_G) (κ ε : Nat → Nat) (h0 h1 h2 h3 : Nat) (sz : Nat) (p0 : Int32) (p1 : Int32) (p2 : Int32) (p3 : Int32) (p4 : Int32) (p5 : Int32) : Met l yX6_start wsX6_start ({ frames := 1, cells := 0, slots := 0, locals := 22 }) (va_Pc [.ref h0, .int 0, .int 1] (Pre2 D κ ε [(h0, .inr (8, [.int 0, .int p0, .int p1, .ref h1, .ref h2, .int p2, .int p3, .int p4, .int p5, .int 0, .ref h3]))] sz)) (va_Qi (fun r (u : Unit) => (r = 0)) (fun u t => va_P D vwCl [(h0, .inr (8, [.int 0, .int p0, .int p1, .ref h1, .ref h2, .int p2, .int p3, .int p4, .int p5, .int 0, .ref h3]))] t.heap ∧ va_D (va_A [(h0, .inr (8, [.int 0, .int p0, .int p1, .ref h1, .ref h2, .int p2, .int p3, .int p4, .int p5, .int 0, .ref h3]))] sz) [(h0, .inr (8, [.int 0, .int p0, .int p1, .ref h1, .ref h2, .int p2, .int p3, .int p4, .int p5, .int 0, .ref h3]))]) (va_A [(h0, .inr (8, [.int 0, .int p0, .int p1, .ref h1, .ref h2, .int p2, .int p3, .int p4, .int p5, .int 0, .ref h3]))] sz)) 0 0 (va_A [(h0, .inr (8, [.int 0, .int p0, .int p1, .ref h1, .ref h2, .int p2, .int p3, .int p4, .int p5, .int 0, .ref h3]))] sz) := by
  refine Met.ofW (cc := cX6_start) (maxL := 3) (ret := (some .boolean)) (by decide) rfl ?_
  intro p e s m args below meth c s₁ B hml hv
  obtain ⟨rfl, hsz, hP, hK, hD0, hE9⟩ := hv
  have hx := B.exec
  have hb := B.bytes
  have hr := B.returns
  have hts := atoms_spec (ws := wsX6_start) B.pre
  have hown : s.vm.findClass RX6 = some m.cls := findClass_of_methodNamed B.named
  have hlocks := B.notSynchronized
  subst hsz
  have hD := hD0.self (sz := s.heap.size)
  generalize hAe : va_A [(h0, .inr (8, [.int 0, .int p0, .int p1, .ref h1, .ref h2, .int p2, .int p3, .int p4, .int p5, .int 0, .ref h3]))] s.heap.size = A at hD hE9 ⊢
  have hE := hE9.1
  have hDc := hE9.2
  have hA : ∀ q : Nat, s.heap.size ≤ q → A q := fun q h => by rw [← hAe]; exact Or.inr h
  have hS : va_S A s.heap s.heap [] := va_S.rf
  have hP : va_P D vwCl [(h0, .inr (8, [.int 0, .int p0, .int p1, .ref h1, .ref h2, .int p2, .int p3, .int p4, .int p5, .int 0, .ref h3]))] s.heap := hP
  have hl := lv_entry [.ref h0, .int 0, .int 1] (n := 3) (Nat.le_of_ble_eq_true rfl)
  rw [lg_entry_eq]
  generalize (lg_sl [.ref h0, .int 0, .int 1] ++ List.replicate (3 - (lg_sl [.ref h0, .int 0, .int 1]).length) Slot.unset).toArray = ls at hl ⊢
  have hl : lv_has ls 3 [(0, .ref h0), (1, .int 0), (2, .int 1)] := hl
  refine lv_aload_n hx hb dX6_start_0 rfl (lv_at hl 0 rfl) ?_
  refine lv_iconst (v := 0) hx hb dX6_start_1 (by decide) ?_
  refine va_put (D := D) (ci := 8) (v := .int 0) (ty := .int) (C := RX6) (T := TX6) (N := 11) hx hb hts wi_X6_start_RX6 tyX6 tyX6_ok nmX6 hown hK hP hD hS 0 rfl rfl 0 (by decide) (hts _ wd130_X6_start) (fun _ h9 => h9) rfl (by decide +kernel) rfl rfl (Nat.le_of_ble_eq_true rfl) dX6_start_2 (fun H locs hP hD hS => ?_)
  have hP : va_P D vwCl [(h0, .inr (8, [.int 0, .int p0, .int p1, .ref h1, .ref h2, .int p2, .int p3, .int p4, .int p5, .int 0, .ref h3]))] H := hP
  have hD : va_D A [(h0, .inr (8, [.int 0, .int p0, .int p1, .ref h1, .ref h2, .int p2, .int p3, .int p4, .int p5, .int 0, .ref h3]))] := hD
  refine lv_aload_n hx hb dX6_start_5 rfl (lv_at hl 0 rfl) ?_
  refine lv_iload_n hx hb dX6_start_6 rfl (lv_at hl 1 rfl) ?_
  refine lv_iload_n hx hb dX6_start_7 rfl (lv_at hl 2 rfl) ?_
  refine vp_callSi (W.runV (As := [.int 0, .int 1]) (rest := []) ⟨hx, hb, hml, hown, hts⟩ (k_X6_refuse_0 l D κ ε h0 h1 h2 h3 (p0) (p1) (p2) (p3) (p4) (p5)) (cwV 2 hts gX6_start_X6_refuse rfl rfl rfl (by decide +kernel) ⟨(Nat.le_of_ble_eq_true rfl), (Nat.le_of_ble_eq_true rfl)⟩) (pre0_V (q0 := 0) (ci := 8) (wc := [(h0, .inr (8, [.int 0, .int p0, .int p1, .ref h1, .ref h2, .int p2, .int p3, .int p4, .int p5, .int 0, .ref h3]))]) hP hK [0] rfl rfl rfl) rfl rfl hl.1 rfl (lv_room (Nat.le_of_ble_eq_true rfl)) dX6_start_8 ⟨(Nat.le_of_ble_eq_true rfl), (Nat.le_of_ble_eq_true rfl)⟩) (fun r hw => ?_)
  rw [hw]
  have hP9 := hP
  have hD9 := hD
  exact W.zret (v := 0) hx hb hr rfl (fun t ht hW => ⟨⟨0, (), rfl, rfl, by rw [ht]; exact hP9, hD9⟩, hS.F ht⟩) hS.2.2 dX6_start_11

theorem wi_X6_addWord_RX6 : ∀ w ∈ u_ws RX6 TX6 11, w ∈ wsX6_addWord := by decide +kernel

theorem wd131_X6_addWord : (.fieldLink RX6 56 "CanticleModel" "words" "I" : Cond) ∈ wsX6_addWord := by decide +kernel

theorem wd132_X6_addWord : (.fieldLink RX6 24 "CanticleModel" "counts" "[[I" : Cond) ∈ wsX6_addWord := by decide +kernel

theorem wi_X6_addWord_RJx4a65c : ∀ w ∈ u_ws RJx4a65c TJx4a65c 3, w ∈ wsX6_addWord := by decide +kernel

theorem wd133_X6_addWord : (.classLink RX6 13 RJx4a65c : Cond) ∈ wsX6_addWord := by decide +kernel

theorem wd134_X6_addWord : (.instantiable RJx4a65c 3 : Cond) ∈ wsX6_addWord := by decide +kernel

theorem wd135_X6_addWord : (.initialized RJx4a65c : Cond) ∈ wsX6_addWord := by decide +kernel

theorem wd136_X6_addWord : (.methodLink RX6 15 yJx4a65c_init_da8c8 : Cond) ∈ wsX6_addWord := by decide +kernel

theorem wd137_X6_addWord : (.instanceMethod yJx4a65c_init_da8c8 : Cond) ∈ wsX6_addWord := by decide +kernel

theorem wd138_X6_addWord : (.fieldLink RX6 16 "CanticleModel" "sentence" "Ljava/util/ArrayList;" : Cond) ∈ wsX6_addWord := by decide +kernel

set_option maxHeartbeats 4000000 in
set_option maxRecDepth 100000 in
theorem k_X6_addWord_0 (l : Launch) (D : va_G) (κ ε : Nat → Nat) (h0 h1 h2 h3 : Nat) (sz : Nat) : Met l yX6_addWord wsX6_addWord ({ frames := 4, cells := 6, slots := 41377, locals := 72 }) (va_Pc [.ref h0] (Pre2 D κ ε [(h0, .inr (8, [.int 0, .int 0, .int 2, .ref h1, .ref h2, .int 0, .int 500, .int 0, .int 0, .int 0, .ref h3]))] sz)) (va_Qi (fun r (u : List Value) => (u[0]? = some (.int 0)) ∧ (r = 0)) (fun u t => va_P D vwCl [(h0, .inr (8, u))] t.heap ∧ va_D (va_A [(h0, .inr (8, [.int 0, .int 0, .int 2, .ref h1, .ref h2, .int 0, .int 500, .int 0, .int 0, .int 0, .ref h3]))] sz) [(h0, .inr (8, u))]) (va_A [(h0, .inr (8, [.int 0, .int 0, .int 2, .ref h1, .ref h2, .int 0, .int 500, .int 0, .int 0, .int 0, .ref h3]))] sz)) 6 41377 (va_A [(h0, .inr (8, [.int 0, .int 0, .int 2, .ref h1, .ref h2, .int 0, .int 500, .int 0, .int 0, .int 0, .ref h3]))] sz) := by
  refine Met.ofW (cc := cX6_addWord) (maxL := 1) (ret := (some .int)) (by decide) rfl ?_
  intro p e s m args below meth c s₁ B hml hv
  obtain ⟨rfl, hsz, hP, hK, hD0, hE9⟩ := hv
  have hx := B.exec
  have hb := B.bytes
  have hr := B.returns
  have hts := atoms_spec (ws := wsX6_addWord) B.pre
  have hown : s.vm.findClass RX6 = some m.cls := findClass_of_methodNamed B.named
  have hlocks := B.notSynchronized
  subst hsz
  have hD := hD0.self (sz := s.heap.size)
  generalize hAe : va_A [(h0, .inr (8, [.int 0, .int 0, .int 2, .ref h1, .ref h2, .int 0, .int 500, .int 0, .int 0, .int 0, .ref h3]))] s.heap.size = A at hD hE9 ⊢
  have hE := hE9.1
  have hDc := hE9.2
  have hA : ∀ q : Nat, s.heap.size ≤ q → A q := fun q h => by rw [← hAe]; exact Or.inr h
  have hS : va_S A s.heap s.heap [] := va_S.rf
  have hP : va_P D vwCl [(h0, .inr (8, [.int 0, .int 0, .int 2, .ref h1, .ref h2, .int 0, .int 500, .int 0, .int 0, .int 0, .ref h3]))] s.heap := hP
  have hl := lv_entry [.ref h0] (n := 1) (Nat.le_of_ble_eq_true rfl)
  rw [lg_entry_eq]
  generalize (lg_sl [.ref h0] ++ List.replicate (1 - (lg_sl [.ref h0]).length) Slot.unset).toArray = ls at hl ⊢
  have hl : lv_has ls 1 [(0, .ref h0)] := hl
  refine lv_aload_n hx hb dX6_addWord_0 rfl (lv_at hl 0 rfl) ?_
  refine lv_aload_n hx hb dX6_addWord_1 rfl (lv_at hl 0 rfl) ?_
  refine va_get (D := D) (ci := 8) (v := .int 0) (C := RX6) (T := TX6) (N := 11) hx hb hts wi_X6_addWord_RX6 hown hK hP 0 rfl rfl 1 (by decide) (hts _ wd131_X6_addWord) (fun _ h9 => h9) rfl dX6_addWord_2 ?_
  refine lv_bipush (v := 12) hx hb dX6_addWord_5 (by decide) ?_
  refine lv_icmp_ne (tgt := 14) hx hb dX6_addWord_7 (by decide) (fun _ => ?_) (fun h => absurd h (by decide))
  refine lv_iconst (v := 0) hx hb dX6_addWord_14 (by decide) ?_
  refine lv_iconst (v := 1) hx hb dX6_addWord_15 (by decide) ?_
  have hF := va_free (wc := [(h0, .inr (8, [.int 0, .int 0, .int 2, .ref h1, .ref h2, .int 0, .int 500, .int 0, .int 0, .int 0, .ref h3]))]) hD hS hA [0] rfl
  refine va_calli (va_runV (As := [.int 0, .int 1]) (rest := []) ⟨hx, hb, hml, hown, hts⟩ (k_X6_start_0 l D κ ε h0 h1 h2 h3 s.heap.size (0) (2) (0) (500) (0) (0)) (cwV 2 hts gX6_addWord_X6_start rfl rfl rfl (by decide +kernel) ⟨(Nat.le_of_ble_eq_true rfl), (Nat.le_of_ble_eq_true rfl)⟩) (pre2_V (q0 := 0) (ci := 8) (wc := [(h0, .inr (8, [.int 0, .int 0, .int 2, .ref h1, .ref h2, .int 0, .int 500, .int 0, .int 0, .int 0, .ref h3]))]) hP hD hK hE9 hS hA [0] (by decide) rfl rfl rfl) rfl rfl hl.1 rfl (lv_room (Nat.le_of_ble_eq_true rfl)) dX6_addWord_16 ⟨(Nat.le_of_ble_eq_true rfl), (Nat.le_of_ble_eq_true rfl)⟩) hS (fun q _ h => hF q h) hF (fun r u1 t H locs ht hvm hw hB hz1 hk1 hS => ?_)
  try dsimp only at hw hB
  obtain ⟨hP1, hD1⟩ := hB
  rw [ht] at hP1
  obtain ⟨hP, hD⟩ := post_j (ws' := [(h0, .inr (8, [.int 0, .int 0, .int 2, .ref h1, .ref h2, .int 0, .int 500, .int 0, .int 0, .int 0, .ref h3]))]) (wr := []) (w1 := [(h0, .inr (8, [.int 0, .int 0, .int 2, .ref h1, .ref h2, .int 0, .int 500, .int 0, .int 0, .int 0, .ref h3]))]) hP hD hF [0] rfl [] rfl (by decide) (by decide) hk1 hP1 hD1 [0] (by decide) rfl
  have hP : va_P D vwCl [(h0, .inr (8, [.int 0, .int 0, .int 2, .ref h1, .ref h2, .int 0, .int 500, .int 0, .int 0, .int 0, .ref h3]))] H := hP
  have hD : va_D A [(h0, .inr (8, [.int 0, .int 0, .int 2, .ref h1, .ref h2, .int 0, .int 500, .int 0, .int 0, .int 0, .ref h3]))] := hD
  rw [hw]
  refine lv_if_eq (tgt := 24) hx hb dX6_addWord_19 (by decide) (fun _ => ?_) (fun h => absurd (by decide) h)
  refine lv_aload_n hx hb dX6_addWord_24 rfl (lv_at hl 0 rfl) ?_
  refine lv_dup hx hb dX6_addWord_25 rfl ?_
  refine va_get (D := D) (ci := 8) (v := .int 0) (C := RX6) (T := TX6) (N := 11) hx hb hts wi_X6_addWord_RX6 hown hK hP 0 rfl rfl 1 (by decide) (hts _ wd131_X6_addWord) (fun _ h9 => h9) rfl dX6_addWord_26 ?_
  refine lv_iconst (v := 1) hx hb dX6_addWord_29 (by decide) ?_
  refine lv_iadd hx hb dX6_addWord_30 ?_
  refine tpi (v := 1) (by decide) ?_
  refine va_put (D := D) (ci := 8) (v := .int 1) (ty := .int) (C := RX6) (T := TX6) (N := 11) hx hb hts wi_X6_addWord_RX6 tyX6 tyX6_ok nmX6 hown hK hP hD hS 0 rfl rfl 1 (by decide) (hts _ wd131_X6_addWord) (fun _ h9 => h9) rfl (by decide +kernel) rfl rfl (Nat.le_of_ble_eq_true rfl) dX6_addWord_31 (fun H locs hP hD hS => ?_)
  have hP : va_P D vwCl [(h0, .inr (8, [.int 0, .int 1, .int 2, .ref h1, .ref h2, .int 0, .int 500, .int 0, .int 0, .int 0, .ref h3]))] H := hP
  have hD : va_D A [(h0, .inr (8, [.int 0, .int 1, .int 2, .ref h1, .ref h2, .int 0, .int 500, .int 0, .int 0, .int 0, .ref h3]))] := hD
  refine lv_aload_n hx hb dX6_addWord_34 rfl (lv_at hl 0 rfl) ?_
  have hF := va_free (wc := []) hD hS hA [] rfl
  refine va_callr (va_runS (As := []) (rest := [.ref h0]) ⟨hx, hb, hml, hown, hts⟩ (k_X6_tables_0 l D κ ε H.size) (va_cwS 0 hts gX6_addWord_X6_tables rfl rfl rfl (by decide +kernel) ⟨(Nat.le_of_ble_eq_true rfl), (Nat.le_of_ble_eq_true rfl)⟩) (pre2_S (wc := []) hP hD hK hE9 hS hA [] (by decide) rfl) rfl rfl hl.1 rfl (lv_room (Nat.le_of_ble_eq_true rfl)) dX6_addWord_35 ⟨(Nat.le_of_ble_eq_true rfl), (Nat.le_of_ble_eq_true rfl)⟩) hS (fun q _ h => hF q h) hF (fun u2 ra t H locs ht hvm hw hB hz1 hk1 hS => ?_)
  try dsimp only at hw hB
  obtain ⟨rfl, hB⟩ := hB
  obtain ⟨hP1, hD1⟩ := hB
  rw [ht] at hP1
  obtain ⟨hP, hD⟩ := post_j (ws' := [(h0, .inr (8, [.int 0, .int 1, .int 2, .ref h1, .ref h2, .int 0, .int 500, .int 0, .int 0, .int 0, .ref h3])), ((u2 0), .inl (κ 4, 4, .inr (.inr (.inr (.inr (sel [(u2 1), (u2 2), (u2 3), (u2 4)])))))), ((u2 1), .inl (κ 0, 14, .inl (fun _ => 0))), ((u2 2), .inl (κ 0, 196, .inl (fun _ => 0))), ((u2 3), .inl (κ 0, 2744, .inl (fun _ => 0))), ((u2 4), .inl (κ 0, 38416, .inl (fun _ => 0)))]) (wr := [(h0, .inr (8, [.int 0, .int 1, .int 2, .ref h1, .ref h2, .int 0, .int 500, .int 0, .int 0, .int 0, .ref h3]))]) (w1 := [((u2 0), .inl (κ 4, 4, .inr (.inr (.inr (.inr (sel [(u2 1), (u2 2), (u2 3), (u2 4)])))))), ((u2 1), .inl (κ 0, 14, .inl (fun _ => 0))), ((u2 2), .inl (κ 0, 196, .inl (fun _ => 0))), ((u2 3), .inl (κ 0, 2744, .inl (fun _ => 0))), ((u2 4), .inl (κ 0, 38416, .inl (fun _ => 0)))]) hP hD hF [] rfl [0] rfl (by decide) (by decide) hk1 hP1 hD1 [0, 1, 2, 3, 4, 5] (by decide) rfl
  have hP : va_P D vwCl [(h0, .inr (8, [.int 0, .int 1, .int 2, .ref h1, .ref h2, .int 0, .int 500, .int 0, .int 0, .int 0, .ref h3])), ((u2 0), .inl (κ 4, 4, .inr (.inr (.inr (.inr (sel [(u2 1), (u2 2), (u2 3), (u2 4)])))))), ((u2 1), .inl (κ 0, 14, .inl (fun _ => 0))), ((u2 2), .inl (κ 0, 196, .inl (fun _ => 0))), ((u2 3), .inl (κ 0, 2744, .inl (fun _ => 0))), ((u2 4), .inl (κ 0, 38416, .inl (fun _ => 0)))] H := hP
  have hD : va_D A [(h0, .inr (8, [.int 0, .int 1, .int 2, .ref h1, .ref h2, .int 0, .int 500, .int 0, .int 0, .int 0, .ref h3])), ((u2 0), .inl (κ 4, 4, .inr (.inr (.inr (.inr (sel [(u2 1), (u2 2), (u2 3), (u2 4)])))))), ((u2 1), .inl (κ 0, 14, .inl (fun _ => 0))), ((u2 2), .inl (κ 0, 196, .inl (fun _ => 0))), ((u2 3), .inl (κ 0, 2744, .inl (fun _ => 0))), ((u2 4), .inl (κ 0, 38416, .inl (fun _ => 0)))] := hD
  refine va_put (D := D) (ci := 8) (v := .ref (u2 0)) (ty := (tyX6 4)) (C := RX6) (T := TX6) (N := 11) hx hb hts wi_X6_addWord_RX6 tyX6 tyX6_ok nmX6 hown hK hP hD hS 0 rfl rfl 4 (by decide) (hts _ wd132_X6_addWord) (fun _ h9 => h9) rfl (by decide +kernel) rfl rfl (Nat.le_of_ble_eq_true rfl) dX6_addWord_38 (fun H locs hP hD hS => ?_)
  have hP : va_P D vwCl [(h0, .inr (8, [.int 0, .int 1, .int 2, .ref h1, .ref (u2 0), .int 0, .int 500, .int 0, .int 0, .int 0, .ref h3])), ((u2 0), .inl (κ 4, 4, .inr (.inr (.inr (.inr (sel [(u2 1), (u2 2), (u2 3), (u2 4)])))))), ((u2 1), .inl (κ 0, 14, .inl (fun _ => 0))), ((u2 2), .inl (κ 0, 196, .inl (fun _ => 0))), ((u2 3), .inl (κ 0, 2744, .inl (fun _ => 0))), ((u2 4), .inl (κ 0, 38416, .inl (fun _ => 0)))] H := hP
  have hD : va_D A [(h0, .inr (8, [.int 0, .int 1, .int 2, .ref h1, .ref (u2 0), .int 0, .int 500, .int 0, .int 0, .int 0, .ref h3])), ((u2 0), .inl (κ 4, 4, .inr (.inr (.inr (.inr (sel [(u2 1), (u2 2), (u2 3), (u2 4)])))))), ((u2 1), .inl (κ 0, 14, .inl (fun _ => 0))), ((u2 2), .inl (κ 0, 196, .inl (fun _ => 0))), ((u2 3), .inl (κ 0, 2744, .inl (fun _ => 0))), ((u2 4), .inl (κ 0, 38416, .inl (fun _ => 0)))] := hD
  refine lv_aload_n hx hb dX6_addWord_41 rfl (lv_at hl 0 rfl) ?_
  refine va_new (ci := 1) (fs := [.int 0, .null, .int 0]) (C := RJx4a65c) (T := TJx4a65c) (N := 3) hx hb hts wi_X6_addWord_RJx4a65c tyJx4a65c tyJx4a65c_ok hown (hts _ wd133_X6_addWord) (hts _ wd134_X6_addWord) (hts _ wd135_X6_addWord) hK hP hD hS hA rfl (fun j hj => by rcases (show j = 0 ∨ j = 1 ∨ j = 2 by omega) with rfl | rfl | rfl <;> rfl) (Nat.le_of_ble_eq_true rfl) (Nat.le_of_ble_eq_true rfl) dX6_addWord_42 (fun q3 H hP hD hS => ?_)
  have hP : va_P D vwCl [(h0, .inr (8, [.int 0, .int 1, .int 2, .ref h1, .ref (u2 0), .int 0, .int 500, .int 0, .int 0, .int 0, .ref h3])), ((u2 0), .inl (κ 4, 4, .inr (.inr (.inr (.inr (sel [(u2 1), (u2 2), (u2 3), (u2 4)])))))), ((u2 1), .inl (κ 0, 14, .inl (fun _ => 0))), ((u2 2), .inl (κ 0, 196, .inl (fun _ => 0))), ((u2 3), .inl (κ 0, 2744, .inl (fun _ => 0))), ((u2 4), .inl (κ 0, 38416, .inl (fun _ => 0))), (q3, .inr (1, [.int 0, .null, .int 0]))] H := hP
  have hD : va_D A [(h0, .inr (8, [.int 0, .int 1, .int 2, .ref h1, .ref (u2 0), .int 0, .int 500, .int 0, .int 0, .int 0, .ref h3])), ((u2 0), .inl (κ 4, 4, .inr (.inr (.inr (.inr (sel [(u2 1), (u2 2), (u2 3), (u2 4)])))))), ((u2 1), .inl (κ 0, 14, .inl (fun _ => 0))), ((u2 2), .inl (κ 0, 196, .inl (fun _ => 0))), ((u2 3), .inl (κ 0, 2744, .inl (fun _ => 0))), ((u2 4), .inl (κ 0, 38416, .inl (fun _ => 0))), (q3, .inr (1, [.int 0, .null, .int 0]))] := hD
  refine lv_dup hx hb dX6_addWord_45 rfl ?_
  have hF := va_free (wc := [(q3, .inr (1, [.int 0, .null, .int 0]))]) hD hS hA [6] rfl
  refine va_callv (va_runI (As := []) (rest := [.ref q3, .ref h0]) ⟨hx, hb, hml, hown, hts⟩ (k_Jx4a65c_init_da8c8_0 l D κ ε q3 H.size (0) (0)) (cwI 0 hts ggX6_addWord_Jx4a65c_init_da8c8 rfl rfl rfl (hts _ wd135_X6_addWord) (hts _ wd136_X6_addWord) (hts _ wd137_X6_addWord) rfl (by decide +kernel) ⟨(Nat.le_of_ble_eq_true rfl), (Nat.le_of_ble_eq_true rfl)⟩) (pre2_S (wc := [(q3, .inr (1, [.int 0, .null, .int 0]))]) hP hD hK hE9 hS hA [6] (by decide) rfl) rfl rfl hl.1 rfl (lv_room (Nat.le_of_ble_eq_true rfl)) dX6_addWord_46 ⟨(Nat.le_of_ble_eq_true rfl), (Nat.le_of_ble_eq_true rfl)⟩) hS (fun q _ h => hF q h) hF (fun u4 t H locs ht hvm hw hB hz1 hk1 hS => ?_)
  try dsimp only at hw hB
  obtain ⟨hP1, hD1⟩ := hB
  rw [ht] at hP1
  obtain ⟨hP, hD⟩ := post_j (ws' := [(h0, .inr (8, [.int 0, .int 1, .int 2, .ref h1, .ref (u2 0), .int 0, .int 500, .int 0, .int 0, .int 0, .ref h3])), ((u2 0), .inl (κ 4, 4, .inr (.inr (.inr (.inr (sel [(u2 1), (u2 2), (u2 3), (u2 4)])))))), ((u2 1), .inl (κ 0, 14, .inl (fun _ => 0))), ((u2 2), .inl (κ 0, 196, .inl (fun _ => 0))), ((u2 3), .inl (κ 0, 2744, .inl (fun _ => 0))), ((u2 4), .inl (κ 0, 38416, .inl (fun _ => 0))), (q3, .inr (1, [.int 0, .ref (ε 1), .int 0]))]) (wr := [(h0, .inr (8, [.int 0, .int 1, .int 2, .ref h1, .ref (u2 0), .int 0, .int 500, .int 0, .int 0, .int 0, .ref h3])), ((u2 0), .inl (κ 4, 4, .inr (.inr (.inr (.inr (sel [(u2 1), (u2 2), (u2 3), (u2 4)])))))), ((u2 1), .inl (κ 0, 14, .inl (fun _ => 0))), ((u2 2), .inl (κ 0, 196, .inl (fun _ => 0))), ((u2 3), .inl (κ 0, 2744, .inl (fun _ => 0))), ((u2 4), .inl (κ 0, 38416, .inl (fun _ => 0)))]) (w1 := [(q3, .inr (1, [.int 0, .ref (ε 1), .int 0]))]) hP hD hF [6] rfl [0, 1, 2, 3, 4, 5] rfl (by decide) (by decide) hk1 hP1 hD1 [0, 1, 2, 3, 4, 5, 6] (by decide) rfl
  have hP : va_P D vwCl [(h0, .inr (8, [.int 0, .int 1, .int 2, .ref h1, .ref (u2 0), .int 0, .int 500, .int 0, .int 0, .int 0, .ref h3])), ((u2 0), .inl (κ 4, 4, .inr (.inr (.inr (.inr (sel [(u2 1), (u2 2), (u2 3), (u2 4)])))))), ((u2 1), .inl (κ 0, 14, .inl (fun _ => 0))), ((u2 2), .inl (κ 0, 196, .inl (fun _ => 0))), ((u2 3), .inl (κ 0, 2744, .inl (fun _ => 0))), ((u2 4), .inl (κ 0, 38416, .inl (fun _ => 0))), (q3, .inr (1, [.int 0, .ref (ε 1), .int 0]))] H := hP
  have hD : va_D A [(h0, .inr (8, [.int 0, .int 1, .int 2, .ref h1, .ref (u2 0), .int 0, .int 500, .int 0, .int 0, .int 0, .ref h3])), ((u2 0), .inl (κ 4, 4, .inr (.inr (.inr (.inr (sel [(u2 1), (u2 2), (u2 3), (u2 4)])))))), ((u2 1), .inl (κ 0, 14, .inl (fun _ => 0))), ((u2 2), .inl (κ 0, 196, .inl (fun _ => 0))), ((u2 3), .inl (κ 0, 2744, .inl (fun _ => 0))), ((u2 4), .inl (κ 0, 38416, .inl (fun _ => 0))), (q3, .inr (1, [.int 0, .ref (ε 1), .int 0]))] := hD
  refine va_put (D := D) (ci := 8) (v := .ref q3) (ty := (tyX6 3)) (C := RX6) (T := TX6) (N := 11) hx hb hts wi_X6_addWord_RX6 tyX6 tyX6_ok nmX6 hown hK hP hD hS 0 rfl rfl 3 (by decide) (hts _ wd138_X6_addWord) (fun _ h9 => h9) rfl (by decide +kernel) rfl rfl (Nat.le_of_ble_eq_true rfl) dX6_addWord_49 (fun H locs hP hD hS => ?_)
  have hP : va_P D vwCl [(h0, .inr (8, [.int 0, .int 1, .int 2, .ref q3, .ref (u2 0), .int 0, .int 500, .int 0, .int 0, .int 0, .ref h3])), ((u2 0), .inl (κ 4, 4, .inr (.inr (.inr (.inr (sel [(u2 1), (u2 2), (u2 3), (u2 4)])))))), ((u2 1), .inl (κ 0, 14, .inl (fun _ => 0))), ((u2 2), .inl (κ 0, 196, .inl (fun _ => 0))), ((u2 3), .inl (κ 0, 2744, .inl (fun _ => 0))), ((u2 4), .inl (κ 0, 38416, .inl (fun _ => 0))), (q3, .inr (1, [.int 0, .ref (ε 1), .int 0]))] H := hP
  have hD : va_D A [(h0, .inr (8, [.int 0, .int 1, .int 2, .ref q3, .ref (u2 0), .int 0, .int 500, .int 0, .int 0, .int 0, .ref h3])), ((u2 0), .inl (κ 4, 4, .inr (.inr (.inr (.inr (sel [(u2 1), (u2 2), (u2 3), (u2 4)])))))), ((u2 1), .inl (κ 0, 14, .inl (fun _ => 0))), ((u2 2), .inl (κ 0, 196, .inl (fun _ => 0))), ((u2 3), .inl (κ 0, 2744, .inl (fun _ => 0))), ((u2 4), .inl (κ 0, 38416, .inl (fun _ => 0))), (q3, .inr (1, [.int 0, .ref (ε 1), .int 0]))] := hD
  refine lv_aload_n hx hb dX6_addWord_52 rfl (lv_at hl 0 rfl) ?_
  refine va_get (D := D) (ci := 8) (v := .int 1) (C := RX6) (T := TX6) (N := 11) hx hb hts wi_X6_addWord_RX6 hown hK hP 0 rfl rfl 1 (by decide) (hts _ wd131_X6_addWord) (fun _ h9 => h9) rfl dX6_addWord_53 ?_
  refine lv_iconst (v := 1) hx hb dX6_addWord_56 (by decide) ?_
  refine lv_isub hx hb dX6_addWord_57 ?_
  refine tpi (v := 0) (by decide) ?_
  have hP9 := hP.sub (ws' := [(h0, .inr (8, [.int 0, .int 1, .int 2, .ref q3, .ref (u2 0), .int 0, .int 500, .int 0, .int 0, .int 0, .ref h3]))]) [0] rfl
  have hD9 := hD.sub (ws' := [(h0, .inr (8, [.int 0, .int 1, .int 2, .ref q3, .ref (u2 0), .int 0, .int 500, .int 0, .int 0, .int 0, .ref h3]))]) [0] (by decide) rfl
  refine W.widen (k := 6) (n := 41377) (Nat.le_of_ble_eq_true rfl) (Nat.le_of_ble_eq_true rfl) ?_
  exact W.iret (v := 0) hx hb hr (fun t ht hW => ⟨⟨0, [.int 0, .int 1, .int 2, .ref q3, .ref (u2 0), .int 0, .int 500, .int 0, .int 0, .int 0, .ref h3], rfl, ⟨rfl, rfl⟩, by rw [ht]; exact hP9, hD9⟩, hS.F ht⟩) hS.2.2 dX6_addWord_58

theorem wi_X6_thrown_RX6 : ∀ w ∈ u_ws RX6 TX6 11, w ∈ wsX6_thrown := by decide +kernel

theorem wd139_X6_thrown : (.fieldLink RX6 36 "CanticleModel" "thrown" "I" : Cond) ∈ wsX6_thrown := by decide +kernel

set_option maxRecDepth 100000 in
theorem k_thrown (l : Launch) (D : va_G) (κ : Nat → Nat) (h0 : Nat) (u : List Value) (t : Int32) (hu : u[0]? = some (.int t)) : Met l yX6_thrown wsX6_thrown ({ frames := 0, cells := 0, slots := 0, locals := 0 }) (va_Pc [.ref h0] (Pre0 D κ [(h0, .inr (8, u))])) (vp_Si (fun r => r = t)) 0 0 (fun _ => False) := by
  refine Met.ofW (cc := cX6_thrown) (maxL := 1) (ret := (some .int)) (by decide) rfl ?_
  intro p e s m args below meth c s₁ B hml hv
  obtain ⟨rfl, hP, hK⟩ := hv
  have hx := B.exec
  have hb := B.bytes
  have hr := B.returns
  have hts := atoms_spec (ws := wsX6_thrown) B.pre
  have hown : s.vm.findClass RX6 = some m.cls := findClass_of_methodNamed B.named
  have hlocks := B.notSynchronized
  have hP : va_P D vwCl [(h0, .inr (8, u))] s.heap := hP
  have hl := lv_entry [.ref h0] (n := 1) (Nat.le_of_ble_eq_true rfl)
  rw [lg_entry_eq]
  generalize (lg_sl [.ref h0] ++ List.replicate (1 - (lg_sl [.ref h0]).length) Slot.unset).toArray = ls at hl ⊢
  have hl : lv_has ls 1 [(0, .ref h0)] := hl
  refine lv_aload_n hx hb dX6_thrown_0 rfl (lv_at hl 0 rfl) ?_
  refine va_get (D := D) (ci := 8) (v := .int t) (C := RX6) (T := TX6) (N := 11) hx hb hts wi_X6_thrown_RX6 hown hK hP 0 rfl rfl 0 (by decide) (hts _ wd139_X6_thrown) (fun _ h9 => h9) hu dX6_thrown_1 ?_
  exact W.iret (v := t) hx hb hr (fun t1 ht hW => ⟨t, rfl, rfl, ht⟩) (fun q hq => absurd hq List.not_mem_nil) dX6_thrown_4

set_option maxHeartbeats 4000000 in
set_option maxRecDepth 100000 in
theorem case_0 {p : Program} {e : Env} {s : State} {m : MethodId} {below : List Frame} {meth : Method} {c : Code} (l : Launch) (hst : l.stackTraces = false) {b : Nat} {xs : Nat → Int32} (C0 : lw_At p s m meth c b 4 xs) (D : va_G) (κ ε : Nat → Nat) (hK : va_K D vwCl (tys κ) s) (hE9 : En2 ε (fun q : Nat => s.heap.size ≤ q) s s.heap) (qx qm qo : Nat) (ux um : Nat → Nat) {H : Heap} {locs : List Loc} (hP : va_P D vwCl [(qx, .inr (7, [.ref (ux 0), .ref (ux 27), .ref (ux 30), .ref (ux 31), .ref (ux 35), .ref (ux 36), .int 0, .int 0, .int 0, .int 0])), ((ux 0), .inr (2, [.int 0, .int 2, .ref (ux 1), .ref (ux 2)])), ((ux 1), .inl (κ 3, 4, .inr (.inr (.inr (.inr (sel [(ux 3), (ux 9), (ux 15), (ux 21)])))))), ((ux 2), .inl (κ 3, 4, .inr (.inr (.inr (.inr (sel [(ux 6), (ux 12), (ux 18), (ux 24)])))))), ((ux 3), .inr (6, [.ref (ux 4), .ref (ux 5), .int 0])), ((ux 6), .inr (6, [.ref (ux 7), .ref (ux 8), .int 0])), ((ux 9), .inr (6, [.ref (ux 10), .ref (ux 11), .int 0])), ((ux 12), .inr (6, [.ref (ux 13), .ref (ux 14), .int 0])), ((ux 15), .inr (6, [.ref (ux 16), .ref (ux 17), .int 0])), ((ux 18), .inr (6, [.ref (ux 19), .ref (ux 20), .int 0])), ((ux 21), .inr (6, [.ref (ux 22), .ref (ux 23), .int 0])), ((ux 24), .inr (6, [.ref (ux 25), .ref (ux 26), .int 0])), (qm, .inr (8, [.int 0, .int 0, .int 2, .ref (um 0), .ref (um 1), .int 0, .int 500, .int 0, .int 0, .int 0, .ref (um 6)])), (qo, .inl (κ 2, 1, .inr (.inl (fun _ => 0))))] H) (hD : va_D (fun q : Nat => s.heap.size ≤ q) [(qx, .inr (7, [.ref (ux 0), .ref (ux 27), .ref (ux 30), .ref (ux 31), .ref (ux 35), .ref (ux 36), .int 0, .int 0, .int 0, .int 0])), ((ux 0), .inr (2, [.int 0, .int 2, .ref (ux 1), .ref (ux 2)])), ((ux 1), .inl (κ 3, 4, .inr (.inr (.inr (.inr (sel [(ux 3), (ux 9), (ux 15), (ux 21)])))))), ((ux 2), .inl (κ 3, 4, .inr (.inr (.inr (.inr (sel [(ux 6), (ux 12), (ux 18), (ux 24)])))))), ((ux 3), .inr (6, [.ref (ux 4), .ref (ux 5), .int 0])), ((ux 6), .inr (6, [.ref (ux 7), .ref (ux 8), .int 0])), ((ux 9), .inr (6, [.ref (ux 10), .ref (ux 11), .int 0])), ((ux 12), .inr (6, [.ref (ux 13), .ref (ux 14), .int 0])), ((ux 15), .inr (6, [.ref (ux 16), .ref (ux 17), .int 0])), ((ux 18), .inr (6, [.ref (ux 19), .ref (ux 20), .int 0])), ((ux 21), .inr (6, [.ref (ux 22), .ref (ux 23), .int 0])), ((ux 24), .inr (6, [.ref (ux 25), .ref (ux 26), .int 0])), (qm, .inr (8, [.int 0, .int 0, .int 2, .ref (um 0), .ref (um 1), .int 0, .int 500, .int 0, .int 0, .int 0, .ref (um 6)])), (qo, .inl (κ 2, 1, .inr (.inl (fun _ => 0))))]) (hS : va_S (fun q : Nat => s.heap.size ≤ q) s.heap H locs) {ls : Array Slot} (hl : lv_has ls 9 [(0, .ref b), (1, .ref qx), (2, .ref qm), (3, .ref qo), (4, .int 0)]) : W p l e room_1 s m #[Value.ref b] below meth c H locs 100 120000 (lw_Z below #[Value.ref b] s) (F0 m 188 ls []) := by
  obtain ⟨hx, hb, hr, hml, hown0, hts0, hX, hbl, hlocks, hgv⟩ := id C0
  have hts : ∀ w ∈ wsL_law, w.before #[Value.ref b] s = true := fun w h => hts0 w (wsL_law_in w h)
  have hown : s.vm.findClass RL = some m.cls := hown0
  have hE := hE9.1
  have hDc := hE9.2
  have hA : ∀ q : Nat, s.heap.size ≤ q → (fun q : Nat => s.heap.size ≤ q) q := fun _ h => h
  have hbA : ¬ (fun q : Nat => s.heap.size ≤ q) b := Nat.not_le.mpr hbl
  refine lv_aload_n hx hb dL_law_188 rfl (lv_at hl 1 rfl) ?_
  refine lv_aload_n hx hb dL_law_189 rfl (lv_at hl 3 rfl) ?_
  have hF := va_free (wc := [(qx, .inr (7, [.ref (ux 0), .ref (ux 27), .ref (ux 30), .ref (ux 31), .ref (ux 35), .ref (ux 36), .int 0, .int 0, .int 0, .int 0])), (qo, .inl (κ 2, 1, .inr (.inl (fun _ => 0)))), ((ux 0), .inr (2, [.int 0, .int 2, .ref (ux 1), .ref (ux 2)])), ((ux 1), .inl (κ 3, 4, .inr (.inr (.inr (.inr (sel [(ux 3), (ux 9), (ux 15), (ux 21)])))))), ((ux 2), .inl (κ 3, 4, .inr (.inr (.inr (.inr (sel [(ux 6), (ux 12), (ux 18), (ux 24)])))))), ((ux 3), .inr (6, [.ref (ux 4), .ref (ux 5), .int 0])), ((ux 9), .inr (6, [.ref (ux 10), .ref (ux 11), .int 0])), ((ux 15), .inr (6, [.ref (ux 16), .ref (ux 17), .int 0])), ((ux 21), .inr (6, [.ref (ux 22), .ref (ux 23), .int 0])), ((ux 6), .inr (6, [.ref (ux 7), .ref (ux 8), .int 0])), ((ux 12), .inr (6, [.ref (ux 13), .ref (ux 14), .int 0])), ((ux 18), .inr (6, [.ref (ux 19), .ref (ux 20), .int 0])), ((ux 24), .inr (6, [.ref (ux 25), .ref (ux 26), .int 0]))]) hD hS hA [0, 13, 1, 2, 3, 4, 6, 8, 10, 5, 7, 9, 11] rfl
  refine va_calli (vx_runSW (As := [.ref qx, .ref qo]) (rest := []) ⟨hx, hb, hml, hown, hts⟩ (k_L_addWord_0 l hst D κ ε qx qo (ux 0) (ux 27) (ux 30) (ux 31) (ux 35) (ux 36) (ux 1) (ux 2) (ux 3) (ux 9) (ux 15) (ux 21) (ux 6) (ux 12) (ux 18) (ux 24) (ux 4) (ux 5) (ux 10) (ux 11) (ux 16) (ux 17) (ux 22) (ux 23) (ux 7) (ux 8) (ux 13) (ux 14) (ux 19) (ux 20) (ux 25) (ux 26) H.size) (vx_cwSW 2 hts gL_law_L_addWord rfl rfl rfl (by decide +kernel) ⟨(Nat.le_of_ble_eq_true rfl), (Nat.le_of_ble_eq_true rfl)⟩) (pre2_S (wc := [(qx, .inr (7, [.ref (ux 0), .ref (ux 27), .ref (ux 30), .ref (ux 31), .ref (ux 35), .ref (ux 36), .int 0, .int 0, .int 0, .int 0])), (qo, .inl (κ 2, 1, .inr (.inl (fun _ => 0)))), ((ux 0), .inr (2, [.int 0, .int 2, .ref (ux 1), .ref (ux 2)])), ((ux 1), .inl (κ 3, 4, .inr (.inr (.inr (.inr (sel [(ux 3), (ux 9), (ux 15), (ux 21)])))))), ((ux 2), .inl (κ 3, 4, .inr (.inr (.inr (.inr (sel [(ux 6), (ux 12), (ux 18), (ux 24)])))))), ((ux 3), .inr (6, [.ref (ux 4), .ref (ux 5), .int 0])), ((ux 9), .inr (6, [.ref (ux 10), .ref (ux 11), .int 0])), ((ux 15), .inr (6, [.ref (ux 16), .ref (ux 17), .int 0])), ((ux 21), .inr (6, [.ref (ux 22), .ref (ux 23), .int 0])), ((ux 6), .inr (6, [.ref (ux 7), .ref (ux 8), .int 0])), ((ux 12), .inr (6, [.ref (ux 13), .ref (ux 14), .int 0])), ((ux 18), .inr (6, [.ref (ux 19), .ref (ux 20), .int 0])), ((ux 24), .inr (6, [.ref (ux 25), .ref (ux 26), .int 0]))]) hP hD hK hE9 hS hA [0, 13, 1, 2, 3, 4, 6, 8, 10, 5, 7, 9, 11] (by decide) rfl) rfl rfl hl.1 rfl (lv_room (Nat.le_of_ble_eq_true rfl)) dL_law_190 ⟨(Nat.le_of_ble_eq_true rfl), (Nat.le_of_ble_eq_true rfl)⟩) hS (fun q _ h => hF q h) hF (fun r u1 t H locs ht hvm hw hB hz1 hk1 hS => ?_)
  try dsimp only at hw hB
  obtain ⟨hP1, hD1⟩ := hB
  rw [ht] at hP1
  obtain ⟨hP, hD⟩ := post_j (ws' := [(qm, .inr (8, [.int 0, .int 0, .int 2, .ref (um 0), .ref (um 1), .int 0, .int 500, .int 0, .int 0, .int 0, .ref (um 6)])), (qo, .inl (κ 2, 1, .inr (.inl u1)))]) (wr := [(qm, .inr (8, [.int 0, .int 0, .int 2, .ref (um 0), .ref (um 1), .int 0, .int 500, .int 0, .int 0, .int 0, .ref (um 6)]))]) (w1 := [(qo, .inl (κ 2, 1, .inr (.inl u1)))]) hP hD hF [0, 13, 1, 2, 3, 4, 6, 8, 10, 5, 7, 9, 11] rfl [12] rfl (by decide) (by decide) hk1 hP1 hD1 [0, 1] (by decide) rfl
  have hP : va_P D vwCl [(qm, .inr (8, [.int 0, .int 0, .int 2, .ref (um 0), .ref (um 1), .int 0, .int 500, .int 0, .int 0, .int 0, .ref (um 6)])), (qo, .inl (κ 2, 1, .inr (.inl u1)))] H := hP
  have hD : va_D (fun q : Nat => s.heap.size ≤ q) [(qm, .inr (8, [.int 0, .int 0, .int 2, .ref (um 0), .ref (um 1), .int 0, .int 500, .int 0, .int 0, .int 0, .ref (um 6)])), (qo, .inl (κ 2, 1, .inr (.inl u1)))] := hD
  obtain ⟨hu2, rfl⟩ := hw
  refine lv_istore (lv' := [(5, .int 0), (0, .ref b), (1, .ref qx), (2, .ref qm), (3, .ref qo), (4, .int 0)]) hx hb dL_law_193 hl (by decide) rfl (fun ls hl => ?_)
  refine lv_aload_n hx hb dL_law_195 rfl (lv_at hl 3 rfl) ?_
  have hF := va_free (wc := [(qm, .inr (8, [.int 0, .int 0, .int 2, .ref (um 0), .ref (um 1), .int 0, .int 500, .int 0, .int 0, .int 0, .ref (um 6)]))]) hD hS hA [0] rfl
  refine va_calli (va_runV (As := []) (rest := []) ⟨hx, hb, hml, hown, hts⟩ (k_X6_addWord_0 l D κ ε qm (um 0) (um 1) (um 6) H.size) (cwV 0 hts gL_law_X6_addWord rfl rfl rfl (by decide +kernel) ⟨(Nat.le_of_ble_eq_true rfl), (Nat.le_of_ble_eq_true rfl)⟩) (pre2_V (q0 := 0) (ci := 8) (wc := [(qm, .inr (8, [.int 0, .int 0, .int 2, .ref (um 0), .ref (um 1), .int 0, .int 500, .int 0, .int 0, .int 0, .ref (um 6)]))]) hP hD hK hE9 hS hA [0] (by decide) rfl rfl rfl) rfl rfl hl.1 rfl (lv_room (Nat.le_of_ble_eq_true rfl)) dL_law_196 ⟨(Nat.le_of_ble_eq_true rfl), (Nat.le_of_ble_eq_true rfl)⟩) hS (fun q _ h => hF q h) hF (fun r u3 t H locs ht hvm hw hB hz1 hk1 hS => ?_)
  try dsimp only at hw hB
  obtain ⟨hP1, hD1⟩ := hB
  rw [ht] at hP1
  obtain ⟨hP, hD⟩ := post_j (ws' := [(qm, .inr (8, u3)), (qo, .inl (κ 2, 1, .inr (.inl u1)))]) (wr := [(qo, .inl (κ 2, 1, .inr (.inl u1)))]) (w1 := [(qm, .inr (8, u3))]) hP hD hF [0] rfl [1] rfl (by decide) (by decide) hk1 hP1 hD1 [1, 0] (by decide) rfl
  have hP : va_P D vwCl [(qm, .inr (8, u3)), (qo, .inl (κ 2, 1, .inr (.inl u1)))] H := hP
  have hD : va_D (fun q : Nat => s.heap.size ≤ q) [(qm, .inr (8, u3)), (qo, .inl (κ 2, 1, .inr (.inl u1)))] := hD
  obtain ⟨hu4, rfl⟩ := hw
  refine lv_istore (lv' := [(6, .int 0), (5, .int 0), (0, .ref b), (1, .ref qx), (2, .ref qm), (3, .ref qo), (4, .int 0)]) hx hb dL_law_199 hl (by decide) rfl (fun ls hl => ?_)
  refine lv_aload_n hx hb dL_law_201 rfl (lv_at hl 4 rfl) ?_
  refine vp_callSi (W.runV (As := []) (rest := []) ⟨hx, hb, hml, hown, hts⟩ (k_thrown l D κ qm u3 (0) hu4) (cwV 0 hts gL_law_X6_thrown rfl rfl rfl (by decide +kernel) ⟨(Nat.le_of_ble_eq_true rfl), (Nat.le_of_ble_eq_true rfl)⟩) (pre0_V (q0 := 0) (ci := 8) (wc := [(qm, .inr (8, u3))]) hP hK [0] rfl rfl rfl) rfl rfl hl.1 rfl (lv_room (Nat.le_of_ble_eq_true rfl)) dL_law_202 ⟨(Nat.le_of_ble_eq_true rfl), (Nat.le_of_ble_eq_true rfl)⟩) (fun r hw => ?_)
  subst hw
  refine lv_iload hx hb dL_law_205 (lv_at hl 1 rfl) ?_
  refine lv_icmp_eq (tgt := 212) hx hb dL_law_207 (by decide) (fun _ => ?_) (fun h => absurd (by decide) h)
  refine lv_iload hx hb dL_law_212 (lv_at hl 1 rfl) ?_
  refine lv_if_ne (tgt := 229) hx hb dL_law_214 (by decide) (fun h => absurd (by decide) h) (fun _ => ?_)
  refine lv_aload_n hx hb dL_law_217 rfl (lv_at hl 5 rfl) ?_
  refine lv_iconst (v := 0) hx hb dL_law_218 (by decide) ?_
  refine va_lald (cA := κ 2) (n := 1) (f := u1) hx hb hK hP 1 2 rfl rfl (vpl (by decide)) dL_law_219 ?_
  refine tpl (v := 0) hu2 ?_
  refine lv_iload hx hb dL_law_220 (lv_at hl 0 rfl) ?_
  refine lv_i2l (v := 0) hx hb dL_law_222 (by decide) ?_
  refine W.lcmp hx hb dL_law_223 ?_
  refine tpi (v := 0) (by decide) ?_
  refine lv_if_eq (tgt := 229) hx hb dL_law_224 (by decide) (fun _ => ?_) (fun h => absurd (by decide) h)
  refine lv_goto (tgt := 1677) hx hb dL_law_229 (by decide) ?_
  exact law_end C0 (Nat.le_of_ble_eq_true rfl) (Nat.le_of_ble_eq_true rfl) hS (lv_sub hl [2, 6] rfl)
