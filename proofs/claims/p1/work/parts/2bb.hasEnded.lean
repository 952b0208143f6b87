theorem wi_X5_hasEnded_RX5 : ∀ w ∈ u_ws RX5 TX5 10, w ∈ wsX5_hasEnded := by decide +kernel

theorem wd404_X5_hasEnded : (.fieldLink RX5 61 "Canticle" "ended" "Z" : Cond) ∈ wsX5_hasEnded := by decide +kernel

set_option maxHeartbeats 4000000 in
set_option maxRecDepth 100000 in
theorem k_X5_hasEnded_0 (l : Launch) (D : va_G) (κ ε : Nat → Nat) (h0 h1 h2 h3 h4 h5 h6 : Nat) (sz : Nat) : Met l yX5_hasEnded wsX5_hasEnded ({ frames := 0, cells := 0, slots := 0, locals := 0 }) (va_Pc [.ref h0] (Pre2 D κ ε [(h0, .inr (7, [.ref h1, .ref h2, .ref h3, .ref h4, .ref h5, .ref h6, .int 0, .int 0, .int 0, .int 0]))] sz)) (va_Qi (fun r (u : Unit) => (r = 0)) (fun _ _ => True) (va_A [(h0, .inr (7, [.ref h1, .ref h2, .ref h3, .ref h4, .ref h5, .ref h6, .int 0, .int 0, .int 0, .int 0]))] sz)) 0 0 (va_A [(h0, .inr (7, [.ref h1, .ref h2, .ref h3, .ref h4, .ref h5, .ref h6, .int 0, .int 0, .int 0, .int 0]))] sz) := by
  refine Met.ofW (cc := cX5_hasEnded) (maxL := 1) (ret := (some .boolean)) (by decide) rfl ?_
  intro p e s m args below meth c s₁ B hml hv
  obtain ⟨rfl, hsz, hP, hK, hD0, hE9⟩ := hv
  have hx := B.exec
  have hb := B.bytes
  have hr := B.returns
  have hts := atoms_spec (ws := wsX5_hasEnded) B.pre
  have hown : s.vm.findClass RX5 = some m.cls := findClass_of_methodNamed B.named
  have hlocks := B.notSynchronized
  subst hsz
  have hD := hD0.self (sz := s.heap.size)
  generalize hAe : va_A [(h0, .inr (7, [.ref h1, .ref h2, .ref h3, .ref h4, .ref h5, .ref h6, .int 0, .int 0, .int 0, .int 0]))] s.heap.size = A at hD hE9 ⊢
  have hE := hE9.1
  have hDc := hE9.2
  have hA : ∀ q : Nat, s.heap.size ≤ q → A q := fun q h => by rw [← hAe]; exact Or.inr h
  have hS : va_S A s.heap s.heap [] := va_S.rf
  have hP : va_P D vwCl [(h0, .inr (7, [.ref h1, .ref h2, .ref h3, .ref h4, .ref h5, .ref h6, .int 0, .int 0, .int 0, .int 0]))] s.heap := hP
  have hl := lv_entry [.ref h0] (n := 1) (Nat.le_of_ble_eq_true rfl)
  rw [lg_entry_eq]
  generalize (lg_sl [.ref h0] ++ List.replicate (1 - (lg_sl [.ref h0]).length) Slot.unset).toArray = ls at hl ⊢
  have hl : lv_has ls 1 [(0, .ref h0)] := hl
  refine lv_aload_n hx hb dX5_hasEnded_0 rfl (lv_at hl 0 rfl) ?_
  refine va_get (D := D) (ci := 7) (v := .int 0) (C := RX5) (T := TX5) (N := 10) hx hb hts wi_X5_hasEnded_RX5 hown hK hP 0 rfl rfl 9 (by decide) (hts _ wd404_X5_hasEnded) (fun _ h9 => h9) rfl dX5_hasEnded_1 ?_
  exact W.zret (v := 0) hx hb hr rfl (fun t ht hW => ⟨⟨0, (), rfl, rfl, trivial⟩, hS.F ht⟩) hS.2.2 dX5_hasEnded_4

theorem wi_X6_hasEnded_RX6 : ∀ w ∈ u_ws RX6 TX6 11, w ∈ wsX6_hasEnded := by decide +kernel

theorem wd405_X6_hasEnded : (.fieldLink RX6 36 "CanticleModel" "thrown" "I" : Cond) ∈ wsX6_hasEnded := by decide +kernel

theorem wd406_X6_hasEnded : (.fieldLink RX6 215 "CanticleModel" "hasEnded" "Z" : Cond) ∈ wsX6_hasEnded := by decide +kernel

set_option maxHeartbeats 4000000 in
set_option maxRecDepth 100000 in
theorem k_X6_hasEnded_0 (l : Launch) (D : va_G) (κ ε : Nat → Nat) (h0 h1 h2 h3 : Nat) (sz : Nat) : Met l yX6_hasEnded wsX6_hasEnded ({ frames := 0, cells := 0, slots := 0, locals := 0 }) (va_Pc [.ref h0] (Pre2 D κ ε [(h0, .inr (8, [.int 0, .int 0, .int 2, .ref h1, .ref h2, .int 0, .int 500, .int 0, .int 0, .int 0, .ref h3]))] sz)) (va_Qi (fun r (u : List Value) => (u[0]? = some (.int 0)) ∧ (r = 0)) (fun u t => va_P D vwCl [(h0, .inr (8, u))] t.heap ∧ va_D (va_A [(h0, .inr (8, [.int 0, .int 0, .int 2, .ref h1, .ref h2, .int 0, .int 500, .int 0, .int 0, .int 0, .ref h3]))] sz) [(h0, .inr (8, u))]) (va_A [(h0, .inr (8, [.int 0, .int 0, .int 2, .ref h1, .ref h2, .int 0, .int 500, .int 0, .int 0, .int 0, .ref h3]))] sz)) 0 0 (va_A [(h0, .inr (8, [.int 0, .int 0, .int 2, .ref h1, .ref h2, .int 0, .int 500, .int 0, .int 0, .int 0, .ref h3]))] sz) := by
  refine Met.ofW (cc := cX6_hasEnded) (maxL := 1) (ret := (some .boolean)) (by decide) rfl ?_
  intro p e s m args below meth c s₁ B hml hv
  obtain ⟨rfl, hsz, hP, hK, hD0, hE9⟩ := hv
  have hx := B.exec
  have hb := B.bytes
  have hr := B.returns
  have hts := atoms_spec (ws := wsX6_hasEnded) B.pre
  have hown : s.vm.findClass RX6 = some m.cls := findClass_of_methodNamed B.named
  have hlocks := B.notSynchronized
  subst hsz
  have hD := hD0.self (sz := s.heap.size)
  generalize hAe : va_A [(h0, .inr (8, [.int 0, .int 0, .int 2, .ref h1, .ref h2, .int 0, .int 500, .int 0, .int 0, .int 0, .ref h3]))] s.heap.size = A at hD hE9 ⊢
  have hE := hE9.1
  have hDc := hE9.2
  have hA : ∀ q : Nat, s.heap.size ≤ q → A q := fun q h => by rw [← hAe]; exact Or.inr h
  have hS : va_S A s.heap s.heap [] := va_S.rf
  have hP : va_P D vwCl [(h0, .inr (8, [.int 0, .int 0, .int 2, .ref h1, .ref h2, .int 0, .int 500, .int 0, .int 0, .int 0, .ref h3]))] s.heap := hP
  have hl := lv_entry [.ref h0] (n := 1) (Nat.le_of_ble_eq_true rfl)
  rw [lg_entry_eq]
  generalize (lg_sl [.ref h0] ++ List.replicate (1 - (lg_sl [.ref h0]).length) Slot.unset).toArray = ls at hl ⊢
  have hl : lv_has ls 1 [(0, .ref h0)] := hl
  refine lv_aload_n hx hb dX6_hasEnded_0 rfl (lv_at hl 0 rfl) ?_
  refine lv_iconst (v := 0) hx hb dX6_hasEnded_1 (by decide) ?_
  refine va_put (D := D) (ci := 8) (v := .int 0) (ty := .int) (C := RX6) (T := TX6) (N := 11) hx hb hts wi_X6_hasEnded_RX6 tyX6 tyX6_ok nmX6 hown hK hP hD hS 0 rfl rfl 0 (by decide) (hts _ wd405_X6_hasEnded) (fun _ h9 => h9) rfl (by decide +kernel) rfl rfl (Nat.le_of_ble_eq_true rfl) dX6_hasEnded_2 (fun H locs hP hD hS => ?_)
  have hP : va_P D vwCl [(h0, .inr (8, [.int 0, .int 0, .int 2, .ref h1, .ref h2, .int 0, .int 500, .int 0, .int 0, .int 0, .ref h3]))] H := hP
  have hD : va_D A [(h0, .inr (8, [.int 0, .int 0, .int 2, .ref h1, .ref h2, .int 0, .int 500, .int 0, .int 0, .int 0, .ref h3]))] := hD
  refine lv_aload_n hx hb dX6_hasEnded_5 rfl (lv_at hl 0 rfl) ?_
  refine va_get (D := D) (ci := 8) (v := .int 0) (C := RX6) (T := TX6) (N := 11) hx hb hts wi_X6_hasEnded_RX6 hown hK hP 0 rfl rfl 9 (by decide) (hts _ wd406_X6_hasEnded) (fun _ h9 => h9) rfl dX6_hasEnded_6 ?_
  have hP9 := hP.sub (ws' := [(h0, .inr (8, [.int 0, .int 0, .int 2, .ref h1, .ref h2, .int 0, .int 500, .int 0, .int 0, .int 0, .ref h3]))]) [0] rfl
  have hD9 := hD.sub (ws' := [(h0, .inr (8, [.int 0, .int 0, .int 2, .ref h1, .ref h2, .int 0, .int 500, .int 0, .int 0, .int 0, .ref h3]))]) [0] (by decide) rfl
  exact W.zret (v := 0) hx hb hr rfl (fun t ht hW => ⟨⟨0, [.int 0, .int 0, .int 2, .ref h1, .ref h2, .int 0, .int 500, .int 0, .int 0, .int 0, .ref h3], rfl, ⟨rfl, rfl⟩, by rw [ht]; exact hP9, hD9⟩, hS.F ht⟩) hS.2.2 dX6_hasEnded_9

set_option maxHeartbeats 4000000 in
set_option maxRecDepth 100000 in
theorem case_27 {p : Program} {e : Env} {s : State} {m : MethodId} {below : List Frame} {meth : Method} {c : Code} (l : Launch) (hst : l.stackTraces = false) {b : Nat} {xs : Nat → Int32} (C0 : lw_At p s m meth c b 4 xs) (D : va_G) (κ ε : Nat → Nat) (hK : va_K D vwCl (tys κ) s) (hE9 : En2 ε (fun q : Nat => s.heap.size ≤ q) s s.heap) (qx qm qo : Nat) (ux um : Nat → Nat) {H : Heap} {locs : List Loc} (hP : va_P D vwCl [(qx, .inr (7, [.ref (ux 0), .ref (ux 27), .ref (ux 30), .ref (ux 31), .ref (ux 35), .ref (ux 36), .int 0, .int 0, .int 0, .int 0])), (qm, .inr (8, [.int 0, .int 0, .int 2, .ref (um 0), .ref (um 1), .int 0, .int 500, .int 0, .int 0, .int 0, .ref (um 6)]))] H) (hD : va_D (fun q : Nat => s.heap.size ≤ q) [(qx, .inr (7, [.ref (ux 0), .ref (ux 27), .ref (ux 30), .ref (ux 31), .ref (ux 35), .ref (ux 36), .int 0, .int 0, .int 0, .int 0])), (qm, .inr (8, [.int 0, .int 0, .int 2, .ref (um 0), .ref (um 1), .int 0, .int 500, .int 0, .int 0, .int 0, .ref (um 6)]))]) (hS : va_S (fun q : Nat => s.heap.size ≤ q) s.heap H locs) {ls : Array Slot} (hl : lv_has ls 9 [(0, .ref b), (1, .ref qx), (2, .ref qm), (3, .ref qo), (4, .int 0)]) : W p l e room_1 s m #[Value.ref b] below meth c H locs 100 120000 (lw_Z below #[Value.ref b] s) (F0 m 1456 ls []) := by
  obtain ⟨hx, hb, hr, hml, hown0, hts0, hX, hbl, hlocks, hgv⟩ := id C0
  have hts : ∀ w ∈ wsL_law, w.before #[Value.ref b] s = true := fun w h => hts0 w (wsL_law_in w h)
  have hown : s.vm.findClass RL = some m.cls := hown0
  have hE := hE9.1
  have hDc := hE9.2
  have hA : ∀ q : Nat, s.heap.size ≤ q → (fun q : Nat => s.heap.size ≤ q) q := fun _ h => h
  have hbA : ¬ (fun q : Nat => s.heap.size ≤ q) b := Nat.not_le.mpr hbl
  refine lv_aload_n hx hb dL_law_1456 rfl (lv_at hl 1 rfl) ?_
  have hF := va_free (wc := [(qx, .inr (7, [.ref (ux 0), .ref (ux 27), .ref (ux 30), .ref (ux 31), .ref (ux 35), .ref (ux 36), .int 0, .int 0, .int 0, .int 0]))]) hD hS hA [0] rfl
  refine va_calli (va_runV (As := []) (rest := []) ⟨hx, hb, hml, hown, hts⟩ (k_X5_hasEnded_0 l D κ ε qx (ux 0) (ux 27) (ux 30) (ux 31) (ux 35) (ux 36) H.size) (cwV 0 hts gL_law_X5_hasEnded rfl rfl rfl (by decide +kernel) ⟨(Nat.le_of_ble_eq_true rfl), (Nat.le_of_ble_eq_true rfl)⟩) (pre2_V (q0 := 0) (ci := 7) (wc := [(qx, .inr (7, [.ref (ux 0), .ref (ux 27), .ref (ux 30), .ref (ux 31), .ref (ux 35), .ref (ux 36), .int 0, .int 0, .int 0, .int 0]))]) hP hD hK hE9 hS hA [0] (by decide) rfl rfl rfl) rfl rfl hl.1 rfl (lv_room (Nat.le_of_ble_eq_true rfl)) dL_law_1457 ⟨(Nat.le_of_ble_eq_true rfl), (Nat.le_of_ble_eq_true rfl)⟩) hS (fun q _ h => hF q h) hF (fun r u1 t H locs ht hvm hw hB hz1 hk1 hS => ?_)
  try dsimp only at hw hB
  have hP1 : va_P D vwCl [] H := P_nil
  obtain ⟨hP, hD⟩ := post_j (ws' := [(qm, .inr (8, [.int 0, .int 0, .int 2, .ref (um 0), .ref (um 1), .int 0, .int 500, .int 0, .int 0, .int 0, .ref (um 6)]))]) (wr := [(qm, .inr (8, [.int 0, .int 0, .int 2, .ref (um 0), .ref (um 1), .int 0, .int 500, .int 0, .int 0, .int 0, .ref (um 6)]))]) (w1 := []) hP hD hF [0] rfl [1] rfl (by decide) (by decide) hk1 hP1 D_nil [0] (by decide) rfl
  have hP : va_P D vwCl [(qm, .inr (8, [.int 0, .int 0, .int 2, .ref (um 0), .ref (um 1), .int 0, .int 500, .int 0, .int 0, .int 0, .ref (um 6)]))] H := hP
  have hD : va_D (fun q : Nat => s.heap.size ≤ q) [(qm, .inr (8, [.int 0, .int 0, .int 2, .ref (um 0), .ref (um 1), .int 0, .int 500, .int 0, .int 0, .int 0, .ref (um 6)]))] := hD
  rw [hw]
  refine lv_aload_n hx hb dL_law_1460 rfl (lv_at hl 2 rfl) ?_
  have hF := va_free (wc := [(qm, .inr (8, [.int 0, .int 0, .int 2, .ref (um 0), .ref (um 1), .int 0, .int 500, .int 0, .int 0, .int 0, .ref (um 6)]))]) hD hS hA [0] rfl
  refine va_calli (va_runV (As := []) (rest := [.int 0]) ⟨hx, hb, hml, hown, hts⟩ (k_X6_hasEnded_0 l D κ ε qm (um 0) (um 1) (um 6) H.size) (cwV 0 hts gL_law_X6_hasEnded rfl rfl rfl (by decide +kernel) ⟨(Nat.le_of_ble_eq_true rfl), (Nat.le_of_ble_eq_true rfl)⟩) (pre2_V (q0 := 0) (ci := 8) (wc := [(qm, .inr (8, [.int 0, .int 0, .int 2, .ref (um 0), .ref (um 1), .int 0, .int 500, .int 0, .int 0, .int 0, .ref (um 6)]))]) hP hD hK hE9 hS hA [0] (by decide) rfl rfl rfl) rfl rfl hl.1 rfl (lv_room (Nat.le_of_ble_eq_true rfl)) dL_law_1461 ⟨(Nat.le_of_ble_eq_true rfl), (Nat.le_of_ble_eq_true rfl)⟩) hS (fun q _ h => hF q h) hF (fun r u2 t H locs ht hvm hw hB hz1 hk1 hS => ?_)
  try dsimp only at hw hB
  obtain ⟨hP1, hD1⟩ := hB
  rw [ht] at hP1
  obtain ⟨hP, hD⟩ := post_j (ws' := [(qm, .inr (8, u2))]) (wr := []) (w1 := [(qm, .inr (8, u2))]) hP hD hF [0] rfl [] rfl (by decide) (by decide) hk1 hP1 hD1 [0] (by decide) rfl
  have hP : va_P D vwCl [(qm, .inr (8, u2))] H := hP
  have hD : va_D (fun q : Nat => s.heap.size ≤ q) [(qm, .inr (8, u2))] := hD
  obtain ⟨hu3, rfl⟩ := hw
  refine lv_icmp_eq (tgt := 1677) hx hb dL_law_1464 (by decide) (fun _ => ?_) (fun h => absurd (by decide) h)
  exact law_end C0 (Nat.le_of_ble_eq_true rfl) (Nat.le_of_ble_eq_true rfl) hS (lv_sub hl [0, 4] rfl)
