theorem dX5_meanCost_0 : decode cX5_meanCost 0 = .ok (.aload_n 0, 1) := by decide +kernel
theorem dX5_meanCost_1 : decode cX5_meanCost 1 = .ok (.invokevirtual 197, 3) := by decide +kernel
theorem dX5_meanCost_4 : decode cX5_meanCost 4 = .ok (.i2d, 1) := by decide +kernel
theorem dX5_meanCost_5 : decode cX5_meanCost 5 = .ok (.aload_n 0, 1) := by decide +kernel
theorem dX5_meanCost_6 : decode cX5_meanCost 6 = .ok (.getfield 51, 3) := by decide +kernel
theorem dX5_meanCost_9 : decode cX5_meanCost 9 = .ok (.iconst 1, 1) := by decide +kernel
theorem dX5_meanCost_10 : decode cX5_meanCost 10 = .ok (.iadd, 1) := by decide +kernel
theorem dX5_meanCost_11 : decode cX5_meanCost 11 = .ok (.i2d, 1) := by decide +kernel
theorem dX5_meanCost_12 : decode cX5_meanCost 12 = .ok (.ddiv, 1) := by decide +kernel
theorem dX5_meanCost_13 : decode cX5_meanCost 13 = .ok (.dreturn, 1) := by decide +kernel
set_option maxHeartbeats 4000000 in
set_option maxRecDepth 100000 in
theorem mX5_meanCost (l : Launch) (D : va_G) (κ a : Nat → Nat) (ε : EE) (V N way num m : Nat) (S : List Nat) (T : Nat → List (Nat × Nat)) (u : US) (hA : AB V N way num m S T u) : Ct (W0 κ a) l D κ ε yX5_meanCost cX5_meanCost 1 (some .double) 5 119 0 0 u [.ref (a 0)] (fun v u' => v = some (.double (FP.ddiv (FP.i2d (iI (scr V N way num S T : Int))) (FP.i2d (iI ((S.length + 1 : Nat) : Int))))) ∧ Fr [8, 9] [9, 10] u u') := by
  obtain ⟨⟨hV, hN, hway, hnum, hm, hSl, hSV⟩, eV, eN, ew, en, ⟨eS, hS⟩, hT⟩ := id hA
  have hsl := scr_le (V := V) (N := N) (way := way) (num := num) (S := S) (T := T) (S.length + 1)
  have hsc : scr V N way num S T ≤ 1000000 := by unfold scr; omega
  refine Ct.of (own := RX5) rfl (by decide +kernel) (Nat.le_of_ble_eq_true rfl) rfl (fun Γ h => ?_)
  refine w_aload_n h (pc := 0) dX5_meanCost_0 rfl ?_
  refine w_callV0 h (pc := 1) (mX5_sumOfCosts l D κ a ε V N way num m S T u hA) 0 rfl rfl (gdV wm_337 wm_338 wm_339 wm_2 wm_340) (by decide +kernel) ⟨(Nat.le_of_ble_eq_true rfl), (Nat.le_of_ble_eq_true rfl)⟩ ⟨(Nat.le_of_ble_eq_true rfl), (Nat.le_of_ble_eq_true rfl)⟩ (fun _ _ _ => ⟨rfl, rfl⟩) (Nat.le_of_ble_eq_true rfl) dX5_meanCost_1 (fun v1 u1 hp1 => ?_)
  obtain ⟨rfl, hF1⟩ := hp1
  simp only [Option.toList_some, List.cons_append, List.nil_append]
  refine w_i2d h (pc := 4) dX5_meanCost_4 ?_
  refine w_aload_n h (pc := 5) dX5_meanCost_5 rfl ?_
  refine g0_length h (pc := 6) ((hF1.1 0 (by simp)).trans eS) wm_33 dX5_meanCost_6 ?_
  refine w_iconst h (pc := 9) dX5_meanCost_9 ?_
  refine w_iadd h (pc := 10) dX5_meanCost_10 ?_
  refine w_i2d h (pc := 11) dX5_meanCost_11 ?_
  rw [show ((S.length : Int) + 1) = ((S.length + 1 : Nat) : Int) from rfl]
  refine w_ddiv h (pc := 12) dX5_meanCost_12 (md_1 (Nat.le_add_left 1 _) (by omega) hsc) ?_
  exact w_dret h (pc := 13) rfl dX5_meanCost_13 (Nat.le_of_ble_eq_true rfl) (Nat.le_of_ble_eq_true rfl) ⟨rfl, hF1⟩
