theorem dX5_cost_0 : decode cX5_cost 0 = .ok (.iload_n 0, 1) := by decide +kernel
theorem dX5_cost_1 : decode cX5_cost 1 = .ok (.ifCond .gt 7, 3) := by decide +kernel
theorem dX5_cost_4 : decode cX5_cost 4 = .ok (.ldc_w 309, 3) := by decide +kernel
theorem dX5_cost_7 : decode cX5_cost 7 = .ok (.ireturn, 1) := by decide +kernel
theorem dX5_cost_8 : decode cX5_cost 8 = .ok (.iload_n 0, 1) := by decide +kernel
theorem dX5_cost_9 : decode cX5_cost 9 = .ok (.ldc 163, 2) := by decide +kernel
theorem dX5_cost_11 : decode cX5_cost 11 = .ok (.if_icmp .lt 5, 3) := by decide +kernel
theorem dX5_cost_14 : decode cX5_cost 14 = .ok (.iconst 0, 1) := by decide +kernel
theorem dX5_cost_15 : decode cX5_cost 15 = .ok (.ireturn, 1) := by decide +kernel
theorem dX5_cost_16 : decode cX5_cost 16 = .ok (.iconst 0, 1) := by decide +kernel
theorem dX5_cost_17 : decode cX5_cost 17 = .ok (.istore_n 1, 1) := by decide +kernel
theorem dX5_cost_18 : decode cX5_cost 18 = .ok (.iload_n 1, 1) := by decide +kernel
theorem dX5_cost_19 : decode cX5_cost 19 = .ok (.bipush 19, 2) := by decide +kernel
theorem dX5_cost_21 : decode cX5_cost 21 = .ok (.if_icmp .ge 19, 3) := by decide +kernel
theorem dX5_cost_24 : decode cX5_cost 24 = .ok (.iload_n 0, 1) := by decide +kernel
theorem dX5_cost_25 : decode cX5_cost 25 = .ok (.ldc 163, 2) := by decide +kernel
theorem dX5_cost_27 : decode cX5_cost 27 = .ok (.iload_n 1, 1) := by decide +kernel
theorem dX5_cost_28 : decode cX5_cost 28 = .ok (.iconst 1, 1) := by decide +kernel
theorem dX5_cost_29 : decode cX5_cost 29 = .ok (.iadd, 1) := by decide +kernel
theorem dX5_cost_30 : decode cX5_cost 30 = .ok (.ishr, 1) := by decide +kernel
theorem dX5_cost_31 : decode cX5_cost 31 = .ok (.if_icmp .gt 9, 3) := by decide +kernel
theorem dX5_cost_34 : decode cX5_cost 34 = .ok (.iinc 1 1, 3) := by decide +kernel
theorem dX5_cost_37 : decode cX5_cost 37 = .ok (.goto (-19), 3) := by decide +kernel
theorem dX5_cost_40 : decode cX5_cost 40 = .ok (.ldc 163, 2) := by decide +kernel
theorem dX5_cost_42 : decode cX5_cost 42 = .ok (.iload_n 1, 1) := by decide +kernel
theorem dX5_cost_43 : decode cX5_cost 43 = .ok (.ishr, 1) := by decide +kernel
theorem dX5_cost_44 : decode cX5_cost 44 = .ok (.istore_n 2, 1) := by decide +kernel
theorem dX5_cost_45 : decode cX5_cost 45 = .ok (.ldc 163, 2) := by decide +kernel
theorem dX5_cost_47 : decode cX5_cost 47 = .ok (.iload_n 1, 1) := by decide +kernel
theorem dX5_cost_48 : decode cX5_cost 48 = .ok (.iconst 1, 1) := by decide +kernel
theorem dX5_cost_49 : decode cX5_cost 49 = .ok (.iadd, 1) := by decide +kernel
theorem dX5_cost_50 : decode cX5_cost 50 = .ok (.ishr, 1) := by decide +kernel
theorem dX5_cost_51 : decode cX5_cost 51 = .ok (.istore_n 3, 1) := by decide +kernel
theorem dX5_cost_52 : decode cX5_cost 52 = .ok (.sipush 1024, 3) := by decide +kernel
theorem dX5_cost_55 : decode cX5_cost 55 = .ok (.iload_n 1, 1) := by decide +kernel
theorem dX5_cost_56 : decode cX5_cost 56 = .ok (.imul, 1) := by decide +kernel
theorem dX5_cost_57 : decode cX5_cost 57 = .ok (.sipush 1024, 3) := by decide +kernel
theorem dX5_cost_60 : decode cX5_cost 60 = .ok (.iload_n 2, 1) := by decide +kernel
theorem dX5_cost_61 : decode cX5_cost 61 = .ok (.iload_n 0, 1) := by decide +kernel
theorem dX5_cost_62 : decode cX5_cost 62 = .ok (.isub, 1) := by decide +kernel
theorem dX5_cost_63 : decode cX5_cost 63 = .ok (.imul, 1) := by decide +kernel
theorem dX5_cost_64 : decode cX5_cost 64 = .ok (.iload_n 2, 1) := by decide +kernel
theorem dX5_cost_65 : decode cX5_cost 65 = .ok (.iload_n 3, 1) := by decide +kernel
theorem dX5_cost_66 : decode cX5_cost 66 = .ok (.isub, 1) := by decide +kernel
theorem dX5_cost_67 : decode cX5_cost 67 = .ok (.idiv, 1) := by decide +kernel
theorem dX5_cost_68 : decode cX5_cost 68 = .ok (.iadd, 1) := by decide +kernel
theorem dX5_cost_69 : decode cX5_cost 69 = .ok (.ireturn, 1) := by decide +kernel
theorem dX5_digitAt_0 : decode cX5_digitAt 0 = .ok (.iload_n 1, 1) := by decide +kernel
theorem dX5_digitAt_1 : decode cX5_digitAt 1 = .ok (.ifCond .ge 5, 3) := by decide +kernel
theorem dX5_digitAt_4 : decode cX5_digitAt 4 = .ok (.iconst 0, 1) := by decide +kernel
theorem dX5_digitAt_5 : decode cX5_digitAt 5 = .ok (.ireturn, 1) := by decide +kernel
theorem dX5_digitAt_6 : decode cX5_digitAt 6 = .ok (.iload_n 1, 1) := by decide +kernel
theorem dX5_digitAt_7 : decode cX5_digitAt 7 = .ok (.aload_n 0, 1) := by decide +kernel
theorem dX5_digitAt_8 : decode cX5_digitAt 8 = .ok (.getfield 51, 3) := by decide +kernel
theorem dX5_digitAt_11 : decode cX5_digitAt 11 = .ok (.if_icmp .ge 14, 3) := by decide +kernel
theorem dX5_digitAt_14 : decode cX5_digitAt 14 = .ok (.aload_n 0, 1) := by decide +kernel
theorem dX5_digitAt_15 : decode cX5_digitAt 15 = .ok (.getfield 47, 3) := by decide +kernel
theorem dX5_digitAt_18 : decode cX5_digitAt 18 = .ok (.iload_n 1, 1) := by decide +kernel
theorem dX5_digitAt_19 : decode cX5_digitAt 19 = .ok (.iaload, 1) := by decide +kernel
theorem dX5_digitAt_20 : decode cX5_digitAt 20 = .ok (.iconst 1, 1) := by decide +kernel
theorem dX5_digitAt_21 : decode cX5_digitAt 21 = .ok (.iadd, 1) := by decide +kernel
theorem dX5_digitAt_22 : decode cX5_digitAt 22 = .ok (.goto 12, 3) := by decide +kernel
theorem dX5_digitAt_25 : decode cX5_digitAt 25 = .ok (.aload_n 0, 1) := by decide +kernel
theorem dX5_digitAt_26 : decode cX5_digitAt 26 = .ok (.getfield 10, 3) := by decide +kernel
theorem dX5_digitAt_29 : decode cX5_digitAt 29 = .ok (.getfield 65, 3) := by decide +kernel
theorem dX5_digitAt_32 : decode cX5_digitAt 32 = .ok (.iconst 1, 1) := by decide +kernel
theorem dX5_digitAt_33 : decode cX5_digitAt 33 = .ok (.iadd, 1) := by decide +kernel
theorem dX5_digitAt_34 : decode cX5_digitAt 34 = .ok (.ireturn, 1) := by decide +kernel
theorem dX5_keyUpTo_0 : decode cX5_keyUpTo 0 = .ok (.iconst 0, 1) := by decide +kernel
theorem dX5_keyUpTo_1 : decode cX5_keyUpTo 1 = .ok (.istore_n 3, 1) := by decide +kernel
theorem dX5_keyUpTo_2 : decode cX5_keyUpTo 2 = .ok (.iload_n 1, 1) := by decide +kernel
theorem dX5_keyUpTo_3 : decode cX5_keyUpTo 3 = .ok (.iload_n 2, 1) := by decide +kernel
theorem dX5_keyUpTo_4 : decode cX5_keyUpTo 4 = .ok (.isub, 1) := by decide +kernel
theorem dX5_keyUpTo_5 : decode cX5_keyUpTo 5 = .ok (.iconst 1, 1) := by decide +kernel
theorem dX5_keyUpTo_6 : decode cX5_keyUpTo 6 = .ok (.iadd, 1) := by decide +kernel
theorem dX5_keyUpTo_7 : decode cX5_keyUpTo 7 = .ok (.istore 4, 2) := by decide +kernel
theorem dX5_keyUpTo_9 : decode cX5_keyUpTo 9 = .ok (.iload 4, 2) := by decide +kernel
theorem dX5_keyUpTo_11 : decode cX5_keyUpTo 11 = .ok (.iload_n 1, 1) := by decide +kernel
theorem dX5_keyUpTo_12 : decode cX5_keyUpTo 12 = .ok (.if_icmp .gt 21, 3) := by decide +kernel
theorem dX5_keyUpTo_15 : decode cX5_keyUpTo 15 = .ok (.iload_n 3, 1) := by decide +kernel
theorem dX5_keyUpTo_16 : decode cX5_keyUpTo 16 = .ok (.bipush 14, 2) := by decide +kernel
theorem dX5_keyUpTo_18 : decode cX5_keyUpTo 18 = .ok (.imul, 1) := by decide +kernel
theorem dX5_keyUpTo_19 : decode cX5_keyUpTo 19 = .ok (.aload_n 0, 1) := by decide +kernel
theorem dX5_keyUpTo_20 : decode cX5_keyUpTo 20 = .ok (.iload 4, 2) := by decide +kernel
theorem dX5_keyUpTo_22 : decode cX5_keyUpTo 22 = .ok (.invokevirtual 267, 3) := by decide +kernel
theorem dX5_keyUpTo_25 : decode cX5_keyUpTo 25 = .ok (.iadd, 1) := by decide +kernel
theorem dX5_keyUpTo_26 : decode cX5_keyUpTo 26 = .ok (.istore_n 3, 1) := by decide +kernel
theorem dX5_keyUpTo_27 : decode cX5_keyUpTo 27 = .ok (.iinc 4 1, 3) := by decide +kernel
theorem dX5_keyUpTo_30 : decode cX5_keyUpTo 30 = .ok (.goto (-21), 3) := by decide +kernel
theorem dX5_keyUpTo_33 : decode cX5_keyUpTo 33 = .ok (.iload_n 3, 1) := by decide +kernel
theorem dX5_keyUpTo_34 : decode cX5_keyUpTo 34 = .ok (.ireturn, 1) := by decide +kernel
theorem dX5_reckonBehindSentence_0 : decode cX5_reckonBehindSentence 0 = .ok (.aload_n 0, 1) := by decide +kernel
theorem dX5_reckonBehindSentence_1 : decode cX5_reckonBehindSentence 1 = .ok (.getfield 21, 3) := by decide +kernel
theorem dX5_reckonBehindSentence_4 : decode cX5_reckonBehindSentence 4 = .ok (.aload_n 0, 1) := by decide +kernel
theorem dX5_reckonBehindSentence_5 : decode cX5_reckonBehindSentence 5 = .ok (.getfield 10, 3) := by decide +kernel
theorem dX5_reckonBehindSentence_8 : decode cX5_reckonBehindSentence 8 = .ok (.getfield 83, 3) := by decide +kernel
theorem dX5_reckonBehindSentence_11 : decode cX5_reckonBehindSentence 11 = .ok (.aload_n 0, 1) := by decide +kernel
theorem dX5_reckonBehindSentence_12 : decode cX5_reckonBehindSentence 12 = .ok (.aload_n 0, 1) := by decide +kernel
theorem dX5_reckonBehindSentence_13 : decode cX5_reckonBehindSentence 13 = .ok (.getfield 51, 3) := by decide +kernel
theorem dX5_reckonBehindSentence_16 : decode cX5_reckonBehindSentence 16 = .ok (.iconst 1, 1) := by decide +kernel
theorem dX5_reckonBehindSentence_17 : decode cX5_reckonBehindSentence 17 = .ok (.isub, 1) := by decide +kernel
theorem dX5_reckonBehindSentence_18 : decode cX5_reckonBehindSentence 18 = .ok (.aload_n 0, 1) := by decide +kernel
theorem dX5_reckonBehindSentence_19 : decode cX5_reckonBehindSentence 19 = .ok (.getfield 10, 3) := by decide +kernel
theorem dX5_reckonBehindSentence_22 : decode cX5_reckonBehindSentence 22 = .ok (.getfield 83, 3) := by decide +kernel
theorem dX5_reckonBehindSentence_25 : decode cX5_reckonBehindSentence 25 = .ok (.iconst 1, 1) := by decide +kernel
theorem dX5_reckonBehindSentence_26 : decode cX5_reckonBehindSentence 26 = .ok (.isub, 1) := by decide +kernel
theorem dX5_reckonBehindSentence_27 : decode cX5_reckonBehindSentence 27 = .ok (.invokevirtual 202, 3) := by decide +kernel
theorem dX5_reckonBehindSentence_30 : decode cX5_reckonBehindSentence 30 = .ok (.invokevirtual 298, 3) := by decide +kernel
theorem dX5_reckonBehindSentence_33 : decode cX5_reckonBehindSentence 33 = .ok (.return_, 1) := by decide +kernel
theorem dX5_sumOfCosts_0 : decode cX5_sumOfCosts 0 = .ok (.iconst 0, 1) := by decide +kernel
theorem dX5_sumOfCosts_1 : decode cX5_sumOfCosts 1 = .ok (.istore_n 1, 1) := by decide +kernel
theorem dX5_sumOfCosts_2 : decode cX5_sumOfCosts 2 = .ok (.iconst 0, 1) := by decide +kernel
theorem dX5_sumOfCosts_3 : decode cX5_sumOfCosts 3 = .ok (.istore_n 2, 1) := by decide +kernel
theorem dX5_sumOfCosts_4 : decode cX5_sumOfCosts 4 = .ok (.iload_n 2, 1) := by decide +kernel
theorem dX5_sumOfCosts_5 : decode cX5_sumOfCosts 5 = .ok (.aload_n 0, 1) := by decide +kernel
theorem dX5_sumOfCosts_6 : decode cX5_sumOfCosts 6 = .ok (.getfield 51, 3) := by decide +kernel
theorem dX5_sumOfCosts_9 : decode cX5_sumOfCosts 9 = .ok (.if_icmp .gt 72, 3) := by decide +kernel
theorem dX5_sumOfCosts_12 : decode cX5_sumOfCosts 12 = .ok (.aload_n 0, 1) := by decide +kernel
theorem dX5_sumOfCosts_13 : decode cX5_sumOfCosts 13 = .ok (.getfield 21, 3) := by decide +kernel
theorem dX5_sumOfCosts_16 : decode cX5_sumOfCosts 16 = .ok (.aload_n 0, 1) := by decide +kernel
theorem dX5_sumOfCosts_17 : decode cX5_sumOfCosts 17 = .ok (.getfield 10, 3) := by decide +kernel
theorem dX5_sumOfCosts_20 : decode cX5_sumOfCosts 20 = .ok (.getfield 83, 3) := by decide +kernel
theorem dX5_sumOfCosts_23 : decode cX5_sumOfCosts 23 = .ok (.aload_n 0, 1) := by decide +kernel
theorem dX5_sumOfCosts_24 : decode cX5_sumOfCosts 24 = .ok (.iload_n 2, 1) := by decide +kernel
theorem dX5_sumOfCosts_25 : decode cX5_sumOfCosts 25 = .ok (.iconst 1, 1) := by decide +kernel
theorem dX5_sumOfCosts_26 : decode cX5_sumOfCosts 26 = .ok (.isub, 1) := by decide +kernel
theorem dX5_sumOfCosts_27 : decode cX5_sumOfCosts 27 = .ok (.aload_n 0, 1) := by decide +kernel
theorem dX5_sumOfCosts_28 : decode cX5_sumOfCosts 28 = .ok (.getfield 10, 3) := by decide +kernel
theorem dX5_sumOfCosts_31 : decode cX5_sumOfCosts 31 = .ok (.getfield 83, 3) := by decide +kernel
theorem dX5_sumOfCosts_34 : decode cX5_sumOfCosts 34 = .ok (.iconst 1, 1) := by decide +kernel
theorem dX5_sumOfCosts_35 : decode cX5_sumOfCosts 35 = .ok (.isub, 1) := by decide +kernel
theorem dX5_sumOfCosts_36 : decode cX5_sumOfCosts 36 = .ok (.invokevirtual 202, 3) := by decide +kernel
theorem dX5_sumOfCosts_39 : decode cX5_sumOfCosts 39 = .ok (.invokevirtual 298, 3) := by decide +kernel
theorem dX5_sumOfCosts_42 : decode cX5_sumOfCosts 42 = .ok (.aload_n 0, 1) := by decide +kernel
theorem dX5_sumOfCosts_43 : decode cX5_sumOfCosts 43 = .ok (.iload_n 2, 1) := by decide +kernel
theorem dX5_sumOfCosts_44 : decode cX5_sumOfCosts 44 = .ok (.invokevirtual 267, 3) := by decide +kernel
theorem dX5_sumOfCosts_47 : decode cX5_sumOfCosts 47 = .ok (.iconst 1, 1) := by decide +kernel
theorem dX5_sumOfCosts_48 : decode cX5_sumOfCosts 48 = .ok (.isub, 1) := by decide +kernel
theorem dX5_sumOfCosts_49 : decode cX5_sumOfCosts 49 = .ok (.istore_n 3, 1) := by decide +kernel
theorem dX5_sumOfCosts_50 : decode cX5_sumOfCosts 50 = .ok (.iload_n 3, 1) := by decide +kernel
theorem dX5_sumOfCosts_51 : decode cX5_sumOfCosts 51 = .ok (.ifCond .lt 24, 3) := by decide +kernel
theorem dX5_sumOfCosts_54 : decode cX5_sumOfCosts 54 = .ok (.iload_n 3, 1) := by decide +kernel
theorem dX5_sumOfCosts_55 : decode cX5_sumOfCosts 55 = .ok (.bipush 12, 2) := by decide +kernel
theorem dX5_sumOfCosts_57 : decode cX5_sumOfCosts 57 = .ok (.if_icmp .gt 18, 3) := by decide +kernel
theorem dX5_sumOfCosts_60 : decode cX5_sumOfCosts 60 = .ok (.iload_n 1, 1) := by decide +kernel
theorem dX5_sumOfCosts_61 : decode cX5_sumOfCosts 61 = .ok (.aload_n 0, 1) := by decide +kernel
theorem dX5_sumOfCosts_62 : decode cX5_sumOfCosts 62 = .ok (.getfield 21, 3) := by decide +kernel
theorem dX5_sumOfCosts_65 : decode cX5_sumOfCosts 65 = .ok (.getfield 186, 3) := by decide +kernel
theorem dX5_sumOfCosts_68 : decode cX5_sumOfCosts 68 = .ok (.iload_n 3, 1) := by decide +kernel
theorem dX5_sumOfCosts_69 : decode cX5_sumOfCosts 69 = .ok (.iaload, 1) := by decide +kernel
theorem dX5_sumOfCosts_70 : decode cX5_sumOfCosts 70 = .ok (.invokestatic 194, 3) := by decide +kernel
theorem dX5_sumOfCosts_73 : decode cX5_sumOfCosts 73 = .ok (.iadd, 1) := by decide +kernel
theorem dX5_sumOfCosts_74 : decode cX5_sumOfCosts 74 = .ok (.istore_n 1, 1) := by decide +kernel
theorem dX5_sumOfCosts_75 : decode cX5_sumOfCosts 75 = .ok (.iinc 2 1, 3) := by decide +kernel
theorem dX5_sumOfCosts_78 : decode cX5_sumOfCosts 78 = .ok (.goto (-74), 3) := by decide +kernel
theorem dX5_sumOfCosts_81 : decode cX5_sumOfCosts 81 = .ok (.iload_n 1, 1) := by decide +kernel
theorem dX5_sumOfCosts_82 : decode cX5_sumOfCosts 82 = .ok (.ireturn, 1) := by decide +kernel
set_option maxHeartbeats 4000000 in
set_option maxRecDepth 100000 in
theorem mX5_digitAt (l : Launch) (D : va_G) (κ a : Nat → Nat) (ε : EE) (V N way num m : Nat) (S : List Nat) (T : Nat → List (Nat × Nat)) (u : US) (hA : AB V N way num m S T u) (z : Int) (hz : -100 ≤ z ∧ z ≤ 100) : Ct (W0 κ a) l D κ ε yX5_digitAt cX5_digitAt 2 (some .int) 0 0 0 0 u [.ref (a 0), .int (iI z)] (fun v u' => v = some (.int (iI (dg V S z : Int))) ∧ u' = u) := by
  obtain ⟨⟨hV, hN, hway, hnum, hm, hSl, hSV⟩, eV, eN, ew, en, ⟨eS, hS⟩, hT⟩ := id hA
  refine Ct.of (own := RX5) rfl (by decide +kernel) (Nat.le_of_ble_eq_true rfl) rfl (fun Γ h => ?_)
  refine w_iload_n h (pc := 0) dX5_digitAt_0 rfl ?_
  refine w_if_ge h (pc := 1) (tgt := 6) dX5_digitAt_1 (by decide) (by omega) (fun c1 => ?_) (fun c1 => ?_)
  · refine w_iload_n h (pc := 6) dX5_digitAt_6 rfl ?_
    refine w_aload_n h (pc := 7) dX5_digitAt_7 rfl ?_
    refine g0_length h (pc := 8) eS wm_33 dX5_digitAt_8 ?_
    refine w_icmp_ge h (pc := 11) (tgt := 25) dX5_digitAt_11 (by decide) (by omega) (by omega) (fun c11 => ?_) (fun c11 => ?_)
    · have hd := dg_end (V := V) (S := S) (z := z) (by omega)
      refine w_aload_n h (pc := 25) dX5_digitAt_25 rfl ?_
      refine g0_ledger h (pc := 26) wm_16 dX5_digitAt_26 ?_
      refine g1_words h (pc := 29) eV wm_113 dX5_digitAt_29 ?_
      refine w_iconst h (pc := 32) dX5_digitAt_32 ?_
      refine w_iadd h (pc := 33) dX5_digitAt_33 ?_
      exact w_iret h (pc := 34) (ty := .int) rfl rfl dX5_digitAt_34 (Nat.le_of_ble_eq_true rfl) (Nat.le_of_ble_eq_true rfl) ⟨by rw [hd]; rfl, rfl⟩
    · obtain ⟨j, rfl⟩ : ∃ j : Nat, z = (j : Int) := ⟨z.toNat, by omega⟩
      obtain ⟨w, hw⟩ : ∃ w, S[j]? = some w := ⟨S[j]'(by omega), List.getElem?_eq_getElem (by omega)⟩
      have hd := dg_at (V := V) hw
      refine w_aload_n h (pc := 14) dX5_digitAt_14 rfl ?_
      refine g0_sentence h (pc := 15) wm_32 dX5_digitAt_15 ?_
      refine w_iload_n h (pc := 18) dX5_digitAt_18 rfl ?_
      refine ld_sentence h (pc := 19) (by omega) (hS j w hw) dX5_digitAt_19 ?_
      refine w_iconst h (pc := 20) dX5_digitAt_20 ?_
      refine w_iadd h (pc := 21) dX5_digitAt_21 ?_
      refine w_goto h (pc := 22) (tgt := 34) dX5_digitAt_22 (by decide) ?_
      exact w_iret h (pc := 34) (ty := .int) rfl rfl dX5_digitAt_34 (Nat.le_of_ble_eq_true rfl) (Nat.le_of_ble_eq_true rfl) ⟨by rw [hd]; rfl, rfl⟩
  · have hd := dg_neg (V := V) (S := S) (z := z) (by omega)
    refine w_iconst h (pc := 4) dX5_digitAt_4 ?_
    exact w_iret h (pc := 5) (ty := .int) rfl rfl dX5_digitAt_5 (Nat.le_of_ble_eq_true rfl) (Nat.le_of_ble_eq_true rfl) ⟨by rw [hd]; rfl, rfl⟩

set_option maxHeartbeats 4000000 in
set_option maxRecDepth 100000 in
theorem mX5_keyUpTo (l : Launch) (D : va_G) (κ a : Nat → Nat) (ε : EE) (V N way num m : Nat) (S : List Nat) (T : Nat → List (Nat × Nat)) (u : US) (hA : AB V N way num m S T u) (z : Int) (hz : -50 ≤ z ∧ z ≤ 50) (n : Nat) (hn : n ≤ 4) : Ct (W0 κ a) l D κ ε yX5_keyUpTo cX5_keyUpTo 5 (some .int) 1 21 0 0 u [.ref (a 0), .int (iI z), .int (iI (n : Int))] (fun v u' => v = some (.int (iI (ky V S z n : Int))) ∧ u' = u) := by
  obtain ⟨⟨hV, hN, hway, hnum, hm, hSl, hSV⟩, eV, eN, ew, en, ⟨eS, hS⟩, hT⟩ := id hA
  refine Ct.of (own := RX5) rfl (by decide +kernel) (Nat.le_of_ble_eq_true rfl) rfl (fun Γ h => ?_)
  refine w_iconst h (pc := 0) dX5_keyUpTo_0 ?_
  refine w_istore_n h (pc := 1) dX5_keyUpTo_1 (by decide) ?_
  refine w_iload_n h (pc := 2) dX5_keyUpTo_2 rfl ?_
  refine w_iload_n h (pc := 3) dX5_keyUpTo_3 rfl ?_
  refine w_isub h (pc := 4) dX5_keyUpTo_4 ?_
  refine w_iconst h (pc := 5) dX5_keyUpTo_5 ?_
  refine w_iadd h (pc := 6) dX5_keyUpTo_6 ?_
  refine w_istore h (pc := 7) dX5_keyUpTo_7 (by decide) ?_
  have lp9 : ∀ (n9 k : Nat) (y : Int), y = z - n + k → n < k + n9 → k ≤ n → WW Γ 5 u 9 [(0, .ref (a 0)), (1, .int (iI z)), (3, .int (iI (ky V S y k : Int))), (4, .int (iI (y + 1)))] [] := by
    intro n9
    induction n9 with
    | zero => intro k y hy hn9 hk; exfalso; omega
    | succ n9 ih =>
      intro k y hy hn9 hk
      have hky := ky_4 hV hSV (n := k) (by omega) y
      refine w_iload h (pc := 9) dX5_keyUpTo_9 rfl ?_
      refine w_iload_n h (pc := 11) dX5_keyUpTo_11 rfl ?_
      refine w_icmp_gt h (pc := 12) (tgt := 33) dX5_keyUpTo_12 (by decide) (by omega) (by omega) (fun c12 => ?_) (fun c12 => ?_)
      · obtain rfl : k = n := by omega
        obtain rfl : y = z := by omega
        refine w_iload_n h (pc := 33) dX5_keyUpTo_33 rfl ?_
        exact w_iret h (pc := 34) (ty := .int) rfl rfl dX5_keyUpTo_34 (Nat.le_of_ble_eq_true rfl) (Nat.le_of_ble_eq_true rfl) ⟨rfl, rfl⟩
      · refine w_iload_n h (pc := 15) dX5_keyUpTo_15 rfl ?_
        refine w_bipush h (pc := 16) dX5_keyUpTo_16 (by decide) ?_
        refine w_imul h (pc := 18) dX5_keyUpTo_18 ?_
        refine w_aload_n h (pc := 19) dX5_keyUpTo_19 rfl ?_
        refine w_iload h (pc := 20) dX5_keyUpTo_20 rfl ?_
        refine w_callV1 h (pc := 22) (mX5_digitAt l D κ a ε V N way num m S T u hA (y + 1) (by omega)) 0 rfl rfl (gdV wm_174 wm_175 wm_176 wm_2 wm_177) (by decide +kernel) ⟨(Nat.le_of_ble_eq_true rfl), (Nat.le_of_ble_eq_true rfl)⟩ ⟨(Nat.le_of_ble_eq_true rfl), (Nat.le_of_ble_eq_true rfl)⟩ (fun _ _ _ => ⟨rfl, rfl⟩) (Nat.le_of_ble_eq_true rfl) dX5_keyUpTo_22 (fun v1 u1 hp1 => ?_)
        obtain ⟨rfl, e1⟩ := hp1
        obtain rfl := e1.symm
        have hdl := dg_le hSV (y + 1)
        have hkk : ky V S (y + 1) (k + 1) = ky V S y k * 14 + dg V S (y + 1) := by show ky V S (y + 1 - 1) k * 14 + _ = _; rw [show y + 1 - 1 = y by omega]
        simp only [Option.toList_some, List.cons_append, List.nil_append]
        refine w_iadd h (pc := 25) dX5_keyUpTo_25 ?_
        rw [show ((ky V S y k : Int) * 14 + (dg V S (y + 1) : Int)) = (ky V S (y + 1) (k + 1) : Int) by rw [hkk]; rfl]
        refine w_istore_n h (pc := 26) dX5_keyUpTo_26 (by decide) ?_
        refine w_iinc h (pc := 27) dX5_keyUpTo_27 rfl (by decide) ?_
        refine w_goto h (pc := 30) (tgt := 9) dX5_keyUpTo_30 (by decide) ?_
        exact WW.sub (by rfl) (ih (k + 1) (y + 1) (by omega) (by omega) (by omega))
  exact WW.sub (by rfl) (lp9 (n + 1) 0 (z - n) (by omega) (by omega) (by omega))

set_option maxHeartbeats 4000000 in
set_option maxRecDepth 100000 in
theorem mX5_cost (l : Launch) (D : va_G) (κ a : Nat → Nat) (ε : EE) (u : US) (p : Nat) (hp : p ≤ 1000000) : Ct (W0 κ a) l D κ ε yX5_cost cX5_cost 4 (some .int) 0 0 0 0 u [.int (iI (p : Int))] (fun v u' => v = some (.int (iI (co p : Int))) ∧ u' = u) := by
  refine Ct.of (own := RX5) rfl (by decide +kernel) (Nat.le_of_ble_eq_true rfl) rfl (fun Γ h => ?_)
  refine w_iload_n h (pc := 0) dX5_cost_0 rfl ?_
  refine w_if_gt h (pc := 1) (tgt := 8) dX5_cost_1 (by decide) (by omega) (fun c1 => ?_) (fun c1 => ?_)
  · refine w_iload_n h (pc := 8) dX5_cost_8 rfl ?_
    refine w_ldc h (pc := 9) (z := 1000000) dX5_cost_9 wm_345 (by decide) ?_
    refine w_icmp_lt h (pc := 11) (tgt := 16) dX5_cost_11 (by decide) (by omega) (by omega) (fun c11 => ?_) (fun c11 => ?_)
    · refine w_iconst h (pc := 16) dX5_cost_16 ?_
      refine w_istore_n h (pc := 17) dX5_cost_17 (by decide) ?_
      have lp18 : ∀ (n9 h9 : Nat), 19 < h9 + n9 → h9 ≤ 19 → hv p (19 - h9) h9 = hv p 19 0 → p ≤ 1000000 / 2 ^ h9 → WW Γ 4 u 18 [(0, .int (iI (p : Int))), (1, .int (iI (h9 : Int)))] [] := by
        intro n9
        induction n9 with
        | zero => intro h9 hn9 hle heq hpu; exfalso; omega
        | succ n9 ih =>
          intro h9 hn9 hle heq hpu
          have hl := half_lt (j := h9) (by omega)
          obtain ⟨X, hX⟩ : ∃ X, X = 1000000 / 2 ^ h9 := ⟨_, rfl⟩
          obtain ⟨Y, hY⟩ : ∃ Y, Y = 1000000 / 2 ^ (h9 + 1) := ⟨_, rfl⟩
          rw [← hX, ← hY] at hl
          rw [← hX] at hpu
          refine w_iload_n h (pc := 18) dX5_cost_18 rfl ?_
          refine w_bipush h (pc := 19) dX5_cost_19 (by decide) ?_
          refine w_icmp_ge h (pc := 21) (tgt := 40) dX5_cost_21 (by decide) (by omega) (by omega) (fun c21 => ?_) (fun c21 => ?_)
          · have hst : hv p 19 0 = h9 := by rw [← heq]; exact hv_stop (by rw [← hY]; omega) _
            have hr : co p = 1024 * h9 + 1024 * (X - p) / (X - Y) := by unfold co; rw [if_neg (by omega), if_neg (by omega), hst, hX, hY]
            refine w_ldc h (pc := 40) (z := 1000000) dX5_cost_40 wm_345 (by decide) ?_
            refine w_iload_n h (pc := 42) dX5_cost_42 rfl ?_
            refine w_ishr h (pc := 43) (z := (X : Int)) dX5_cost_43 ((shr_u (j := h9) (by omega)).trans (by rw [hX])) ?_
            refine w_istore_n h (pc := 44) dX5_cost_44 (by decide) ?_
            refine w_ldc h (pc := 45) (z := 1000000) dX5_cost_45 wm_345 (by decide) ?_
            refine w_iload_n h (pc := 47) dX5_cost_47 rfl ?_
            refine w_iconst h (pc := 48) dX5_cost_48 ?_
            refine w_iadd h (pc := 49) dX5_cost_49 ?_
            refine w_ishr h (pc := 50) (z := (Y : Int)) dX5_cost_50 ((shr_u (j := h9 + 1) (by omega)).trans (by rw [hY])) ?_
            refine w_istore_n h (pc := 51) dX5_cost_51 (by decide) ?_
            refine w_sipush h (pc := 52) dX5_cost_52 (by decide) ?_
            refine w_iload_n h (pc := 55) dX5_cost_55 rfl ?_
            refine w_imul h (pc := 56) dX5_cost_56 ?_
            refine w_sipush h (pc := 57) dX5_cost_57 (by decide) ?_
            refine w_iload_n h (pc := 60) dX5_cost_60 rfl ?_
            refine w_iload_n h (pc := 61) dX5_cost_61 rfl ?_
            refine w_isub h (pc := 62) dX5_cost_62 ?_
            refine w_imul h (pc := 63) dX5_cost_63 ?_
            refine w_iload_n h (pc := 64) dX5_cost_64 rfl ?_
            refine w_iload_n h (pc := 65) dX5_cost_65 rfl ?_
            refine w_isub h (pc := 66) dX5_cost_66 ?_
            refine w_idiv h (pc := 67) dX5_cost_67 (by omega) (by omega) ?_
            rw [show (X : Int) - (p : Int) = ((X - p : Nat) : Int) by omega, show (X : Int) - (Y : Int) = ((X - Y : Nat) : Int) by omega]
            refine w_iadd h (pc := 68) dX5_cost_68 ?_
            exact w_iret h (pc := 69) (ty := .int) rfl rfl dX5_cost_69 (Nat.le_of_ble_eq_true rfl) (Nat.le_of_ble_eq_true rfl) ⟨by rw [hr]; rfl, rfl⟩
          · refine w_iload_n h (pc := 24) dX5_cost_24 rfl ?_
            refine w_ldc h (pc := 25) (z := 1000000) dX5_cost_25 wm_345 (by decide) ?_
            refine w_iload_n h (pc := 27) dX5_cost_27 rfl ?_
            refine w_iconst h (pc := 28) dX5_cost_28 ?_
            refine w_iadd h (pc := 29) dX5_cost_29 ?_
            refine w_ishr h (pc := 30) (z := (Y : Int)) dX5_cost_30 ((shr_u (j := h9 + 1) (by omega)).trans (by rw [hY])) ?_
            refine w_icmp_gt h (pc := 31) (tgt := 40) dX5_cost_31 (by decide) (by omega) (by omega) (fun c31 => ?_) (fun c31 => ?_)
            · have hst : hv p 19 0 = h9 := by rw [← heq]; exact hv_stop (by rw [← hY]; omega) _
              have hr : co p = 1024 * h9 + 1024 * (X - p) / (X - Y) := by unfold co; rw [if_neg (by omega), if_neg (by omega), hst, hX, hY]
              refine w_ldc h (pc := 40) (z := 1000000) dX5_cost_40 wm_345 (by decide) ?_
              refine w_iload_n h (pc := 42) dX5_cost_42 rfl ?_
              refine w_ishr h (pc := 43) (z := (X : Int)) dX5_cost_43 ((shr_u (j := h9) (by omega)).trans (by rw [hX])) ?_
              refine w_istore_n h (pc := 44) dX5_cost_44 (by decide) ?_
              refine w_ldc h (pc := 45) (z := 1000000) dX5_cost_45 wm_345 (by decide) ?_
              refine w_iload_n h (pc := 47) dX5_cost_47 rfl ?_
              refine w_iconst h (pc := 48) dX5_cost_48 ?_
              refine w_iadd h (pc := 49) dX5_cost_49 ?_
              refine w_ishr h (pc := 50) (z := (Y : Int)) dX5_cost_50 ((shr_u (j := h9 + 1) (by omega)).trans (by rw [hY])) ?_
              refine w_istore_n h (pc := 51) dX5_cost_51 (by decide) ?_
              refine w_sipush h (pc := 52) dX5_cost_52 (by decide) ?_
              refine w_iload_n h (pc := 55) dX5_cost_55 rfl ?_
              refine w_imul h (pc := 56) dX5_cost_56 ?_
              refine w_sipush h (pc := 57) dX5_cost_57 (by decide) ?_
              refine w_iload_n h (pc := 60) dX5_cost_60 rfl ?_
              refine w_iload_n h (pc := 61) dX5_cost_61 rfl ?_
              refine w_isub h (pc := 62) dX5_cost_62 ?_
              refine w_imul h (pc := 63) dX5_cost_63 ?_
              refine w_iload_n h (pc := 64) dX5_cost_64 rfl ?_
              refine w_iload_n h (pc := 65) dX5_cost_65 rfl ?_
              refine w_isub h (pc := 66) dX5_cost_66 ?_
              refine w_idiv h (pc := 67) dX5_cost_67 (by omega) (by omega) ?_
              rw [show (X : Int) - (p : Int) = ((X - p : Nat) : Int) by omega, show (X : Int) - (Y : Int) = ((X - Y : Nat) : Int) by omega]
              refine w_iadd h (pc := 68) dX5_cost_68 ?_
              exact w_iret h (pc := 69) (ty := .int) rfl rfl dX5_cost_69 (Nat.le_of_ble_eq_true rfl) (Nat.le_of_ble_eq_true rfl) ⟨by rw [hr]; rfl, rfl⟩
            · refine w_iinc h (pc := 34) dX5_cost_34 rfl (by decide) ?_
              refine w_goto h (pc := 37) (tgt := 18) dX5_cost_37 (by decide) ?_
              exact WW.sub (by rfl) (ih (h9 + 1) (by omega) (by omega) (by rw [← heq, show 19 - h9 = (19 - (h9 + 1)) + 1 by omega]; symm; show hv p (19 - (h9 + 1) + 1) h9 = _; rw [hv, if_pos ⟨by omega, by rw [← hY]; omega⟩]) (by rw [← hY]; omega))
      exact WW.sub (by rfl) (lp18 20 0 (by omega) (by omega) rfl (by omega))
    · have hr : co p = 0 := by unfold co; rw [if_neg (by omega), if_pos (by omega)]
      refine w_iconst h (pc := 14) dX5_cost_14 ?_
      exact w_iret h (pc := 15) (ty := .int) rfl rfl dX5_cost_15 (Nat.le_of_ble_eq_true rfl) (Nat.le_of_ble_eq_true rfl) ⟨by rw [hr]; rfl, rfl⟩
  · have hr : co p = 32768 := by unfold co; rw [if_pos (by omega)]
    refine w_ldcw h (pc := 4) (z := 32768) dX5_cost_4 wm_344 (by decide) ?_
    exact w_iret h (pc := 7) (ty := .int) rfl rfl dX5_cost_7 (Nat.le_of_ble_eq_true rfl) (Nat.le_of_ble_eq_true rfl) ⟨by rw [hr]; rfl, rfl⟩

set_option maxHeartbeats 4000000 in
set_option maxRecDepth 100000 in
theorem mX5_reckonBehindSentence (l : Launch) (D : va_G) (κ a : Nat → Nat) (ε : EE) (V N way num m : Nat) (S : List Nat) (T : Nat → List (Nat × Nat)) (u : US) (hA : AB V N way num m S T u) : Ct (W0 κ a) l D κ ε yX5_reckonBehindSentence cX5_reckonBehindSentence 1 none 4 96 0 0 u [.ref (a 0)] (fun v u' => v = none ∧ Fr [8, 9] [9, 10] u u' ∧ ∀ w, w ≤ V → u'.2 9 w = (chz V N way num S T (S.length : Int) w : Int)) := by
  obtain ⟨⟨hV, hN, hway, hnum, hm, hSl, hSV⟩, eV, eN, ew, en, ⟨eS, hS⟩, hT⟩ := id hA
  refine Ct.of (own := RX5) rfl (by decide +kernel) (Nat.le_of_ble_eq_true rfl) rfl (fun Γ h => ?_)
  refine w_aload_n h (pc := 0) dX5_reckonBehindSentence_0 rfl ?_
  refine g0_reckoner h (pc := 1) wm_20 dX5_reckonBehindSentence_1 ?_
  refine w_aload_n h (pc := 4) dX5_reckonBehindSentence_4 rfl ?_
  refine g0_ledger h (pc := 5) wm_16 dX5_reckonBehindSentence_5 ?_
  refine g1_order h (pc := 8) eN wm_140 dX5_reckonBehindSentence_8 ?_
  refine w_aload_n h (pc := 11) dX5_reckonBehindSentence_11 rfl ?_
  refine w_aload_n h (pc := 12) dX5_reckonBehindSentence_12 rfl ?_
  refine g0_length h (pc := 13) eS wm_33 dX5_reckonBehindSentence_13 ?_
  refine w_iconst h (pc := 16) dX5_reckonBehindSentence_16 ?_
  refine w_isub h (pc := 17) dX5_reckonBehindSentence_17 ?_
  refine w_aload_n h (pc := 18) dX5_reckonBehindSentence_18 rfl ?_
  refine g0_ledger h (pc := 19) wm_16 dX5_reckonBehindSentence_19 ?_
  refine g1_order h (pc := 22) eN wm_140 dX5_reckonBehindSentence_22 ?_
  refine w_iconst h (pc := 25) dX5_reckonBehindSentence_25 ?_
  refine w_isub h (pc := 26) dX5_reckonBehindSentence_26 ?_
  rw [show ((N : Int) - 1) = ((N - 1 : Nat) : Int) by omega]
  refine w_callV2 h (pc := 27) (mX5_keyUpTo l D κ a ε V N way num m S T u hA ((S.length : Int) - 1) (by omega) (N - 1) (by omega)) 0 rfl rfl (gdV wm_170 wm_171 wm_172 wm_2 wm_173) (by decide +kernel) ⟨(Nat.le_of_ble_eq_true rfl), (Nat.le_of_ble_eq_true rfl)⟩ ⟨(Nat.le_of_ble_eq_true rfl), (Nat.le_of_ble_eq_true rfl)⟩ (fun _ _ _ => ⟨rfl, rfl⟩) (Nat.le_of_ble_eq_true rfl) dX5_reckonBehindSentence_27 (fun v1 u1 hp1 => ?_)
  obtain ⟨rfl, e1⟩ := hp1
  obtain rfl := e1.symm
  simp only [Option.toList_some, List.cons_append, List.nil_append]
  refine w_callV2 h (pc := 30) (mX1_reckon l D κ a ε V m N way num u T hV (by omega) hN hway hnum hT eV eN ew en N (by omega) (ky V S ((S.length : Int) - 1) (N - 1)) (ky_4 hV hSV (by omega) _)) 2 rfl rfl (gdV wm_302 wm_303 wm_304 wm_19 wm_305) (by decide +kernel) ⟨(Nat.le_of_ble_eq_true rfl), (Nat.le_of_ble_eq_true rfl)⟩ ⟨(Nat.le_of_ble_eq_true rfl), (Nat.le_of_ble_eq_true rfl)⟩ (fun _ _ _ => ⟨rfl, rfl⟩) (Nat.le_of_ble_eq_true rfl) dX5_reckonBehindSentence_30 (fun v2 u2 hp2 => ?_)
  obtain ⟨rfl, hF, hc⟩ := hp2
  simp only [Option.toList_none, List.nil_append]
  exact w_vret h (pc := 33) rfl dX5_reckonBehindSentence_33 (Nat.le_of_ble_eq_true rfl) (Nat.le_of_ble_eq_true rfl) ⟨rfl, hF, hc⟩

set_option maxHeartbeats 4000000 in
set_option maxRecDepth 100000 in
theorem mX5_sumOfCosts (l : Launch) (D : va_G) (κ a : Nat → Nat) (ε : EE) (V N way num m : Nat) (S : List Nat) (T : Nat → List (Nat × Nat)) (u : US) (hA : AB V N way num m S T u) : Ct (W0 κ a) l D κ ε yX5_sumOfCosts cX5_sumOfCosts 4 (some .int) 4 96 0 0 u [.ref (a 0)] (fun v u' => v = some (.int (iI (scr V N way num S T : Int))) ∧ Fr [8, 9] [9, 10] u u') := by
  obtain ⟨⟨hV, hN, hway, hnum, hm, hSl, hSV⟩, eV, eN, ew, en, ⟨eS, hS⟩, hT⟩ := id hA
  refine Ct.of (own := RX5) rfl (by decide +kernel) (Nat.le_of_ble_eq_true rfl) rfl (fun Γ h => ?_)
  refine w_iconst h (pc := 0) dX5_sumOfCosts_0 ?_
  refine w_istore_n h (pc := 1) dX5_sumOfCosts_1 (by decide) ?_
  refine w_iconst h (pc := 2) dX5_sumOfCosts_2 ?_
  refine w_istore_n h (pc := 3) dX5_sumOfCosts_3 (by decide) ?_
  have lp4 : ∀ (n9 j : Nat) (w : US), S.length + 1 < j + n9 → j ≤ S.length + 1 → Fr [8, 9] [9, 10] u w → WW Γ 4 w 4 [(0, .ref (a 0)), (1, .int (iI (sm (cz V N way num S T) j : Int))), (2, .int (iI (j : Int)))] [] := by
    intro n9
    induction n9 with
    | zero => intro j w hn9 hj hF; exfalso; omega
    | succ n9 ih =>
      intro j w hn9 hj hF
      have hAw := hA.of hF (by simp [tS]) (by simp [tG]) (by simp) (by simp)
      obtain ⟨-, eVw, eNw, eww, enw, ⟨eSw, hSw⟩, hTw⟩ := id hAw
      have hsm := scr_le (V := V) (N := N) (way := way) (num := num) (S := S) (T := T) j
      refine w_iload_n h (pc := 4) dX5_sumOfCosts_4 rfl ?_
      refine w_aload_n h (pc := 5) dX5_sumOfCosts_5 rfl ?_
      refine g0_length h (pc := 6) eSw wm_33 dX5_sumOfCosts_6 ?_
      refine w_icmp_gt h (pc := 9) (tgt := 81) dX5_sumOfCosts_9 (by decide) (by omega) (by omega) (fun c9 => ?_) (fun c9 => ?_)
      · have e : j = S.length + 1 := by omega
        refine w_iload_n h (pc := 81) dX5_sumOfCosts_81 rfl ?_
        exact w_iret h (pc := 82) (ty := .int) rfl rfl dX5_sumOfCosts_82 (Nat.le_of_ble_eq_true rfl) (Nat.le_of_ble_eq_true rfl) ⟨by rw [e]; rfl, hF⟩
      · refine w_aload_n h (pc := 12) dX5_sumOfCosts_12 rfl ?_
        refine g0_reckoner h (pc := 13) wm_20 dX5_sumOfCosts_13 ?_
        refine w_aload_n h (pc := 16) dX5_sumOfCosts_16 rfl ?_
        refine g0_ledger h (pc := 17) wm_16 dX5_sumOfCosts_17 ?_
        refine g1_order h (pc := 20) eNw wm_140 dX5_sumOfCosts_20 ?_
        refine w_aload_n h (pc := 23) dX5_sumOfCosts_23 rfl ?_
        refine w_iload_n h (pc := 24) dX5_sumOfCosts_24 rfl ?_
        refine w_iconst h (pc := 25) dX5_sumOfCosts_25 ?_
        refine w_isub h (pc := 26) dX5_sumOfCosts_26 ?_
        refine w_aload_n h (pc := 27) dX5_sumOfCosts_27 rfl ?_
        refine g0_ledger h (pc := 28) wm_16 dX5_sumOfCosts_28 ?_
        refine g1_order h (pc := 31) eNw wm_140 dX5_sumOfCosts_31 ?_
        refine w_iconst h (pc := 34) dX5_sumOfCosts_34 ?_
        refine w_isub h (pc := 35) dX5_sumOfCosts_35 ?_
        rw [show ((N : Int) - 1) = ((N - 1 : Nat) : Int) by omega]
        refine w_callV2 h (pc := 36) (mX5_keyUpTo l D κ a ε V N way num m S T w hAw ((j : Int) - 1) (by omega) (N - 1) (by omega)) 0 rfl rfl (gdV wm_170 wm_171 wm_172 wm_2 wm_173) (by decide +kernel) ⟨(Nat.le_of_ble_eq_true rfl), (Nat.le_of_ble_eq_true rfl)⟩ ⟨(Nat.le_of_ble_eq_true rfl), (Nat.le_of_ble_eq_true rfl)⟩ (fun _ _ _ => ⟨rfl, rfl⟩) (Nat.le_of_ble_eq_true rfl) dX5_sumOfCosts_36 (fun v1 u1 hp1 => ?_)
        obtain ⟨rfl, e1⟩ := hp1
        obtain rfl := e1.symm
        simp only [Option.toList_some, List.cons_append, List.nil_append]
        refine w_callV2 h (pc := 39) (mX1_reckon l D κ a ε V m N way num w T hV (by omega) hN hway hnum hTw eVw eNw eww enw N (by omega) (ky V S ((j : Int) - 1) (N - 1)) (ky_4 hV hSV (by omega) _)) 2 rfl rfl (gdV wm_302 wm_303 wm_304 wm_19 wm_305) (by decide +kernel) ⟨(Nat.le_of_ble_eq_true rfl), (Nat.le_of_ble_eq_true rfl)⟩ ⟨(Nat.le_of_ble_eq_true rfl), (Nat.le_of_ble_eq_true rfl)⟩ (fun _ _ _ => ⟨rfl, rfl⟩) (Nat.le_of_ble_eq_true rfl) dX5_sumOfCosts_39 (fun v2 u2 hp2 => ?_)
        obtain ⟨rfl, hF2, hc2⟩ := hp2
        simp only [Option.toList_none, List.nil_append]
        refine w_aload_n h (pc := 42) dX5_sumOfCosts_42 rfl ?_
        refine w_iload_n h (pc := 43) dX5_sumOfCosts_43 rfl ?_
        refine w_callV1 h (pc := 44) (mX5_digitAt l D κ a ε V N way num m S T u2 (hAw.of hF2 (by simp [tS]) (by simp [tG]) (by simp) (by simp)) (j : Int) (by omega)) 0 rfl rfl (gdV wm_174 wm_175 wm_176 wm_2 wm_177) (by decide +kernel) ⟨(Nat.le_of_ble_eq_true rfl), (Nat.le_of_ble_eq_true rfl)⟩ ⟨(Nat.le_of_ble_eq_true rfl), (Nat.le_of_ble_eq_true rfl)⟩ (fun _ _ _ => ⟨rfl, rfl⟩) (Nat.le_of_ble_eq_true rfl) dX5_sumOfCosts_44 (fun v3 u3 hp3 => ?_)
        obtain ⟨rfl, e3⟩ := hp3
        obtain rfl := e3.symm
        simp only [Option.toList_some, List.cons_append, List.nil_append]
        refine w_iconst h (pc := 47) dX5_sumOfCosts_47 ?_
        refine w_isub h (pc := 48) dX5_sumOfCosts_48 ?_
        have hdp := dg_pos (V := V) (S := S) (z := (j : Int)) (by omega)
        have hdl := dg_le hSV (j : Int)
        rw [show ((dg V S (j : Int) : Int) - 1) = ((dg V S (j : Int) - 1 : Nat) : Int) by omega]
        have hpl := chz_le (V := V) (N := N) (way := way) (num := num) (S := S) (T := T) hnum hN.1 (j : Int) (w := dg V S (j : Int) - 1) (by omega)
        refine w_istore_n h (pc := 49) dX5_sumOfCosts_49 (by decide) ?_
        refine w_iload_n h (pc := 50) dX5_sumOfCosts_50 rfl ?_
        refine w_if_lt h (pc := 51) (tgt := 75) dX5_sumOfCosts_51 (by decide) (by omega) (fun c51 => by exfalso; omega) (fun c51 => ?_)
        refine w_iload_n h (pc := 54) dX5_sumOfCosts_54 rfl ?_
        refine w_bipush h (pc := 55) dX5_sumOfCosts_55 (by decide) ?_
        refine w_icmp_gt h (pc := 57) (tgt := 75) dX5_sumOfCosts_57 (by decide) (by omega) (by omega) (fun c57 => by exfalso; omega) (fun c57 => ?_)
        refine w_iload_n h (pc := 60) dX5_sumOfCosts_60 rfl ?_
        refine w_aload_n h (pc := 61) dX5_sumOfCosts_61 rfl ?_
        refine g0_reckoner h (pc := 62) wm_20 dX5_sumOfCosts_62 ?_
        refine g2_chances h (pc := 65) wm_297 dX5_sumOfCosts_65 ?_
        refine w_iload_n h (pc := 68) dX5_sumOfCosts_68 rfl ?_
        refine ld_chances h (pc := 69) (by omega) (hc2 (dg V S (j : Int) - 1) (by omega)) dX5_sumOfCosts_69 ?_
        refine w_callS1 h (pc := 70) (mX5_cost l D κ a ε u2 (chz V N way num S T (j : Int) (dg V S (j : Int) - 1)) hpl) (gdS wm_341 wm_342 wm_2 wm_343) (by decide +kernel) ⟨(Nat.le_of_ble_eq_true rfl), (Nat.le_of_ble_eq_true rfl)⟩ ⟨(Nat.le_of_ble_eq_true rfl), (Nat.le_of_ble_eq_true rfl)⟩ (fun _ _ _ => ⟨rfl, rfl⟩) (Nat.le_of_ble_eq_true rfl) dX5_sumOfCosts_70 (fun v4 u4 hp4 => ?_)
        obtain ⟨rfl, e4⟩ := hp4
        obtain rfl := e4.symm
        simp only [Option.toList_some, List.cons_append, List.nil_append]
        refine w_iadd h (pc := 73) dX5_sumOfCosts_73 ?_
        refine w_istore_n h (pc := 74) dX5_sumOfCosts_74 (by decide) ?_
        refine w_iinc h (pc := 75) dX5_sumOfCosts_75 rfl (by decide) ?_
        refine w_goto h (pc := 78) (tgt := 4) dX5_sumOfCosts_78 (by decide) ?_
        exact WW.sub (by rfl) (ih (j + 1) _ (by omega) (by omega) (hF.tr hF2))
  exact WW.sub (by rfl) (lp4 (S.length + 2) 0 u (by omega) (by omega) Fr.rfl)
