theorem dL_below_0 : decode cL_below 0 = .ok (.iload_n 0, 1) := by decide +kernel
theorem dL_below_1 : decode cL_below 1 = .ok (.ldc 7, 2) := by decide +kernel
theorem dL_below_3 : decode cL_below 3 = .ok (.iand, 1) := by decide +kernel
theorem dL_below_4 : decode cL_below 4 = .ok (.iload_n 1, 1) := by decide +kernel
theorem dL_below_5 : decode cL_below 5 = .ok (.irem, 1) := by decide +kernel
theorem dL_below_6 : decode cL_below 6 = .ok (.ireturn, 1) := by decide +kernel
theorem dL_cell_0 : decode cL_cell 0 = .ok (.iload_n 1, 1) := by decide +kernel
theorem dL_cell_1 : decode cL_cell 1 = .ok (.aload_n 0, 1) := by decide +kernel
theorem dL_cell_2 : decode cL_cell 2 = .ok (.arraylength, 1) := by decide +kernel
theorem dL_cell_3 : decode cL_cell 3 = .ok (.if_icmp .ge 9, 3) := by decide +kernel
theorem dL_cell_6 : decode cL_cell 6 = .ok (.aload_n 0, 1) := by decide +kernel
theorem dL_cell_7 : decode cL_cell 7 = .ok (.iload_n 1, 1) := by decide +kernel
theorem dL_cell_8 : decode cL_cell 8 = .ok (.iaload, 1) := by decide +kernel
theorem dL_cell_9 : decode cL_cell 9 = .ok (.goto 9, 3) := by decide +kernel
theorem dL_cell_12 : decode cL_cell 12 = .ok (.ldc 8, 2) := by decide +kernel
theorem dL_cell_14 : decode cL_cell 14 = .ok (.iload_n 1, 1) := by decide +kernel
theorem dL_cell_15 : decode cL_cell 15 = .ok (.iconst 3, 1) := by decide +kernel
theorem dL_cell_16 : decode cL_cell 16 = .ok (.iadd, 1) := by decide +kernel
theorem dL_cell_17 : decode cL_cell 17 = .ok (.imul, 1) := by decide +kernel
theorem dL_cell_18 : decode cL_cell 18 = .ok (.ireturn, 1) := by decide +kernel
theorem dX6_find_0 : decode cX6_find 0 = .ok (.iconst 0, 1) := by decide +kernel
theorem dX6_find_1 : decode cX6_find 1 = .ok (.istore_n 2, 1) := by decide +kernel
theorem dX6_find_2 : decode cX6_find 2 = .ok (.iload_n 2, 1) := by decide +kernel
theorem dX6_find_3 : decode cX6_find 3 = .ok (.aload_n 0, 1) := by decide +kernel
theorem dX6_find_4 : decode cX6_find 4 = .ok (.getfield 9, 3) := by decide +kernel
theorem dX6_find_7 : decode cX6_find 7 = .ok (.arraylength, 1) := by decide +kernel
theorem dX6_find_8 : decode cX6_find 8 = .ok (.if_icmp .ge 24, 3) := by decide +kernel
theorem dX6_find_11 : decode cX6_find 11 = .ok (.aload_n 0, 1) := by decide +kernel
theorem dX6_find_12 : decode cX6_find 12 = .ok (.getfield 9, 3) := by decide +kernel
theorem dX6_find_15 : decode cX6_find 15 = .ok (.iload_n 2, 1) := by decide +kernel
theorem dX6_find_16 : decode cX6_find 16 = .ok (.aaload, 1) := by decide +kernel
theorem dX6_find_17 : decode cX6_find 17 = .ok (.aload_n 1, 1) := by decide +kernel
theorem dX6_find_18 : decode cX6_find 18 = .ok (.invokestatic 25, 3) := by decide +kernel
theorem dX6_find_21 : decode cX6_find 21 = .ok (.ifCond .eq 5, 3) := by decide +kernel
theorem dX6_find_24 : decode cX6_find 24 = .ok (.iload_n 2, 1) := by decide +kernel
theorem dX6_find_25 : decode cX6_find 25 = .ok (.ireturn, 1) := by decide +kernel
theorem dX6_find_26 : decode cX6_find 26 = .ok (.iinc 2 1, 3) := by decide +kernel
theorem dX6_find_29 : decode cX6_find 29 = .ok (.goto (-27), 3) := by decide +kernel
theorem dX6_find_32 : decode cX6_find 32 = .ok (.iconst (-1), 1) := by decide +kernel
theorem dX6_find_33 : decode cX6_find 33 = .ok (.ireturn, 1) := by decide +kernel
theorem dX6_isSame_0 : decode cX6_isSame 0 = .ok (.aload_n 0, 1) := by decide +kernel
theorem dX6_isSame_1 : decode cX6_isSame 1 = .ok (.arraylength, 1) := by decide +kernel
theorem dX6_isSame_2 : decode cX6_isSame 2 = .ok (.aload_n 1, 1) := by decide +kernel
theorem dX6_isSame_3 : decode cX6_isSame 3 = .ok (.arraylength, 1) := by decide +kernel
theorem dX6_isSame_4 : decode cX6_isSame 4 = .ok (.if_icmp .eq 5, 3) := by decide +kernel
theorem dX6_isSame_7 : decode cX6_isSame 7 = .ok (.iconst 0, 1) := by decide +kernel
theorem dX6_isSame_8 : decode cX6_isSame 8 = .ok (.ireturn, 1) := by decide +kernel
theorem dX6_isSame_9 : decode cX6_isSame 9 = .ok (.iconst 0, 1) := by decide +kernel
theorem dX6_isSame_10 : decode cX6_isSame 10 = .ok (.istore_n 2, 1) := by decide +kernel
theorem dX6_isSame_11 : decode cX6_isSame 11 = .ok (.iload_n 2, 1) := by decide +kernel
theorem dX6_isSame_12 : decode cX6_isSame 12 = .ok (.aload_n 0, 1) := by decide +kernel
theorem dX6_isSame_13 : decode cX6_isSame 13 = .ok (.arraylength, 1) := by decide +kernel
theorem dX6_isSame_14 : decode cX6_isSame 14 = .ok (.if_icmp .ge 20, 3) := by decide +kernel
theorem dX6_isSame_17 : decode cX6_isSame 17 = .ok (.aload_n 0, 1) := by decide +kernel
theorem dX6_isSame_18 : decode cX6_isSame 18 = .ok (.iload_n 2, 1) := by decide +kernel
theorem dX6_isSame_19 : decode cX6_isSame 19 = .ok (.iaload, 1) := by decide +kernel
theorem dX6_isSame_20 : decode cX6_isSame 20 = .ok (.aload_n 1, 1) := by decide +kernel
theorem dX6_isSame_21 : decode cX6_isSame 21 = .ok (.iload_n 2, 1) := by decide +kernel
theorem dX6_isSame_22 : decode cX6_isSame 22 = .ok (.iaload, 1) := by decide +kernel
theorem dX6_isSame_23 : decode cX6_isSame 23 = .ok (.if_icmp .eq 5, 3) := by decide +kernel
theorem dX6_isSame_26 : decode cX6_isSame 26 = .ok (.iconst 0, 1) := by decide +kernel
theorem dX6_isSame_27 : decode cX6_isSame 27 = .ok (.ireturn, 1) := by decide +kernel
theorem dX6_isSame_28 : decode cX6_isSame 28 = .ok (.iinc 2 1, 3) := by decide +kernel
theorem dX6_isSame_31 : decode cX6_isSame 31 = .ok (.goto (-20), 3) := by decide +kernel
theorem dX6_isSame_34 : decode cX6_isSame 34 = .ok (.iconst 1, 1) := by decide +kernel
theorem dX6_isSame_35 : decode cX6_isSame 35 = .ok (.ireturn, 1) := by decide +kernel
theorem dX6_row_0 : decode cX6_row 0 = .ok (.iload 4, 2) := by decide +kernel
theorem dX6_row_2 : decode cX6_row 2 = .ok (.newarray .int, 2) := by decide +kernel
theorem dX6_row_4 : decode cX6_row 4 = .ok (.astore 5, 2) := by decide +kernel
theorem dX6_row_6 : decode cX6_row 6 = .ok (.iconst 0, 1) := by decide +kernel
theorem dX6_row_7 : decode cX6_row 7 = .ok (.istore 6, 2) := by decide +kernel
theorem dX6_row_9 : decode cX6_row 9 = .ok (.iload 6, 2) := by decide +kernel
theorem dX6_row_11 : decode cX6_row 11 = .ok (.iload 4, 2) := by decide +kernel
theorem dX6_row_13 : decode cX6_row 13 = .ok (.if_icmp .ge 51, 3) := by decide +kernel
theorem dX6_row_16 : decode cX6_row 16 = .ok (.iload_n 3, 1) := by decide +kernel
theorem dX6_row_17 : decode cX6_row 17 = .ok (.iload 4, 2) := by decide +kernel
theorem dX6_row_19 : decode cX6_row 19 = .ok (.isub, 1) := by decide +kernel
theorem dX6_row_20 : decode cX6_row 20 = .ok (.iconst 1, 1) := by decide +kernel
theorem dX6_row_21 : decode cX6_row 21 = .ok (.iadd, 1) := by decide +kernel
theorem dX6_row_22 : decode cX6_row 22 = .ok (.iload 6, 2) := by decide +kernel
theorem dX6_row_24 : decode cX6_row 24 = .ok (.iadd, 1) := by decide +kernel
theorem dX6_row_25 : decode cX6_row 25 = .ok (.istore 7, 2) := by decide +kernel
theorem dX6_row_27 : decode cX6_row 27 = .ok (.aload 5, 2) := by decide +kernel
theorem dX6_row_29 : decode cX6_row 29 = .ok (.iload 6, 2) := by decide +kernel
theorem dX6_row_31 : decode cX6_row 31 = .ok (.iload 7, 2) := by decide +kernel
theorem dX6_row_33 : decode cX6_row 33 = .ok (.ifCond .ge 7, 3) := by decide +kernel
theorem dX6_row_36 : decode cX6_row 36 = .ok (.iconst (-1), 1) := by decide +kernel
theorem dX6_row_37 : decode cX6_row 37 = .ok (.goto 20, 3) := by decide +kernel
theorem dX6_row_40 : decode cX6_row 40 = .ok (.iload 7, 2) := by decide +kernel
theorem dX6_row_42 : decode cX6_row 42 = .ok (.iload_n 2, 1) := by decide +kernel
theorem dX6_row_43 : decode cX6_row 43 = .ok (.if_icmp .ge 10, 3) := by decide +kernel
theorem dX6_row_46 : decode cX6_row 46 = .ok (.aload_n 1, 1) := by decide +kernel
theorem dX6_row_47 : decode cX6_row 47 = .ok (.iload 7, 2) := by decide +kernel
theorem dX6_row_49 : decode cX6_row 49 = .ok (.iaload, 1) := by decide +kernel
theorem dX6_row_50 : decode cX6_row 50 = .ok (.goto 7, 3) := by decide +kernel
theorem dX6_row_53 : decode cX6_row 53 = .ok (.aload_n 0, 1) := by decide +kernel
theorem dX6_row_54 : decode cX6_row 54 = .ok (.getfield 18, 3) := by decide +kernel
theorem dX6_row_57 : decode cX6_row 57 = .ok (.iastore, 1) := by decide +kernel
theorem dX6_row_58 : decode cX6_row 58 = .ok (.iinc 6 1, 3) := by decide +kernel
theorem dX6_row_61 : decode cX6_row 61 = .ok (.goto (-52), 3) := by decide +kernel
theorem dX6_row_64 : decode cX6_row 64 = .ok (.aload 5, 2) := by decide +kernel
theorem dX6_row_66 : decode cX6_row 66 = .ok (.areturn, 1) := by decide +kernel
set_option maxHeartbeats 4000000 in
set_option maxRecDepth 100000 in
theorem mL_below (l : Launch) (D : va_G) (κ : Nat → Nat) (ε : EE) (ws : va_W) (x n : Int) (hn : 0 < n ∧ n < 2147483648) : Ct Wd l D κ ε yL_below cL_below 2 (some .int) 0 0 0 0 (ws, 0, 0) [.int (iI x), .int (iI n)] (fun v u' => (∃ r : Nat, (r : Int) < n ∧ v = some (.int (iI (r : Int)))) ∧ u' = (ws, 0, 0)) := by
  refine Ct.of (own := RL) rfl (by decide +kernel) (Nat.le_of_ble_eq_true rfl) rfl (fun Γ h => ?_)
  refine w_iload_n h (pc := 0) dL_below_0 rfl ?_
  refine w_ldc h (pc := 1) (z := 2147483647) dL_below_1 wm_97 (by decide) ?_
  obtain ⟨z9, hz9, hz0, hz1⟩ := and_pos (iI x)
  refine w_iand h (pc := 3) (z := z9) dL_below_3 hz9 ?_
  refine w_iload_n h (pc := 4) dL_below_4 rfl ?_
  refine w_irem h (pc := 5) dL_below_5 (by omega) (by omega) ?_
  obtain ⟨r, hr⟩ : ∃ r : Nat, z9 % n = (r : Int) := ⟨(z9 % n).toNat, (Int.toNat_of_nonneg (Int.emod_nonneg _ (by omega))).symm⟩
  have hrn := Int.emod_lt_of_pos z9 hn.1
  rw [hr] at hrn ⊢
  exact w_iret h (pc := 6) (ty := .int) rfl rfl dL_below_6 (Nat.le_of_ble_eq_true rfl) (Nat.le_of_ble_eq_true rfl) ⟨⟨r, hrn, rfl⟩, rfl⟩

set_option maxHeartbeats 4000000 in
set_option maxRecDepth 100000 in
theorem mL_cell (l : Launch) (D : va_G) (κ : Nat → Nat) (ε : EE) (hL : ε.2.2.1 ≤ 260) (ws : va_W) (i : Nat) (hi : i < 100) : Ct Wd l D κ ε yL_cell cL_cell 2 (some .int) 0 0 0 0 (ws, 0, 0) [.ref ε.2.1, .int (iI (i : Int))] (fun v u' => (∃ z : Int, -2147483648 ≤ z ∧ z < 2147483648 ∧ v = some (.int (iI z))) ∧ u' = (ws, 0, 0)) := by
  refine Ct.of (own := RL) rfl (by decide +kernel) (Nat.le_of_ble_eq_true rfl) rfl (fun Γ h => ?_)
  refine w_iload_n h (pc := 0) dL_cell_0 rfl ?_
  refine w_aload_n h (pc := 1) dL_cell_1 rfl ?_
  refine w_inlen h (pc := 2) hL dL_cell_2 ?_
  refine w_icmp_ge h (pc := 3) (tgt := 12) dL_cell_3 (by decide) (by omega) (by omega) (fun c3 => ?_) (fun c3 => ?_)
  · refine w_ldc h (pc := 12) (z := 790386105) dL_cell_12 wm_93 (by decide) ?_
    refine w_iload_n h (pc := 14) dL_cell_14 rfl ?_
    refine w_iconst h (pc := 15) dL_cell_15 ?_
    refine w_iadd h (pc := 16) dL_cell_16 ?_
    refine w_imul h (pc := 17) dL_cell_17 ?_
    exact w_iret h (pc := 18) (ty := .int) rfl rfl dL_cell_18 (Nat.le_of_ble_eq_true rfl) (Nat.le_of_ble_eq_true rfl) ⟨iI_ex _, rfl⟩
  · refine w_aload_n h (pc := 6) dL_cell_6 rfl ?_
    refine w_iload_n h (pc := 7) dL_cell_7 rfl ?_
    refine w_inld h (pc := 8) hL ⟨by omega, by omega⟩ dL_cell_8 ?_
    refine w_goto h (pc := 9) (tgt := 18) dL_cell_9 (by decide) ?_
    exact w_iret h (pc := 18) (ty := .int) rfl rfl dL_cell_18 (Nat.le_of_ble_eq_true rfl) (Nat.le_of_ble_eq_true rfl) ⟨iI_ex _, rfl⟩

set_option maxHeartbeats 4000000 in
set_option maxRecDepth 100000 in
theorem mX6_isSame (l : Launch) (D : va_G) (κ : Nat → Nat) (ε : EE) (ws : va_W) (q0 q1 x y n m : Nat) (f g : Nat → Int32) (hx : ws[q0]? = some (x, .inl (κ 0, n, .inl f))) (hy : ws[q1]? = some (y, .inl (κ 0, m, .inl g))) (hn : n < 1000) (hm : m < 1000) : Ct Wd l D κ ε yX6_isSame cX6_isSame 3 (some .boolean) 0 0 0 0 (ws, 0, 0) [.ref x, .ref y] (fun v u' => (∃ z : Int, (z = 0 ∨ z = 1) ∧ v = some (.int (iI z))) ∧ u' = (ws, 0, 0)) := by
  refine Ct.of (own := RX6) rfl (by decide +kernel) (Nat.le_of_ble_eq_true rfl) rfl (fun Γ h => ?_)
  refine w_aload_n h (pc := 0) dX6_isSame_0 rfl ?_
  refine w_alen h (pc := 1) q0 0 hx rfl dX6_isSame_1 ?_
  refine WW.eqs (st' := [.int (iI (n : Int))]) rfl ?_
  refine w_aload_n h (pc := 2) dX6_isSame_2 rfl ?_
  refine w_alen h (pc := 3) q1 0 hy rfl dX6_isSame_3 ?_
  refine WW.eqs (st' := [.int (iI (m : Int)), .int (iI (n : Int))]) rfl ?_
  refine w_icmp_eq h (pc := 4) (tgt := 9) dX6_isSame_4 (by decide) (by omega) (by omega) (fun c4 => ?_) (fun c4 => ?_)
  · refine w_iconst h (pc := 9) dX6_isSame_9 ?_
    refine w_istore_n h (pc := 10) dX6_isSame_10 (by decide) ?_
    have lp11 : ∀ (n9 j : Nat), n < j + n9 → j ≤ n → WW Γ 3 (ws, 0, 0) 11 [(0, .ref x), (1, .ref y), (2, .int (iI (j : Int)))] [] := by
      intro n9
      induction n9 with
      | zero => intro j hn9 hj; exfalso; omega
      | succ n9 ih =>
        intro j hn9 hj
        refine w_iload_n h (pc := 11) dX6_isSame_11 rfl ?_
        refine w_aload_n h (pc := 12) dX6_isSame_12 rfl ?_
        refine w_alen h (pc := 13) q0 0 hx rfl dX6_isSame_13 ?_
        refine WW.eqs (st' := [.int (iI (n : Int)), .int (iI (j : Int))]) rfl ?_
        refine w_icmp_ge h (pc := 14) (tgt := 34) dX6_isSame_14 (by decide) (by omega) (by omega) (fun c14 => ?_) (fun c14 => ?_)
        · refine w_iconst h (pc := 34) dX6_isSame_34 ?_
          exact w_iret h (pc := 35) (ty := .boolean) rfl rfl dX6_isSame_35 (Nat.le_of_ble_eq_true rfl) (Nat.le_of_ble_eq_true rfl) ⟨⟨1, Or.inr rfl, rfl⟩, rfl⟩
        · refine w_aload_n h (pc := 17) dX6_isSame_17 rfl ?_
          refine w_iload_n h (pc := 18) dX6_isSame_18 rfl ?_
          refine w_iald h (pc := 19) q0 hx ⟨by omega, by omega⟩ (by omega) rfl dX6_isSame_19 ?_
          obtain ⟨z1, e1, g1, g2⟩ := iI_rg (f (j : Int).toNat)
          rw [e1]
          refine w_aload_n h (pc := 20) dX6_isSame_20 rfl ?_
          refine w_iload_n h (pc := 21) dX6_isSame_21 rfl ?_
          refine w_iald h (pc := 22) q1 hy ⟨by omega, by omega⟩ (by omega) rfl dX6_isSame_22 ?_
          obtain ⟨z2, e2, g3, g4⟩ := iI_rg (g (j : Int).toNat)
          rw [e2]
          refine w_icmp_eq h (pc := 23) (tgt := 28) dX6_isSame_23 (by decide) (by omega) (by omega) (fun c23 => ?_) (fun c23 => ?_)
          · refine w_iinc h (pc := 28) dX6_isSame_28 rfl (by decide) ?_
            refine w_goto h (pc := 31) (tgt := 11) dX6_isSame_31 (by decide) ?_
            exact WW.sub (by rfl) (ih (j + 1) (by omega) (by omega))
          · refine w_iconst h (pc := 26) dX6_isSame_26 ?_
            exact w_iret h (pc := 27) (ty := .boolean) rfl rfl dX6_isSame_27 (Nat.le_of_ble_eq_true rfl) (Nat.le_of_ble_eq_true rfl) ⟨⟨0, Or.inl rfl, rfl⟩, rfl⟩
    exact WW.sub (by rfl) (lp11 (n + 1) 0 (by omega) (by omega))
  · refine w_iconst h (pc := 7) dX6_isSame_7 ?_
    exact w_iret h (pc := 8) (ty := .boolean) rfl rfl dX6_isSame_8 (Nat.le_of_ble_eq_true rfl) (Nat.le_of_ble_eq_true rfl) ⟨⟨0, Or.inl rfl, rfl⟩, rfl⟩

set_option maxHeartbeats 4000000 in
set_option maxRecDepth 100000 in
theorem mX6_find (l : Launch) (D : va_G) (κ : Nat → Nat) (ε : EE) (ws : va_W) (i0 i1 j0 b r n y m : Nat) (p1 p2 p4 : Value) (f : Nat → Option Nat) (g : Nat → Int32) (hb : ws[i0]? = some (b, .inr (6, [p1, p2, .ref r, p4]))) (hr : ws[i1]? = some (r, .inl (κ 3, n, .inr (.inr (.inr (.inr f)))))) (hn : n < 1000) (hel : ∀ j, j < n → ∃ (z m : Nat) (h : Nat → Int32), m < 1000 ∧ f j = some z ∧ ∃ k : Nat, ws[k]? = some (z, .inl (κ 0, m, .inl h))) (hy : ws[j0]? = some (y, .inl (κ 0, m, .inl g))) (hm : m < 1000) : Ct Wd l D κ ε yX6_find cX6_find 3 (some .int) 1 22 0 0 (ws, 0, 0) [.ref b, .ref y] (fun v u' => (∃ z : Int, -1 ≤ z ∧ z < (n : Int) ∧ v = some (.int (iI z))) ∧ u' = (ws, 0, 0)) := by
  refine Ct.of (own := RX6) rfl (by decide +kernel) (Nat.le_of_ble_eq_true rfl) rfl (fun Γ h => ?_)
  refine w_iconst h (pc := 0) dX6_find_0 ?_
  refine w_istore_n h (pc := 1) dX6_find_1 (by decide) ?_
  have lp2 : ∀ (n9 j : Nat), n < j + n9 → j ≤ n → WW Γ 3 (ws, 0, 0) 2 [(0, .ref b), (1, .ref y), (2, .int (iI (j : Int)))] [] := by
    intro n9
    induction n9 with
    | zero => intro j hn9 hj; exfalso; omega
    | succ n9 ih =>
      intro j hn9 hj
      refine w_iload_n h (pc := 2) dX6_find_2 rfl ?_
      refine w_aload_n h (pc := 3) dX6_find_3 rfl ?_
      refine w_get h (pc := 4) wi_X6 i0 hb rfl 2 (by decide) wm_103 rfl (v := .ref r) rfl dX6_find_4 ?_
      refine w_alen h (pc := 7) i1 3 hr rfl dX6_find_7 ?_
      refine WW.eqs (st' := [.int (iI (n : Int)), .int (iI (j : Int))]) rfl ?_
      refine w_icmp_ge h (pc := 8) (tgt := 32) dX6_find_8 (by decide) (by omega) (by omega) (fun c8 => ?_) (fun c8 => ?_)
      · refine w_iconst h (pc := 32) dX6_find_32 ?_
        exact w_iret h (pc := 33) (ty := .int) rfl rfl dX6_find_33 (Nat.le_of_ble_eq_true rfl) (Nat.le_of_ble_eq_true rfl) ⟨⟨-1, by omega, by omega, rfl⟩, rfl⟩
      · refine w_aload_n h (pc := 11) dX6_find_11 rfl ?_
        refine w_get h (pc := 12) wi_X6 i0 hb rfl 2 (by decide) wm_103 rfl (v := .ref r) rfl dX6_find_12 ?_
        refine w_iload_n h (pc := 15) dX6_find_15 rfl ?_
        obtain ⟨z, m9, h9, hm9, ez, k9, hk9⟩ := hel j (by omega)
        refine w_rald h (pc := 16) i1 hr ⟨by omega, by omega⟩ (by omega) (b := z) (by rw [Int.toNat_natCast]; exact ez) dX6_find_16 ?_
        refine w_aload_n h (pc := 17) dX6_find_17 rfl ?_
        refine w_fS2 h (pc := 18) (mX6_isSame l D κ ε ws k9 j0 z y m9 m h9 g hk9 hy hm9 hm) (wr := []) (List.Perm.refl _) (gdS wm_241 wm_242 wm_89 wm_243) (by decide +kernel) ⟨(Nat.le_of_ble_eq_true rfl), (Nat.le_of_ble_eq_true rfl)⟩ ⟨(Nat.le_of_ble_eq_true rfl), (Nat.le_of_ble_eq_true rfl)⟩ (Nat.le_of_ble_eq_true rfl) dX6_find_18 (fun v1 u1 hp1 => ?_)
        obtain ⟨⟨z1, hz1, rfl⟩, rfl⟩ := hp1
        refine WW.equ (u' := (ws, 0, 0)) rfl ?_
        simp only [Option.toList_some, List.cons_append, List.nil_append]
        refine w_if_eq h (pc := 21) (tgt := 26) dX6_find_21 (by decide) (by omega) (fun c21 => ?_) (fun c21 => ?_)
        · refine w_iinc h (pc := 26) dX6_find_26 rfl (by decide) ?_
          refine w_goto h (pc := 29) (tgt := 2) dX6_find_29 (by decide) ?_
          exact WW.sub (by rfl) (ih (j + 1) (by omega) (by omega))
        · refine w_iload_n h (pc := 24) dX6_find_24 rfl ?_
          exact w_iret h (pc := 25) (ty := .int) rfl rfl dX6_find_25 (Nat.le_of_ble_eq_true rfl) (Nat.le_of_ble_eq_true rfl) ⟨⟨(j : Int), by omega, by omega, rfl⟩, rfl⟩
  exact WW.sub (by rfl) (lp2 (n + 1) 0 (by omega) (by omega))

set_option maxHeartbeats 4000000 in
set_option maxRecDepth 100000 in
theorem mX6_row (l : Launch) (D : va_G) (κ : Nat → Nat) (ε : EE) (ws : va_W) (i0 j0 b y m len at9 n : Nat) (V : Int) (p2 p3 p4 : Value) (f : Nat → Int32) (hb : ws[i0]? = some (b, .inr (6, [.int (iI V), p2, p3, p4]))) (hy : ws[j0]? = some (y, .inl (κ 0, m, .inl f))) (hm : m < 1000) (hl : len ≤ m) (hat : at9 ≤ 100) (hn : n ≤ 4) : Ct Wd l D κ ε yX6_row cX6_row 8 (some (.array .int)) 0 0 1 4 (ws, 0, 0) [.ref b, .ref y, .int (iI (len : Int)), .int (iI (at9 : Int)), .int (iI (n : Int))] (fun v u' => ∃ (q : Nat) (g : Nat → Int32), v = some (.ref q) ∧ u' = (ws ++ [(q, .inl (κ 0, n, .inl g))], 1, 4)) := by
  refine Ct.of (own := RX6) rfl (by decide +kernel) (Nat.le_of_ble_eq_true rfl) rfl (fun Γ h => ?_)
  refine w_iload h (pc := 0) dX6_row_0 rfl ?_
  refine w_newa h (pc := 2) (ty := .int) rfl wm_31 (t0 := 0) rfl (N' := n) rfl (by omega) (a0 := (n, .inl (fun _ => iI 0))) (fun _ => rfl) (by decide) (Nat.le_of_ble_eq_true rfl) (by show 0 + n ≤ 4; omega) dX6_row_2 (fun q => ?_)
  refine w_cnt h (c8 := 1) (s8 := 4) (Nat.le_refl _) (by omega) ?_
  refine w_astore h (pc := 4) dX6_row_4 (by decide) ?_
  refine w_iconst h (pc := 6) dX6_row_6 ?_
  refine w_istore h (pc := 7) dX6_row_7 (by decide) ?_
  have lp9 : ∀ (n9 j : Nat) (g : Nat → Int32), n < j + n9 → j ≤ n → WW Γ 8 (ws ++ [(q, .inl (κ 0, n, .inl g))], 1, 4) 9 [(0, .ref b), (1, .ref y), (2, .int (iI (len : Int))), (3, .int (iI (at9 : Int))), (4, .int (iI (n : Int))), (5, .ref q), (6, .int (iI (j : Int)))] [] := by
    intro n9
    induction n9 with
    | zero => intro j g hn9 hj; exfalso; omega
    | succ n9 ih =>
      intro j g hn9 hj
      refine w_iload h (pc := 9) dX6_row_9 rfl ?_
      refine w_iload h (pc := 11) dX6_row_11 rfl ?_
      refine w_icmp_ge h (pc := 13) (tgt := 64) dX6_row_13 (by decide) (by omega) (by omega) (fun c13 => ?_) (fun c13 => ?_)
      · refine w_aload h (pc := 64) dX6_row_64 rfl ?_
        exact w_aret h (pc := 66) rfl (Or.inr ⟨_, rfl⟩) dX6_row_66 (Nat.le_of_ble_eq_true rfl) (Nat.le_of_ble_eq_true rfl) ⟨q, _, rfl, rfl⟩
      · refine w_iload_n h (pc := 16) dX6_row_16 rfl ?_
        refine w_iload h (pc := 17) dX6_row_17 rfl ?_
        refine w_isub h (pc := 19) dX6_row_19 ?_
        refine w_iconst h (pc := 20) dX6_row_20 ?_
        refine w_iadd h (pc := 21) dX6_row_21 ?_
        refine w_iload h (pc := 22) dX6_row_22 rfl ?_
        refine w_iadd h (pc := 24) dX6_row_24 ?_
        refine w_istore h (pc := 25) dX6_row_25 (by decide) ?_
        refine w_aload h (pc := 27) dX6_row_27 rfl ?_
        refine w_iload h (pc := 29) dX6_row_29 rfl ?_
        refine w_iload h (pc := 31) dX6_row_31 rfl ?_
        refine w_if_ge h (pc := 33) (tgt := 40) dX6_row_33 (by decide) (by omega) (fun c33 => ?_) (fun c33 => ?_)
        · refine w_iload h (pc := 40) dX6_row_40 rfl ?_
          refine w_iload_n h (pc := 42) dX6_row_42 rfl ?_
          refine w_icmp_ge h (pc := 43) (tgt := 53) dX6_row_43 (by decide) (by omega) (by omega) (fun c43 => ?_) (fun c43 => ?_)
          · refine w_aload_n h (pc := 53) dX6_row_53 rfl ?_
            refine w_get h (pc := 54) wi_X6 i0 (gl hb) rfl 0 (by decide) wm_105 rfl (v := .int (iI V)) rfl dX6_row_54 ?_
            refine w_iast h (pc := 57) ws.length gx ⟨by omega, by omega⟩ (by omega) dX6_row_57 (ws ++ [(q, .inl (κ 0, n, .inl _))], 1, 4) sx rfl ?_
            refine w_iinc h (pc := 58) dX6_row_58 rfl (by decide) ?_
            refine w_goto h (pc := 61) (tgt := 9) dX6_row_61 (by decide) ?_
            exact WW.sub (by rfl) (ih (j + 1) _ (by omega) (by omega))
          · refine w_aload_n h (pc := 46) dX6_row_46 rfl ?_
            refine w_iload h (pc := 47) dX6_row_47 rfl ?_
            refine w_iald h (pc := 49) j0 (gl hy) ⟨by omega, by omega⟩ (by omega) rfl dX6_row_49 ?_
            refine w_goto h (pc := 50) (tgt := 57) dX6_row_50 (by decide) ?_
            refine w_iast h (pc := 57) ws.length gx ⟨by omega, by omega⟩ (by omega) dX6_row_57 (ws ++ [(q, .inl (κ 0, n, .inl _))], 1, 4) sx rfl ?_
            refine w_iinc h (pc := 58) dX6_row_58 rfl (by decide) ?_
            refine w_goto h (pc := 61) (tgt := 9) dX6_row_61 (by decide) ?_
            exact WW.sub (by rfl) (ih (j + 1) _ (by omega) (by omega))
        · refine w_iconst h (pc := 36) dX6_row_36 ?_
          refine w_goto h (pc := 37) (tgt := 57) dX6_row_37 (by decide) ?_
          refine w_iast h (pc := 57) ws.length gx ⟨by omega, by omega⟩ (by omega) dX6_row_57 (ws ++ [(q, .inl (κ 0, n, .inl _))], 1, 4) sx rfl ?_
          refine w_iinc h (pc := 58) dX6_row_58 rfl (by decide) ?_
          refine w_goto h (pc := 61) (tgt := 9) dX6_row_61 (by decide) ?_
          exact WW.sub (by rfl) (ih (j + 1) _ (by omega) (by omega))
  exact WW.sub (by rfl) (lp9 (n + 1) 0 _ (by omega) (by omega))
