theorem dX0_countsOf_0 : decode cX0_countsOf 0 = .ok (.aload_n 0, 1) := by decide +kernel
theorem dX0_countsOf_1 : decode cX0_countsOf 1 = .ok (.getfield 20, 3) := by decide +kernel
theorem dX0_countsOf_4 : decode cX0_countsOf 4 = .ok (.iconst 1, 1) := by decide +kernel
theorem dX0_countsOf_5 : decode cX0_countsOf 5 = .ok (.iload_n 1, 1) := by decide +kernel
theorem dX0_countsOf_6 : decode cX0_countsOf 6 = .ok (.iconst 4, 1) := by decide +kernel
theorem dX0_countsOf_7 : decode cX0_countsOf 7 = .ok (.invokestatic 28, 3) := by decide +kernel
theorem dX0_countsOf_10 : decode cX0_countsOf 10 = .ok (.invokestatic 34, 3) := by decide +kernel
theorem dX0_countsOf_13 : decode cX0_countsOf 13 = .ok (.iconst 1, 1) := by decide +kernel
theorem dX0_countsOf_14 : decode cX0_countsOf 14 = .ok (.isub, 1) := by decide +kernel
theorem dX0_countsOf_15 : decode cX0_countsOf 15 = .ok (.aaload, 1) := by decide +kernel
theorem dX0_countsOf_16 : decode cX0_countsOf 16 = .ok (.areturn, 1) := by decide +kernel
theorem dX0_drop_0 : decode cX0_drop 0 = .ok (.aload_n 0, 1) := by decide +kernel
theorem dX0_drop_1 : decode cX0_drop 1 = .ok (.iload_n 1, 1) := by decide +kernel
theorem dX0_drop_2 : decode cX0_drop 2 = .ok (.invokevirtual 37, 3) := by decide +kernel
theorem dX0_drop_5 : decode cX0_drop 5 = .ok (.astore_n 3, 1) := by decide +kernel
theorem dX0_drop_6 : decode cX0_drop 6 = .ok (.iload_n 2, 1) := by decide +kernel
theorem dX0_drop_7 : decode cX0_drop 7 = .ok (.ifCond .lt 11, 3) := by decide +kernel
theorem dX0_drop_10 : decode cX0_drop 10 = .ok (.iload_n 2, 1) := by decide +kernel
theorem dX0_drop_11 : decode cX0_drop 11 = .ok (.aload_n 3, 1) := by decide +kernel
theorem dX0_drop_12 : decode cX0_drop 12 = .ok (.getfield 59, 3) := by decide +kernel
theorem dX0_drop_15 : decode cX0_drop 15 = .ok (.if_icmp .lt 4, 3) := by decide +kernel
theorem dX0_drop_19 : decode cX0_drop 19 = .ok (.aload_n 3, 1) := by decide +kernel
theorem dX0_drop_20 : decode cX0_drop 20 = .ok (.getfield 62, 3) := by decide +kernel
theorem dX0_drop_23 : decode cX0_drop 23 = .ok (.iload_n 2, 1) := by decide +kernel
theorem dX0_drop_24 : decode cX0_drop 24 = .ok (.iaload, 1) := by decide +kernel
theorem dX0_drop_25 : decode cX0_drop 25 = .ok (.istore 4, 2) := by decide +kernel
theorem dX0_drop_27 : decode cX0_drop 27 = .ok (.aload_n 3, 1) := by decide +kernel
theorem dX0_drop_28 : decode cX0_drop 28 = .ok (.iload_n 2, 1) := by decide +kernel
theorem dX0_drop_29 : decode cX0_drop 29 = .ok (.invokevirtual 65, 3) := by decide +kernel
theorem dX0_drop_32 : decode cX0_drop 32 = .ok (.aload_n 0, 1) := by decide +kernel
theorem dX0_drop_33 : decode cX0_drop 33 = .ok (.iload_n 1, 1) := by decide +kernel
theorem dX0_drop_34 : decode cX0_drop 34 = .ok (.iload 4, 2) := by decide +kernel
theorem dX0_drop_36 : decode cX0_drop 36 = .ok (.invokevirtual 55, 3) := by decide +kernel
theorem dX0_drop_39 : decode cX0_drop 39 = .ok (.return_, 1) := by decide +kernel
theorem dX0_forgetAll_0 : decode cX0_forgetAll 0 = .ok (.iconst 1, 1) := by decide +kernel
theorem dX0_forgetAll_1 : decode cX0_forgetAll 1 = .ok (.istore_n 1, 1) := by decide +kernel
theorem dX0_forgetAll_2 : decode cX0_forgetAll 2 = .ok (.iload_n 1, 1) := by decide +kernel
theorem dX0_forgetAll_3 : decode cX0_forgetAll 3 = .ok (.iconst 4, 1) := by decide +kernel
theorem dX0_forgetAll_4 : decode cX0_forgetAll 4 = .ok (.if_icmp .gt 27, 3) := by decide +kernel
theorem dX0_forgetAll_7 : decode cX0_forgetAll 7 = .ok (.aload_n 0, 1) := by decide +kernel
theorem dX0_forgetAll_8 : decode cX0_forgetAll 8 = .ok (.iload_n 1, 1) := by decide +kernel
theorem dX0_forgetAll_9 : decode cX0_forgetAll 9 = .ok (.invokevirtual 37, 3) := by decide +kernel
theorem dX0_forgetAll_12 : decode cX0_forgetAll 12 = .ok (.iconst 0, 1) := by decide +kernel
theorem dX0_forgetAll_13 : decode cX0_forgetAll 13 = .ok (.putfield 59, 3) := by decide +kernel
theorem dX0_forgetAll_16 : decode cX0_forgetAll 16 = .ok (.aload_n 0, 1) := by decide +kernel
theorem dX0_forgetAll_17 : decode cX0_forgetAll 17 = .ok (.iload_n 1, 1) := by decide +kernel
theorem dX0_forgetAll_18 : decode cX0_forgetAll 18 = .ok (.invokevirtual 45, 3) := by decide +kernel
theorem dX0_forgetAll_21 : decode cX0_forgetAll 21 = .ok (.iconst 0, 1) := by decide +kernel
theorem dX0_forgetAll_22 : decode cX0_forgetAll 22 = .ok (.putfield 59, 3) := by decide +kernel
theorem dX0_forgetAll_25 : decode cX0_forgetAll 25 = .ok (.iinc 1 1, 3) := by decide +kernel
theorem dX0_forgetAll_28 : decode cX0_forgetAll 28 = .ok (.goto (-26), 3) := by decide +kernel
theorem dX0_forgetAll_31 : decode cX0_forgetAll 31 = .ok (.return_, 1) := by decide +kernel
theorem dX0_lower_0 : decode cX0_lower 0 = .ok (.aload_n 0, 1) := by decide +kernel
theorem dX0_lower_1 : decode cX0_lower 1 = .ok (.iload_n 1, 1) := by decide +kernel
theorem dX0_lower_2 : decode cX0_lower 2 = .ok (.invokevirtual 37, 3) := by decide +kernel
theorem dX0_lower_5 : decode cX0_lower 5 = .ok (.iload_n 2, 1) := by decide +kernel
theorem dX0_lower_6 : decode cX0_lower 6 = .ok (.iload_n 3, 1) := by decide +kernel
theorem dX0_lower_7 : decode cX0_lower 7 = .ok (.invokevirtual 52, 3) := by decide +kernel
theorem dX0_lower_10 : decode cX0_lower 10 = .ok (.istore 4, 2) := by decide +kernel
theorem dX0_lower_12 : decode cX0_lower 12 = .ok (.iload 4, 2) := by decide +kernel
theorem dX0_lower_14 : decode cX0_lower 14 = .ok (.ifCond .eq 9, 3) := by decide +kernel
theorem dX0_lower_17 : decode cX0_lower 17 = .ok (.aload_n 0, 1) := by decide +kernel
theorem dX0_lower_18 : decode cX0_lower 18 = .ok (.iload_n 1, 1) := by decide +kernel
theorem dX0_lower_19 : decode cX0_lower 19 = .ok (.iload_n 2, 1) := by decide +kernel
theorem dX0_lower_20 : decode cX0_lower 20 = .ok (.invokevirtual 55, 3) := by decide +kernel
theorem dX0_lower_23 : decode cX0_lower 23 = .ok (.iload 4, 2) := by decide +kernel
theorem dX0_lower_25 : decode cX0_lower 25 = .ok (.ireturn, 1) := by decide +kernel
theorem dX0_lowerVariety_0 : decode cX0_lowerVariety 0 = .ok (.iload_n 1, 1) := by decide +kernel
theorem dX0_lowerVariety_1 : decode cX0_lowerVariety 1 = .ok (.iconst 1, 1) := by decide +kernel
theorem dX0_lowerVariety_2 : decode cX0_lowerVariety 2 = .ok (.if_icmp .le 24, 3) := by decide +kernel
theorem dX0_lowerVariety_5 : decode cX0_lowerVariety 5 = .ok (.aload_n 0, 1) := by decide +kernel
theorem dX0_lowerVariety_6 : decode cX0_lowerVariety 6 = .ok (.iload_n 1, 1) := by decide +kernel
theorem dX0_lowerVariety_7 : decode cX0_lowerVariety 7 = .ok (.iconst 1, 1) := by decide +kernel
theorem dX0_lowerVariety_8 : decode cX0_lowerVariety 8 = .ok (.isub, 1) := by decide +kernel
theorem dX0_lowerVariety_9 : decode cX0_lowerVariety 9 = .ok (.invokevirtual 45, 3) := by decide +kernel
theorem dX0_lowerVariety_12 : decode cX0_lowerVariety 12 = .ok (.iload_n 2, 1) := by decide +kernel
theorem dX0_lowerVariety_13 : decode cX0_lowerVariety 13 = .ok (.getstatic 48, 3) := by decide +kernel
theorem dX0_lowerVariety_16 : decode cX0_lowerVariety 16 = .ok (.iload_n 1, 1) := by decide +kernel
theorem dX0_lowerVariety_17 : decode cX0_lowerVariety 17 = .ok (.iconst 1, 1) := by decide +kernel
theorem dX0_lowerVariety_18 : decode cX0_lowerVariety 18 = .ok (.isub, 1) := by decide +kernel
theorem dX0_lowerVariety_19 : decode cX0_lowerVariety 19 = .ok (.iaload, 1) := by decide +kernel
theorem dX0_lowerVariety_20 : decode cX0_lowerVariety 20 = .ok (.irem, 1) := by decide +kernel
theorem dX0_lowerVariety_21 : decode cX0_lowerVariety 21 = .ok (.iconst 1, 1) := by decide +kernel
theorem dX0_lowerVariety_22 : decode cX0_lowerVariety 22 = .ok (.invokevirtual 52, 3) := by decide +kernel
theorem dX0_lowerVariety_25 : decode cX0_lowerVariety 25 = .ok (.pop, 1) := by decide +kernel
theorem dX0_lowerVariety_26 : decode cX0_lowerVariety 26 = .ok (.return_, 1) := by decide +kernel
theorem dX0_raise_0 : decode cX0_raise 0 = .ok (.aload_n 0, 1) := by decide +kernel
theorem dX0_raise_1 : decode cX0_raise 1 = .ok (.iload_n 1, 1) := by decide +kernel
theorem dX0_raise_2 : decode cX0_raise 2 = .ok (.invokevirtual 37, 3) := by decide +kernel
theorem dX0_raise_5 : decode cX0_raise 5 = .ok (.iload_n 2, 1) := by decide +kernel
theorem dX0_raise_6 : decode cX0_raise 6 = .ok (.iload_n 3, 1) := by decide +kernel
theorem dX0_raise_7 : decode cX0_raise 7 = .ok (.invokevirtual 41, 3) := by decide +kernel
theorem dX0_raise_10 : decode cX0_raise 10 = .ok (.ifCond .eq 29, 3) := by decide +kernel
theorem dX0_raise_13 : decode cX0_raise 13 = .ok (.iload_n 1, 1) := by decide +kernel
theorem dX0_raise_14 : decode cX0_raise 14 = .ok (.iconst 1, 1) := by decide +kernel
theorem dX0_raise_15 : decode cX0_raise 15 = .ok (.if_icmp .le 24, 3) := by decide +kernel
theorem dX0_raise_18 : decode cX0_raise 18 = .ok (.aload_n 0, 1) := by decide +kernel
theorem dX0_raise_19 : decode cX0_raise 19 = .ok (.iload_n 1, 1) := by decide +kernel
theorem dX0_raise_20 : decode cX0_raise 20 = .ok (.iconst 1, 1) := by decide +kernel
theorem dX0_raise_21 : decode cX0_raise 21 = .ok (.isub, 1) := by decide +kernel
theorem dX0_raise_22 : decode cX0_raise 22 = .ok (.invokevirtual 45, 3) := by decide +kernel
theorem dX0_raise_25 : decode cX0_raise 25 = .ok (.iload_n 2, 1) := by decide +kernel
theorem dX0_raise_26 : decode cX0_raise 26 = .ok (.getstatic 48, 3) := by decide +kernel
theorem dX0_raise_29 : decode cX0_raise 29 = .ok (.iload_n 1, 1) := by decide +kernel
theorem dX0_raise_30 : decode cX0_raise 30 = .ok (.iconst 1, 1) := by decide +kernel
theorem dX0_raise_31 : decode cX0_raise 31 = .ok (.isub, 1) := by decide +kernel
theorem dX0_raise_32 : decode cX0_raise 32 = .ok (.iaload, 1) := by decide +kernel
theorem dX0_raise_33 : decode cX0_raise 33 = .ok (.irem, 1) := by decide +kernel
theorem dX0_raise_34 : decode cX0_raise 34 = .ok (.iconst 1, 1) := by decide +kernel
theorem dX0_raise_35 : decode cX0_raise 35 = .ok (.invokevirtual 41, 3) := by decide +kernel
theorem dX0_raise_38 : decode cX0_raise 38 = .ok (.pop, 1) := by decide +kernel
theorem dX0_raise_39 : decode cX0_raise 39 = .ok (.return_, 1) := by decide +kernel
theorem dX0_sizeInAll_0 : decode cX0_sizeInAll 0 = .ok (.iconst 0, 1) := by decide +kernel
theorem dX0_sizeInAll_1 : decode cX0_sizeInAll 1 = .ok (.istore_n 1, 1) := by decide +kernel
theorem dX0_sizeInAll_2 : decode cX0_sizeInAll 2 = .ok (.iconst 1, 1) := by decide +kernel
theorem dX0_sizeInAll_3 : decode cX0_sizeInAll 3 = .ok (.istore_n 2, 1) := by decide +kernel
theorem dX0_sizeInAll_4 : decode cX0_sizeInAll 4 = .ok (.iload_n 2, 1) := by decide +kernel
theorem dX0_sizeInAll_5 : decode cX0_sizeInAll 5 = .ok (.aload_n 0, 1) := by decide +kernel
theorem dX0_sizeInAll_6 : decode cX0_sizeInAll 6 = .ok (.getfield 15, 3) := by decide +kernel
theorem dX0_sizeInAll_9 : decode cX0_sizeInAll 9 = .ok (.if_icmp .gt 20, 3) := by decide +kernel
theorem dX0_sizeInAll_12 : decode cX0_sizeInAll 12 = .ok (.iload_n 1, 1) := by decide +kernel
theorem dX0_sizeInAll_13 : decode cX0_sizeInAll 13 = .ok (.aload_n 0, 1) := by decide +kernel
theorem dX0_sizeInAll_14 : decode cX0_sizeInAll 14 = .ok (.iload_n 2, 1) := by decide +kernel
theorem dX0_sizeInAll_15 : decode cX0_sizeInAll 15 = .ok (.invokevirtual 37, 3) := by decide +kernel
theorem dX0_sizeInAll_18 : decode cX0_sizeInAll 18 = .ok (.getfield 59, 3) := by decide +kernel
theorem dX0_sizeInAll_21 : decode cX0_sizeInAll 21 = .ok (.iadd, 1) := by decide +kernel
theorem dX0_sizeInAll_22 : decode cX0_sizeInAll 22 = .ok (.istore_n 1, 1) := by decide +kernel
theorem dX0_sizeInAll_23 : decode cX0_sizeInAll 23 = .ok (.iinc 2 1, 3) := by decide +kernel
theorem dX0_sizeInAll_26 : decode cX0_sizeInAll 26 = .ok (.goto (-22), 3) := by decide +kernel
theorem dX0_sizeInAll_29 : decode cX0_sizeInAll 29 = .ok (.iload_n 1, 1) := by decide +kernel
theorem dX0_sizeInAll_30 : decode cX0_sizeInAll 30 = .ok (.ireturn, 1) := by decide +kernel
theorem dX0_varietyOf_0 : decode cX0_varietyOf 0 = .ok (.aload_n 0, 1) := by decide +kernel
theorem dX0_varietyOf_1 : decode cX0_varietyOf 1 = .ok (.getfield 24, 3) := by decide +kernel
theorem dX0_varietyOf_4 : decode cX0_varietyOf 4 = .ok (.iconst 1, 1) := by decide +kernel
theorem dX0_varietyOf_5 : decode cX0_varietyOf 5 = .ok (.iload_n 1, 1) := by decide +kernel
theorem dX0_varietyOf_6 : decode cX0_varietyOf 6 = .ok (.iconst 4, 1) := by decide +kernel
theorem dX0_varietyOf_7 : decode cX0_varietyOf 7 = .ok (.invokestatic 28, 3) := by decide +kernel
theorem dX0_varietyOf_10 : decode cX0_varietyOf 10 = .ok (.invokestatic 34, 3) := by decide +kernel
theorem dX0_varietyOf_13 : decode cX0_varietyOf 13 = .ok (.iconst 1, 1) := by decide +kernel
theorem dX0_varietyOf_14 : decode cX0_varietyOf 14 = .ok (.isub, 1) := by decide +kernel
theorem dX0_varietyOf_15 : decode cX0_varietyOf 15 = .ok (.aaload, 1) := by decide +kernel
theorem dX0_varietyOf_16 : decode cX0_varietyOf 16 = .ok (.areturn, 1) := by decide +kernel
set_option maxHeartbeats 4000000 in
set_option maxRecDepth 100000 in
theorem mX0_countsOf (l : Launch) (D : va_G) (κ a : Nat → Nat) (ε : EE) (u : US) (n : Nat) (hn : 1 ≤ n ∧ n ≤ 4) : Ct (W0 κ a) l D κ ε yX0_countsOf cX0_countsOf 2 (some (.object "Canticle$Tally")) 1 21 0 0 u [.ref (a 1), .int (iI (n : Int))] (fun v u' => v = some (.ref (a (30 + 3 * (n - 1)))) ∧ u' = u) := by
  refine Ct.of (own := RX0) rfl (by decide +kernel) (Nat.le_of_ble_eq_true rfl) rfl (fun Γ h => ?_)
  refine w_aload_n h (pc := 0) dX0_countsOf_0 rfl ?_
  refine g1_counted h (pc := 1) wm_44 dX0_countsOf_1 ?_
  refine w_iconst h (pc := 4) dX0_countsOf_4 ?_
  refine w_iload_n h (pc := 5) dX0_countsOf_5 rfl ?_
  refine w_iconst h (pc := 6) dX0_countsOf_6 ?_
  refine w_imin h (pc := 7) wm_123 wm_124 wm_125 wm_126 (Nat.le_of_ble_eq_true rfl) (Nat.le_of_ble_eq_true rfl) (Nat.le_of_ble_eq_true rfl) (Nat.le_of_ble_eq_true rfl) (by omega) (by omega) (z := (n : Int)) (by split <;> omega) dX0_countsOf_7 ?_
  refine w_imax h (pc := 10) wm_127 wm_128 wm_125 wm_129 (Nat.le_of_ble_eq_true rfl) (Nat.le_of_ble_eq_true rfl) (Nat.le_of_ble_eq_true rfl) (Nat.le_of_ble_eq_true rfl) (by omega) (by omega) (z := (n : Int)) (by split <;> omega) dX0_countsOf_10 ?_
  refine w_iconst h (pc := 13) dX0_countsOf_13 ?_
  refine w_isub h (pc := 14) dX0_countsOf_14 ?_
  refine ld_counted h (pc := 15) (by omega) (q := 30 + 3 * (n - 1)) (by omega) dX0_countsOf_15 ?_
  exact w_aret h (pc := 16) rfl (Or.inl ⟨_, rfl⟩) dX0_countsOf_16 (Nat.le_of_ble_eq_true rfl) (Nat.le_of_ble_eq_true rfl) ⟨rfl, rfl⟩

set_option maxHeartbeats 4000000 in
set_option maxRecDepth 100000 in
theorem mX0_varietyOf (l : Launch) (D : va_G) (κ a : Nat → Nat) (ε : EE) (u : US) (n : Nat) (hn : 1 ≤ n ∧ n ≤ 4) : Ct (W0 κ a) l D κ ε yX0_varietyOf cX0_varietyOf 2 (some (.object "Canticle$Tally")) 1 21 0 0 u [.ref (a 1), .int (iI (n : Int))] (fun v u' => v = some (.ref (a (30 + 3 * (n + 3)))) ∧ u' = u) := by
  refine Ct.of (own := RX0) rfl (by decide +kernel) (Nat.le_of_ble_eq_true rfl) rfl (fun Γ h => ?_)
  refine w_aload_n h (pc := 0) dX0_varietyOf_0 rfl ?_
  refine g1_varied h (pc := 1) wm_45 dX0_varietyOf_1 ?_
  refine w_iconst h (pc := 4) dX0_varietyOf_4 ?_
  refine w_iload_n h (pc := 5) dX0_varietyOf_5 rfl ?_
  refine w_iconst h (pc := 6) dX0_varietyOf_6 ?_
  refine w_imin h (pc := 7) wm_123 wm_124 wm_125 wm_126 (Nat.le_of_ble_eq_true rfl) (Nat.le_of_ble_eq_true rfl) (Nat.le_of_ble_eq_true rfl) (Nat.le_of_ble_eq_true rfl) (by omega) (by omega) (z := (n : Int)) (by split <;> omega) dX0_varietyOf_7 ?_
  refine w_imax h (pc := 10) wm_127 wm_128 wm_125 wm_129 (Nat.le_of_ble_eq_true rfl) (Nat.le_of_ble_eq_true rfl) (Nat.le_of_ble_eq_true rfl) (Nat.le_of_ble_eq_true rfl) (by omega) (by omega) (z := (n : Int)) (by split <;> omega) dX0_varietyOf_10 ?_
  refine w_iconst h (pc := 13) dX0_varietyOf_13 ?_
  refine w_isub h (pc := 14) dX0_varietyOf_14 ?_
  refine ld_varied h (pc := 15) (by omega) (q := 30 + 3 * (n + 3)) (by omega) dX0_varietyOf_15 ?_
  exact w_aret h (pc := 16) rfl (Or.inl ⟨_, rfl⟩) dX0_varietyOf_16 (Nat.le_of_ble_eq_true rfl) (Nat.le_of_ble_eq_true rfl) ⟨rfl, rfl⟩

set_option maxHeartbeats 4000000 in
set_option maxRecDepth 100000 in
theorem mX0_lowerVariety (l : Launch) (D : va_G) (κ a : Nat → Nat) (ε : EE) (V m : Nat) (u : US) (T : Nat → List (Nat × Nat)) (hT : TA V m u T) (n : Nat) (hn : 1 ≤ n ∧ n ≤ 4) (hm : m ≤ 800) (k : Nat) (hk : k < 38416) (hd : 1 ≤ k % 14 ∧ k % 14 ≤ V + 1) : Ct (W0 κ a) l D κ ε yX0_lowerVariety cX0_lowerVariety 3 none 3 84 0 0 u [.ref (a 1), .int (iI (n : Int)), .int (iI (k : Int))] (fun v u' => v = none ∧ Fr tS tG u u' ∧ ∃ T', TA V m u' T' ∧ ∀ i, i < 4 → T' i = T i) := by
  refine Ct.of (own := RX0) rfl (by decide +kernel) (Nat.le_of_ble_eq_true rfl) rfl (fun Γ h => ?_)
  refine w_iload_n h (pc := 0) dX0_lowerVariety_0 rfl ?_
  refine w_iconst h (pc := 1) dX0_lowerVariety_1 ?_
  refine w_icmp_le h (pc := 2) (tgt := 26) dX0_lowerVariety_2 (by decide) (by omega) (by omega) (fun c2 => ?_) (fun c2 => ?_)
  · exact w_vret h (pc := 26) rfl dX0_lowerVariety_26 (Nat.le_of_ble_eq_true rfl) (Nat.le_of_ble_eq_true rfl) ⟨rfl, by first | exact hF.t (by omega) | exact Fr.rfl, by first | exact ⟨_, hT.set hF hT2 (hT (n + 2) (by omega)).2.lw (Nat.le_refl _), fun i hi => upT_ne _ _ (by omega)⟩ | exact ⟨T, hT, fun _ _ => rfl⟩⟩
  · have hpw := pw_p14 (n := n - 1) (by omega)
    have hp14 := p14_cs (n := n - 1) (by omega)
    have hvk := vk_ok (n := n - 1) (by omega) hk hd
    have hix : ((n : Int) - 1).toNat = n - 1 := by omega
    refine w_aload_n h (pc := 5) dX0_lowerVariety_5 rfl ?_
    refine w_iload_n h (pc := 6) dX0_lowerVariety_6 rfl ?_
    refine w_iconst h (pc := 7) dX0_lowerVariety_7 ?_
    refine w_isub h (pc := 8) dX0_lowerVariety_8 ?_
    rw [show ((n : Int) - 1) = ((n - 1 : Nat) : Int) by omega]
    refine w_callV1 h (pc := 9) (mX0_varietyOf l D κ a ε u (n - 1) (by omega)) 1 rfl rfl (gdV wm_130 wm_131 wm_132 wm_15 wm_133) (by decide +kernel) ⟨(Nat.le_of_ble_eq_true rfl), (Nat.le_of_ble_eq_true rfl)⟩ ⟨(Nat.le_of_ble_eq_true rfl), (Nat.le_of_ble_eq_true rfl)⟩ (fun _ _ _ => ⟨rfl, rfl⟩) (Nat.le_of_ble_eq_true rfl) dX0_lowerVariety_9 (fun v1 u1 hp1 => ?_)
    obtain ⟨rfl, rfl⟩ := hp1
    simp only [Option.toList_some, List.cons_append, List.nil_append]
    rw [show n - 1 + 3 = n + 2 by omega]
    refine w_iload_n h (pc := 12) dX0_lowerVariety_12 rfl ?_
    refine w_powsN h (pc := 13) (fun _ z => z.2.1) dX0_lowerVariety_13 ?_
    refine w_iload_n h (pc := 16) dX0_lowerVariety_16 rfl ?_
    refine w_iconst h (pc := 17) dX0_lowerVariety_17 ?_
    refine w_isub h (pc := 18) dX0_lowerVariety_18 ?_
    refine w_pow h (pc := 19) (by omega) ((congrArg pw hix).trans hpw) dX0_lowerVariety_19 ?_
    refine w_irem h (pc := 20) dX0_lowerVariety_20 (by omega) (by omega) ?_
    refine w_iconst h (pc := 21) dX0_lowerVariety_21 ?_
    refine w_callV2 h (pc := 22) (mX4_lower l D κ a ε u1 (n + 2) (by omega) (T (n + 2)) (hT (n + 2) (by omega)).1 ((hT (n + 2) (by omega)).2.O hm) (k % p14 (n - 1)) (by omega) 1 (by omega)) _ (ws_T (by omega)) rfl (gdV wm_212 wm_213 wm_214 wm_47 wm_215) (by decide +kernel) ⟨(Nat.le_of_ble_eq_true rfl), (Nat.le_of_ble_eq_true rfl)⟩ ⟨(Nat.le_of_ble_eq_true rfl), (Nat.le_of_ble_eq_true rfl)⟩ (fun _ _ _ => ⟨rfl, rfl⟩) (Nat.le_of_ble_eq_true rfl) dX0_lowerVariety_22 (fun v2 u2 hp2 => ?_)
    obtain ⟨rfl, hF, hT2⟩ := hp2
    simp only [Option.toList_some, List.cons_append, List.nil_append]
    refine w_pop h (pc := 25) dX0_lowerVariety_25 rfl ?_
    exact w_vret h (pc := 26) rfl dX0_lowerVariety_26 (Nat.le_of_ble_eq_true rfl) (Nat.le_of_ble_eq_true rfl) ⟨rfl, by first | exact hF.t (by omega) | exact Fr.rfl, by first | exact ⟨_, hT.set hF hT2 (hT (n + 2) (by omega)).2.lw (Nat.le_refl _), fun i hi => upT_ne _ _ (by omega)⟩ | exact ⟨T, hT, fun _ _ => rfl⟩⟩

set_option maxHeartbeats 4000000 in
set_option maxRecDepth 100000 in
theorem mX0_raise (l : Launch) (D : va_G) (κ a : Nat → Nat) (ε : EE) (V m : Nat) (u : US) (T : Nat → List (Nat × Nat)) (hT : TA V m u T) (n : Nat) (hn : 1 ≤ n ∧ n ≤ 4) (hm : m < 800) (k : Nat) (hk : k < 38416) (hd : 1 ≤ k % 14 ∧ k % 14 ≤ V + 1) (c : Nat) (hc : 0 < c ∧ c ≤ 4) : Ct (W0 κ a) l D κ ε yX0_raise cX0_raise 4 none 2 63 0 0 u [.ref (a 1), .int (iI (n : Int)), .int (iI (k : Int)), .int (iI (c : Int))] (fun v u' => v = none ∧ Fr tS tG u u' ∧ ∃ T', TA V (m + 1) u' T' ∧ ∀ i, i < 4 → T' i = if i + 1 = n then rs (T i) k c else T i) := by
  have h0 := hT (n - 1) (by omega)
  have hl0 := h0.2.2.2.1
  refine Ct.of (own := RX0) rfl (by decide +kernel) (Nat.le_of_ble_eq_true rfl) rfl (fun Γ h => ?_)
  refine w_aload_n h (pc := 0) dX0_raise_0 rfl ?_
  refine w_iload_n h (pc := 1) dX0_raise_1 rfl ?_
  refine w_callV1 h (pc := 2) (mX0_countsOf l D κ a ε u n hn) 1 rfl rfl (gdV wm_119 wm_120 wm_121 wm_15 wm_122) (by decide +kernel) ⟨(Nat.le_of_ble_eq_true rfl), (Nat.le_of_ble_eq_true rfl)⟩ ⟨(Nat.le_of_ble_eq_true rfl), (Nat.le_of_ble_eq_true rfl)⟩ (fun _ _ _ => ⟨rfl, rfl⟩) (Nat.le_of_ble_eq_true rfl) dX0_raise_2 (fun v1 u1 hp1 => ?_)
  obtain ⟨rfl, rfl⟩ := hp1
  simp only [Option.toList_some, List.cons_append, List.nil_append]
  refine w_iload_n h (pc := 5) dX0_raise_5 rfl ?_
  refine w_iload_n h (pc := 6) dX0_raise_6 rfl ?_
  refine w_callV2 h (pc := 7) (mX4_raise l D κ a ε u1 (n - 1) (by omega) (T (n - 1)) h0.1 (h0.2.O (by omega)) k (by omega) c (by omega) (by omega)) _ (ws_T (by omega)) rfl (gdV wm_182 wm_183 wm_184 wm_47 wm_185) (by decide +kernel) ⟨(Nat.le_of_ble_eq_true rfl), (Nat.le_of_ble_eq_true rfl)⟩ ⟨(Nat.le_of_ble_eq_true rfl), (Nat.le_of_ble_eq_true rfl)⟩ (fun _ _ _ => ⟨rfl, rfl⟩) (Nat.le_of_ble_eq_true rfl) dX0_raise_7 (fun v2 u2 hp2 => ?_)
  obtain ⟨rfl, hF, hT2⟩ := hp2
  have hA2 := hT.set hF hT2 (h0.2.rs hk hd hc) (Nat.le_succ m)
  have hsp : ∀ i, i < 4 → upT T (n - 1) (rs (T (n - 1)) k c) i = if i + 1 = n then rs (T i) k c else T i := fun i hi => by
    unfold upT
    by_cases e : i = n - 1
    · rw [if_pos e, if_pos (by omega), e]
    · rw [if_neg e, if_neg (by omega)]
  simp only [Option.toList_some, List.cons_append, List.nil_append]
  refine w_if_eq h (pc := 10) (tgt := 39) dX0_raise_10 (by decide) (by split <;> omega) (fun c10 => ?_) (fun c10 => ?_)
  · exact w_vret h (pc := 39) rfl dX0_raise_39 (Nat.le_of_ble_eq_true rfl) (Nat.le_of_ble_eq_true rfl) ⟨rfl, by first | exact (hF.t (by omega)).tr (hF4.t (by omega)) | exact hF.t (by omega), by first | exact ⟨_, hA2.set hF4 hT4 (hv0.2.rs hvk.1 hvk.2 (by omega)) (Nat.le_refl _), fun i hi => (upT_ne _ _ (by omega)).trans (hsp i hi)⟩ | exact ⟨_, hA2, hsp⟩⟩
  · refine w_iload_n h (pc := 13) dX0_raise_13 rfl ?_
    refine w_iconst h (pc := 14) dX0_raise_14 ?_
    refine w_icmp_le h (pc := 15) (tgt := 39) dX0_raise_15 (by decide) (by omega) (by omega) (fun c15 => ?_) (fun c15 => ?_)
    · exact w_vret h (pc := 39) rfl dX0_raise_39 (Nat.le_of_ble_eq_true rfl) (Nat.le_of_ble_eq_true rfl) ⟨rfl, by first | exact (hF.t (by omega)).tr (hF4.t (by omega)) | exact hF.t (by omega), by first | exact ⟨_, hA2.set hF4 hT4 (hv0.2.rs hvk.1 hvk.2 (by omega)) (Nat.le_refl _), fun i hi => (upT_ne _ _ (by omega)).trans (hsp i hi)⟩ | exact ⟨_, hA2, hsp⟩⟩
    · have hpw := pw_p14 (n := n - 1) (by omega)
      have hp14 := p14_cs (n := n - 1) (by omega)
      have hvk := vk_ok (n := n - 1) (by omega) hk hd
      have hix : ((n : Int) - 1).toNat = n - 1 := by omega
      have hv00 := hT (n + 2) (by omega)
      have hv0 : TR u2 (n + 2) (T (n + 2)) ∧ TV V m (T (n + 2)) := ⟨hv00.1.fr (by omega) hF, hv00.2⟩
      have hlv := hv0.2.2.2.1
      refine w_aload_n h (pc := 18) dX0_raise_18 rfl ?_
      refine w_iload_n h (pc := 19) dX0_raise_19 rfl ?_
      refine w_iconst h (pc := 20) dX0_raise_20 ?_
      refine w_isub h (pc := 21) dX0_raise_21 ?_
      rw [show ((n : Int) - 1) = ((n - 1 : Nat) : Int) by omega]
      refine w_callV1 h (pc := 22) (mX0_varietyOf l D κ a ε u2 (n - 1) (by omega)) 1 rfl rfl (gdV wm_130 wm_131 wm_132 wm_15 wm_133) (by decide +kernel) ⟨(Nat.le_of_ble_eq_true rfl), (Nat.le_of_ble_eq_true rfl)⟩ ⟨(Nat.le_of_ble_eq_true rfl), (Nat.le_of_ble_eq_true rfl)⟩ (fun _ _ _ => ⟨rfl, rfl⟩) (Nat.le_of_ble_eq_true rfl) dX0_raise_22 (fun v3 u3 hp3 => ?_)
      obtain ⟨rfl, rfl⟩ := hp3
      simp only [Option.toList_some, List.cons_append, List.nil_append]
      rw [show n - 1 + 3 = n + 2 by omega]
      refine w_iload_n h (pc := 25) dX0_raise_25 rfl ?_
      refine w_powsN h (pc := 26) (fun _ z => z.2.1) dX0_raise_26 ?_
      refine w_iload_n h (pc := 29) dX0_raise_29 rfl ?_
      refine w_iconst h (pc := 30) dX0_raise_30 ?_
      refine w_isub h (pc := 31) dX0_raise_31 ?_
      refine w_pow h (pc := 32) (by omega) ((congrArg pw hix).trans hpw) dX0_raise_32 ?_
      refine w_irem h (pc := 33) dX0_raise_33 (by omega) (by omega) ?_
      refine w_iconst h (pc := 34) dX0_raise_34 ?_
      refine w_callV2 h (pc := 35) (mX4_raise l D κ a ε u3 (n + 2) (by omega) (T (n + 2)) hv0.1 (hv0.2.O (by omega)) (k % p14 (n - 1)) (by omega) 1 (by omega) (by omega)) _ (ws_T (by omega)) rfl (gdV wm_182 wm_183 wm_184 wm_47 wm_185) (by decide +kernel) ⟨(Nat.le_of_ble_eq_true rfl), (Nat.le_of_ble_eq_true rfl)⟩ ⟨(Nat.le_of_ble_eq_true rfl), (Nat.le_of_ble_eq_true rfl)⟩ (fun _ _ _ => ⟨rfl, rfl⟩) (Nat.le_of_ble_eq_true rfl) dX0_raise_35 (fun v4 u4 hp4 => ?_)
      obtain ⟨rfl, hF4, hT4⟩ := hp4
      simp only [Option.toList_some, List.cons_append, List.nil_append]
      refine w_pop h (pc := 38) dX0_raise_38 rfl ?_
      exact w_vret h (pc := 39) rfl dX0_raise_39 (Nat.le_of_ble_eq_true rfl) (Nat.le_of_ble_eq_true rfl) ⟨rfl, by first | exact (hF.t (by omega)).tr (hF4.t (by omega)) | exact hF.t (by omega), by first | exact ⟨_, hA2.set hF4 hT4 (hv0.2.rs hvk.1 hvk.2 (by omega)) (Nat.le_refl _), fun i hi => (upT_ne _ _ (by omega)).trans (hsp i hi)⟩ | exact ⟨_, hA2, hsp⟩⟩

set_option maxHeartbeats 4000000 in
set_option maxRecDepth 100000 in
theorem mX0_lower (l : Launch) (D : va_G) (κ a : Nat → Nat) (ε : EE) (V m : Nat) (u : US) (T : Nat → List (Nat × Nat)) (hT : TA V m u T) (n : Nat) (hn : 1 ≤ n ∧ n ≤ 4) (hm : m ≤ 800) (k : Nat) (hk : k < 38416) (hd : 1 ≤ k % 14 ∧ k % 14 ≤ V + 1) (c : Nat) (hc : 0 < c ∧ c ≤ 4) : Ct (W0 κ a) l D κ ε yX0_lower cX0_lower 5 (some .boolean) 4 106 0 0 u [.ref (a 1), .int (iI (n : Int)), .int (iI (k : Int)), .int (iI (c : Int))] (fun v u' => v = some (.int (iI (if 0 < gt (T (n - 1)) k ∧ gt (T (n - 1)) k ≤ c then 1 else 0))) ∧ Fr tS tG u u' ∧ ∃ T', TA V m u' T' ∧ ∀ i, i < 4 → T' i = if i + 1 = n then lw (T i) k c else T i) := by
  have h0 := hT (n - 1) (by omega)
  refine Ct.of (own := RX0) rfl (by decide +kernel) (Nat.le_of_ble_eq_true rfl) rfl (fun Γ h => ?_)
  refine w_aload_n h (pc := 0) dX0_lower_0 rfl ?_
  refine w_iload_n h (pc := 1) dX0_lower_1 rfl ?_
  refine w_callV1 h (pc := 2) (mX0_countsOf l D κ a ε u n hn) 1 rfl rfl (gdV wm_119 wm_120 wm_121 wm_15 wm_122) (by decide +kernel) ⟨(Nat.le_of_ble_eq_true rfl), (Nat.le_of_ble_eq_true rfl)⟩ ⟨(Nat.le_of_ble_eq_true rfl), (Nat.le_of_ble_eq_true rfl)⟩ (fun _ _ _ => ⟨rfl, rfl⟩) (Nat.le_of_ble_eq_true rfl) dX0_lower_2 (fun v1 u1 hp1 => ?_)
  obtain ⟨rfl, rfl⟩ := hp1
  simp only [Option.toList_some, List.cons_append, List.nil_append]
  refine w_iload_n h (pc := 5) dX0_lower_5 rfl ?_
  refine w_iload_n h (pc := 6) dX0_lower_6 rfl ?_
  refine w_callV2 h (pc := 7) (mX4_lower l D κ a ε u1 (n - 1) (by omega) (T (n - 1)) h0.1 (h0.2.O (by omega)) k (by omega) c (by omega)) _ (ws_T (by omega)) rfl (gdV wm_212 wm_213 wm_214 wm_47 wm_215) (by decide +kernel) ⟨(Nat.le_of_ble_eq_true rfl), (Nat.le_of_ble_eq_true rfl)⟩ ⟨(Nat.le_of_ble_eq_true rfl), (Nat.le_of_ble_eq_true rfl)⟩ (fun _ _ _ => ⟨rfl, rfl⟩) (Nat.le_of_ble_eq_true rfl) dX0_lower_7 (fun v2 u2 hp2 => ?_)
  obtain ⟨rfl, hF, hT2⟩ := hp2
  have hA2 := hT.set hF hT2 h0.2.lw (Nat.le_refl m)
  have hsp : ∀ i, i < 4 → upT T (n - 1) (lw (T (n - 1)) k c) i = if i + 1 = n then lw (T i) k c else T i := fun i hi => by
    unfold upT
    by_cases e : i = n - 1
    · rw [if_pos e, if_pos (by omega), e]
    · rw [if_neg e, if_neg (by omega)]
  simp only [Option.toList_some, List.cons_append, List.nil_append]
  refine w_istore h (pc := 10) dX0_lower_10 (by decide) ?_
  refine w_iload h (pc := 12) dX0_lower_12 rfl ?_
  refine w_if_eq h (pc := 14) (tgt := 23) dX0_lower_14 (by decide) (by split <;> omega) (fun c14 => ?_) (fun c14 => ?_)
  · refine w_iload h (pc := 23) dX0_lower_23 rfl ?_
    exact w_iret h (pc := 25) (ty := .boolean) rfl (by split <;> rfl) dX0_lower_25 (Nat.le_of_ble_eq_true rfl) (Nat.le_of_ble_eq_true rfl) ⟨rfl, by first | exact (hF.t (by omega)).tr hF3 | exact hF.t (by omega), by first | exact ⟨_, hA3, fun i hi => (hs3 i hi).trans (hsp i hi)⟩ | exact ⟨_, hA2, hsp⟩⟩
  · refine w_aload_n h (pc := 17) dX0_lower_17 rfl ?_
    refine w_iload_n h (pc := 18) dX0_lower_18 rfl ?_
    refine w_iload_n h (pc := 19) dX0_lower_19 rfl ?_
    refine w_callV2 h (pc := 20) (mX0_lowerVariety l D κ a ε V m u2 _ hA2 n hn hm k hk hd) 1 rfl rfl (gdV wm_220 wm_221 wm_222 wm_15 wm_223) (by decide +kernel) ⟨(Nat.le_of_ble_eq_true rfl), (Nat.le_of_ble_eq_true rfl)⟩ ⟨(Nat.le_of_ble_eq_true rfl), (Nat.le_of_ble_eq_true rfl)⟩ (fun _ _ _ => ⟨rfl, rfl⟩) (Nat.le_of_ble_eq_true rfl) dX0_lower_20 (fun v3 u3 hp3 => ?_)
    obtain ⟨rfl, hF3, T3, hA3, hs3⟩ := hp3
    simp only [Option.toList_none, List.nil_append]
    refine w_iload h (pc := 23) dX0_lower_23 rfl ?_
    exact w_iret h (pc := 25) (ty := .boolean) rfl (by split <;> rfl) dX0_lower_25 (Nat.le_of_ble_eq_true rfl) (Nat.le_of_ble_eq_true rfl) ⟨rfl, by first | exact (hF.t (by omega)).tr hF3 | exact hF.t (by omega), by first | exact ⟨_, hA3, fun i hi => (hs3 i hi).trans (hsp i hi)⟩ | exact ⟨_, hA2, hsp⟩⟩

set_option maxHeartbeats 4000000 in
set_option maxRecDepth 100000 in
theorem mX0_drop (l : Launch) (D : va_G) (κ a : Nat → Nat) (ε : EE) (V m : Nat) (u : US) (T : Nat → List (Nat × Nat)) (hT : TA V m u T) (n : Nat) (hn : 1 ≤ n ∧ n ≤ 4) (hm : m ≤ 800) (b : Nat × Nat) (hb : b ∈ T (n - 1)) : Ct (W0 κ a) l D κ ε yX0_drop cX0_drop 5 none 4 106 0 0 u [.ref (a 1), .int (iI (n : Int)), .int (iI (bw (T (n - 1)) b.1 : Int))] (fun v u' => v = none ∧ Fr tS tG u u' ∧ ∃ T', TA V m u' T' ∧ ∀ i, i < 4 → T' i = if i + 1 = n then del (T i) b.1 else T i) := by
  have h0 := hT (n - 1) (by omega)
  have hO := h0.2.O hm
  have hth := h0.2.1.there hb
  have hlt := (List.getElem?_eq_some_iff.mp hth).1
  have hlen := hO.2.2.1
  have hv := (h0.1.2 _ _ hth).1
  have hbb := h0.2.2.2.2 b hb
  refine Ct.of (own := RX0) rfl (by decide +kernel) (Nat.le_of_ble_eq_true rfl) rfl (fun Γ h => ?_)
  refine w_aload_n h (pc := 0) dX0_drop_0 rfl ?_
  refine w_iload_n h (pc := 1) dX0_drop_1 rfl ?_
  refine w_callV1 h (pc := 2) (mX0_countsOf l D κ a ε u n hn) 1 rfl rfl (gdV wm_119 wm_120 wm_121 wm_15 wm_122) (by decide +kernel) ⟨(Nat.le_of_ble_eq_true rfl), (Nat.le_of_ble_eq_true rfl)⟩ ⟨(Nat.le_of_ble_eq_true rfl), (Nat.le_of_ble_eq_true rfl)⟩ (fun _ _ _ => ⟨rfl, rfl⟩) (Nat.le_of_ble_eq_true rfl) dX0_drop_2 (fun v1 u1 hp1 => ?_)
  obtain ⟨rfl, rfl⟩ := hp1
  simp only [Option.toList_some, List.cons_append, List.nil_append]
  refine w_astore_n h (pc := 5) dX0_drop_5 (by decide) ?_
  refine w_iload_n h (pc := 6) dX0_drop_6 rfl ?_
  refine w_if_lt h (pc := 7) (tgt := 18) dX0_drop_7 (by decide) (by omega) (fun c7 => by exfalso; omega) (fun c7 => ?_)
  refine w_iload_n h (pc := 10) dX0_drop_10 rfl ?_
  refine w_aload_n h (pc := 11) dX0_drop_11 rfl ?_
  refine gT_size h (pc := 12) (by omega) h0.1.1 wm_118 dX0_drop_12 ?_
  refine w_icmp_lt h (pc := 15) (tgt := 19) dX0_drop_15 (by decide) (by omega) (by omega) (fun c15 => ?_) (fun c15 => by exfalso; omega)
  refine w_aload_n h (pc := 19) dX0_drop_19 rfl ?_
  refine gT_keys h (pc := 20) (by omega) wm_476 dX0_drop_20 ?_
  refine w_iload_n h (pc := 23) dX0_drop_23 rfl ?_
  refine ld_keys h (pc := 24) (by omega) (by omega) hv dX0_drop_24 ?_
  refine w_istore h (pc := 25) dX0_drop_25 (by decide) ?_
  refine w_aload_n h (pc := 27) dX0_drop_27 rfl ?_
  refine w_iload_n h (pc := 28) dX0_drop_28 rfl ?_
  refine w_callV1 h (pc := 29) (mX4_removeAt l D κ a ε u1 (n - 1) (by omega) (T (n - 1)) b.1 b.2 hO (h0.1.x _) hth) _ (ws_T (by omega)) rfl (gdV wm_477 wm_217 wm_218 wm_47 wm_219) (by decide +kernel) ⟨(Nat.le_of_ble_eq_true rfl), (Nat.le_of_ble_eq_true rfl)⟩ ⟨(Nat.le_of_ble_eq_true rfl), (Nat.le_of_ble_eq_true rfl)⟩ (fun _ _ _ => ⟨rfl, rfl⟩) (Nat.le_of_ble_eq_true rfl) dX0_drop_29 (fun v2 u2 hp2 => ?_)
  obtain ⟨rfl, hF, hT2⟩ := hp2
  have hA2 := hT.set hF hT2 h0.2.del (Nat.le_refl m)
  have hsp : ∀ i, i < 4 → upT T (n - 1) (del (T (n - 1)) b.1) i = if i + 1 = n then del (T i) b.1 else T i := fun i hi => by
    unfold upT
    by_cases e : i = n - 1
    · rw [if_pos e, if_pos (by omega), e]
    · rw [if_neg e, if_neg (by omega)]
  simp only [Option.toList_none, List.nil_append]
  refine w_aload_n h (pc := 32) dX0_drop_32 rfl ?_
  refine w_iload_n h (pc := 33) dX0_drop_33 rfl ?_
  refine w_iload h (pc := 34) dX0_drop_34 rfl ?_
  refine w_callV2 h (pc := 36) (mX0_lowerVariety l D κ a ε V m u2 _ hA2 n hn hm b.1 hbb.1 ⟨hbb.2.1, hbb.2.2.1⟩) 1 rfl rfl (gdV wm_220 wm_221 wm_222 wm_15 wm_223) (by decide +kernel) ⟨(Nat.le_of_ble_eq_true rfl), (Nat.le_of_ble_eq_true rfl)⟩ ⟨(Nat.le_of_ble_eq_true rfl), (Nat.le_of_ble_eq_true rfl)⟩ (fun _ _ _ => ⟨rfl, rfl⟩) (Nat.le_of_ble_eq_true rfl) dX0_drop_36 (fun v3 u3 hp3 => ?_)
  obtain ⟨rfl, hF3, T3, hA3, hs3⟩ := hp3
  simp only [Option.toList_none, List.nil_append]
  exact w_vret h (pc := 39) rfl dX0_drop_39 (Nat.le_of_ble_eq_true rfl) (Nat.le_of_ble_eq_true rfl) ⟨rfl, (hF.t (by omega)).tr hF3, ⟨_, hA3, fun i hi => (hs3 i hi).trans (hsp i hi)⟩⟩

set_option maxHeartbeats 4000000 in
set_option maxRecDepth 100000 in
theorem mX0_sizeInAll (l : Launch) (D : va_G) (κ a : Nat → Nat) (ε : EE) (V m : Nat) (u : US) (T : Nat → List (Nat × Nat)) (hT : TA V m u T) (N : Nat) (hN : N ≤ 4) (hO : u.1 5 = (N : Int)) (hm : m ≤ 800) : Ct (W0 κ a) l D κ ε yX0_sizeInAll cX0_sizeInAll 3 (some .int) 2 42 0 0 u [.ref (a 1)] (fun v u' => v = some (.int (iI (sm (fun i => (T i).length) N : Int))) ∧ u' = u) := by
  refine Ct.of (own := RX0) rfl (by decide +kernel) (Nat.le_of_ble_eq_true rfl) rfl (fun Γ h => ?_)
  refine w_iconst h (pc := 0) dX0_sizeInAll_0 ?_
  refine w_istore_n h (pc := 1) dX0_sizeInAll_1 (by decide) ?_
  refine w_iconst h (pc := 2) dX0_sizeInAll_2 ?_
  refine w_istore_n h (pc := 3) dX0_sizeInAll_3 (by decide) ?_
  have lp4 : ∀ (n j : Nat), N < j + n → j ≤ N → sm (fun i => (T i).length) j ≤ 800 * j → WW Γ 3 u 4 [(0, .ref (a 1)), (1, .int (iI (sm (fun i => (T i).length) j : Int))), (2, .int (iI ((j : Int) + 1)))] [] := by
    intro n9
    induction n9 with
    | zero => intro j hn hj hle; exfalso; omega
    | succ n9 ih =>
      intro j hn hj hle
      refine w_iload_n h (pc := 4) dX0_sizeInAll_4 rfl ?_
      refine w_aload_n h (pc := 5) dX0_sizeInAll_5 rfl ?_
      refine g1_order h (pc := 6) hO wm_42 dX0_sizeInAll_6 ?_
      refine w_icmp_gt h (pc := 9) (tgt := 29) dX0_sizeInAll_9 (by decide) (by omega) (by omega) (fun c9 => ?_) (fun c9 => ?_)
      · have e : j = N := by omega
        refine w_iload_n h (pc := 29) dX0_sizeInAll_29 rfl ?_
        exact w_iret h (pc := 30) (ty := .int) rfl rfl dX0_sizeInAll_30 (Nat.le_of_ble_eq_true rfl) (Nat.le_of_ble_eq_true rfl) ⟨by rw [e], rfl⟩
      · have h0 := hT j (by omega)
        have hl0 := h0.2.2.2.1
        refine w_iload_n h (pc := 12) dX0_sizeInAll_12 rfl ?_
        refine w_aload_n h (pc := 13) dX0_sizeInAll_13 rfl ?_
        refine w_iload_n h (pc := 14) dX0_sizeInAll_14 rfl ?_
        rw [show ((j : Int) + 1) = ((j + 1 : Nat) : Int) by omega]
        refine w_callV1 h (pc := 15) (mX0_countsOf l D κ a ε u (j + 1) (by omega)) 1 rfl rfl (gdV wm_119 wm_120 wm_121 wm_15 wm_122) (by decide +kernel) ⟨(Nat.le_of_ble_eq_true rfl), (Nat.le_of_ble_eq_true rfl)⟩ ⟨(Nat.le_of_ble_eq_true rfl), (Nat.le_of_ble_eq_true rfl)⟩ (fun _ _ _ => ⟨rfl, rfl⟩) (Nat.le_of_ble_eq_true rfl) dX0_sizeInAll_15 (fun v1 u1 hp1 => ?_)
        obtain ⟨rfl, e9⟩ := hp1
        subst e9
        rw [show j + 1 - 1 = j by omega]
        simp only [Option.toList_some, List.cons_append, List.nil_append]
        refine gT_size h (pc := 18) (by omega) h0.1.1 wm_118 dX0_sizeInAll_18 ?_
        refine w_iadd h (pc := 21) dX0_sizeInAll_21 ?_
        refine w_istore_n h (pc := 22) dX0_sizeInAll_22 (by decide) ?_
        refine w_iinc h (pc := 23) dX0_sizeInAll_23 rfl (by decide) ?_
        refine w_goto h (pc := 26) (tgt := 4) dX0_sizeInAll_26 (by decide) ?_
        exact WW.sub (by rfl) (ih (j + 1) (by omega) (by omega) (by rw [sm_s]; omega))
  exact WW.sub (by rfl) (lp4 (N + 1) 0 (by omega) (by omega) (Nat.le_refl _))

set_option maxHeartbeats 4000000 in
set_option maxRecDepth 100000 in
theorem mX0_forgetAll (l : Launch) (D : va_G) (κ a : Nat → Nat) (ε : EE) (u : US) : Ct (W0 κ a) l D κ ε yX0_forgetAll cX0_forgetAll 2 none 2 42 0 0 u [.ref (a 1)] (fun v u' => v = none ∧ Fr tS [] u u' ∧ ∀ i, i < 8 → u'.1 (12 + i) = 0) := by
  refine Ct.of (own := RX0) rfl (by decide +kernel) (Nat.le_of_ble_eq_true rfl) rfl (fun Γ h => ?_)
  refine w_iconst h (pc := 0) dX0_forgetAll_0 ?_
  refine w_istore_n h (pc := 1) dX0_forgetAll_1 (by decide) ?_
  have lp2 : ∀ (n j : Nat) (w : US), 4 < j + n → j ≤ 4 → Fr tS [] u w → (∀ i, i < j → w.1 (12 + i) = 0 ∧ w.1 (16 + i) = 0) → WW Γ 2 w 2 [(0, .ref (a 1)), (1, .int (iI ((j : Int) + 1)))] [] := by
    intro n9
    induction n9 with
    | zero => intro j w hn hj hF hz; exfalso; omega
    | succ n9 ih =>
      intro j w hn hj hF hz
      refine w_iload_n h (pc := 2) dX0_forgetAll_2 rfl ?_
      refine w_iconst h (pc := 3) dX0_forgetAll_3 ?_
      refine w_icmp_gt h (pc := 4) (tgt := 31) dX0_forgetAll_4 (by decide) (by omega) (by omega) (fun c4 => ?_) (fun c4 => ?_)
      · have e : j = 4 := by omega
        have hz8 : ∀ i, i < 8 → w.1 (12 + i) = 0 := fun i hi => by
          rcases Nat.lt_or_ge i 4 with q | q
          · exact (hz i (by omega)).1
          · have := (hz (i - 4) (by omega)).2
            rwa [show 16 + (i - 4) = 12 + i by omega] at this
        exact w_vret h (pc := 31) rfl dX0_forgetAll_31 (Nat.le_of_ble_eq_true rfl) (Nat.le_of_ble_eq_true rfl) ⟨rfl, hF, hz8⟩
      · refine w_aload_n h (pc := 7) dX0_forgetAll_7 rfl ?_
        refine w_iload_n h (pc := 8) dX0_forgetAll_8 rfl ?_
        rw [show ((j : Int) + 1) = ((j + 1 : Nat) : Int) by omega]
        refine w_callV1 h (pc := 9) (mX0_countsOf l D κ a ε w (j + 1) (by omega)) 1 rfl rfl (gdV wm_119 wm_120 wm_121 wm_15 wm_122) (by decide +kernel) ⟨(Nat.le_of_ble_eq_true rfl), (Nat.le_of_ble_eq_true rfl)⟩ ⟨(Nat.le_of_ble_eq_true rfl), (Nat.le_of_ble_eq_true rfl)⟩ (fun _ _ _ => ⟨rfl, rfl⟩) (Nat.le_of_ble_eq_true rfl) dX0_forgetAll_9 (fun v1 u1 hp1 => ?_)
        obtain ⟨rfl, e9⟩ := hp1
        subst e9
        rw [show j + 1 - 1 = j by omega]
        simp only [Option.toList_some, List.cons_append, List.nil_append]
        refine w_iconst h (pc := 12) dX0_forgetAll_12 ?_
        refine pT_size h (pc := 13) (by omega) wm_118 dX0_forgetAll_13 ?_
        refine w_aload_n h (pc := 16) dX0_forgetAll_16 rfl ?_
        refine w_iload_n h (pc := 17) dX0_forgetAll_17 rfl ?_
        refine w_callV1 h (pc := 18) (mX0_varietyOf l D κ a ε _ (j + 1) (by omega)) 1 rfl rfl (gdV wm_130 wm_131 wm_132 wm_15 wm_133) (by decide +kernel) ⟨(Nat.le_of_ble_eq_true rfl), (Nat.le_of_ble_eq_true rfl)⟩ ⟨(Nat.le_of_ble_eq_true rfl), (Nat.le_of_ble_eq_true rfl)⟩ (fun _ _ _ => ⟨rfl, rfl⟩) (Nat.le_of_ble_eq_true rfl) dX0_forgetAll_18 (fun v1 u1 hp1 => ?_)
        obtain ⟨rfl, e9⟩ := hp1
        subst e9
        rw [show j + 1 + 3 = j + 4 by omega]
        simp only [Option.toList_some, List.cons_append, List.nil_append]
        refine w_iconst h (pc := 21) dX0_forgetAll_21 ?_
        refine pT_size h (pc := 22) (by omega) wm_118 dX0_forgetAll_22 ?_
        have hF2 : Fr tS [] u (uS (uS u1 (12 + j) 0) (12 + (j + 4)) 0) := (hF.tr (Fr.S (by simp only [tS, List.mem_cons, List.not_mem_nil, or_false]; omega))).tr (Fr.S (by simp only [tS, List.mem_cons, List.not_mem_nil, or_false]; omega))
        have hz2 : ∀ i, i < j + 1 → (uS (uS u1 (12 + j) 0) (12 + (j + 4)) 0).1 (12 + i) = 0 ∧ (uS (uS u1 (12 + j) 0) (12 + (j + 4)) 0).1 (16 + i) = 0 := fun i hi => by
          unfold uS
          dsimp only
          have := hz i
          constructor <;> (repeat' split) <;> first | rfl | omega | (exact (hz i (by omega)).1) | (exact (hz i (by omega)).2)
        refine w_iinc h (pc := 25) dX0_forgetAll_25 rfl (by decide) ?_
        refine w_goto h (pc := 28) (tgt := 2) dX0_forgetAll_28 (by decide) ?_
        exact WW.sub (by rfl) (ih (j + 1) _ (by omega) (by omega) hF2 hz2)
  exact WW.sub (by rfl) (lp2 5 0 u (by omega) (by omega) Fr.rfl (fun i hi => absurd hi (Nat.not_lt_zero i)))
