theorem dX0_init_0 : decode cX0_init 0 = .ok (.aload_n 0, 1) := by decide +kernel
theorem dX0_init_1 : decode cX0_init 1 = .ok (.invokespecial 3, 3) := by decide +kernel
theorem dX0_init_4 : decode cX0_init 4 = .ok (.aload_n 0, 1) := by decide +kernel
theorem dX0_init_5 : decode cX0_init 5 = .ok (.iconst 0, 1) := by decide +kernel
theorem dX0_init_6 : decode cX0_init 6 = .ok (.putfield 9, 3) := by decide +kernel
theorem dX0_init_9 : decode cX0_init 9 = .ok (.aload_n 0, 1) := by decide +kernel
theorem dX0_init_10 : decode cX0_init 10 = .ok (.iconst 2, 1) := by decide +kernel
theorem dX0_init_11 : decode cX0_init 11 = .ok (.putfield 15, 3) := by decide +kernel
theorem dX0_init_14 : decode cX0_init 14 = .ok (.aload_n 0, 1) := by decide +kernel
theorem dX0_init_15 : decode cX0_init 15 = .ok (.iconst 4, 1) := by decide +kernel
theorem dX0_init_16 : decode cX0_init 16 = .ok (.anewarray 18, 3) := by decide +kernel
theorem dX0_init_19 : decode cX0_init 19 = .ok (.putfield 20, 3) := by decide +kernel
theorem dX0_init_22 : decode cX0_init 22 = .ok (.aload_n 0, 1) := by decide +kernel
theorem dX0_init_23 : decode cX0_init 23 = .ok (.iconst 4, 1) := by decide +kernel
theorem dX0_init_24 : decode cX0_init 24 = .ok (.anewarray 18, 3) := by decide +kernel
theorem dX0_init_27 : decode cX0_init 27 = .ok (.putfield 24, 3) := by decide +kernel
theorem dX0_init_30 : decode cX0_init 30 = .ok (.iconst 0, 1) := by decide +kernel
theorem dX0_init_31 : decode cX0_init 31 = .ok (.istore_n 1, 1) := by decide +kernel
theorem dX0_init_32 : decode cX0_init 32 = .ok (.iload_n 1, 1) := by decide +kernel
theorem dX0_init_33 : decode cX0_init 33 = .ok (.iconst 4, 1) := by decide +kernel
theorem dX0_init_34 : decode cX0_init 34 = .ok (.if_icmp .ge 35, 3) := by decide +kernel
theorem dX0_init_37 : decode cX0_init 37 = .ok (.aload_n 0, 1) := by decide +kernel
theorem dX0_init_38 : decode cX0_init 38 = .ok (.getfield 20, 3) := by decide +kernel
theorem dX0_init_41 : decode cX0_init 41 = .ok (.iload_n 1, 1) := by decide +kernel
theorem dX0_init_42 : decode cX0_init 42 = .ok (.new 18, 3) := by decide +kernel
theorem dX0_init_45 : decode cX0_init 45 = .ok (.dup, 1) := by decide +kernel
theorem dX0_init_46 : decode cX0_init 46 = .ok (.invokespecial 27, 3) := by decide +kernel
theorem dX0_init_49 : decode cX0_init 49 = .ok (.aastore, 1) := by decide +kernel
theorem dX0_init_50 : decode cX0_init 50 = .ok (.aload_n 0, 1) := by decide +kernel
theorem dX0_init_51 : decode cX0_init 51 = .ok (.getfield 24, 3) := by decide +kernel
theorem dX0_init_54 : decode cX0_init 54 = .ok (.iload_n 1, 1) := by decide +kernel
theorem dX0_init_55 : decode cX0_init 55 = .ok (.new 18, 3) := by decide +kernel
theorem dX0_init_58 : decode cX0_init 58 = .ok (.dup, 1) := by decide +kernel
theorem dX0_init_59 : decode cX0_init 59 = .ok (.invokespecial 27, 3) := by decide +kernel
theorem dX0_init_62 : decode cX0_init 62 = .ok (.aastore, 1) := by decide +kernel
theorem dX0_init_63 : decode cX0_init 63 = .ok (.iinc 1 1, 3) := by decide +kernel
theorem dX0_init_66 : decode cX0_init 66 = .ok (.goto (-34), 3) := by decide +kernel
theorem dX0_init_69 : decode cX0_init 69 = .ok (.return_, 1) := by decide +kernel
theorem dX1_init_0 : decode cX1_init 0 = .ok (.aload_n 0, 1) := by decide +kernel
theorem dX1_init_1 : decode cX1_init 1 = .ok (.invokespecial 3, 3) := by decide +kernel
theorem dX1_init_4 : decode cX1_init 4 = .ok (.aload_n 0, 1) := by decide +kernel
theorem dX1_init_5 : decode cX1_init 5 = .ok (.iconst 0, 1) := by decide +kernel
theorem dX1_init_6 : decode cX1_init 6 = .ok (.putfield 9, 3) := by decide +kernel
theorem dX1_init_9 : decode cX1_init 9 = .ok (.aload_n 0, 1) := by decide +kernel
theorem dX1_init_10 : decode cX1_init 10 = .ok (.sipush 500, 3) := by decide +kernel
theorem dX1_init_13 : decode cX1_init 13 = .ok (.putfield 15, 3) := by decide +kernel
theorem dX1_init_16 : decode cX1_init 16 = .ok (.aload_n 0, 1) := by decide +kernel
theorem dX1_init_17 : decode cX1_init 17 = .ok (.bipush 13, 2) := by decide +kernel
theorem dX1_init_19 : decode cX1_init 19 = .ok (.newarray .int, 2) := by decide +kernel
theorem dX1_init_21 : decode cX1_init 21 = .ok (.putfield 18, 3) := by decide +kernel
theorem dX1_init_24 : decode cX1_init 24 = .ok (.aload_n 0, 1) := by decide +kernel
theorem dX1_init_25 : decode cX1_init 25 = .ok (.bipush 13, 2) := by decide +kernel
theorem dX1_init_27 : decode cX1_init 27 = .ok (.newarray .int, 2) := by decide +kernel
theorem dX1_init_29 : decode cX1_init 29 = .ok (.putfield 22, 3) := by decide +kernel
theorem dX1_init_32 : decode cX1_init 32 = .ok (.aload_n 0, 1) := by decide +kernel
theorem dX1_init_33 : decode cX1_init 33 = .ok (.lconst 0, 1) := by decide +kernel
theorem dX1_init_34 : decode cX1_init 34 = .ok (.putfield 25, 3) := by decide +kernel
theorem dX1_init_37 : decode cX1_init 37 = .ok (.aload_n 0, 1) := by decide +kernel
theorem dX1_init_38 : decode cX1_init 38 = .ok (.iconst 0, 1) := by decide +kernel
theorem dX1_init_39 : decode cX1_init 39 = .ok (.putfield 29, 3) := by decide +kernel
theorem dX1_init_42 : decode cX1_init 42 = .ok (.aload_n 0, 1) := by decide +kernel
theorem dX1_init_43 : decode cX1_init 43 = .ok (.aload_n 1, 1) := by decide +kernel
theorem dX1_init_44 : decode cX1_init 44 = .ok (.putfield 32, 3) := by decide +kernel
theorem dX1_init_47 : decode cX1_init 47 = .ok (.return_, 1) := by decide +kernel
theorem dX2_init_0 : decode cX2_init 0 = .ok (.aload_n 0, 1) := by decide +kernel
theorem dX2_init_1 : decode cX2_init 1 = .ok (.invokespecial 3, 3) := by decide +kernel
theorem dX2_init_4 : decode cX2_init 4 = .ok (.aload_n 0, 1) := by decide +kernel
theorem dX2_init_5 : decode cX2_init 5 = .ok (.bipush 12, 2) := by decide +kernel
theorem dX2_init_7 : decode cX2_init 7 = .ok (.newarray .int, 2) := by decide +kernel
theorem dX2_init_9 : decode cX2_init 9 = .ok (.putfield 9, 3) := by decide +kernel
theorem dX2_init_12 : decode cX2_init 12 = .ok (.aload_n 0, 1) := by decide +kernel
theorem dX2_init_13 : decode cX2_init 13 = .ok (.bipush 12, 2) := by decide +kernel
theorem dX2_init_15 : decode cX2_init 15 = .ok (.newarray .int, 2) := by decide +kernel
theorem dX2_init_17 : decode cX2_init 17 = .ok (.putfield 15, 3) := by decide +kernel
theorem dX2_init_20 : decode cX2_init 20 = .ok (.aload_n 0, 1) := by decide +kernel
theorem dX2_init_21 : decode cX2_init 21 = .ok (.bipush 12, 2) := by decide +kernel
theorem dX2_init_23 : decode cX2_init 23 = .ok (.newarray .int, 2) := by decide +kernel
theorem dX2_init_25 : decode cX2_init 25 = .ok (.putfield 18, 3) := by decide +kernel
theorem dX2_init_28 : decode cX2_init 28 = .ok (.aload_n 0, 1) := by decide +kernel
theorem dX2_init_29 : decode cX2_init 29 = .ok (.iconst 0, 1) := by decide +kernel
theorem dX2_init_30 : decode cX2_init 30 = .ok (.putfield 21, 3) := by decide +kernel
theorem dX2_init_33 : decode cX2_init 33 = .ok (.return_, 1) := by decide +kernel
theorem dX3_init_0 : decode cX3_init 0 = .ok (.aload_n 0, 1) := by decide +kernel
theorem dX3_init_1 : decode cX3_init 1 = .ok (.invokespecial 3, 3) := by decide +kernel
theorem dX3_init_4 : decode cX3_init 4 = .ok (.aload_n 0, 1) := by decide +kernel
theorem dX3_init_5 : decode cX3_init 5 = .ok (.sipush 22464, 3) := by decide +kernel
theorem dX3_init_8 : decode cX3_init 8 = .ok (.newarray .int, 2) := by decide +kernel
theorem dX3_init_10 : decode cX3_init 10 = .ok (.putfield 11, 3) := by decide +kernel
theorem dX3_init_13 : decode cX3_init 13 = .ok (.aload_n 0, 1) := by decide +kernel
theorem dX3_init_14 : decode cX3_init 14 = .ok (.bipush 12, 2) := by decide +kernel
theorem dX3_init_16 : decode cX3_init 16 = .ok (.sipush 1728, 3) := by decide +kernel
theorem dX3_init_19 : decode cX3_init 19 = .ok (.multianewarray 15 2, 4) := by decide +kernel
theorem dX3_init_23 : decode cX3_init 23 = .ok (.putfield 17, 3) := by decide +kernel
theorem dX3_init_26 : decode cX3_init 26 = .ok (.aload_n 0, 1) := by decide +kernel
theorem dX3_init_27 : decode cX3_init 27 = .ok (.sipush 1728, 3) := by decide +kernel
theorem dX3_init_30 : decode cX3_init 30 = .ok (.newarray .int, 2) := by decide +kernel
theorem dX3_init_32 : decode cX3_init 32 = .ok (.putfield 20, 3) := by decide +kernel
theorem dX3_init_35 : decode cX3_init 35 = .ok (.aload_n 0, 1) := by decide +kernel
theorem dX3_init_36 : decode cX3_init 36 = .ok (.sipush 1728, 3) := by decide +kernel
theorem dX3_init_39 : decode cX3_init 39 = .ok (.newarray .int, 2) := by decide +kernel
theorem dX3_init_41 : decode cX3_init 41 = .ok (.putfield 23, 3) := by decide +kernel
theorem dX3_init_44 : decode cX3_init 44 = .ok (.aload_n 0, 1) := by decide +kernel
theorem dX3_init_45 : decode cX3_init 45 = .ok (.aload_n 1, 1) := by decide +kernel
theorem dX3_init_46 : decode cX3_init 46 = .ok (.putfield 26, 3) := by decide +kernel
theorem dX3_init_49 : decode cX3_init 49 = .ok (.aload_n 0, 1) := by decide +kernel
theorem dX3_init_50 : decode cX3_init 50 = .ok (.aload_n 2, 1) := by decide +kernel
theorem dX3_init_51 : decode cX3_init 51 = .ok (.putfield 30, 3) := by decide +kernel
theorem dX3_init_54 : decode cX3_init 54 = .ok (.return_, 1) := by decide +kernel
theorem dX4_init_0 : decode cX4_init 0 = .ok (.aload_n 0, 1) := by decide +kernel
theorem dX4_init_1 : decode cX4_init 1 = .ok (.invokespecial 1, 3) := by decide +kernel
theorem dX4_init_4 : decode cX4_init 4 = .ok (.aload_n 0, 1) := by decide +kernel
theorem dX4_init_5 : decode cX4_init 5 = .ok (.sipush 852, 3) := by decide +kernel
theorem dX4_init_8 : decode cX4_init 8 = .ok (.newarray .int, 2) := by decide +kernel
theorem dX4_init_10 : decode cX4_init 10 = .ok (.putfield 9, 3) := by decide +kernel
theorem dX4_init_13 : decode cX4_init 13 = .ok (.aload_n 0, 1) := by decide +kernel
theorem dX4_init_14 : decode cX4_init 14 = .ok (.sipush 852, 3) := by decide +kernel
theorem dX4_init_17 : decode cX4_init 17 = .ok (.newarray .int, 2) := by decide +kernel
theorem dX4_init_19 : decode cX4_init 19 = .ok (.putfield 13, 3) := by decide +kernel
theorem dX4_init_22 : decode cX4_init 22 = .ok (.aload_n 0, 1) := by decide +kernel
theorem dX4_init_23 : decode cX4_init 23 = .ok (.iconst 0, 1) := by decide +kernel
theorem dX4_init_24 : decode cX4_init 24 = .ok (.putfield 16, 3) := by decide +kernel
theorem dX4_init_27 : decode cX4_init 27 = .ok (.return_, 1) := by decide +kernel
set_option maxRecDepth 100000 in
set_option maxHeartbeats 4000000 in
theorem mX4_init (l : Launch) (D : va_G) (κ : Nat → Nat) (ε : EE) (h0 : Nat) : Ct Wd l D κ ε yX4_init cX4_init 1 none 1 13 2 1704 ([(h0, .inr (4, [.null, .null, .int 0]))], 0, 0) [.ref h0] (fun v u' => v = none ∧ ∃ (q1 : Nat) (q2 : Nat), u' = ([(h0, .inr (4, [.ref q1, .ref q2, .int (iI 0)])),
    (q1, .inl (κ 0, 852, .inl (fun _ => iI 0))),
    (q2, .inl (κ 0, 852, .inl (fun _ => iI 0)))], 2, 1704)) := by
  refine Ct.ofN (own := RX4) rfl (by decide +kernel) (Nat.le_of_ble_eq_true rfl) rfl (fun Γ hn => ?_)
  have h := hn.cx
  refine WW.sub (L' := [(0, .ref h0)]) (by rfl) ?_
  refine w_aload_n h (pc := 0) dX4_init_0 rfl ?_
  refine w_objInit h (pc := 1) wm_50 wm_11 wm_12 (Nat.le_of_ble_eq_true rfl) (Nat.le_of_ble_eq_true rfl) dX4_init_1 ?_
  refine w_aload_n h (pc := 4) dX4_init_4 rfl ?_
  refine w_sipush h (pc := 5) dX4_init_5 (by decide) ?_
  refine w_newa h (pc := 8) (ty := .int) rfl wm_31 (t0 := 0) rfl (N' := 852) rfl (by decide) (a0 := (852, .inl (fun _ => iI 0))) (fun _ => rfl) (by decide) (Nat.le_of_ble_eq_true rfl) (Nat.le_of_ble_eq_true rfl) dX4_init_8 (fun q1 => ?_)
  refine w_putF hn (pc := 10) wi_X4 tyX4 tyX4_ok nmX4 0 rfl rfl 0 (by decide) wm_51 rfl rfl rfl (ty := tyX4 0) (by decide +kernel) rfl rfl (Nat.le_of_ble_eq_true rfl) dX4_init_10 ?_
  refine w_aload_n h (pc := 13) dX4_init_13 rfl ?_
  refine w_sipush h (pc := 14) dX4_init_14 (by decide) ?_
  refine w_newa h (pc := 17) (ty := .int) rfl wm_31 (t0 := 0) rfl (N' := 852) rfl (by decide) (a0 := (852, .inl (fun _ => iI 0))) (fun _ => rfl) (by decide) (Nat.le_of_ble_eq_true rfl) (Nat.le_of_ble_eq_true rfl) dX4_init_17 (fun q2 => ?_)
  refine w_putF hn (pc := 19) wi_X4 tyX4 tyX4_ok nmX4 0 rfl rfl 1 (by decide) wm_52 rfl rfl rfl (ty := tyX4 1) (by decide +kernel) rfl rfl (Nat.le_of_ble_eq_true rfl) dX4_init_19 ?_
  refine w_aload_n h (pc := 22) dX4_init_22 rfl ?_
  refine w_iconst h (pc := 23) dX4_init_23 ?_
  refine w_putD h (pc := 24) wi_X4 tyX4 tyX4_ok nmX4 0 rfl rfl 2 (by decide) wm_53 rfl rfl (ty := tyX4 2) (by decide +kernel) rfl rfl (Nat.le_of_ble_eq_true rfl) dX4_init_24 ?_
  exact w_vret h rfl dX4_init_27 (Nat.le_of_ble_eq_true rfl) (Nat.le_of_ble_eq_true rfl) ⟨rfl, q1, q2, rfl⟩

set_option maxRecDepth 100000 in
set_option maxHeartbeats 4000000 in
theorem mX0_init (l : Launch) (D : va_G) (κ : Nat → Nat) (ε : EE) (h0 : Nat) : Ct Wd l D κ ε yX0_init cX0_init 2 none 2 33 26 13664 ([(h0, .inr (0, [.int 0, .int 0, .null, .null]))], 0, 0) [.ref h0] (fun v u' => v = none ∧ ∃ (q1 : Nat) (q2 : Nat) (q3 : Nat) (q4 : Nat) (q5 : Nat) (q6 : Nat) (q7 : Nat) (q8 : Nat) (q9 : Nat) (q10 : Nat) (q11 : Nat) (q12 : Nat) (q13 : Nat) (q14 : Nat) (q15 : Nat) (q16 : Nat) (q17 : Nat) (q18 : Nat) (q19 : Nat) (q20 : Nat) (q21 : Nat) (q22 : Nat) (q23 : Nat) (q24 : Nat) (q25 : Nat) (q26 : Nat), u' = ([(h0, .inr (0, [.int (iI 0), .int (iI 2), .ref q1, .ref q2])),
    (q1, .inl (κ 2, 4, .inr (.inr (.inr (.inr (va_up (va_up (va_up (va_up (fun _ => none) 0 (some q3)) 1 (some q9)) 2 (some q15)) 3 (some q21))))))),
    (q2, .inl (κ 2, 4, .inr (.inr (.inr (.inr (va_up (va_up (va_up (va_up (fun _ => none) 0 (some q6)) 1 (some q12)) 2 (some q18)) 3 (some q24))))))),
    (q3, .inr (4, [.ref q4, .ref q5, .int (iI 0)])),
    (q4, .inl (κ 0, 852, .inl (fun _ => iI 0))),
    (q5, .inl (κ 0, 852, .inl (fun _ => iI 0))),
    (q6, .inr (4, [.ref q7, .ref q8, .int (iI 0)])),
    (q7, .inl (κ 0, 852, .inl (fun _ => iI 0))),
    (q8, .inl (κ 0, 852, .inl (fun _ => iI 0))),
    (q9, .inr (4, [.ref q10, .ref q11, .int (iI 0)])),
    (q10, .inl (κ 0, 852, .inl (fun _ => iI 0))),
    (q11, .inl (κ 0, 852, .inl (fun _ => iI 0))),
    (q12, .inr (4, [.ref q13, .ref q14, .int (iI 0)])),
    (q13, .inl (κ 0, 852, .inl (fun _ => iI 0))),
    (q14, .inl (κ 0, 852, .inl (fun _ => iI 0))),
    (q15, .inr (4, [.ref q16, .ref q17, .int (iI 0)])),
    (q16, .inl (κ 0, 852, .inl (fun _ => iI 0))),
    (q17, .inl (κ 0, 852, .inl (fun _ => iI 0))),
    (q18, .inr (4, [.ref q19, .ref q20, .int (iI 0)])),
    (q19, .inl (κ 0, 852, .inl (fun _ => iI 0))),
    (q20, .inl (κ 0, 852, .inl (fun _ => iI 0))),
    (q21, .inr (4, [.ref q22, .ref q23, .int (iI 0)])),
    (q22, .inl (κ 0, 852, .inl (fun _ => iI 0))),
    (q23, .inl (κ 0, 852, .inl (fun _ => iI 0))),
    (q24, .inr (4, [.ref q25, .ref q26, .int (iI 0)])),
    (q25, .inl (κ 0, 852, .inl (fun _ => iI 0))),
    (q26, .inl (κ 0, 852, .inl (fun _ => iI 0)))], 26, 13664)) := by
  refine Ct.ofN (own := RX0) rfl (by decide +kernel) (Nat.le_of_ble_eq_true rfl) rfl (fun Γ hn => ?_)
  have h := hn.cx
  refine WW.sub (L' := [(0, .ref h0)]) (by rfl) ?_
  refine w_aload_n h (pc := 0) dX0_init_0 rfl ?_
  refine w_objInit h (pc := 1) wm_40 wm_11 wm_12 (Nat.le_of_ble_eq_true rfl) (Nat.le_of_ble_eq_true rfl) dX0_init_1 ?_
  refine w_aload_n h (pc := 4) dX0_init_4 rfl ?_
  refine w_iconst h (pc := 5) dX0_init_5 ?_
  refine w_putD h (pc := 6) wi_X0 tyX0 tyX0_ok nmX0 0 rfl rfl 0 (by decide) wm_41 rfl rfl (ty := tyX0 0) (by decide +kernel) rfl rfl (Nat.le_of_ble_eq_true rfl) dX0_init_6 ?_
  refine w_aload_n h (pc := 9) dX0_init_9 rfl ?_
  refine w_iconst h (pc := 10) dX0_init_10 ?_
  refine w_putD h (pc := 11) wi_X0 tyX0 tyX0_ok nmX0 0 rfl rfl 1 (by decide) wm_42 rfl rfl (ty := tyX0 1) (by decide +kernel) rfl rfl (Nat.le_of_ble_eq_true rfl) dX0_init_11 ?_
  refine w_aload_n h (pc := 14) dX0_init_14 rfl ?_
  refine w_iconst h (pc := 15) dX0_init_15 ?_
  refine w_newq h (pc := 16) wm_43 (fun U hU => hU.2.2.2.2.2.2.1) (t0 := 2) rfl (N' := 4) rfl (by decide) (Nat.le_of_ble_eq_true rfl) (Nat.le_of_ble_eq_true rfl) dX0_init_16 (fun q1 => ?_)
  refine w_putF hn (pc := 19) wi_X0 tyX0 tyX0_ok nmX0 0 rfl rfl 2 (by decide) wm_44 rfl rfl rfl (ty := tyX0 2) (by decide +kernel) rfl rfl (Nat.le_of_ble_eq_true rfl) dX0_init_19 ?_
  refine w_aload_n h (pc := 22) dX0_init_22 rfl ?_
  refine w_iconst h (pc := 23) dX0_init_23 ?_
  refine w_newq h (pc := 24) wm_43 (fun U hU => hU.2.2.2.2.2.2.1) (t0 := 2) rfl (N' := 4) rfl (by decide) (Nat.le_of_ble_eq_true rfl) (Nat.le_of_ble_eq_true rfl) dX0_init_24 (fun q2 => ?_)
  refine w_putF hn (pc := 27) wi_X0 tyX0 tyX0_ok nmX0 0 rfl rfl 3 (by decide) wm_45 rfl rfl rfl (ty := tyX0 3) (by decide +kernel) rfl rfl (Nat.le_of_ble_eq_true rfl) dX0_init_27 ?_
  refine w_iconst h (pc := 30) dX0_init_30 ?_
  refine w_istore_n h (pc := 31) dX0_init_31 (by decide) ?_
  refine w_iload_n h (pc := 32) dX0_init_32 rfl ?_
  refine w_iconst h (pc := 33) dX0_init_33 ?_
  refine w_icmp_ge h (pc := 34) dX0_init_34 (tgt := 69) (by decide) (by decide) (by decide) (fun z => absurd z (by decide)) (fun _ => ?_)
  refine w_aload_n h (pc := 37) dX0_init_37 rfl ?_
  refine w_get h (pc := 38) wi_X0 0 rfl rfl 2 (by decide) wm_44 rfl (v := .ref q1) rfl dX0_init_38 ?_
  refine w_iload_n h (pc := 41) dX0_init_41 rfl ?_
  refine w_new h (pc := 42) wi_X4 tyX4 tyX4_ok wm_43 wm_46 wm_47 (ci := 4) rfl (fs := [.null, .null, .int 0]) (fun j hj => by rcases (show j = 0 ∨ j = 1 ∨ j = 2 by omega) with rfl | rfl | rfl <;> rfl) (Nat.le_of_ble_eq_true rfl) (Nat.le_of_ble_eq_true rfl) dX0_init_42 (fun q3 => ?_)
  refine w_dup h (pc := 45) dX0_init_45 rfl ?_
  refine w_fIN0 h (pc := 46) (mX4_init l D κ ε q3) (wr := [(h0, .inr (0, [.int (iI 0), .int (iI 2), .ref q1, .ref q2])),
    (q1, .inl (κ 2, 4, .inr (.inr (.inr (.inr (fun _ => none)))))),
    (q2, .inl (κ 2, 4, .inr (.inr (.inr (.inr (fun _ => none))))))]) (List.Perm.refl _) (gdN wm_49) (fun U hU => hU.2.2.2.2.1) wm_47 wm_48 rfl (by decide +kernel) ⟨(Nat.le_of_ble_eq_true rfl), (Nat.le_of_ble_eq_true rfl)⟩ ⟨(Nat.le_of_ble_eq_true rfl), (Nat.le_of_ble_eq_true rfl)⟩ (Nat.le_of_ble_eq_true rfl) dX0_init_46 (fun v9 u9 hp9 => ?_)
  obtain ⟨rfl, q4, q5, rfl⟩ := hp9
  refine WW.equ (u' := ([(h0, .inr (0, [.int (iI 0), .int (iI 2), .ref q1, .ref q2])),
    (q1, .inl (κ 2, 4, .inr (.inr (.inr (.inr (fun _ => none)))))),
    (q2, .inl (κ 2, 4, .inr (.inr (.inr (.inr (fun _ => none)))))),
    (q3, .inr (4, [.ref q4, .ref q5, .int (iI 0)])),
    (q4, .inl (κ 0, 852, .inl (fun _ => iI 0))),
    (q5, .inl (κ 0, 852, .inl (fun _ => iI 0)))], 5, 1715)) rfl ?_
  refine w_aast h (pc := 49) 1 3 4 (t0 := 2) rfl rfl rfl rfl (by decide) (by decide) dX0_init_49 ?_
  refine w_aload_n h (pc := 50) dX0_init_50 rfl ?_
  refine w_get h (pc := 51) wi_X0 0 rfl rfl 3 (by decide) wm_45 rfl (v := .ref q2) rfl dX0_init_51 ?_
  refine w_iload_n h (pc := 54) dX0_init_54 rfl ?_
  refine w_new h (pc := 55) wi_X4 tyX4 tyX4_ok wm_43 wm_46 wm_47 (ci := 4) rfl (fs := [.null, .null, .int 0]) (fun j hj => by rcases (show j = 0 ∨ j = 1 ∨ j = 2 by omega) with rfl | rfl | rfl <;> rfl) (Nat.le_of_ble_eq_true rfl) (Nat.le_of_ble_eq_true rfl) dX0_init_55 (fun q6 => ?_)
  refine w_dup h (pc := 58) dX0_init_58 rfl ?_
  refine w_fIN0 h (pc := 59) (mX4_init l D κ ε q6) (wr := [(h0, .inr (0, [.int (iI 0), .int (iI 2), .ref q1, .ref q2])),
    (q1, .inl (κ 2, 4, .inr (.inr (.inr (.inr (va_up (fun _ => none) 0 (some q3))))))),
    (q2, .inl (κ 2, 4, .inr (.inr (.inr (.inr (fun _ => none)))))),
    (q3, .inr (4, [.ref q4, .ref q5, .int (iI 0)])),
    (q4, .inl (κ 0, 852, .inl (fun _ => iI 0))),
    (q5, .inl (κ 0, 852, .inl (fun _ => iI 0)))]) (List.Perm.refl _) (gdN wm_49) (fun U hU => hU.2.2.2.2.1) wm_47 wm_48 rfl (by decide +kernel) ⟨(Nat.le_of_ble_eq_true rfl), (Nat.le_of_ble_eq_true rfl)⟩ ⟨(Nat.le_of_ble_eq_true rfl), (Nat.le_of_ble_eq_true rfl)⟩ (Nat.le_of_ble_eq_true rfl) dX0_init_59 (fun v9 u9 hp9 => ?_)
  obtain ⟨rfl, q7, q8, rfl⟩ := hp9
  refine WW.equ (u' := ([(h0, .inr (0, [.int (iI 0), .int (iI 2), .ref q1, .ref q2])),
    (q1, .inl (κ 2, 4, .inr (.inr (.inr (.inr (va_up (fun _ => none) 0 (some q3))))))),
    (q2, .inl (κ 2, 4, .inr (.inr (.inr (.inr (fun _ => none)))))),
    (q3, .inr (4, [.ref q4, .ref q5, .int (iI 0)])),
    (q4, .inl (κ 0, 852, .inl (fun _ => iI 0))),
    (q5, .inl (κ 0, 852, .inl (fun _ => iI 0))),
    (q6, .inr (4, [.ref q7, .ref q8, .int (iI 0)])),
    (q7, .inl (κ 0, 852, .inl (fun _ => iI 0))),
    (q8, .inl (κ 0, 852, .inl (fun _ => iI 0)))], 8, 3422)) rfl ?_
  refine w_aast h (pc := 62) 2 6 4 (t0 := 2) rfl rfl rfl rfl (by decide) (by decide) dX0_init_62 ?_
  refine w_iinc h (pc := 63) dX0_init_63 rfl (by decide) ?_
  refine WW.sub (L' := [(1, .int (iI 1)), (0, .ref h0)]) (by rfl) ?_
  refine w_goto h (pc := 66) dX0_init_66 (tgt := 32) (by decide) ?_
  refine w_iload_n h (pc := 32) dX0_init_32 rfl ?_
  refine w_iconst h (pc := 33) dX0_init_33 ?_
  refine w_icmp_ge h (pc := 34) dX0_init_34 (tgt := 69) (by decide) (by decide) (by decide) (fun z => absurd z (by decide)) (fun _ => ?_)
  refine w_aload_n h (pc := 37) dX0_init_37 rfl ?_
  refine w_get h (pc := 38) wi_X0 0 rfl rfl 2 (by decide) wm_44 rfl (v := .ref q1) rfl dX0_init_38 ?_
  refine w_iload_n h (pc := 41) dX0_init_41 rfl ?_
  refine w_new h (pc := 42) wi_X4 tyX4 tyX4_ok wm_43 wm_46 wm_47 (ci := 4) rfl (fs := [.null, .null, .int 0]) (fun j hj => by rcases (show j = 0 ∨ j = 1 ∨ j = 2 by omega) with rfl | rfl | rfl <;> rfl) (Nat.le_of_ble_eq_true rfl) (Nat.le_of_ble_eq_true rfl) dX0_init_42 (fun q9 => ?_)
  refine w_dup h (pc := 45) dX0_init_45 rfl ?_
  refine w_fIN0 h (pc := 46) (mX4_init l D κ ε q9) (wr := [(h0, .inr (0, [.int (iI 0), .int (iI 2), .ref q1, .ref q2])),
    (q1, .inl (κ 2, 4, .inr (.inr (.inr (.inr (va_up (fun _ => none) 0 (some q3))))))),
    (q2, .inl (κ 2, 4, .inr (.inr (.inr (.inr (va_up (fun _ => none) 0 (some q6))))))),
    (q3, .inr (4, [.ref q4, .ref q5, .int (iI 0)])),
    (q4, .inl (κ 0, 852, .inl (fun _ => iI 0))),
    (q5, .inl (κ 0, 852, .inl (fun _ => iI 0))),
    (q6, .inr (4, [.ref q7, .ref q8, .int (iI 0)])),
    (q7, .inl (κ 0, 852, .inl (fun _ => iI 0))),
    (q8, .inl (κ 0, 852, .inl (fun _ => iI 0)))]) (List.Perm.refl _) (gdN wm_49) (fun U hU => hU.2.2.2.2.1) wm_47 wm_48 rfl (by decide +kernel) ⟨(Nat.le_of_ble_eq_true rfl), (Nat.le_of_ble_eq_true rfl)⟩ ⟨(Nat.le_of_ble_eq_true rfl), (Nat.le_of_ble_eq_true rfl)⟩ (Nat.le_of_ble_eq_true rfl) dX0_init_46 (fun v9 u9 hp9 => ?_)
  obtain ⟨rfl, q10, q11, rfl⟩ := hp9
  refine WW.equ (u' := ([(h0, .inr (0, [.int (iI 0), .int (iI 2), .ref q1, .ref q2])),
    (q1, .inl (κ 2, 4, .inr (.inr (.inr (.inr (va_up (fun _ => none) 0 (some q3))))))),
    (q2, .inl (κ 2, 4, .inr (.inr (.inr (.inr (va_up (fun _ => none) 0 (some q6))))))),
    (q3, .inr (4, [.ref q4, .ref q5, .int (iI 0)])),
    (q4, .inl (κ 0, 852, .inl (fun _ => iI 0))),
    (q5, .inl (κ 0, 852, .inl (fun _ => iI 0))),
    (q6, .inr (4, [.ref q7, .ref q8, .int (iI 0)])),
    (q7, .inl (κ 0, 852, .inl (fun _ => iI 0))),
    (q8, .inl (κ 0, 852, .inl (fun _ => iI 0))),
    (q9, .inr (4, [.ref q10, .ref q11, .int (iI 0)])),
    (q10, .inl (κ 0, 852, .inl (fun _ => iI 0))),
    (q11, .inl (κ 0, 852, .inl (fun _ => iI 0)))], 11, 5129)) rfl ?_
  refine w_aast h (pc := 49) 1 9 4 (t0 := 2) rfl rfl rfl rfl (by decide) (by decide) dX0_init_49 ?_
  refine w_aload_n h (pc := 50) dX0_init_50 rfl ?_
  refine w_get h (pc := 51) wi_X0 0 rfl rfl 3 (by decide) wm_45 rfl (v := .ref q2) rfl dX0_init_51 ?_
  refine w_iload_n h (pc := 54) dX0_init_54 rfl ?_
  refine w_new h (pc := 55) wi_X4 tyX4 tyX4_ok wm_43 wm_46 wm_47 (ci := 4) rfl (fs := [.null, .null, .int 0]) (fun j hj => by rcases (show j = 0 ∨ j = 1 ∨ j = 2 by omega) with rfl | rfl | rfl <;> rfl) (Nat.le_of_ble_eq_true rfl) (Nat.le_of_ble_eq_true rfl) dX0_init_55 (fun q12 => ?_)
  refine w_dup h (pc := 58) dX0_init_58 rfl ?_
  refine w_fIN0 h (pc := 59) (mX4_init l D κ ε q12) (wr := [(h0, .inr (0, [.int (iI 0), .int (iI 2), .ref q1, .ref q2])),
    (q1, .inl (κ 2, 4, .inr (.inr (.inr (.inr (va_up (va_up (fun _ => none) 0 (some q3)) 1 (some q9))))))),
    (q2, .inl (κ 2, 4, .inr (.inr (.inr (.inr (va_up (fun _ => none) 0 (some q6))))))),
    (q3, .inr (4, [.ref q4, .ref q5, .int (iI 0)])),
    (q4, .inl (κ 0, 852, .inl (fun _ => iI 0))),
    (q5, .inl (κ 0, 852, .inl (fun _ => iI 0))),
    (q6, .inr (4, [.ref q7, .ref q8, .int (iI 0)])),
    (q7, .inl (κ 0, 852, .inl (fun _ => iI 0))),
    (q8, .inl (κ 0, 852, .inl (fun _ => iI 0))),
    (q9, .inr (4, [.ref q10, .ref q11, .int (iI 0)])),
    (q10, .inl (κ 0, 852, .inl (fun _ => iI 0))),
    (q11, .inl (κ 0, 852, .inl (fun _ => iI 0)))]) (List.Perm.refl _) (gdN wm_49) (fun U hU => hU.2.2.2.2.1) wm_47 wm_48 rfl (by decide +kernel) ⟨(Nat.le_of_ble_eq_true rfl), (Nat.le_of_ble_eq_true rfl)⟩ ⟨(Nat.le_of_ble_eq_true rfl), (Nat.le_of_ble_eq_true rfl)⟩ (Nat.le_of_ble_eq_true rfl) dX0_init_59 (fun v9 u9 hp9 => ?_)
  obtain ⟨rfl, q13, q14, rfl⟩ := hp9
  refine WW.equ (u' := ([(h0, .inr (0, [.int (iI 0), .int (iI 2), .ref q1, .ref q2])),
    (q1, .inl (κ 2, 4, .inr (.inr (.inr (.inr (va_up (va_up (fun _ => none) 0 (some q3)) 1 (some q9))))))),
    (q2, .inl (κ 2, 4, .inr (.inr (.inr (.inr (va_up (fun _ => none) 0 (some q6))))))),
    (q3, .inr (4, [.ref q4, .ref q5, .int (iI 0)])),
    (q4, .inl (κ 0, 852, .inl (fun _ => iI 0))),
    (q5, .inl (κ 0, 852, .inl (fun _ => iI 0))),
    (q6, .inr (4, [.ref q7, .ref q8, .int (iI 0)])),
    (q7, .inl (κ 0, 852, .inl (fun _ => iI 0))),
    (q8, .inl (κ 0, 852, .inl (fun _ => iI 0))),
    (q9, .inr (4, [.ref q10, .ref q11, .int (iI 0)])),
    (q10, .inl (κ 0, 852, .inl (fun _ => iI 0))),
    (q11, .inl (κ 0, 852, .inl (fun _ => iI 0))),
    (q12, .inr (4, [.ref q13, .ref q14, .int (iI 0)])),
    (q13, .inl (κ 0, 852, .inl (fun _ => iI 0))),
    (q14, .inl (κ 0, 852, .inl (fun _ => iI 0)))], 14, 6836)) rfl ?_
  refine w_aast h (pc := 62) 2 12 4 (t0 := 2) rfl rfl rfl rfl (by decide) (by decide) dX0_init_62 ?_
  refine w_iinc h (pc := 63) dX0_init_63 rfl (by decide) ?_
  refine WW.sub (L' := [(1, .int (iI 2)), (0, .ref h0)]) (by rfl) ?_
  refine w_goto h (pc := 66) dX0_init_66 (tgt := 32) (by decide) ?_
  refine w_iload_n h (pc := 32) dX0_init_32 rfl ?_
  refine w_iconst h (pc := 33) dX0_init_33 ?_
  refine w_icmp_ge h (pc := 34) dX0_init_34 (tgt := 69) (by decide) (by decide) (by decide) (fun z => absurd z (by decide)) (fun _ => ?_)
  refine w_aload_n h (pc := 37) dX0_init_37 rfl ?_
  refine w_get h (pc := 38) wi_X0 0 rfl rfl 2 (by decide) wm_44 rfl (v := .ref q1) rfl dX0_init_38 ?_
  refine w_iload_n h (pc := 41) dX0_init_41 rfl ?_
  refine w_new h (pc := 42) wi_X4 tyX4 tyX4_ok wm_43 wm_46 wm_47 (ci := 4) rfl (fs := [.null, .null, .int 0]) (fun j hj => by rcases (show j = 0 ∨ j = 1 ∨ j = 2 by omega) with rfl | rfl | rfl <;> rfl) (Nat.le_of_ble_eq_true rfl) (Nat.le_of_ble_eq_true rfl) dX0_init_42 (fun q15 => ?_)
  refine w_dup h (pc := 45) dX0_init_45 rfl ?_
  refine w_fIN0 h (pc := 46) (mX4_init l D κ ε q15) (wr := [(h0, .inr (0, [.int (iI 0), .int (iI 2), .ref q1, .ref q2])),
    (q1, .inl (κ 2, 4, .inr (.inr (.inr (.inr (va_up (va_up (fun _ => none) 0 (some q3)) 1 (some q9))))))),
    (q2, .inl (κ 2, 4, .inr (.inr (.inr (.inr (va_up (va_up (fun _ => none) 0 (some q6)) 1 (some q12))))))),
    (q3, .inr (4, [.ref q4, .ref q5, .int (iI 0)])),
    (q4, .inl (κ 0, 852, .inl (fun _ => iI 0))),
    (q5, .inl (κ 0, 852, .inl (fun _ => iI 0))),
    (q6, .inr (4, [.ref q7, .ref q8, .int (iI 0)])),
    (q7, .inl (κ 0, 852, .inl (fun _ => iI 0))),
    (q8, .inl (κ 0, 852, .inl (fun _ => iI 0))),
    (q9, .inr (4, [.ref q10, .ref q11, .int (iI 0)])),
    (q10, .inl (κ 0, 852, .inl (fun _ => iI 0))),
    (q11, .inl (κ 0, 852, .inl (fun _ => iI 0))),
    (q12, .inr (4, [.ref q13, .ref q14, .int (iI 0)])),
    (q13, .inl (κ 0, 852, .inl (fun _ => iI 0))),
    (q14, .inl (κ 0, 852, .inl (fun _ => iI 0)))]) (List.Perm.refl _) (gdN wm_49) (fun U hU => hU.2.2.2.2.1) wm_47 wm_48 rfl (by decide +kernel) ⟨(Nat.le_of_ble_eq_true rfl), (Nat.le_of_ble_eq_true rfl)⟩ ⟨(Nat.le_of_ble_eq_true rfl), (Nat.le_of_ble_eq_true rfl)⟩ (Nat.le_of_ble_eq_true rfl) dX0_init_46 (fun v9 u9 hp9 => ?_)
  obtain ⟨rfl, q16, q17, rfl⟩ := hp9
  refine WW.equ (u' := ([(h0, .inr (0, [.int (iI 0), .int (iI 2), .ref q1, .ref q2])),
    (q1, .inl (κ 2, 4, .inr (.inr (.inr (.inr (va_up (va_up (fun _ => none) 0 (some q3)) 1 (some q9))))))),
    (q2, .inl (κ 2, 4, .inr (.inr (.inr (.inr (va_up (va_up (fun _ => none) 0 (some q6)) 1 (some q12))))))),
    (q3, .inr (4, [.ref q4, .ref q5, .int (iI 0)])),
    (q4, .inl (κ 0, 852, .inl (fun _ => iI 0))),
    (q5, .inl (κ 0, 852, .inl (fun _ => iI 0))),
    (q6, .inr (4, [.ref q7, .ref q8, .int (iI 0)])),
    (q7, .inl (κ 0, 852, .inl (fun _ => iI 0))),
    (q8, .inl (κ 0, 852, .inl (fun _ => iI 0))),
    (q9, .inr (4, [.ref q10, .ref q11, .int (iI 0)])),
    (q10, .inl (κ 0, 852, .inl (fun _ => iI 0))),
    (q11, .inl (κ 0, 852, .inl (fun _ => iI 0))),
    (q12, .inr (4, [.ref q13, .ref q14, .int (iI 0)])),
    (q13, .inl (κ 0, 852, .inl (fun _ => iI 0))),
    (q14, .inl (κ 0, 852, .inl (fun _ => iI 0))),
    (q15, .inr (4, [.ref q16, .ref q17, .int (iI 0)])),
    (q16, .inl (κ 0, 852, .inl (fun _ => iI 0))),
    (q17, .inl (κ 0, 852, .inl (fun _ => iI 0)))], 17, 8543)) rfl ?_
  refine w_aast h (pc := 49) 1 15 4 (t0 := 2) rfl rfl rfl rfl (by decide) (by decide) dX0_init_49 ?_
  refine w_aload_n h (pc := 50) dX0_init_50 rfl ?_
  refine w_get h (pc := 51) wi_X0 0 rfl rfl 3 (by decide) wm_45 rfl (v := .ref q2) rfl dX0_init_51 ?_
  refine w_iload_n h (pc := 54) dX0_init_54 rfl ?_
  refine w_new h (pc := 55) wi_X4 tyX4 tyX4_ok wm_43 wm_46 wm_47 (ci := 4) rfl (fs := [.null, .null, .int 0]) (fun j hj => by rcases (show j = 0 ∨ j = 1 ∨ j = 2 by omega) with rfl | rfl | rfl <;> rfl) (Nat.le_of_ble_eq_true rfl) (Nat.le_of_ble_eq_true rfl) dX0_init_55 (fun q18 => ?_)
  refine w_dup h (pc := 58) dX0_init_58 rfl ?_
  refine w_fIN0 h (pc := 59) (mX4_init l D κ ε q18) (wr := [(h0, .inr (0, [.int (iI 0), .int (iI 2), .ref q1, .ref q2])),
    (q1, .inl (κ 2, 4, .inr (.inr (.inr (.inr (va_up (va_up (va_up (fun _ => none) 0 (some q3)) 1 (some q9)) 2 (some q15))))))),
    (q2, .inl (κ 2, 4, .inr (.inr (.inr (.inr (va_up (va_up (fun _ => none) 0 (some q6)) 1 (some q12))))))),
    (q3, .inr (4, [.ref q4, .ref q5, .int (iI 0)])),
    (q4, .inl (κ 0, 852, .inl (fun _ => iI 0))),
    (q5, .inl (κ 0, 852, .inl (fun _ => iI 0))),
    (q6, .inr (4, [.ref q7, .ref q8, .int (iI 0)])),
    (q7, .inl (κ 0, 852, .inl (fun _ => iI 0))),
    (q8, .inl (κ 0, 852, .inl (fun _ => iI 0))),
    (q9, .inr (4, [.ref q10, .ref q11, .int (iI 0)])),
    (q10, .inl (κ 0, 852, .inl (fun _ => iI 0))),
    (q11, .inl (κ 0, 852, .inl (fun _ => iI 0))),
    (q12, .inr (4, [.ref q13, .ref q14, .int (iI 0)])),
    (q13, .inl (κ 0, 852, .inl (fun _ => iI 0))),
    (q14, .inl (κ 0, 852, .inl (fun _ => iI 0))),
    (q15, .inr (4, [.ref q16, .ref q17, .int (iI 0)])),
    (q16, .inl (κ 0, 852, .inl (fun _ => iI 0))),
    (q17, .inl (κ 0, 852, .inl (fun _ => iI 0)))]) (List.Perm.refl _) (gdN wm_49) (fun U hU => hU.2.2.2.2.1) wm_47 wm_48 rfl (by decide +kernel) ⟨(Nat.le_of_ble_eq_true rfl), (Nat.le_of_ble_eq_true rfl)⟩ ⟨(Nat.le_of_ble_eq_true rfl), (Nat.le_of_ble_eq_true rfl)⟩ (Nat.le_of_ble_eq_true rfl) dX0_init_59 (fun v9 u9 hp9 => ?_)
  obtain ⟨rfl, q19, q20, rfl⟩ := hp9
  refine WW.equ (u' := ([(h0, .inr (0, [.int (iI 0), .int (iI 2), .ref q1, .ref q2])),
    (q1, .inl (κ 2, 4, .inr (.inr (.inr (.inr (va_up (va_up (va_up (fun _ => none) 0 (some q3)) 1 (some q9)) 2 (some q15))))))),
    (q2, .inl (κ 2, 4, .inr (.inr (.inr (.inr (va_up (va_up (fun _ => none) 0 (some q6)) 1 (some q12))))))),
    (q3, .inr (4, [.ref q4, .ref q5, .int (iI 0)])),
    (q4, .inl (κ 0, 852, .inl (fun _ => iI 0))),
    (q5, .inl (κ 0, 852, .inl (fun _ => iI 0))),
    (q6, .inr (4, [.ref q7, .ref q8, .int (iI 0)])),
    (q7, .inl (κ 0, 852, .inl (fun _ => iI 0))),
    (q8, .inl (κ 0, 852, .inl (fun _ => iI 0))),
    (q9, .inr (4, [.ref q10, .ref q11, .int (iI 0)])),
    (q10, .inl (κ 0, 852, .inl (fun _ => iI 0))),
    (q11, .inl (κ 0, 852, .inl (fun _ => iI 0))),
    (q12, .inr (4, [.ref q13, .ref q14, .int (iI 0)])),
    (q13, .inl (κ 0, 852, .inl (fun _ => iI 0))),
    (q14, .inl (κ 0, 852, .inl (fun _ => iI 0))),
    (q15, .inr (4, [.ref q16, .ref q17, .int (iI 0)])),
    (q16, .inl (κ 0, 852, .inl (fun _ => iI 0))),
    (q17, .inl (κ 0, 852, .inl (fun _ => iI 0))),
    (q18, .inr (4, [.ref q19, .ref q20, .int (iI 0)])),
    (q19, .inl (κ 0, 852, .inl (fun _ => iI 0))),
    (q20, .inl (κ 0, 852, .inl (fun _ => iI 0)))], 20, 10250)) rfl ?_
  refine w_aast h (pc := 62) 2 18 4 (t0 := 2) rfl rfl rfl rfl (by decide) (by decide) dX0_init_62 ?_
  refine w_iinc h (pc := 63) dX0_init_63 rfl (by decide) ?_
  refine WW.sub (L' := [(1, .int (iI 3)), (0, .ref h0)]) (by rfl) ?_
  refine w_goto h (pc := 66) dX0_init_66 (tgt := 32) (by decide) ?_
  refine w_iload_n h (pc := 32) dX0_init_32 rfl ?_
  refine w_iconst h (pc := 33) dX0_init_33 ?_
  refine w_icmp_ge h (pc := 34) dX0_init_34 (tgt := 69) (by decide) (by decide) (by decide) (fun z => absurd z (by decide)) (fun _ => ?_)
  refine w_aload_n h (pc := 37) dX0_init_37 rfl ?_
  refine w_get h (pc := 38) wi_X0 0 rfl rfl 2 (by decide) wm_44 rfl (v := .ref q1) rfl dX0_init_38 ?_
  refine w_iload_n h (pc := 41) dX0_init_41 rfl ?_
  refine w_new h (pc := 42) wi_X4 tyX4 tyX4_ok wm_43 wm_46 wm_47 (ci := 4) rfl (fs := [.null, .null, .int 0]) (fun j hj => by rcases (show j = 0 ∨ j = 1 ∨ j = 2 by omega) with rfl | rfl | rfl <;> rfl) (Nat.le_of_ble_eq_true rfl) (Nat.le_of_ble_eq_true rfl) dX0_init_42 (fun q21 => ?_)
  refine w_dup h (pc := 45) dX0_init_45 rfl ?_
  refine w_fIN0 h (pc := 46) (mX4_init l D κ ε q21) (wr := [(h0, .inr (0, [.int (iI 0), .int (iI 2), .ref q1, .ref q2])),
    (q1, .inl (κ 2, 4, .inr (.inr (.inr (.inr (va_up (va_up (va_up (fun _ => none) 0 (some q3)) 1 (some q9)) 2 (some q15))))))),
    (q2, .inl (κ 2, 4, .inr (.inr (.inr (.inr (va_up (va_up (va_up (fun _ => none) 0 (some q6)) 1 (some q12)) 2 (some q18))))))),
    (q3, .inr (4, [.ref q4, .ref q5, .int (iI 0)])),
    (q4, .inl (κ 0, 852, .inl (fun _ => iI 0))),
    (q5, .inl (κ 0, 852, .inl (fun _ => iI 0))),
    (q6, .inr (4, [.ref q7, .ref q8, .int (iI 0)])),
    (q7, .inl (κ 0, 852, .inl (fun _ => iI 0))),
    (q8, .inl (κ 0, 852, .inl (fun _ => iI 0))),
    (q9, .inr (4, [.ref q10, .ref q11, .int (iI 0)])),
    (q10, .inl (κ 0, 852, .inl (fun _ => iI 0))),
    (q11, .inl (κ 0, 852, .inl (fun _ => iI 0))),
    (q12, .inr (4, [.ref q13, .ref q14, .int (iI 0)])),
    (q13, .inl (κ 0, 852, .inl (fun _ => iI 0))),
    (q14, .inl (κ 0, 852, .inl (fun _ => iI 0))),
    (q15, .inr (4, [.ref q16, .ref q17, .int (iI 0)])),
    (q16, .inl (κ 0, 852, .inl (fun _ => iI 0))),
    (q17, .inl (κ 0, 852, .inl (fun _ => iI 0))),
    (q18, .inr (4, [.ref q19, .ref q20, .int (iI 0)])),
    (q19, .inl (κ 0, 852, .inl (fun _ => iI 0))),
    (q20, .inl (κ 0, 852, .inl (fun _ => iI 0)))]) (List.Perm.refl _) (gdN wm_49) (fun U hU => hU.2.2.2.2.1) wm_47 wm_48 rfl (by decide +kernel) ⟨(Nat.le_of_ble_eq_true rfl), (Nat.le_of_ble_eq_true rfl)⟩ ⟨(Nat.le_of_ble_eq_true rfl), (Nat.le_of_ble_eq_true rfl)⟩ (Nat.le_of_ble_eq_true rfl) dX0_init_46 (fun v9 u9 hp9 => ?_)
  obtain ⟨rfl, q22, q23, rfl⟩ := hp9
  refine WW.equ (u' := ([(h0, .inr (0, [.int (iI 0), .int (iI 2), .ref q1, .ref q2])),
    (q1, .inl (κ 2, 4, .inr (.inr (.inr (.inr (va_up (va_up (va_up (fun _ => none) 0 (some q3)) 1 (some q9)) 2 (some q15))))))),
    (q2, .inl (κ 2, 4, .inr (.inr (.inr (.inr (va_up (va_up (va_up (fun _ => none) 0 (some q6)) 1 (some q12)) 2 (some q18))))))),
    (q3, .inr (4, [.ref q4, .ref q5, .int (iI 0)])),
    (q4, .inl (κ 0, 852, .inl (fun _ => iI 0))),
    (q5, .inl (κ 0, 852, .inl (fun _ => iI 0))),
    (q6, .inr (4, [.ref q7, .ref q8, .int (iI 0)])),
    (q7, .inl (κ 0, 852, .inl (fun _ => iI 0))),
    (q8, .inl (κ 0, 852, .inl (fun _ => iI 0))),
    (q9, .inr (4, [.ref q10, .ref q11, .int (iI 0)])),
    (q10, .inl (κ 0, 852, .inl (fun _ => iI 0))),
    (q11, .inl (κ 0, 852, .inl (fun _ => iI 0))),
    (q12, .inr (4, [.ref q13, .ref q14, .int (iI 0)])),
    (q13, .inl (κ 0, 852, .inl (fun _ => iI 0))),
    (q14, .inl (κ 0, 852, .inl (fun _ => iI 0))),
    (q15, .inr (4, [.ref q16, .ref q17, .int (iI 0)])),
    (q16, .inl (κ 0, 852, .inl (fun _ => iI 0))),
    (q17, .inl (κ 0, 852, .inl (fun _ => iI 0))),
    (q18, .inr (4, [.ref q19, .ref q20, .int (iI 0)])),
    (q19, .inl (κ 0, 852, .inl (fun _ => iI 0))),
    (q20, .inl (κ 0, 852, .inl (fun _ => iI 0))),
    (q21, .inr (4, [.ref q22, .ref q23, .int (iI 0)])),
    (q22, .inl (κ 0, 852, .inl (fun _ => iI 0))),
    (q23, .inl (κ 0, 852, .inl (fun _ => iI 0)))], 23, 11957)) rfl ?_
  refine w_aast h (pc := 49) 1 21 4 (t0 := 2) rfl rfl rfl rfl (by decide) (by decide) dX0_init_49 ?_
  refine w_aload_n h (pc := 50) dX0_init_50 rfl ?_
  refine w_get h (pc := 51) wi_X0 0 rfl rfl 3 (by decide) wm_45 rfl (v := .ref q2) rfl dX0_init_51 ?_
  refine w_iload_n h (pc := 54) dX0_init_54 rfl ?_
  refine w_new h (pc := 55) wi_X4 tyX4 tyX4_ok wm_43 wm_46 wm_47 (ci := 4) rfl (fs := [.null, .null, .int 0]) (fun j hj => by rcases (show j = 0 ∨ j = 1 ∨ j = 2 by omega) with rfl | rfl | rfl <;> rfl) (Nat.le_of_ble_eq_true rfl) (Nat.le_of_ble_eq_true rfl) dX0_init_55 (fun q24 => ?_)
  refine w_dup h (pc := 58) dX0_init_58 rfl ?_
  refine w_fIN0 h (pc := 59) (mX4_init l D κ ε q24) (wr := [(h0, .inr (0, [.int (iI 0), .int (iI 2), .ref q1, .ref q2])),
    (q1, .inl (κ 2, 4, .inr (.inr (.inr (.inr (va_up (va_up (va_up (va_up (fun _ => none) 0 (some q3)) 1 (some q9)) 2 (some q15)) 3 (some q21))))))),
    (q2, .inl (κ 2, 4, .inr (.inr (.inr (.inr (va_up (va_up (va_up (fun _ => none) 0 (some q6)) 1 (some q12)) 2 (some q18))))))),
    (q3, .inr (4, [.ref q4, .ref q5, .int (iI 0)])),
    (q4, .inl (κ 0, 852, .inl (fun _ => iI 0))),
    (q5, .inl (κ 0, 852, .inl (fun _ => iI 0))),
    (q6, .inr (4, [.ref q7, .ref q8, .int (iI 0)])),
    (q7, .inl (κ 0, 852, .inl (fun _ => iI 0))),
    (q8, .inl (κ 0, 852, .inl (fun _ => iI 0))),
    (q9, .inr (4, [.ref q10, .ref q11, .int (iI 0)])),
    (q10, .inl (κ 0, 852, .inl (fun _ => iI 0))),
    (q11, .inl (κ 0, 852, .inl (fun _ => iI 0))),
    (q12, .inr (4, [.ref q13, .ref q14, .int (iI 0)])),
    (q13, .inl (κ 0, 852, .inl (fun _ => iI 0))),
    (q14, .inl (κ 0, 852, .inl (fun _ => iI 0))),
    (q15, .inr (4, [.ref q16, .ref q17, .int (iI 0)])),
    (q16, .inl (κ 0, 852, .inl (fun _ => iI 0))),
    (q17, .inl (κ 0, 852, .inl (fun _ => iI 0))),
    (q18, .inr (4, [.ref q19, .ref q20, .int (iI 0)])),
    (q19, .inl (κ 0, 852, .inl (fun _ => iI 0))),
    (q20, .inl (κ 0, 852, .inl (fun _ => iI 0))),
    (q21, .inr (4, [.ref q22, .ref q23, .int (iI 0)])),
    (q22, .inl (κ 0, 852, .inl (fun _ => iI 0))),
    (q23, .inl (κ 0, 852, .inl (fun _ => iI 0)))]) (List.Perm.refl _) (gdN wm_49) (fun U hU => hU.2.2.2.2.1) wm_47 wm_48 rfl (by decide +kernel) ⟨(Nat.le_of_ble_eq_true rfl), (Nat.le_of_ble_eq_true rfl)⟩ ⟨(Nat.le_of_ble_eq_true rfl), (Nat.le_of_ble_eq_true rfl)⟩ (Nat.le_of_ble_eq_true rfl) dX0_init_59 (fun v9 u9 hp9 => ?_)
  obtain ⟨rfl, q25, q26, rfl⟩ := hp9
  refine WW.equ (u' := ([(h0, .inr (0, [.int (iI 0), .int (iI 2), .ref q1, .ref q2])),
    (q1, .inl (κ 2, 4, .inr (.inr (.inr (.inr (va_up (va_up (va_up (va_up (fun _ => none) 0 (some q3)) 1 (some q9)) 2 (some q15)) 3 (some q21))))))),
    (q2, .inl (κ 2, 4, .inr (.inr (.inr (.inr (va_up (va_up (va_up (fun _ => none) 0 (some q6)) 1 (some q12)) 2 (some q18))))))),
    (q3, .inr (4, [.ref q4, .ref q5, .int (iI 0)])),
    (q4, .inl (κ 0, 852, .inl (fun _ => iI 0))),
    (q5, .inl (κ 0, 852, .inl (fun _ => iI 0))),
    (q6, .inr (4, [.ref q7, .ref q8, .int (iI 0)])),
    (q7, .inl (κ 0, 852, .inl (fun _ => iI 0))),
    (q8, .inl (κ 0, 852, .inl (fun _ => iI 0))),
    (q9, .inr (4, [.ref q10, .ref q11, .int (iI 0)])),
    (q10, .inl (κ 0, 852, .inl (fun _ => iI 0))),
    (q11, .inl (κ 0, 852, .inl (fun _ => iI 0))),
    (q12, .inr (4, [.ref q13, .ref q14, .int (iI 0)])),
    (q13, .inl (κ 0, 852, .inl (fun _ => iI 0))),
    (q14, .inl (κ 0, 852, .inl (fun _ => iI 0))),
    (q15, .inr (4, [.ref q16, .ref q17, .int (iI 0)])),
    (q16, .inl (κ 0, 852, .inl (fun _ => iI 0))),
    (q17, .inl (κ 0, 852, .inl (fun _ => iI 0))),
    (q18, .inr (4, [.ref q19, .ref q20, .int (iI 0)])),
    (q19, .inl (κ 0, 852, .inl (fun _ => iI 0))),
    (q20, .inl (κ 0, 852, .inl (fun _ => iI 0))),
    (q21, .inr (4, [.ref q22, .ref q23, .int (iI 0)])),
    (q22, .inl (κ 0, 852, .inl (fun _ => iI 0))),
    (q23, .inl (κ 0, 852, .inl (fun _ => iI 0))),
    (q24, .inr (4, [.ref q25, .ref q26, .int (iI 0)])),
    (q25, .inl (κ 0, 852, .inl (fun _ => iI 0))),
    (q26, .inl (κ 0, 852, .inl (fun _ => iI 0)))], 26, 13664)) rfl ?_
  refine w_aast h (pc := 62) 2 24 4 (t0 := 2) rfl rfl rfl rfl (by decide) (by decide) dX0_init_62 ?_
  refine w_iinc h (pc := 63) dX0_init_63 rfl (by decide) ?_
  refine WW.sub (L' := [(1, .int (iI 4)), (0, .ref h0)]) (by rfl) ?_
  refine w_goto h (pc := 66) dX0_init_66 (tgt := 32) (by decide) ?_
  refine w_iload_n h (pc := 32) dX0_init_32 rfl ?_
  refine w_iconst h (pc := 33) dX0_init_33 ?_
  refine w_icmp_ge h (pc := 34) dX0_init_34 (tgt := 69) (by decide) (by decide) (by decide) (fun _ => ?_) (fun z => absurd z (by decide))
  exact w_vret h rfl dX0_init_69 (Nat.le_of_ble_eq_true rfl) (Nat.le_of_ble_eq_true rfl) ⟨rfl, q1, q2, q3, q4, q5, q6, q7, q8, q9, q10, q11, q12, q13, q14, q15, q16, q17, q18, q19, q20, q21, q22, q23, q24, q25, q26, rfl⟩

set_option maxRecDepth 100000 in
set_option maxHeartbeats 4000000 in
theorem mX1_init (l : Launch) (D : va_G) (κ : Nat → Nat) (ε : EE) (h0 b1 : Nat) : Ct Wd l D κ ε yX1_init cX1_init 2 none 1 13 2 26 ([(h0, .inr (1, [.null, .int 0, .int 0, .null, .null, .long 0, .int 0]))], 0, 0) [.ref h0, .ref b1] (fun v u' => v = none ∧ ∃ (q1 : Nat) (q2 : Nat), u' = ([(h0, .inr (1, [.ref b1, .int (iI 0), .int (iI 500), .ref q1, .ref q2, .long (lI 0), .int (iI 0)])),
    (q1, .inl (κ 0, 13, .inl (fun _ => iI 0))),
    (q2, .inl (κ 0, 13, .inl (fun _ => iI 0)))], 2, 26)) := by
  refine Ct.ofN (own := RX1) rfl (by decide +kernel) (Nat.le_of_ble_eq_true rfl) rfl (fun Γ hn => ?_)
  have h := hn.cx
  refine WW.sub (L' := [(0, .ref h0), (1, .ref b1)]) (by rfl) ?_
  refine w_aload_n h (pc := 0) dX1_init_0 rfl ?_
  refine w_objInit h (pc := 1) wm_57 wm_11 wm_12 (Nat.le_of_ble_eq_true rfl) (Nat.le_of_ble_eq_true rfl) dX1_init_1 ?_
  refine w_aload_n h (pc := 4) dX1_init_4 rfl ?_
  refine w_iconst h (pc := 5) dX1_init_5 ?_
  refine w_putD h (pc := 6) wi_X1 tyX1 tyX1_ok nmX1 0 rfl rfl 1 (by decide) wm_58 rfl rfl (ty := tyX1 1) (by decide +kernel) rfl rfl (Nat.le_of_ble_eq_true rfl) dX1_init_6 ?_
  refine w_aload_n h (pc := 9) dX1_init_9 rfl ?_
  refine w_sipush h (pc := 10) dX1_init_10 (by decide) ?_
  refine w_putD h (pc := 13) wi_X1 tyX1 tyX1_ok nmX1 0 rfl rfl 2 (by decide) wm_59 rfl rfl (ty := tyX1 2) (by decide +kernel) rfl rfl (Nat.le_of_ble_eq_true rfl) dX1_init_13 ?_
  refine w_aload_n h (pc := 16) dX1_init_16 rfl ?_
  refine w_bipush h (pc := 17) dX1_init_17 (by decide) ?_
  refine w_newa h (pc := 19) (ty := .int) rfl wm_31 (t0 := 0) rfl (N' := 13) rfl (by decide) (a0 := (13, .inl (fun _ => iI 0))) (fun _ => rfl) (by decide) (Nat.le_of_ble_eq_true rfl) (Nat.le_of_ble_eq_true rfl) dX1_init_19 (fun q1 => ?_)
  refine w_putF hn (pc := 21) wi_X1 tyX1 tyX1_ok nmX1 0 rfl rfl 3 (by decide) wm_60 rfl rfl rfl (ty := tyX1 3) (by decide +kernel) rfl rfl (Nat.le_of_ble_eq_true rfl) dX1_init_21 ?_
  refine w_aload_n h (pc := 24) dX1_init_24 rfl ?_
  refine w_bipush h (pc := 25) dX1_init_25 (by decide) ?_
  refine w_newa h (pc := 27) (ty := .int) rfl wm_31 (t0 := 0) rfl (N' := 13) rfl (by decide) (a0 := (13, .inl (fun _ => iI 0))) (fun _ => rfl) (by decide) (Nat.le_of_ble_eq_true rfl) (Nat.le_of_ble_eq_true rfl) dX1_init_27 (fun q2 => ?_)
  refine w_putF hn (pc := 29) wi_X1 tyX1 tyX1_ok nmX1 0 rfl rfl 4 (by decide) wm_61 rfl rfl rfl (ty := tyX1 4) (by decide +kernel) rfl rfl (Nat.le_of_ble_eq_true rfl) dX1_init_29 ?_
  refine w_aload_n h (pc := 32) dX1_init_32 rfl ?_
  refine w_lconst h (pc := 33) dX1_init_33 (z := 0) rfl ?_
  refine w_putD h (pc := 34) wi_X1 tyX1 tyX1_ok nmX1 0 rfl rfl 5 (by decide) wm_62 rfl rfl (ty := tyX1 5) (by decide +kernel) rfl rfl (Nat.le_of_ble_eq_true rfl) dX1_init_34 ?_
  refine w_aload_n h (pc := 37) dX1_init_37 rfl ?_
  refine w_iconst h (pc := 38) dX1_init_38 ?_
  refine w_putD h (pc := 39) wi_X1 tyX1 tyX1_ok nmX1 0 rfl rfl 6 (by decide) wm_63 rfl rfl (ty := tyX1 6) (by decide +kernel) rfl rfl (Nat.le_of_ble_eq_true rfl) dX1_init_39 ?_
  refine w_aload_n h (pc := 42) dX1_init_42 rfl ?_
  refine w_aload_n h (pc := 43) dX1_init_43 rfl ?_
  refine w_putF hn (pc := 44) wi_X1 tyX1 tyX1_ok nmX1 0 rfl rfl 0 (by decide) wm_64 rfl rfl rfl (ty := tyX1 0) (by decide +kernel) rfl rfl (Nat.le_of_ble_eq_true rfl) dX1_init_44 ?_
  exact w_vret h rfl dX1_init_47 (Nat.le_of_ble_eq_true rfl) (Nat.le_of_ble_eq_true rfl) ⟨rfl, q1, q2, rfl⟩

set_option maxRecDepth 100000 in
set_option maxHeartbeats 4000000 in
theorem mX2_init (l : Launch) (D : va_G) (κ : Nat → Nat) (ε : EE) (h0 : Nat) : Ct Wd l D κ ε yX2_init cX2_init 1 none 1 13 3 36 ([(h0, .inr (2, [.null, .null, .null, .int 0]))], 0, 0) [.ref h0] (fun v u' => v = none ∧ ∃ (q1 : Nat) (q2 : Nat) (q3 : Nat), u' = ([(h0, .inr (2, [.ref q1, .ref q2, .ref q3, .int (iI 0)])),
    (q1, .inl (κ 0, 12, .inl (fun _ => iI 0))),
    (q2, .inl (κ 0, 12, .inl (fun _ => iI 0))),
    (q3, .inl (κ 0, 12, .inl (fun _ => iI 0)))], 3, 36)) := by
  refine Ct.ofN (own := RX2) rfl (by decide +kernel) (Nat.le_of_ble_eq_true rfl) rfl (fun Γ hn => ?_)
  have h := hn.cx
  refine WW.sub (L' := [(0, .ref h0)]) (by rfl) ?_
  refine w_aload_n h (pc := 0) dX2_init_0 rfl ?_
  refine w_objInit h (pc := 1) wm_78 wm_11 wm_12 (Nat.le_of_ble_eq_true rfl) (Nat.le_of_ble_eq_true rfl) dX2_init_1 ?_
  refine w_aload_n h (pc := 4) dX2_init_4 rfl ?_
  refine w_bipush h (pc := 5) dX2_init_5 (by decide) ?_
  refine w_newa h (pc := 7) (ty := .int) rfl wm_31 (t0 := 0) rfl (N' := 12) rfl (by decide) (a0 := (12, .inl (fun _ => iI 0))) (fun _ => rfl) (by decide) (Nat.le_of_ble_eq_true rfl) (Nat.le_of_ble_eq_true rfl) dX2_init_7 (fun q1 => ?_)
  refine w_putF hn (pc := 9) wi_X2 tyX2 tyX2_ok nmX2 0 rfl rfl 0 (by decide) wm_79 rfl rfl rfl (ty := tyX2 0) (by decide +kernel) rfl rfl (Nat.le_of_ble_eq_true rfl) dX2_init_9 ?_
  refine w_aload_n h (pc := 12) dX2_init_12 rfl ?_
  refine w_bipush h (pc := 13) dX2_init_13 (by decide) ?_
  refine w_newa h (pc := 15) (ty := .int) rfl wm_31 (t0 := 0) rfl (N' := 12) rfl (by decide) (a0 := (12, .inl (fun _ => iI 0))) (fun _ => rfl) (by decide) (Nat.le_of_ble_eq_true rfl) (Nat.le_of_ble_eq_true rfl) dX2_init_15 (fun q2 => ?_)
  refine w_putF hn (pc := 17) wi_X2 tyX2 tyX2_ok nmX2 0 rfl rfl 1 (by decide) wm_80 rfl rfl rfl (ty := tyX2 1) (by decide +kernel) rfl rfl (Nat.le_of_ble_eq_true rfl) dX2_init_17 ?_
  refine w_aload_n h (pc := 20) dX2_init_20 rfl ?_
  refine w_bipush h (pc := 21) dX2_init_21 (by decide) ?_
  refine w_newa h (pc := 23) (ty := .int) rfl wm_31 (t0 := 0) rfl (N' := 12) rfl (by decide) (a0 := (12, .inl (fun _ => iI 0))) (fun _ => rfl) (by decide) (Nat.le_of_ble_eq_true rfl) (Nat.le_of_ble_eq_true rfl) dX2_init_23 (fun q3 => ?_)
  refine w_putF hn (pc := 25) wi_X2 tyX2 tyX2_ok nmX2 0 rfl rfl 2 (by decide) wm_81 rfl rfl rfl (ty := tyX2 2) (by decide +kernel) rfl rfl (Nat.le_of_ble_eq_true rfl) dX2_init_25 ?_
  refine w_aload_n h (pc := 28) dX2_init_28 rfl ?_
  refine w_iconst h (pc := 29) dX2_init_29 ?_
  refine w_putD h (pc := 30) wi_X2 tyX2 tyX2_ok nmX2 0 rfl rfl 3 (by decide) wm_82 rfl rfl (ty := tyX2 3) (by decide +kernel) rfl rfl (Nat.le_of_ble_eq_true rfl) dX2_init_30 ?_
  exact w_vret h rfl dX2_init_33 (Nat.le_of_ble_eq_true rfl) (Nat.le_of_ble_eq_true rfl) ⟨rfl, q1, q2, q3, rfl⟩

set_option maxRecDepth 100000 in
set_option maxHeartbeats 4000000 in
theorem mX3_init (l : Launch) (D : va_G) (κ : Nat → Nat) (ε : EE) (h0 b1 b2 : Nat) : Ct Wd l D κ ε yX3_init cX3_init 3 none 1 13 16 46668 ([(h0, .inr (3, [.null, .null, .null, .null, .null, .null]))], 0, 0) [.ref h0, .ref b1, .ref b2] (fun v u' => v = none ∧ ∃ (q1 : Nat) (q2 : Nat) (r2 : Nat → Nat) (q3 : Nat) (q4 : Nat), u' = ([(h0, .inr (3, [.ref b1, .ref b2, .ref q1, .ref q2, .ref q3, .ref q4])),
    (q1, .inl (κ 0, 22464, .inl (fun _ => iI 0))),
    (q2, .inl (κ 3, 12, .inr (.inr (.inr (.inr (fun i => if i < 12 then some (r2 i) else none)))))),
    ((r2 0), .inl (κ 0, 1728, .inl (fun _ => iI 0))),
    ((r2 1), .inl (κ 0, 1728, .inl (fun _ => iI 0))),
    ((r2 2), .inl (κ 0, 1728, .inl (fun _ => iI 0))),
    ((r2 3), .inl (κ 0, 1728, .inl (fun _ => iI 0))),
    ((r2 4), .inl (κ 0, 1728, .inl (fun _ => iI 0))),
    ((r2 5), .inl (κ 0, 1728, .inl (fun _ => iI 0))),
    ((r2 6), .inl (κ 0, 1728, .inl (fun _ => iI 0))),
    ((r2 7), .inl (κ 0, 1728, .inl (fun _ => iI 0))),
    ((r2 8), .inl (κ 0, 1728, .inl (fun _ => iI 0))),
    ((r2 9), .inl (κ 0, 1728, .inl (fun _ => iI 0))),
    ((r2 10), .inl (κ 0, 1728, .inl (fun _ => iI 0))),
    ((r2 11), .inl (κ 0, 1728, .inl (fun _ => iI 0))),
    (q3, .inl (κ 0, 1728, .inl (fun _ => iI 0))),
    (q4, .inl (κ 0, 1728, .inl (fun _ => iI 0)))], 16, 46668)) := by
  refine Ct.ofN (own := RX3) rfl (by decide +kernel) (Nat.le_of_ble_eq_true rfl) rfl (fun Γ hn => ?_)
  have h := hn.cx
  refine WW.sub (L' := [(0, .ref h0), (1, .ref b1), (2, .ref b2)]) (by rfl) ?_
  refine w_aload_n h (pc := 0) dX3_init_0 rfl ?_
  refine w_objInit h (pc := 1) wm_68 wm_11 wm_12 (Nat.le_of_ble_eq_true rfl) (Nat.le_of_ble_eq_true rfl) dX3_init_1 ?_
  refine w_aload_n h (pc := 4) dX3_init_4 rfl ?_
  refine w_sipush h (pc := 5) dX3_init_5 (by decide) ?_
  refine w_newa h (pc := 8) (ty := .int) rfl wm_31 (t0 := 0) rfl (N' := 22464) rfl (by decide) (a0 := (22464, .inl (fun _ => iI 0))) (fun _ => rfl) (by decide) (Nat.le_of_ble_eq_true rfl) (Nat.le_of_ble_eq_true rfl) dX3_init_8 (fun q1 => ?_)
  refine w_putF hn (pc := 10) wi_X3 tyX3 tyX3_ok nmX3 0 rfl rfl 2 (by decide) wm_69 rfl rfl rfl (ty := tyX3 2) (by decide +kernel) rfl rfl (Nat.le_of_ble_eq_true rfl) dX3_init_10 ?_
  refine w_aload_n h (pc := 13) dX3_init_13 rfl ?_
  refine w_bipush h (pc := 14) dX3_init_14 (by decide) ?_
  refine w_sipush h (pc := 16) dX3_init_16 (by decide) ?_
  refine w_mna h (pc := 19) wm_70 wm_31 (N' := 12) (K' := 1728) (by decide) (by decide) (Nat.le_of_ble_eq_true rfl) (Nat.le_of_ble_eq_true rfl) dX3_init_19 (fun q2 r2 => ?_)
  refine WW.equ (u' := ([(h0, .inr (3, [.null, .null, .ref q1, .null, .null, .null])),
    (q1, .inl (κ 0, 22464, .inl (fun _ => iI 0))),
    (q2, .inl (κ 3, 12, .inr (.inr (.inr (.inr (fun i => if i < 12 then some (r2 i) else none)))))),
    ((r2 0), .inl (κ 0, 1728, .inl (fun _ => iI 0))),
    ((r2 1), .inl (κ 0, 1728, .inl (fun _ => iI 0))),
    ((r2 2), .inl (κ 0, 1728, .inl (fun _ => iI 0))),
    ((r2 3), .inl (κ 0, 1728, .inl (fun _ => iI 0))),
    ((r2 4), .inl (κ 0, 1728, .inl (fun _ => iI 0))),
    ((r2 5), .inl (κ 0, 1728, .inl (fun _ => iI 0))),
    ((r2 6), .inl (κ 0, 1728, .inl (fun _ => iI 0))),
    ((r2 7), .inl (κ 0, 1728, .inl (fun _ => iI 0))),
    ((r2 8), .inl (κ 0, 1728, .inl (fun _ => iI 0))),
    ((r2 9), .inl (κ 0, 1728, .inl (fun _ => iI 0))),
    ((r2 10), .inl (κ 0, 1728, .inl (fun _ => iI 0))),
    ((r2 11), .inl (κ 0, 1728, .inl (fun _ => iI 0)))], 14, 43212)) rfl ?_
  refine w_putF hn (pc := 23) wi_X3 tyX3 tyX3_ok nmX3 0 rfl rfl 3 (by decide) wm_71 rfl rfl rfl (ty := tyX3 3) (by decide +kernel) rfl rfl (Nat.le_of_ble_eq_true rfl) dX3_init_23 ?_
  refine w_aload_n h (pc := 26) dX3_init_26 rfl ?_
  refine w_sipush h (pc := 27) dX3_init_27 (by decide) ?_
  refine w_newa h (pc := 30) (ty := .int) rfl wm_31 (t0 := 0) rfl (N' := 1728) rfl (by decide) (a0 := (1728, .inl (fun _ => iI 0))) (fun _ => rfl) (by decide) (Nat.le_of_ble_eq_true rfl) (Nat.le_of_ble_eq_true rfl) dX3_init_30 (fun q3 => ?_)
  refine w_putD h (pc := 32) wi_X3 tyX3 tyX3_ok nmX3 0 rfl rfl 4 (by decide) wm_72 rfl rfl (ty := tyX3 4) (by decide +kernel) rfl rfl (Nat.le_of_ble_eq_true rfl) dX3_init_32 ?_
  refine w_aload_n h (pc := 35) dX3_init_35 rfl ?_
  refine w_sipush h (pc := 36) dX3_init_36 (by decide) ?_
  refine w_newa h (pc := 39) (ty := .int) rfl wm_31 (t0 := 0) rfl (N' := 1728) rfl (by decide) (a0 := (1728, .inl (fun _ => iI 0))) (fun _ => rfl) (by decide) (Nat.le_of_ble_eq_true rfl) (Nat.le_of_ble_eq_true rfl) dX3_init_39 (fun q4 => ?_)
  refine w_putD h (pc := 41) wi_X3 tyX3 tyX3_ok nmX3 0 rfl rfl 5 (by decide) wm_73 rfl rfl (ty := tyX3 5) (by decide +kernel) rfl rfl (Nat.le_of_ble_eq_true rfl) dX3_init_41 ?_
  refine w_aload_n h (pc := 44) dX3_init_44 rfl ?_
  refine w_aload_n h (pc := 45) dX3_init_45 rfl ?_
  refine w_putF hn (pc := 46) wi_X3 tyX3 tyX3_ok nmX3 0 rfl rfl 0 (by decide) wm_74 rfl rfl rfl (ty := tyX3 0) (by decide +kernel) rfl rfl (Nat.le_of_ble_eq_true rfl) dX3_init_46 ?_
  refine w_aload_n h (pc := 49) dX3_init_49 rfl ?_
  refine w_aload_n h (pc := 50) dX3_init_50 rfl ?_
  refine w_putF hn (pc := 51) wi_X3 tyX3 tyX3_ok nmX3 0 rfl rfl 1 (by decide) wm_75 rfl rfl rfl (ty := tyX3 1) (by decide +kernel) rfl rfl (Nat.le_of_ble_eq_true rfl) dX3_init_51 ?_
  exact w_vret h rfl dX3_init_54 (Nat.le_of_ble_eq_true rfl) (Nat.le_of_ble_eq_true rfl) ⟨rfl, q1, q2, r2, q3, q4, rfl⟩
