theorem dX5_init_0 : decode cX5_init 0 = .ok (.aload_n 0, 1) := by decide +kernel
theorem dX5_init_1 : decode cX5_init 1 = .ok (.invokespecial 1, 3) := by decide +kernel
theorem dX5_init_4 : decode cX5_init 4 = .ok (.aload_n 0, 1) := by decide +kernel
theorem dX5_init_5 : decode cX5_init 5 = .ok (.new 7, 3) := by decide +kernel
theorem dX5_init_8 : decode cX5_init 8 = .ok (.dup, 1) := by decide +kernel
theorem dX5_init_9 : decode cX5_init 9 = .ok (.invokespecial 9, 3) := by decide +kernel
theorem dX5_init_12 : decode cX5_init 12 = .ok (.putfield 10, 3) := by decide +kernel
theorem dX5_init_15 : decode cX5_init 15 = .ok (.aload_n 0, 1) := by decide +kernel
theorem dX5_init_16 : decode cX5_init 16 = .ok (.new 16, 3) := by decide +kernel
theorem dX5_init_19 : decode cX5_init 19 = .ok (.dup, 1) := by decide +kernel
theorem dX5_init_20 : decode cX5_init 20 = .ok (.aload_n 0, 1) := by decide +kernel
theorem dX5_init_21 : decode cX5_init 21 = .ok (.getfield 10, 3) := by decide +kernel
theorem dX5_init_24 : decode cX5_init 24 = .ok (.invokespecial 18, 3) := by decide +kernel
theorem dX5_init_27 : decode cX5_init 27 = .ok (.putfield 21, 3) := by decide +kernel
theorem dX5_init_30 : decode cX5_init 30 = .ok (.aload_n 0, 1) := by decide +kernel
theorem dX5_init_31 : decode cX5_init 31 = .ok (.new 25, 3) := by decide +kernel
theorem dX5_init_34 : decode cX5_init 34 = .ok (.dup, 1) := by decide +kernel
theorem dX5_init_35 : decode cX5_init 35 = .ok (.aload_n 0, 1) := by decide +kernel
theorem dX5_init_36 : decode cX5_init 36 = .ok (.getfield 10, 3) := by decide +kernel
theorem dX5_init_39 : decode cX5_init 39 = .ok (.aload_n 0, 1) := by decide +kernel
theorem dX5_init_40 : decode cX5_init 40 = .ok (.getfield 21, 3) := by decide +kernel
theorem dX5_init_43 : decode cX5_init 43 = .ok (.invokespecial 27, 3) := by decide +kernel
theorem dX5_init_46 : decode cX5_init 46 = .ok (.putfield 30, 3) := by decide +kernel
theorem dX5_init_49 : decode cX5_init 49 = .ok (.aload_n 0, 1) := by decide +kernel
theorem dX5_init_50 : decode cX5_init 50 = .ok (.new 34, 3) := by decide +kernel
theorem dX5_init_53 : decode cX5_init 53 = .ok (.dup, 1) := by decide +kernel
theorem dX5_init_54 : decode cX5_init 54 = .ok (.invokespecial 36, 3) := by decide +kernel
theorem dX5_init_57 : decode cX5_init 57 = .ok (.putfield 37, 3) := by decide +kernel
theorem dX5_init_60 : decode cX5_init 60 = .ok (.aload_n 0, 1) := by decide +kernel
theorem dX5_init_61 : decode cX5_init 61 = .ok (.sipush 852, 3) := by decide +kernel
theorem dX5_init_64 : decode cX5_init 64 = .ok (.newarray .boolean, 2) := by decide +kernel
theorem dX5_init_66 : decode cX5_init 66 = .ok (.putfield 43, 3) := by decide +kernel
theorem dX5_init_69 : decode cX5_init 69 = .ok (.aload_n 0, 1) := by decide +kernel
theorem dX5_init_70 : decode cX5_init 70 = .ok (.bipush 12, 2) := by decide +kernel
theorem dX5_init_72 : decode cX5_init 72 = .ok (.newarray .int, 2) := by decide +kernel
theorem dX5_init_74 : decode cX5_init 74 = .ok (.putfield 47, 3) := by decide +kernel
theorem dX5_init_77 : decode cX5_init 77 = .ok (.aload_n 0, 1) := by decide +kernel
theorem dX5_init_78 : decode cX5_init 78 = .ok (.iconst 0, 1) := by decide +kernel
theorem dX5_init_79 : decode cX5_init 79 = .ok (.putfield 51, 3) := by decide +kernel
theorem dX5_init_82 : decode cX5_init 82 = .ok (.aload_n 0, 1) := by decide +kernel
theorem dX5_init_83 : decode cX5_init 83 = .ok (.iconst 0, 1) := by decide +kernel
theorem dX5_init_84 : decode cX5_init 84 = .ok (.putfield 55, 3) := by decide +kernel
theorem dX5_init_87 : decode cX5_init 87 = .ok (.aload_n 0, 1) := by decide +kernel
theorem dX5_init_88 : decode cX5_init 88 = .ok (.iconst 0, 1) := by decide +kernel
theorem dX5_init_89 : decode cX5_init 89 = .ok (.putfield 58, 3) := by decide +kernel
theorem dX5_init_92 : decode cX5_init 92 = .ok (.aload_n 0, 1) := by decide +kernel
theorem dX5_init_93 : decode cX5_init 93 = .ok (.iconst 0, 1) := by decide +kernel
theorem dX5_init_94 : decode cX5_init 94 = .ok (.putfield 61, 3) := by decide +kernel
theorem dX5_init_97 : decode cX5_init 97 = .ok (.return_, 1) := by decide +kernel
/-- the numbers of a fresh Canticle -/
def U00 : US := (fun k => if k = 5 then 2 else if k = 7 then 500 else if k = 20 then 1 else 0, fun _ _ => 0)
def adr (L : List Nat) : Nat → Nat := fun i => L.getD i 0
set_option maxRecDepth 100000 in
set_option maxHeartbeats 4000000 in
theorem mX5_init (l : Launch) (D : va_G) (κ : Nat → Nat) (ε : EE) (h0 : Nat) : Ct Wd l D κ ε yX5_init cX5_init 1 none 3 54 53 61279 ([(h0, .inr (5, [.null, .null, .null, .null, .null, .null, .int 0, .int 0, .int 0, .int 0]))], 0, 0) [.ref h0] (fun v u' => v = none ∧ ∃ a : Nat → Nat, a 0 = h0 ∧ u' = (WS κ a U00, 53, 61279)) := by
  refine Ct.ofN (own := RX5) rfl (by decide +kernel) (Nat.le_of_ble_eq_true rfl) rfl (fun Γ hn => ?_)
  have h := hn.cx
  refine WW.sub (L' := [(0, .ref h0)]) (by rfl) ?_
  refine w_aload_n h (pc := 0) dX5_init_0 rfl ?_
  refine w_objInit h (pc := 1) wm_10 wm_11 wm_12 (Nat.le_of_ble_eq_true rfl) (Nat.le_of_ble_eq_true rfl) dX5_init_1 ?_
  refine w_aload_n h (pc := 4) dX5_init_4 rfl ?_
  refine w_new h (pc := 5) wi_X0 tyX0 tyX0_ok wm_13 wm_14 wm_15 (ci := 0) rfl (fs := [.int 0, .int 0, .null, .null]) (fun j hj => by rcases (show j = 0 ∨ j = 1 ∨ j = 2 ∨ j = 3 by omega) with rfl | rfl | rfl | rfl <;> rfl) (Nat.le_of_ble_eq_true rfl) (Nat.le_of_ble_eq_true rfl) dX5_init_5 (fun q1 => ?_)
  refine w_dup h (pc := 8) dX5_init_8 rfl ?_
  refine w_fI0 h (pc := 9) (mX0_init l D κ ε q1) (wr := [(h0, .inr (5, [.null, .null, .null, .null, .null, .null, .int 0, .int 0, .int 0, .int 0]))]) (List.Perm.refl _) (gdN wm_39) wm_15 wm_37 wm_38 rfl (by decide +kernel) ⟨(Nat.le_of_ble_eq_true rfl), (Nat.le_of_ble_eq_true rfl)⟩ ⟨(Nat.le_of_ble_eq_true rfl), (Nat.le_of_ble_eq_true rfl)⟩ (Nat.le_of_ble_eq_true rfl) dX5_init_9 (fun v9 u9 hp9 => ?_)
  obtain ⟨rfl, q2, q3, q4, q5, q6, q7, q8, q9, q10, q11, q12, q13, q14, q15, q16, q17, q18, q19, q20, q21, q22, q23, q24, q25, q26, q27, rfl⟩ := hp9
  refine WW.equ (u' := ([(h0, .inr (5, [.null, .null, .null, .null, .null, .null, .int 0, .int 0, .int 0, .int 0])),
    (q1, .inr (0, [.int (iI 0), .int (iI 2), .ref q2, .ref q3])),
    (q2, .inl (κ 2, 4, .inr (.inr (.inr (.inr (va_up (va_up (va_up (va_up (fun _ => none) 0 (some q4)) 1 (some q10)) 2 (some q16)) 3 (some q22))))))),
    (q3, .inl (κ 2, 4, .inr (.inr (.inr (.inr (va_up (va_up (va_up (va_up (fun _ => none) 0 (some q7)) 1 (some q13)) 2 (some q19)) 3 (some q25))))))),
    (q4, .inr (4, [.ref q5, .ref q6, .int (iI 0)])),
    (q5, .inl (κ 0, 852, .inl (fun _ => iI 0))),
    (q6, .inl (κ 0, 852, .inl (fun _ => iI 0))),
    (q7, .inr (4, [.ref q8, .ref q9, .int (iI 0)])),
    (q8, .inl (κ 0, 852, .inl (fun _ => iI 0))),
    (q9, .inl (κ 0, 852, .inl (fun _ => iI 0))),
    (q10, .inr (4, [.ref q11, .ref q12, .int (iI 0)])),
    (q11, .inl (κ 0, 852, .inl (fun _ => iI 0))),
    (q12, .inl (κ 0, 852, .inl (fun _ => iI 0))),
    (q13, .inr (4, [.ref q14, .ref q15, .int (iI 0)])),
    (q14, .inl (κ 0, 852, .inl (fun _ => iI 0))),
    (q15, .inl (κ 0, 852, .inl (fun _ => iI 0))),
    (q16, .inr (4, [.ref q17, .ref q18, .int (iI 0)])),
    (q17, .inl (κ 0, 852, .inl (fun _ => iI 0))),
    (q18, .inl (κ 0, 852, .inl (fun _ => iI 0))),
    (q19, .inr (4, [.ref q20, .ref q21, .int (iI 0)])),
    (q20, .inl (κ 0, 852, .inl (fun _ => iI 0))),
    (q21, .inl (κ 0, 852, .inl (fun _ => iI 0))),
    (q22, .inr (4, [.ref q23, .ref q24, .int (iI 0)])),
    (q23, .inl (κ 0, 852, .inl (fun _ => iI 0))),
    (q24, .inl (κ 0, 852, .inl (fun _ => iI 0))),
    (q25, .inr (4, [.ref q26, .ref q27, .int (iI 0)])),
    (q26, .inl (κ 0, 852, .inl (fun _ => iI 0))),
    (q27, .inl (κ 0, 852, .inl (fun _ => iI 0)))], 27, 13668)) rfl ?_
  refine w_putF hn (pc := 12) wi_X5 tyX5 tyX5_ok nmX5 0 rfl rfl 0 (by decide) wm_16 rfl rfl rfl (ty := tyX5 0) (by decide +kernel) rfl rfl (Nat.le_of_ble_eq_true rfl) dX5_init_12 ?_
  refine w_aload_n h (pc := 15) dX5_init_15 rfl ?_
  refine w_new h (pc := 16) wi_X1 tyX1 tyX1_ok wm_17 wm_18 wm_19 (ci := 1) rfl (fs := [.null, .int 0, .int 0, .null, .null, .long 0, .int 0]) (fun j hj => by rcases (show j = 0 ∨ j = 1 ∨ j = 2 ∨ j = 3 ∨ j = 4 ∨ j = 5 ∨ j = 6 by omega) with rfl | rfl | rfl | rfl | rfl | rfl | rfl <;> rfl) (Nat.le_of_ble_eq_true rfl) (Nat.le_of_ble_eq_true rfl) dX5_init_16 (fun q28 => ?_)
  refine w_dup h (pc := 19) dX5_init_19 rfl ?_
  refine w_aload_n h (pc := 20) dX5_init_20 rfl ?_
  refine w_get h (pc := 21) wi_X5 0 rfl rfl 0 (by decide) wm_16 rfl (v := .ref q1) rfl dX5_init_21 ?_
  refine w_fI1 h (pc := 24) (mX1_init l D κ ε q28 q1) (wr := [(h0, .inr (5, [.ref q1, .null, .null, .null, .null, .null, .int 0, .int 0, .int 0, .int 0])),
    (q1, .inr (0, [.int (iI 0), .int (iI 2), .ref q2, .ref q3])),
    (q2, .inl (κ 2, 4, .inr (.inr (.inr (.inr (va_up (va_up (va_up (va_up (fun _ => none) 0 (some q4)) 1 (some q10)) 2 (some q16)) 3 (some q22))))))),
    (q3, .inl (κ 2, 4, .inr (.inr (.inr (.inr (va_up (va_up (va_up (va_up (fun _ => none) 0 (some q7)) 1 (some q13)) 2 (some q19)) 3 (some q25))))))),
    (q4, .inr (4, [.ref q5, .ref q6, .int (iI 0)])),
    (q5, .inl (κ 0, 852, .inl (fun _ => iI 0))),
    (q6, .inl (κ 0, 852, .inl (fun _ => iI 0))),
    (q7, .inr (4, [.ref q8, .ref q9, .int (iI 0)])),
    (q8, .inl (κ 0, 852, .inl (fun _ => iI 0))),
    (q9, .inl (κ 0, 852, .inl (fun _ => iI 0))),
    (q10, .inr (4, [.ref q11, .ref q12, .int (iI 0)])),
    (q11, .inl (κ 0, 852, .inl (fun _ => iI 0))),
    (q12, .inl (κ 0, 852, .inl (fun _ => iI 0))),
    (q13, .inr (4, [.ref q14, .ref q15, .int (iI 0)])),
    (q14, .inl (κ 0, 852, .inl (fun _ => iI 0))),
    (q15, .inl (κ 0, 852, .inl (fun _ => iI 0))),
    (q16, .inr (4, [.ref q17, .ref q18, .int (iI 0)])),
    (q17, .inl (κ 0, 852, .inl (fun _ => iI 0))),
    (q18, .inl (κ 0, 852, .inl (fun _ => iI 0))),
    (q19, .inr (4, [.ref q20, .ref q21, .int (iI 0)])),
    (q20, .inl (κ 0, 852, .inl (fun _ => iI 0))),
    (q21, .inl (κ 0, 852, .inl (fun _ => iI 0))),
    (q22, .inr (4, [.ref q23, .ref q24, .int (iI 0)])),
    (q23, .inl (κ 0, 852, .inl (fun _ => iI 0))),
    (q24, .inl (κ 0, 852, .inl (fun _ => iI 0))),
    (q25, .inr (4, [.ref q26, .ref q27, .int (iI 0)])),
    (q26, .inl (κ 0, 852, .inl (fun _ => iI 0))),
    (q27, .inl (κ 0, 852, .inl (fun _ => iI 0)))]) (List.Perm.refl _) (gdN wm_56) wm_19 wm_54 wm_55 rfl (by decide +kernel) ⟨(Nat.le_of_ble_eq_true rfl), (Nat.le_of_ble_eq_true rfl)⟩ ⟨(Nat.le_of_ble_eq_true rfl), (Nat.le_of_ble_eq_true rfl)⟩ (Nat.le_of_ble_eq_true rfl) dX5_init_24 (fun v9 u9 hp9 => ?_)
  obtain ⟨rfl, q29, q30, rfl⟩ := hp9
  refine WW.equ (u' := ([(h0, .inr (5, [.ref q1, .null, .null, .null, .null, .null, .int 0, .int 0, .int 0, .int 0])),
    (q1, .inr (0, [.int (iI 0), .int (iI 2), .ref q2, .ref q3])),
    (q2, .inl (κ 2, 4, .inr (.inr (.inr (.inr (va_up (va_up (va_up (va_up (fun _ => none) 0 (some q4)) 1 (some q10)) 2 (some q16)) 3 (some q22))))))),
    (q3, .inl (κ 2, 4, .inr (.inr (.inr (.inr (va_up (va_up (va_up (va_up (fun _ => none) 0 (some q7)) 1 (some q13)) 2 (some q19)) 3 (some q25))))))),
    (q4, .inr (4, [.ref q5, .ref q6, .int (iI 0)])),
    (q5, .inl (κ 0, 852, .inl (fun _ => iI 0))),
    (q6, .inl (κ 0, 852, .inl (fun _ => iI 0))),
    (q7, .inr (4, [.ref q8, .ref q9, .int (iI 0)])),
    (q8, .inl (κ 0, 852, .inl (fun _ => iI 0))),
    (q9, .inl (κ 0, 852, .inl (fun _ => iI 0))),
    (q10, .inr (4, [.ref q11, .ref q12, .int (iI 0)])),
    (q11, .inl (κ 0, 852, .inl (fun _ => iI 0))),
    (q12, .inl (κ 0, 852, .inl (fun _ => iI 0))),
    (q13, .inr (4, [.ref q14, .ref q15, .int (iI 0)])),
    (q14, .inl (κ 0, 852, .inl (fun _ => iI 0))),
    (q15, .inl (κ 0, 852, .inl (fun _ => iI 0))),
    (q16, .inr (4, [.ref q17, .ref q18, .int (iI 0)])),
    (q17, .inl (κ 0, 852, .inl (fun _ => iI 0))),
    (q18, .inl (κ 0, 852, .inl (fun _ => iI 0))),
    (q19, .inr (4, [.ref q20, .ref q21, .int (iI 0)])),
    (q20, .inl (κ 0, 852, .inl (fun _ => iI 0))),
    (q21, .inl (κ 0, 852, .inl (fun _ => iI 0))),
    (q22, .inr (4, [.ref q23, .ref q24, .int (iI 0)])),
    (q23, .inl (κ 0, 852, .inl (fun _ => iI 0))),
    (q24, .inl (κ 0, 852, .inl (fun _ => iI 0))),
    (q25, .inr (4, [.ref q26, .ref q27, .int (iI 0)])),
    (q26, .inl (κ 0, 852, .inl (fun _ => iI 0))),
    (q27, .inl (κ 0, 852, .inl (fun _ => iI 0))),
    (q28, .inr (1, [.ref q1, .int (iI 0), .int (iI 500), .ref q29, .ref q30, .long (lI 0), .int (iI 0)])),
    (q29, .inl (κ 0, 13, .inl (fun _ => iI 0))),
    (q30, .inl (κ 0, 13, .inl (fun _ => iI 0)))], 30, 13701)) rfl ?_
  refine w_putF hn (pc := 27) wi_X5 tyX5 tyX5_ok nmX5 0 rfl rfl 1 (by decide) wm_20 rfl rfl rfl (ty := tyX5 1) (by decide +kernel) rfl rfl (Nat.le_of_ble_eq_true rfl) dX5_init_27 ?_
  refine w_aload_n h (pc := 30) dX5_init_30 rfl ?_
  refine w_new h (pc := 31) wi_X3 tyX3 tyX3_ok wm_21 wm_22 wm_23 (ci := 3) rfl (fs := [.null, .null, .null, .null, .null, .null]) (fun j hj => by rcases (show j = 0 ∨ j = 1 ∨ j = 2 ∨ j = 3 ∨ j = 4 ∨ j = 5 by omega) with rfl | rfl | rfl | rfl | rfl | rfl <;> rfl) (Nat.le_of_ble_eq_true rfl) (Nat.le_of_ble_eq_true rfl) dX5_init_31 (fun q31 => ?_)
  refine w_dup h (pc := 34) dX5_init_34 rfl ?_
  refine w_aload_n h (pc := 35) dX5_init_35 rfl ?_
  refine w_get h (pc := 36) wi_X5 0 rfl rfl 0 (by decide) wm_16 rfl (v := .ref q1) rfl dX5_init_36 ?_
  refine w_aload_n h (pc := 39) dX5_init_39 rfl ?_
  refine w_get h (pc := 40) wi_X5 0 rfl rfl 1 (by decide) wm_20 rfl (v := .ref q28) rfl dX5_init_40 ?_
  refine w_fI2 h (pc := 43) (mX3_init l D κ ε q31 q1 q28) (wr := [(h0, .inr (5, [.ref q1, .ref q28, .null, .null, .null, .null, .int 0, .int 0, .int 0, .int 0])),
    (q1, .inr (0, [.int (iI 0), .int (iI 2), .ref q2, .ref q3])),
    (q2, .inl (κ 2, 4, .inr (.inr (.inr (.inr (va_up (va_up (va_up (va_up (fun _ => none) 0 (some q4)) 1 (some q10)) 2 (some q16)) 3 (some q22))))))),
    (q3, .inl (κ 2, 4, .inr (.inr (.inr (.inr (va_up (va_up (va_up (va_up (fun _ => none) 0 (some q7)) 1 (some q13)) 2 (some q19)) 3 (some q25))))))),
    (q4, .inr (4, [.ref q5, .ref q6, .int (iI 0)])),
    (q5, .inl (κ 0, 852, .inl (fun _ => iI 0))),
    (q6, .inl (κ 0, 852, .inl (fun _ => iI 0))),
    (q7, .inr (4, [.ref q8, .ref q9, .int (iI 0)])),
    (q8, .inl (κ 0, 852, .inl (fun _ => iI 0))),
    (q9, .inl (κ 0, 852, .inl (fun _ => iI 0))),
    (q10, .inr (4, [.ref q11, .ref q12, .int (iI 0)])),
    (q11, .inl (κ 0, 852, .inl (fun _ => iI 0))),
    (q12, .inl (κ 0, 852, .inl (fun _ => iI 0))),
    (q13, .inr (4, [.ref q14, .ref q15, .int (iI 0)])),
    (q14, .inl (κ 0, 852, .inl (fun _ => iI 0))),
    (q15, .inl (κ 0, 852, .inl (fun _ => iI 0))),
    (q16, .inr (4, [.ref q17, .ref q18, .int (iI 0)])),
    (q17, .inl (κ 0, 852, .inl (fun _ => iI 0))),
    (q18, .inl (κ 0, 852, .inl (fun _ => iI 0))),
    (q19, .inr (4, [.ref q20, .ref q21, .int (iI 0)])),
    (q20, .inl (κ 0, 852, .inl (fun _ => iI 0))),
    (q21, .inl (κ 0, 852, .inl (fun _ => iI 0))),
    (q22, .inr (4, [.ref q23, .ref q24, .int (iI 0)])),
    (q23, .inl (κ 0, 852, .inl (fun _ => iI 0))),
    (q24, .inl (κ 0, 852, .inl (fun _ => iI 0))),
    (q25, .inr (4, [.ref q26, .ref q27, .int (iI 0)])),
    (q26, .inl (κ 0, 852, .inl (fun _ => iI 0))),
    (q27, .inl (κ 0, 852, .inl (fun _ => iI 0))),
    (q28, .inr (1, [.ref q1, .int (iI 0), .int (iI 500), .ref q29, .ref q30, .long (lI 0), .int (iI 0)])),
    (q29, .inl (κ 0, 13, .inl (fun _ => iI 0))),
    (q30, .inl (κ 0, 13, .inl (fun _ => iI 0)))]) (List.Perm.refl _) (gdN wm_67) wm_23 wm_65 wm_66 rfl (by decide +kernel) ⟨(Nat.le_of_ble_eq_true rfl), (Nat.le_of_ble_eq_true rfl)⟩ ⟨(Nat.le_of_ble_eq_true rfl), (Nat.le_of_ble_eq_true rfl)⟩ (Nat.le_of_ble_eq_true rfl) dX5_init_43 (fun v9 u9 hp9 => ?_)
  obtain ⟨rfl, q32, q33, r34, q35, q36, rfl⟩ := hp9
  refine WW.equ (u' := ([(h0, .inr (5, [.ref q1, .ref q28, .null, .null, .null, .null, .int 0, .int 0, .int 0, .int 0])),
    (q1, .inr (0, [.int (iI 0), .int (iI 2), .ref q2, .ref q3])),
    (q2, .inl (κ 2, 4, .inr (.inr (.inr (.inr (va_up (va_up (va_up (va_up (fun _ => none) 0 (some q4)) 1 (some q10)) 2 (some q16)) 3 (some q22))))))),
    (q3, .inl (κ 2, 4, .inr (.inr (.inr (.inr (va_up (va_up (va_up (va_up (fun _ => none) 0 (some q7)) 1 (some q13)) 2 (some q19)) 3 (some q25))))))),
    (q4, .inr (4, [.ref q5, .ref q6, .int (iI 0)])),
    (q5, .inl (κ 0, 852, .inl (fun _ => iI 0))),
    (q6, .inl (κ 0, 852, .inl (fun _ => iI 0))),
    (q7, .inr (4, [.ref q8, .ref q9, .int (iI 0)])),
    (q8, .inl (κ 0, 852, .inl (fun _ => iI 0))),
    (q9, .inl (κ 0, 852, .inl (fun _ => iI 0))),
    (q10, .inr (4, [.ref q11, .ref q12, .int (iI 0)])),
    (q11, .inl (κ 0, 852, .inl (fun _ => iI 0))),
    (q12, .inl (κ 0, 852, .inl (fun _ => iI 0))),
    (q13, .inr (4, [.ref q14, .ref q15, .int (iI 0)])),
    (q14, .inl (κ 0, 852, .inl (fun _ => iI 0))),
    (q15, .inl (κ 0, 852, .inl (fun _ => iI 0))),
    (q16, .inr (4, [.ref q17, .ref q18, .int (iI 0)])),
    (q17, .inl (κ 0, 852, .inl (fun _ => iI 0))),
    (q18, .inl (κ 0, 852, .inl (fun _ => iI 0))),
    (q19, .inr (4, [.ref q20, .ref q21, .int (iI 0)])),
    (q20, .inl (κ 0, 852, .inl (fun _ => iI 0))),
    (q21, .inl (κ 0, 852, .inl (fun _ => iI 0))),
    (q22, .inr (4, [.ref q23, .ref q24, .int (iI 0)])),
    (q23, .inl (κ 0, 852, .inl (fun _ => iI 0))),
    (q24, .inl (κ 0, 852, .inl (fun _ => iI 0))),
    (q25, .inr (4, [.ref q26, .ref q27, .int (iI 0)])),
    (q26, .inl (κ 0, 852, .inl (fun _ => iI 0))),
    (q27, .inl (κ 0, 852, .inl (fun _ => iI 0))),
    (q28, .inr (1, [.ref q1, .int (iI 0), .int (iI 500), .ref q29, .ref q30, .long (lI 0), .int (iI 0)])),
    (q29, .inl (κ 0, 13, .inl (fun _ => iI 0))),
    (q30, .inl (κ 0, 13, .inl (fun _ => iI 0))),
    (q31, .inr (3, [.ref q1, .ref q28, .ref q32, .ref q33, .ref q35, .ref q36])),
    (q32, .inl (κ 0, 22464, .inl (fun _ => iI 0))),
    (q33, .inl (κ 3, 12, .inr (.inr (.inr (.inr (fun i => if i < 12 then some (r34 i) else none)))))),
    ((r34 0), .inl (κ 0, 1728, .inl (fun _ => iI 0))),
    ((r34 1), .inl (κ 0, 1728, .inl (fun _ => iI 0))),
    ((r34 2), .inl (κ 0, 1728, .inl (fun _ => iI 0))),
    ((r34 3), .inl (κ 0, 1728, .inl (fun _ => iI 0))),
    ((r34 4), .inl (κ 0, 1728, .inl (fun _ => iI 0))),
    ((r34 5), .inl (κ 0, 1728, .inl (fun _ => iI 0))),
    ((r34 6), .inl (κ 0, 1728, .inl (fun _ => iI 0))),
    ((r34 7), .inl (κ 0, 1728, .inl (fun _ => iI 0))),
    ((r34 8), .inl (κ 0, 1728, .inl (fun _ => iI 0))),
    ((r34 9), .inl (κ 0, 1728, .inl (fun _ => iI 0))),
    ((r34 10), .inl (κ 0, 1728, .inl (fun _ => iI 0))),
    ((r34 11), .inl (κ 0, 1728, .inl (fun _ => iI 0))),
    (q35, .inl (κ 0, 1728, .inl (fun _ => iI 0))),
    (q36, .inl (κ 0, 1728, .inl (fun _ => iI 0)))], 47, 60375)) rfl ?_
  refine w_putF hn (pc := 46) wi_X5 tyX5 tyX5_ok nmX5 0 rfl rfl 2 (by decide) wm_24 rfl rfl rfl (ty := tyX5 2) (by decide +kernel) rfl rfl (Nat.le_of_ble_eq_true rfl) dX5_init_46 ?_
  refine w_aload_n h (pc := 49) dX5_init_49 rfl ?_
  refine w_new h (pc := 50) wi_X2 tyX2 tyX2_ok wm_25 wm_26 wm_27 (ci := 2) rfl (fs := [.null, .null, .null, .int 0]) (fun j hj => by rcases (show j = 0 ∨ j = 1 ∨ j = 2 ∨ j = 3 by omega) with rfl | rfl | rfl | rfl <;> rfl) (Nat.le_of_ble_eq_true rfl) (Nat.le_of_ble_eq_true rfl) dX5_init_50 (fun q37 => ?_)
  refine w_dup h (pc := 53) dX5_init_53 rfl ?_
  refine w_fIN0 h (pc := 54) (mX2_init l D κ ε q37) (wr := [(h0, .inr (5, [.ref q1, .ref q28, .ref q31, .null, .null, .null, .int 0, .int 0, .int 0, .int 0])),
    (q1, .inr (0, [.int (iI 0), .int (iI 2), .ref q2, .ref q3])),
    (q2, .inl (κ 2, 4, .inr (.inr (.inr (.inr (va_up (va_up (va_up (va_up (fun _ => none) 0 (some q4)) 1 (some q10)) 2 (some q16)) 3 (some q22))))))),
    (q3, .inl (κ 2, 4, .inr (.inr (.inr (.inr (va_up (va_up (va_up (va_up (fun _ => none) 0 (some q7)) 1 (some q13)) 2 (some q19)) 3 (some q25))))))),
    (q4, .inr (4, [.ref q5, .ref q6, .int (iI 0)])),
    (q5, .inl (κ 0, 852, .inl (fun _ => iI 0))),
    (q6, .inl (κ 0, 852, .inl (fun _ => iI 0))),
    (q7, .inr (4, [.ref q8, .ref q9, .int (iI 0)])),
    (q8, .inl (κ 0, 852, .inl (fun _ => iI 0))),
    (q9, .inl (κ 0, 852, .inl (fun _ => iI 0))),
    (q10, .inr (4, [.ref q11, .ref q12, .int (iI 0)])),
    (q11, .inl (κ 0, 852, .inl (fun _ => iI 0))),
    (q12, .inl (κ 0, 852, .inl (fun _ => iI 0))),
    (q13, .inr (4, [.ref q14, .ref q15, .int (iI 0)])),
    (q14, .inl (κ 0, 852, .inl (fun _ => iI 0))),
    (q15, .inl (κ 0, 852, .inl (fun _ => iI 0))),
    (q16, .inr (4, [.ref q17, .ref q18, .int (iI 0)])),
    (q17, .inl (κ 0, 852, .inl (fun _ => iI 0))),
    (q18, .inl (κ 0, 852, .inl (fun _ => iI 0))),
    (q19, .inr (4, [.ref q20, .ref q21, .int (iI 0)])),
    (q20, .inl (κ 0, 852, .inl (fun _ => iI 0))),
    (q21, .inl (κ 0, 852, .inl (fun _ => iI 0))),
    (q22, .inr (4, [.ref q23, .ref q24, .int (iI 0)])),
    (q23, .inl (κ 0, 852, .inl (fun _ => iI 0))),
    (q24, .inl (κ 0, 852, .inl (fun _ => iI 0))),
    (q25, .inr (4, [.ref q26, .ref q27, .int (iI 0)])),
    (q26, .inl (κ 0, 852, .inl (fun _ => iI 0))),
    (q27, .inl (κ 0, 852, .inl (fun _ => iI 0))),
    (q28, .inr (1, [.ref q1, .int (iI 0), .int (iI 500), .ref q29, .ref q30, .long (lI 0), .int (iI 0)])),
    (q29, .inl (κ 0, 13, .inl (fun _ => iI 0))),
    (q30, .inl (κ 0, 13, .inl (fun _ => iI 0))),
    (q31, .inr (3, [.ref q1, .ref q28, .ref q32, .ref q33, .ref q35, .ref q36])),
    (q32, .inl (κ 0, 22464, .inl (fun _ => iI 0))),
    (q33, .inl (κ 3, 12, .inr (.inr (.inr (.inr (fun i => if i < 12 then some (r34 i) else none)))))),
    ((r34 0), .inl (κ 0, 1728, .inl (fun _ => iI 0))),
    ((r34 1), .inl (κ 0, 1728, .inl (fun _ => iI 0))),
    ((r34 2), .inl (κ 0, 1728, .inl (fun _ => iI 0))),
    ((r34 3), .inl (κ 0, 1728, .inl (fun _ => iI 0))),
    ((r34 4), .inl (κ 0, 1728, .inl (fun _ => iI 0))),
    ((r34 5), .inl (κ 0, 1728, .inl (fun _ => iI 0))),
    ((r34 6), .inl (κ 0, 1728, .inl (fun _ => iI 0))),
    ((r34 7), .inl (κ 0, 1728, .inl (fun _ => iI 0))),
    ((r34 8), .inl (κ 0, 1728, .inl (fun _ => iI 0))),
    ((r34 9), .inl (κ 0, 1728, .inl (fun _ => iI 0))),
    ((r34 10), .inl (κ 0, 1728, .inl (fun _ => iI 0))),
    ((r34 11), .inl (κ 0, 1728, .inl (fun _ => iI 0))),
    (q35, .inl (κ 0, 1728, .inl (fun _ => iI 0))),
    (q36, .inl (κ 0, 1728, .inl (fun _ => iI 0)))]) (List.Perm.refl _) (gdN wm_77) (fun U hU => hU.2.2.2.1) wm_27 wm_76 rfl (by decide +kernel) ⟨(Nat.le_of_ble_eq_true rfl), (Nat.le_of_ble_eq_true rfl)⟩ ⟨(Nat.le_of_ble_eq_true rfl), (Nat.le_of_ble_eq_true rfl)⟩ (Nat.le_of_ble_eq_true rfl) dX5_init_54 (fun v9 u9 hp9 => ?_)
  obtain ⟨rfl, q38, q39, q40, rfl⟩ := hp9
  refine WW.equ (u' := ([(h0, .inr (5, [.ref q1, .ref q28, .ref q31, .null, .null, .null, .int 0, .int 0, .int 0, .int 0])),
    (q1, .inr (0, [.int (iI 0), .int (iI 2), .ref q2, .ref q3])),
    (q2, .inl (κ 2, 4, .inr (.inr (.inr (.inr (va_up (va_up (va_up (va_up (fun _ => none) 0 (some q4)) 1 (some q10)) 2 (some q16)) 3 (some q22))))))),
    (q3, .inl (κ 2, 4, .inr (.inr (.inr (.inr (va_up (va_up (va_up (va_up (fun _ => none) 0 (some q7)) 1 (some q13)) 2 (some q19)) 3 (some q25))))))),
    (q4, .inr (4, [.ref q5, .ref q6, .int (iI 0)])),
    (q5, .inl (κ 0, 852, .inl (fun _ => iI 0))),
    (q6, .inl (κ 0, 852, .inl (fun _ => iI 0))),
    (q7, .inr (4, [.ref q8, .ref q9, .int (iI 0)])),
    (q8, .inl (κ 0, 852, .inl (fun _ => iI 0))),
    (q9, .inl (κ 0, 852, .inl (fun _ => iI 0))),
    (q10, .inr (4, [.ref q11, .ref q12, .int (iI 0)])),
    (q11, .inl (κ 0, 852, .inl (fun _ => iI 0))),
    (q12, .inl (κ 0, 852, .inl (fun _ => iI 0))),
    (q13, .inr (4, [.ref q14, .ref q15, .int (iI 0)])),
    (q14, .inl (κ 0, 852, .inl (fun _ => iI 0))),
    (q15, .inl (κ 0, 852, .inl (fun _ => iI 0))),
    (q16, .inr (4, [.ref q17, .ref q18, .int (iI 0)])),
    (q17, .inl (κ 0, 852, .inl (fun _ => iI 0))),
    (q18, .inl (κ 0, 852, .inl (fun _ => iI 0))),
    (q19, .inr (4, [.ref q20, .ref q21, .int (iI 0)])),
    (q20, .inl (κ 0, 852, .inl (fun _ => iI 0))),
    (q21, .inl (κ 0, 852, .inl (fun _ => iI 0))),
    (q22, .inr (4, [.ref q23, .ref q24, .int (iI 0)])),
    (q23, .inl (κ 0, 852, .inl (fun _ => iI 0))),
    (q24, .inl (κ 0, 852, .inl (fun _ => iI 0))),
    (q25, .inr (4, [.ref q26, .ref q27, .int (iI 0)])),
    (q26, .inl (κ 0, 852, .inl (fun _ => iI 0))),
    (q27, .inl (κ 0, 852, .inl (fun _ => iI 0))),
    (q28, .inr (1, [.ref q1, .int (iI 0), .int (iI 500), .ref q29, .ref q30, .long (lI 0), .int (iI 0)])),
    (q29, .inl (κ 0, 13, .inl (fun _ => iI 0))),
    (q30, .inl (κ 0, 13, .inl (fun _ => iI 0))),
    (q31, .inr (3, [.ref q1, .ref q28, .ref q32, .ref q33, .ref q35, .ref q36])),
    (q32, .inl (κ 0, 22464, .inl (fun _ => iI 0))),
    (q33, .inl (κ 3, 12, .inr (.inr (.inr (.inr (fun i => if i < 12 then some (r34 i) else none)))))),
    ((r34 0), .inl (κ 0, 1728, .inl (fun _ => iI 0))),
    ((r34 1), .inl (κ 0, 1728, .inl (fun _ => iI 0))),
    ((r34 2), .inl (κ 0, 1728, .inl (fun _ => iI 0))),
    ((r34 3), .inl (κ 0, 1728, .inl (fun _ => iI 0))),
    ((r34 4), .inl (κ 0, 1728, .inl (fun _ => iI 0))),
    ((r34 5), .inl (κ 0, 1728, .inl (fun _ => iI 0))),
    ((r34 6), .inl (κ 0, 1728, .inl (fun _ => iI 0))),
    ((r34 7), .inl (κ 0, 1728, .inl (fun _ => iI 0))),
    ((r34 8), .inl (κ 0, 1728, .inl (fun _ => iI 0))),
    ((r34 9), .inl (κ 0, 1728, .inl (fun _ => iI 0))),
    ((r34 10), .inl (κ 0, 1728, .inl (fun _ => iI 0))),
    ((r34 11), .inl (κ 0, 1728, .inl (fun _ => iI 0))),
    (q35, .inl (κ 0, 1728, .inl (fun _ => iI 0))),
    (q36, .inl (κ 0, 1728, .inl (fun _ => iI 0))),
    (q37, .inr (2, [.ref q38, .ref q39, .ref q40, .int (iI 0)])),
    (q38, .inl (κ 0, 12, .inl (fun _ => iI 0))),
    (q39, .inl (κ 0, 12, .inl (fun _ => iI 0))),
    (q40, .inl (κ 0, 12, .inl (fun _ => iI 0)))], 51, 60415)) rfl ?_
  refine w_putF hn (pc := 57) wi_X5 tyX5 tyX5_ok nmX5 0 rfl rfl 3 (by decide) wm_28 rfl rfl rfl (ty := tyX5 3) (by decide +kernel) rfl rfl (Nat.le_of_ble_eq_true rfl) dX5_init_57 ?_
  refine w_aload_n h (pc := 60) dX5_init_60 rfl ?_
  refine w_sipush h (pc := 61) dX5_init_61 (by decide) ?_
  refine w_newa h (pc := 64) (ty := .boolean) rfl wm_29 (t0 := 1) rfl (N' := 852) rfl (by decide) (a0 := (852, .inl (fun _ => iI 0))) (fun _ => rfl) (by decide) (Nat.le_of_ble_eq_true rfl) (Nat.le_of_ble_eq_true rfl) dX5_init_64 (fun q41 => ?_)
  refine w_putF hn (pc := 66) wi_X5 tyX5 tyX5_ok nmX5 0 rfl rfl 4 (by decide) wm_30 rfl rfl rfl (ty := tyX5 4) (by decide +kernel) rfl rfl (Nat.le_of_ble_eq_true rfl) dX5_init_66 ?_
  refine w_aload_n h (pc := 69) dX5_init_69 rfl ?_
  refine w_bipush h (pc := 70) dX5_init_70 (by decide) ?_
  refine w_newa h (pc := 72) (ty := .int) rfl wm_31 (t0 := 0) rfl (N' := 12) rfl (by decide) (a0 := (12, .inl (fun _ => iI 0))) (fun _ => rfl) (by decide) (Nat.le_of_ble_eq_true rfl) (Nat.le_of_ble_eq_true rfl) dX5_init_72 (fun q42 => ?_)
  refine w_putF hn (pc := 74) wi_X5 tyX5 tyX5_ok nmX5 0 rfl rfl 5 (by decide) wm_32 rfl rfl rfl (ty := tyX5 5) (by decide +kernel) rfl rfl (Nat.le_of_ble_eq_true rfl) dX5_init_74 ?_
  refine w_aload_n h (pc := 77) dX5_init_77 rfl ?_
  refine w_iconst h (pc := 78) dX5_init_78 ?_
  refine w_putD h (pc := 79) wi_X5 tyX5 tyX5_ok nmX5 0 rfl rfl 6 (by decide) wm_33 rfl rfl (ty := tyX5 6) (by decide +kernel) rfl rfl (Nat.le_of_ble_eq_true rfl) dX5_init_79 ?_
  refine w_aload_n h (pc := 82) dX5_init_82 rfl ?_
  refine w_iconst h (pc := 83) dX5_init_83 ?_
  refine w_putD h (pc := 84) wi_X5 tyX5 tyX5_ok nmX5 0 rfl rfl 7 (by decide) wm_34 rfl rfl (ty := tyX5 7) (by decide +kernel) rfl rfl (Nat.le_of_ble_eq_true rfl) dX5_init_84 ?_
  refine w_aload_n h (pc := 87) dX5_init_87 rfl ?_
  refine w_iconst h (pc := 88) dX5_init_88 ?_
  refine w_putD h (pc := 89) wi_X5 tyX5 tyX5_ok nmX5 0 rfl rfl 8 (by decide) wm_35 rfl rfl (ty := tyX5 8) (by decide +kernel) rfl rfl (Nat.le_of_ble_eq_true rfl) dX5_init_89 ?_
  refine w_aload_n h (pc := 92) dX5_init_92 rfl ?_
  refine w_iconst h (pc := 93) dX5_init_93 ?_
  refine w_putD h (pc := 94) wi_X5 tyX5 tyX5_ok nmX5 0 rfl rfl 9 (by decide) wm_36 rfl rfl (ty := tyX5 9) (by decide +kernel) rfl rfl (Nat.le_of_ble_eq_true rfl) dX5_init_94 ?_
  refine w_pick h [0, 1, 28, 31, 48, 52, 53, 2, 3, 29, 30, 32, 33, 46, 47, 49, 50, 51, 34, 35, 36, 37, 38, 39, 40, 41, 42, 43, 44, 45, 4, 5, 6, 10, 11, 12, 16, 17, 18, 22, 23, 24, 7, 8, 9, 13, 14, 15, 19, 20, 21, 25, 26, 27] (by decide) (w1 := [(h0, .inr (5, [.ref q1, .ref q28, .ref q31, .ref q37, .ref q41, .ref q42, .int (iI 0), .int (iI 0), .int (iI 0), .int (iI 0)])),
    (q1, .inr (0, [.int (iI 0), .int (iI 2), .ref q2, .ref q3])),
    (q28, .inr (1, [.ref q1, .int (iI 0), .int (iI 500), .ref q29, .ref q30, .long (lI 0), .int (iI 0)])),
    (q31, .inr (3, [.ref q1, .ref q28, .ref q32, .ref q33, .ref q35, .ref q36])),
    (q37, .inr (2, [.ref q38, .ref q39, .ref q40, .int (iI 0)])),
    (q41, .inl (κ 1, 852, .inl (fun _ => iI 0))),
    (q42, .inl (κ 0, 12, .inl (fun _ => iI 0))),
    (q2, .inl (κ 2, 4, .inr (.inr (.inr (.inr (va_up (va_up (va_up (va_up (fun _ => none) 0 (some q4)) 1 (some q10)) 2 (some q16)) 3 (some q22))))))),
    (q3, .inl (κ 2, 4, .inr (.inr (.inr (.inr (va_up (va_up (va_up (va_up (fun _ => none) 0 (some q7)) 1 (some q13)) 2 (some q19)) 3 (some q25))))))),
    (q29, .inl (κ 0, 13, .inl (fun _ => iI 0))),
    (q30, .inl (κ 0, 13, .inl (fun _ => iI 0))),
    (q32, .inl (κ 0, 22464, .inl (fun _ => iI 0))),
    (q33, .inl (κ 3, 12, .inr (.inr (.inr (.inr (fun i => if i < 12 then some (r34 i) else none)))))),
    (q35, .inl (κ 0, 1728, .inl (fun _ => iI 0))),
    (q36, .inl (κ 0, 1728, .inl (fun _ => iI 0))),
    (q38, .inl (κ 0, 12, .inl (fun _ => iI 0))),
    (q39, .inl (κ 0, 12, .inl (fun _ => iI 0))),
    (q40, .inl (κ 0, 12, .inl (fun _ => iI 0))),
    ((r34 0), .inl (κ 0, 1728, .inl (fun _ => iI 0))),
    ((r34 1), .inl (κ 0, 1728, .inl (fun _ => iI 0))),
    ((r34 2), .inl (κ 0, 1728, .inl (fun _ => iI 0))),
    ((r34 3), .inl (κ 0, 1728, .inl (fun _ => iI 0))),
    ((r34 4), .inl (κ 0, 1728, .inl (fun _ => iI 0))),
    ((r34 5), .inl (κ 0, 1728, .inl (fun _ => iI 0))),
    ((r34 6), .inl (κ 0, 1728, .inl (fun _ => iI 0))),
    ((r34 7), .inl (κ 0, 1728, .inl (fun _ => iI 0))),
    ((r34 8), .inl (κ 0, 1728, .inl (fun _ => iI 0))),
    ((r34 9), .inl (κ 0, 1728, .inl (fun _ => iI 0))),
    ((r34 10), .inl (κ 0, 1728, .inl (fun _ => iI 0))),
    ((r34 11), .inl (κ 0, 1728, .inl (fun _ => iI 0))),
    (q4, .inr (4, [.ref q5, .ref q6, .int (iI 0)])),
    (q5, .inl (κ 0, 852, .inl (fun _ => iI 0))),
    (q6, .inl (κ 0, 852, .inl (fun _ => iI 0))),
    (q10, .inr (4, [.ref q11, .ref q12, .int (iI 0)])),
    (q11, .inl (κ 0, 852, .inl (fun _ => iI 0))),
    (q12, .inl (κ 0, 852, .inl (fun _ => iI 0))),
    (q16, .inr (4, [.ref q17, .ref q18, .int (iI 0)])),
    (q17, .inl (κ 0, 852, .inl (fun _ => iI 0))),
    (q18, .inl (κ 0, 852, .inl (fun _ => iI 0))),
    (q22, .inr (4, [.ref q23, .ref q24, .int (iI 0)])),
    (q23, .inl (κ 0, 852, .inl (fun _ => iI 0))),
    (q24, .inl (κ 0, 852, .inl (fun _ => iI 0))),
    (q7, .inr (4, [.ref q8, .ref q9, .int (iI 0)])),
    (q8, .inl (κ 0, 852, .inl (fun _ => iI 0))),
    (q9, .inl (κ 0, 852, .inl (fun _ => iI 0))),
    (q13, .inr (4, [.ref q14, .ref q15, .int (iI 0)])),
    (q14, .inl (κ 0, 852, .inl (fun _ => iI 0))),
    (q15, .inl (κ 0, 852, .inl (fun _ => iI 0))),
    (q19, .inr (4, [.ref q20, .ref q21, .int (iI 0)])),
    (q20, .inl (κ 0, 852, .inl (fun _ => iI 0))),
    (q21, .inl (κ 0, 852, .inl (fun _ => iI 0))),
    (q25, .inr (4, [.ref q26, .ref q27, .int (iI 0)])),
    (q26, .inl (κ 0, 852, .inl (fun _ => iI 0))),
    (q27, .inl (κ 0, 852, .inl (fun _ => iI 0)))]) rfl ?_
  refine w_eqc h 7 rfl (cell_cgq (g := fun j => some ((adr [h0, q1, q28, q31, q37, q41, q42, q2, q3, q29, q30, q32, q33, q35, q36, q38, q39, q40, (r34 0), (r34 1), (r34 2), (r34 3), (r34 4), (r34 5), (r34 6), (r34 7), (r34 8), (r34 9), (r34 10), (r34 11), q4, q5, q6, q10, q11, q12, q16, q17, q18, q22, q23, q24, q7, q8, q9, q13, q14, q15, q19, q20, q21, q25, q26, q27]) (30 + 3 * j))) (fun j hj => by rcases (show j = 0 ∨ j = 1 ∨ j = 2 ∨ j = 3 by omega) with rfl | rfl | rfl | rfl <;> rfl)) (w1 := [(h0, .inr (5, [.ref q1, .ref q28, .ref q31, .ref q37, .ref q41, .ref q42, .int (iI 0), .int (iI 0), .int (iI 0), .int (iI 0)])),
    (q1, .inr (0, [.int (iI 0), .int (iI 2), .ref q2, .ref q3])),
    (q28, .inr (1, [.ref q1, .int (iI 0), .int (iI 500), .ref q29, .ref q30, .long (lI 0), .int (iI 0)])),
    (q31, .inr (3, [.ref q1, .ref q28, .ref q32, .ref q33, .ref q35, .ref q36])),
    (q37, .inr (2, [.ref q38, .ref q39, .ref q40, .int (iI 0)])),
    (q41, .inl (κ 1, 852, .inl (fun _ => iI 0))),
    (q42, .inl (κ 0, 12, .inl (fun _ => iI 0))),
    (q2, .inl (κ 2, 4, .inr (.inr (.inr (.inr (fun j => some ((adr [h0, q1, q28, q31, q37, q41, q42, q2, q3, q29, q30, q32, q33, q35, q36, q38, q39, q40, (r34 0), (r34 1), (r34 2), (r34 3), (r34 4), (r34 5), (r34 6), (r34 7), (r34 8), (r34 9), (r34 10), (r34 11), q4, q5, q6, q10, q11, q12, q16, q17, q18, q22, q23, q24, q7, q8, q9, q13, q14, q15, q19, q20, q21, q25, q26, q27]) (30 + 3 * j)))))))),
    (q3, .inl (κ 2, 4, .inr (.inr (.inr (.inr (va_up (va_up (va_up (va_up (fun _ => none) 0 (some q7)) 1 (some q13)) 2 (some q19)) 3 (some q25))))))),
    (q29, .inl (κ 0, 13, .inl (fun _ => iI 0))),
    (q30, .inl (κ 0, 13, .inl (fun _ => iI 0))),
    (q32, .inl (κ 0, 22464, .inl (fun _ => iI 0))),
    (q33, .inl (κ 3, 12, .inr (.inr (.inr (.inr (fun i => if i < 12 then some (r34 i) else none)))))),
    (q35, .inl (κ 0, 1728, .inl (fun _ => iI 0))),
    (q36, .inl (κ 0, 1728, .inl (fun _ => iI 0))),
    (q38, .inl (κ 0, 12, .inl (fun _ => iI 0))),
    (q39, .inl (κ 0, 12, .inl (fun _ => iI 0))),
    (q40, .inl (κ 0, 12, .inl (fun _ => iI 0))),
    ((r34 0), .inl (κ 0, 1728, .inl (fun _ => iI 0))),
    ((r34 1), .inl (κ 0, 1728, .inl (fun _ => iI 0))),
    ((r34 2), .inl (κ 0, 1728, .inl (fun _ => iI 0))),
    ((r34 3), .inl (κ 0, 1728, .inl (fun _ => iI 0))),
    ((r34 4), .inl (κ 0, 1728, .inl (fun _ => iI 0))),
    ((r34 5), .inl (κ 0, 1728, .inl (fun _ => iI 0))),
    ((r34 6), .inl (κ 0, 1728, .inl (fun _ => iI 0))),
    ((r34 7), .inl (κ 0, 1728, .inl (fun _ => iI 0))),
    ((r34 8), .inl (κ 0, 1728, .inl (fun _ => iI 0))),
    ((r34 9), .inl (κ 0, 1728, .inl (fun _ => iI 0))),
    ((r34 10), .inl (κ 0, 1728, .inl (fun _ => iI 0))),
    ((r34 11), .inl (κ 0, 1728, .inl (fun _ => iI 0))),
    (q4, .inr (4, [.ref q5, .ref q6, .int (iI 0)])),
    (q5, .inl (κ 0, 852, .inl (fun _ => iI 0))),
    (q6, .inl (κ 0, 852, .inl (fun _ => iI 0))),
    (q10, .inr (4, [.ref q11, .ref q12, .int (iI 0)])),
    (q11, .inl (κ 0, 852, .inl (fun _ => iI 0))),
    (q12, .inl (κ 0, 852, .inl (fun _ => iI 0))),
    (q16, .inr (4, [.ref q17, .ref q18, .int (iI 0)])),
    (q17, .inl (κ 0, 852, .inl (fun _ => iI 0))),
    (q18, .inl (κ 0, 852, .inl (fun _ => iI 0))),
    (q22, .inr (4, [.ref q23, .ref q24, .int (iI 0)])),
    (q23, .inl (κ 0, 852, .inl (fun _ => iI 0))),
    (q24, .inl (κ 0, 852, .inl (fun _ => iI 0))),
    (q7, .inr (4, [.ref q8, .ref q9, .int (iI 0)])),
    (q8, .inl (κ 0, 852, .inl (fun _ => iI 0))),
    (q9, .inl (κ 0, 852, .inl (fun _ => iI 0))),
    (q13, .inr (4, [.ref q14, .ref q15, .int (iI 0)])),
    (q14, .inl (κ 0, 852, .inl (fun _ => iI 0))),
    (q15, .inl (κ 0, 852, .inl (fun _ => iI 0))),
    (q19, .inr (4, [.ref q20, .ref q21, .int (iI 0)])),
    (q20, .inl (κ 0, 852, .inl (fun _ => iI 0))),
    (q21, .inl (κ 0, 852, .inl (fun _ => iI 0))),
    (q25, .inr (4, [.ref q26, .ref q27, .int (iI 0)])),
    (q26, .inl (κ 0, 852, .inl (fun _ => iI 0))),
    (q27, .inl (κ 0, 852, .inl (fun _ => iI 0)))]) rfl ?_
  refine w_eqc h 8 rfl (cell_cgq (g := fun j => some ((adr [h0, q1, q28, q31, q37, q41, q42, q2, q3, q29, q30, q32, q33, q35, q36, q38, q39, q40, (r34 0), (r34 1), (r34 2), (r34 3), (r34 4), (r34 5), (r34 6), (r34 7), (r34 8), (r34 9), (r34 10), (r34 11), q4, q5, q6, q10, q11, q12, q16, q17, q18, q22, q23, q24, q7, q8, q9, q13, q14, q15, q19, q20, q21, q25, q26, q27]) (42 + 3 * j))) (fun j hj => by rcases (show j = 0 ∨ j = 1 ∨ j = 2 ∨ j = 3 by omega) with rfl | rfl | rfl | rfl <;> rfl)) (w1 := [(h0, .inr (5, [.ref q1, .ref q28, .ref q31, .ref q37, .ref q41, .ref q42, .int (iI 0), .int (iI 0), .int (iI 0), .int (iI 0)])),
    (q1, .inr (0, [.int (iI 0), .int (iI 2), .ref q2, .ref q3])),
    (q28, .inr (1, [.ref q1, .int (iI 0), .int (iI 500), .ref q29, .ref q30, .long (lI 0), .int (iI 0)])),
    (q31, .inr (3, [.ref q1, .ref q28, .ref q32, .ref q33, .ref q35, .ref q36])),
    (q37, .inr (2, [.ref q38, .ref q39, .ref q40, .int (iI 0)])),
    (q41, .inl (κ 1, 852, .inl (fun _ => iI 0))),
    (q42, .inl (κ 0, 12, .inl (fun _ => iI 0))),
    (q2, .inl (κ 2, 4, .inr (.inr (.inr (.inr (fun j => some ((adr [h0, q1, q28, q31, q37, q41, q42, q2, q3, q29, q30, q32, q33, q35, q36, q38, q39, q40, (r34 0), (r34 1), (r34 2), (r34 3), (r34 4), (r34 5), (r34 6), (r34 7), (r34 8), (r34 9), (r34 10), (r34 11), q4, q5, q6, q10, q11, q12, q16, q17, q18, q22, q23, q24, q7, q8, q9, q13, q14, q15, q19, q20, q21, q25, q26, q27]) (30 + 3 * j)))))))),
    (q3, .inl (κ 2, 4, .inr (.inr (.inr (.inr (fun j => some ((adr [h0, q1, q28, q31, q37, q41, q42, q2, q3, q29, q30, q32, q33, q35, q36, q38, q39, q40, (r34 0), (r34 1), (r34 2), (r34 3), (r34 4), (r34 5), (r34 6), (r34 7), (r34 8), (r34 9), (r34 10), (r34 11), q4, q5, q6, q10, q11, q12, q16, q17, q18, q22, q23, q24, q7, q8, q9, q13, q14, q15, q19, q20, q21, q25, q26, q27]) (42 + 3 * j)))))))),
    (q29, .inl (κ 0, 13, .inl (fun _ => iI 0))),
    (q30, .inl (κ 0, 13, .inl (fun _ => iI 0))),
    (q32, .inl (κ 0, 22464, .inl (fun _ => iI 0))),
    (q33, .inl (κ 3, 12, .inr (.inr (.inr (.inr (fun i => if i < 12 then some (r34 i) else none)))))),
    (q35, .inl (κ 0, 1728, .inl (fun _ => iI 0))),
    (q36, .inl (κ 0, 1728, .inl (fun _ => iI 0))),
    (q38, .inl (κ 0, 12, .inl (fun _ => iI 0))),
    (q39, .inl (κ 0, 12, .inl (fun _ => iI 0))),
    (q40, .inl (κ 0, 12, .inl (fun _ => iI 0))),
    ((r34 0), .inl (κ 0, 1728, .inl (fun _ => iI 0))),
    ((r34 1), .inl (κ 0, 1728, .inl (fun _ => iI 0))),
    ((r34 2), .inl (κ 0, 1728, .inl (fun _ => iI 0))),
    ((r34 3), .inl (κ 0, 1728, .inl (fun _ => iI 0))),
    ((r34 4), .inl (κ 0, 1728, .inl (fun _ => iI 0))),
    ((r34 5), .inl (κ 0, 1728, .inl (fun _ => iI 0))),
    ((r34 6), .inl (κ 0, 1728, .inl (fun _ => iI 0))),
    ((r34 7), .inl (κ 0, 1728, .inl (fun _ => iI 0))),
    ((r34 8), .inl (κ 0, 1728, .inl (fun _ => iI 0))),
    ((r34 9), .inl (κ 0, 1728, .inl (fun _ => iI 0))),
    ((r34 10), .inl (κ 0, 1728, .inl (fun _ => iI 0))),
    ((r34 11), .inl (κ 0, 1728, .inl (fun _ => iI 0))),
    (q4, .inr (4, [.ref q5, .ref q6, .int (iI 0)])),
    (q5, .inl (κ 0, 852, .inl (fun _ => iI 0))),
    (q6, .inl (κ 0, 852, .inl (fun _ => iI 0))),
    (q10, .inr (4, [.ref q11, .ref q12, .int (iI 0)])),
    (q11, .inl (κ 0, 852, .inl (fun _ => iI 0))),
    (q12, .inl (κ 0, 852, .inl (fun _ => iI 0))),
    (q16, .inr (4, [.ref q17, .ref q18, .int (iI 0)])),
    (q17, .inl (κ 0, 852, .inl (fun _ => iI 0))),
    (q18, .inl (κ 0, 852, .inl (fun _ => iI 0))),
    (q22, .inr (4, [.ref q23, .ref q24, .int (iI 0)])),
    (q23, .inl (κ 0, 852, .inl (fun _ => iI 0))),
    (q24, .inl (κ 0, 852, .inl (fun _ => iI 0))),
    (q7, .inr (4, [.ref q8, .ref q9, .int (iI 0)])),
    (q8, .inl (κ 0, 852, .inl (fun _ => iI 0))),
    (q9, .inl (κ 0, 852, .inl (fun _ => iI 0))),
    (q13, .inr (4, [.ref q14, .ref q15, .int (iI 0)])),
    (q14, .inl (κ 0, 852, .inl (fun _ => iI 0))),
    (q15, .inl (κ 0, 852, .inl (fun _ => iI 0))),
    (q19, .inr (4, [.ref q20, .ref q21, .int (iI 0)])),
    (q20, .inl (κ 0, 852, .inl (fun _ => iI 0))),
    (q21, .inl (κ 0, 852, .inl (fun _ => iI 0))),
    (q25, .inr (4, [.ref q26, .ref q27, .int (iI 0)])),
    (q26, .inl (κ 0, 852, .inl (fun _ => iI 0))),
    (q27, .inl (κ 0, 852, .inl (fun _ => iI 0)))]) rfl ?_
  refine w_eqc h 12 rfl (cell_cgq (g := fun j => some ((adr [h0, q1, q28, q31, q37, q41, q42, q2, q3, q29, q30, q32, q33, q35, q36, q38, q39, q40, (r34 0), (r34 1), (r34 2), (r34 3), (r34 4), (r34 5), (r34 6), (r34 7), (r34 8), (r34 9), (r34 10), (r34 11), q4, q5, q6, q10, q11, q12, q16, q17, q18, q22, q23, q24, q7, q8, q9, q13, q14, q15, q19, q20, q21, q25, q26, q27]) (18 + j))) (fun j hj => by rcases (show j = 0 ∨ j = 1 ∨ j = 2 ∨ j = 3 ∨ j = 4 ∨ j = 5 ∨ j = 6 ∨ j = 7 ∨ j = 8 ∨ j = 9 ∨ j = 10 ∨ j = 11 by omega) with rfl | rfl | rfl | rfl | rfl | rfl | rfl | rfl | rfl | rfl | rfl | rfl <;> rfl)) (w1 := [(h0, .inr (5, [.ref q1, .ref q28, .ref q31, .ref q37, .ref q41, .ref q42, .int (iI 0), .int (iI 0), .int (iI 0), .int (iI 0)])),
    (q1, .inr (0, [.int (iI 0), .int (iI 2), .ref q2, .ref q3])),
    (q28, .inr (1, [.ref q1, .int (iI 0), .int (iI 500), .ref q29, .ref q30, .long (lI 0), .int (iI 0)])),
    (q31, .inr (3, [.ref q1, .ref q28, .ref q32, .ref q33, .ref q35, .ref q36])),
    (q37, .inr (2, [.ref q38, .ref q39, .ref q40, .int (iI 0)])),
    (q41, .inl (κ 1, 852, .inl (fun _ => iI 0))),
    (q42, .inl (κ 0, 12, .inl (fun _ => iI 0))),
    (q2, .inl (κ 2, 4, .inr (.inr (.inr (.inr (fun j => some ((adr [h0, q1, q28, q31, q37, q41, q42, q2, q3, q29, q30, q32, q33, q35, q36, q38, q39, q40, (r34 0), (r34 1), (r34 2), (r34 3), (r34 4), (r34 5), (r34 6), (r34 7), (r34 8), (r34 9), (r34 10), (r34 11), q4, q5, q6, q10, q11, q12, q16, q17, q18, q22, q23, q24, q7, q8, q9, q13, q14, q15, q19, q20, q21, q25, q26, q27]) (30 + 3 * j)))))))),
    (q3, .inl (κ 2, 4, .inr (.inr (.inr (.inr (fun j => some ((adr [h0, q1, q28, q31, q37, q41, q42, q2, q3, q29, q30, q32, q33, q35, q36, q38, q39, q40, (r34 0), (r34 1), (r34 2), (r34 3), (r34 4), (r34 5), (r34 6), (r34 7), (r34 8), (r34 9), (r34 10), (r34 11), q4, q5, q6, q10, q11, q12, q16, q17, q18, q22, q23, q24, q7, q8, q9, q13, q14, q15, q19, q20, q21, q25, q26, q27]) (42 + 3 * j)))))))),
    (q29, .inl (κ 0, 13, .inl (fun _ => iI 0))),
    (q30, .inl (κ 0, 13, .inl (fun _ => iI 0))),
    (q32, .inl (κ 0, 22464, .inl (fun _ => iI 0))),
    (q33, .inl (κ 3, 12, .inr (.inr (.inr (.inr (fun j => some ((adr [h0, q1, q28, q31, q37, q41, q42, q2, q3, q29, q30, q32, q33, q35, q36, q38, q39, q40, (r34 0), (r34 1), (r34 2), (r34 3), (r34 4), (r34 5), (r34 6), (r34 7), (r34 8), (r34 9), (r34 10), (r34 11), q4, q5, q6, q10, q11, q12, q16, q17, q18, q22, q23, q24, q7, q8, q9, q13, q14, q15, q19, q20, q21, q25, q26, q27]) (18 + j)))))))),
    (q35, .inl (κ 0, 1728, .inl (fun _ => iI 0))),
    (q36, .inl (κ 0, 1728, .inl (fun _ => iI 0))),
    (q38, .inl (κ 0, 12, .inl (fun _ => iI 0))),
    (q39, .inl (κ 0, 12, .inl (fun _ => iI 0))),
    (q40, .inl (κ 0, 12, .inl (fun _ => iI 0))),
    ((r34 0), .inl (κ 0, 1728, .inl (fun _ => iI 0))),
    ((r34 1), .inl (κ 0, 1728, .inl (fun _ => iI 0))),
    ((r34 2), .inl (κ 0, 1728, .inl (fun _ => iI 0))),
    ((r34 3), .inl (κ 0, 1728, .inl (fun _ => iI 0))),
    ((r34 4), .inl (κ 0, 1728, .inl (fun _ => iI 0))),
    ((r34 5), .inl (κ 0, 1728, .inl (fun _ => iI 0))),
    ((r34 6), .inl (κ 0, 1728, .inl (fun _ => iI 0))),
    ((r34 7), .inl (κ 0, 1728, .inl (fun _ => iI 0))),
    ((r34 8), .inl (κ 0, 1728, .inl (fun _ => iI 0))),
    ((r34 9), .inl (κ 0, 1728, .inl (fun _ => iI 0))),
    ((r34 10), .inl (κ 0, 1728, .inl (fun _ => iI 0))),
    ((r34 11), .inl (κ 0, 1728, .inl (fun _ => iI 0))),
    (q4, .inr (4, [.ref q5, .ref q6, .int (iI 0)])),
    (q5, .inl (κ 0, 852, .inl (fun _ => iI 0))),
    (q6, .inl (κ 0, 852, .inl (fun _ => iI 0))),
    (q10, .inr (4, [.ref q11, .ref q12, .int (iI 0)])),
    (q11, .inl (κ 0, 852, .inl (fun _ => iI 0))),
    (q12, .inl (κ 0, 852, .inl (fun _ => iI 0))),
    (q16, .inr (4, [.ref q17, .ref q18, .int (iI 0)])),
    (q17, .inl (κ 0, 852, .inl (fun _ => iI 0))),
    (q18, .inl (κ 0, 852, .inl (fun _ => iI 0))),
    (q22, .inr (4, [.ref q23, .ref q24, .int (iI 0)])),
    (q23, .inl (κ 0, 852, .inl (fun _ => iI 0))),
    (q24, .inl (κ 0, 852, .inl (fun _ => iI 0))),
    (q7, .inr (4, [.ref q8, .ref q9, .int (iI 0)])),
    (q8, .inl (κ 0, 852, .inl (fun _ => iI 0))),
    (q9, .inl (κ 0, 852, .inl (fun _ => iI 0))),
    (q13, .inr (4, [.ref q14, .ref q15, .int (iI 0)])),
    (q14, .inl (κ 0, 852, .inl (fun _ => iI 0))),
    (q15, .inl (κ 0, 852, .inl (fun _ => iI 0))),
    (q19, .inr (4, [.ref q20, .ref q21, .int (iI 0)])),
    (q20, .inl (κ 0, 852, .inl (fun _ => iI 0))),
    (q21, .inl (κ 0, 852, .inl (fun _ => iI 0))),
    (q25, .inr (4, [.ref q26, .ref q27, .int (iI 0)])),
    (q26, .inl (κ 0, 852, .inl (fun _ => iI 0))),
    (q27, .inl (κ 0, 852, .inl (fun _ => iI 0)))]) rfl ?_
  refine WW.equ (u' := (WS κ (adr [h0, q1, q28, q31, q37, q41, q42, q2, q3, q29, q30, q32, q33, q35, q36, q38, q39, q40, (r34 0), (r34 1), (r34 2), (r34 3), (r34 4), (r34 5), (r34 6), (r34 7), (r34 8), (r34 9), (r34 10), (r34 11), q4, q5, q6, q10, q11, q12, q16, q17, q18, q22, q23, q24, q7, q8, q9, q13, q14, q15, q19, q20, q21, q25, q26, q27]) U00, 53, 61279)) rfl ?_
  exact w_vret h rfl dX5_init_97 (Nat.le_of_ble_eq_true rfl) (Nat.le_of_ble_eq_true rfl) ⟨rfl, (adr [h0, q1, q28, q31, q37, q41, q42, q2, q3, q29, q30, q32, q33, q35, q36, q38, q39, q40, (r34 0), (r34 1), (r34 2), (r34 3), (r34 4), (r34 5), (r34 6), (r34 7), (r34 8), (r34 9), (r34 10), (r34 11), q4, q5, q6, q10, q11, q12, q16, q17, q18, q22, q23, q24, q7, q8, q9, q13, q14, q15, q19, q20, q21, q25, q26, q27]), rfl, rfl⟩
