theorem dX6_add_0 : decode cX6_add 0 = .ok (.aload_n 0, 1) := by decide +kernel
theorem dX6_add_1 : decode cX6_add 1 = .ok (.aload_n 1, 1) := by decide +kernel
theorem dX6_add_2 : decode cX6_add 2 = .ok (.invokevirtual 29, 3) := by decide +kernel
theorem dX6_add_5 : decode cX6_add 5 = .ok (.istore_n 3, 1) := by decide +kernel
theorem dX6_add_6 : decode cX6_add 6 = .ok (.iload_n 3, 1) := by decide +kernel
theorem dX6_add_7 : decode cX6_add 7 = .ok (.ifCond .ge 87, 3) := by decide +kernel
theorem dX6_add_10 : decode cX6_add 10 = .ok (.aload_n 0, 1) := by decide +kernel
theorem dX6_add_11 : decode cX6_add 11 = .ok (.getfield 9, 3) := by decide +kernel
theorem dX6_add_14 : decode cX6_add 14 = .ok (.arraylength, 1) := by decide +kernel
theorem dX6_add_15 : decode cX6_add 15 = .ok (.iconst 1, 1) := by decide +kernel
theorem dX6_add_16 : decode cX6_add 16 = .ok (.iadd, 1) := by decide +kernel
theorem dX6_add_17 : decode cX6_add 17 = .ok (.anewarray 7, 3) := by decide +kernel
theorem dX6_add_20 : decode cX6_add 20 = .ok (.astore 4, 2) := by decide +kernel
theorem dX6_add_22 : decode cX6_add 22 = .ok (.aload_n 0, 1) := by decide +kernel
theorem dX6_add_23 : decode cX6_add 23 = .ok (.getfield 9, 3) := by decide +kernel
theorem dX6_add_26 : decode cX6_add 26 = .ok (.arraylength, 1) := by decide +kernel
theorem dX6_add_27 : decode cX6_add 27 = .ok (.iconst 1, 1) := by decide +kernel
theorem dX6_add_28 : decode cX6_add 28 = .ok (.iadd, 1) := by decide +kernel
theorem dX6_add_29 : decode cX6_add 29 = .ok (.newarray .int, 2) := by decide +kernel
theorem dX6_add_31 : decode cX6_add 31 = .ok (.astore 5, 2) := by decide +kernel
theorem dX6_add_33 : decode cX6_add 33 = .ok (.aload_n 0, 1) := by decide +kernel
theorem dX6_add_34 : decode cX6_add 34 = .ok (.getfield 9, 3) := by decide +kernel
theorem dX6_add_37 : decode cX6_add 37 = .ok (.iconst 0, 1) := by decide +kernel
theorem dX6_add_38 : decode cX6_add 38 = .ok (.aload 4, 2) := by decide +kernel
theorem dX6_add_40 : decode cX6_add 40 = .ok (.iconst 0, 1) := by decide +kernel
theorem dX6_add_41 : decode cX6_add 41 = .ok (.aload_n 0, 1) := by decide +kernel
theorem dX6_add_42 : decode cX6_add 42 = .ok (.getfield 9, 3) := by decide +kernel
theorem dX6_add_45 : decode cX6_add 45 = .ok (.arraylength, 1) := by decide +kernel
theorem dX6_add_46 : decode cX6_add 46 = .ok (.invokestatic 33, 3) := by decide +kernel
theorem dX6_add_49 : decode cX6_add 49 = .ok (.aload_n 0, 1) := by decide +kernel
theorem dX6_add_50 : decode cX6_add 50 = .ok (.getfield 15, 3) := by decide +kernel
theorem dX6_add_53 : decode cX6_add 53 = .ok (.iconst 0, 1) := by decide +kernel
theorem dX6_add_54 : decode cX6_add 54 = .ok (.aload 5, 2) := by decide +kernel
theorem dX6_add_56 : decode cX6_add 56 = .ok (.iconst 0, 1) := by decide +kernel
theorem dX6_add_57 : decode cX6_add 57 = .ok (.aload_n 0, 1) := by decide +kernel
theorem dX6_add_58 : decode cX6_add 58 = .ok (.getfield 9, 3) := by decide +kernel
theorem dX6_add_61 : decode cX6_add 61 = .ok (.arraylength, 1) := by decide +kernel
theorem dX6_add_62 : decode cX6_add 62 = .ok (.invokestatic 33, 3) := by decide +kernel
theorem dX6_add_65 : decode cX6_add 65 = .ok (.aload 4, 2) := by decide +kernel
theorem dX6_add_67 : decode cX6_add 67 = .ok (.aload_n 0, 1) := by decide +kernel
theorem dX6_add_68 : decode cX6_add 68 = .ok (.getfield 9, 3) := by decide +kernel
theorem dX6_add_71 : decode cX6_add 71 = .ok (.arraylength, 1) := by decide +kernel
theorem dX6_add_72 : decode cX6_add 72 = .ok (.aload_n 1, 1) := by decide +kernel
theorem dX6_add_73 : decode cX6_add 73 = .ok (.aastore, 1) := by decide +kernel
theorem dX6_add_74 : decode cX6_add 74 = .ok (.aload_n 0, 1) := by decide +kernel
theorem dX6_add_75 : decode cX6_add 75 = .ok (.aload 4, 2) := by decide +kernel
theorem dX6_add_77 : decode cX6_add 77 = .ok (.putfield 9, 3) := by decide +kernel
theorem dX6_add_80 : decode cX6_add 80 = .ok (.aload_n 0, 1) := by decide +kernel
theorem dX6_add_81 : decode cX6_add 81 = .ok (.aload 5, 2) := by decide +kernel
theorem dX6_add_83 : decode cX6_add 83 = .ok (.putfield 15, 3) := by decide +kernel
theorem dX6_add_86 : decode cX6_add 86 = .ok (.aload_n 0, 1) := by decide +kernel
theorem dX6_add_87 : decode cX6_add 87 = .ok (.getfield 9, 3) := by decide +kernel
theorem dX6_add_90 : decode cX6_add 90 = .ok (.arraylength, 1) := by decide +kernel
theorem dX6_add_91 : decode cX6_add 91 = .ok (.iconst 1, 1) := by decide +kernel
theorem dX6_add_92 : decode cX6_add 92 = .ok (.isub, 1) := by decide +kernel
theorem dX6_add_93 : decode cX6_add 93 = .ok (.istore_n 3, 1) := by decide +kernel
theorem dX6_add_94 : decode cX6_add 94 = .ok (.aload_n 0, 1) := by decide +kernel
theorem dX6_add_95 : decode cX6_add 95 = .ok (.getfield 15, 3) := by decide +kernel
theorem dX6_add_98 : decode cX6_add 98 = .ok (.iload_n 3, 1) := by decide +kernel
theorem dX6_add_99 : decode cX6_add 99 = .ok (.dup2, 1) := by decide +kernel
theorem dX6_add_100 : decode cX6_add 100 = .ok (.iaload, 1) := by decide +kernel
theorem dX6_add_101 : decode cX6_add 101 = .ok (.iload_n 2, 1) := by decide +kernel
theorem dX6_add_102 : decode cX6_add 102 = .ok (.iadd, 1) := by decide +kernel
theorem dX6_add_103 : decode cX6_add 103 = .ok (.iastore, 1) := by decide +kernel
theorem dX6_add_104 : decode cX6_add 104 = .ok (.return_, 1) := by decide +kernel
theorem dX6_learn_0 : decode cX6_learn 0 = .ok (.iconst 1, 1) := by decide +kernel
theorem dX6_learn_1 : decode cX6_learn 1 = .ok (.istore 4, 2) := by decide +kernel
theorem dX6_learn_3 : decode cX6_learn 3 = .ok (.iload 4, 2) := by decide +kernel
theorem dX6_learn_5 : decode cX6_learn 5 = .ok (.aload_n 0, 1) := by decide +kernel
theorem dX6_learn_6 : decode cX6_learn 6 = .ok (.getfield 22, 3) := by decide +kernel
theorem dX6_learn_9 : decode cX6_learn 9 = .ok (.if_icmp .gt 39, 3) := by decide +kernel
theorem dX6_learn_12 : decode cX6_learn 12 = .ok (.iconst 0, 1) := by decide +kernel
theorem dX6_learn_13 : decode cX6_learn 13 = .ok (.istore 5, 2) := by decide +kernel
theorem dX6_learn_15 : decode cX6_learn 15 = .ok (.iload 5, 2) := by decide +kernel
theorem dX6_learn_17 : decode cX6_learn 17 = .ok (.iload_n 2, 1) := by decide +kernel
theorem dX6_learn_18 : decode cX6_learn 18 = .ok (.if_icmp .gt 24, 3) := by decide +kernel
theorem dX6_learn_21 : decode cX6_learn 21 = .ok (.aload_n 0, 1) := by decide +kernel
theorem dX6_learn_22 : decode cX6_learn 22 = .ok (.aload_n 0, 1) := by decide +kernel
theorem dX6_learn_23 : decode cX6_learn 23 = .ok (.aload_n 1, 1) := by decide +kernel
theorem dX6_learn_24 : decode cX6_learn 24 = .ok (.iload_n 2, 1) := by decide +kernel
theorem dX6_learn_25 : decode cX6_learn 25 = .ok (.iload 5, 2) := by decide +kernel
theorem dX6_learn_27 : decode cX6_learn 27 = .ok (.iload 4, 2) := by decide +kernel
theorem dX6_learn_29 : decode cX6_learn 29 = .ok (.invokevirtual 39, 3) := by decide +kernel
theorem dX6_learn_32 : decode cX6_learn 32 = .ok (.iload_n 3, 1) := by decide +kernel
theorem dX6_learn_33 : decode cX6_learn 33 = .ok (.invokevirtual 43, 3) := by decide +kernel
theorem dX6_learn_36 : decode cX6_learn 36 = .ok (.iinc 5 1, 3) := by decide +kernel
theorem dX6_learn_39 : decode cX6_learn 39 = .ok (.goto (-24), 3) := by decide +kernel
theorem dX6_learn_42 : decode cX6_learn 42 = .ok (.iinc 4 1, 3) := by decide +kernel
theorem dX6_learn_45 : decode cX6_learn 45 = .ok (.goto (-42), 3) := by decide +kernel
theorem dX6_learn_48 : decode cX6_learn 48 = .ok (.return_, 1) := by decide +kernel
set_option maxHeartbeats 4000000 in
set_option maxRecDepth 100000 in
theorem mX6_add (l : Launch) (D : va_G) (κ : Nat → Nat) (ε : EE) (W : va_W) (b V N B y m c : Nat) (g : Nat → Int32) (hO : OwnOk κ b V N B W) (hB : B ≤ 90) (hy9 : (y, (.inl (κ 0, m, .inl g) : va_E)) ∈ W) (hm : m < 1000) : Ct Wd l D κ ε yX6_add cX6_add 6 none 2 60 2 200 (W, 0, 0) [.ref b, .ref y, .int (iI (c : Int))] (fun v u' => v = none ∧ ∃ W' : va_W, OwnOk κ b V N (B + 1) W' ∧ u' = (W', 2, 200)) := by
  obtain ⟨r, t, n, f, g1, h0, h1, h2, h3, h4⟩ := hO
  obtain ⟨i0, hb⟩ := List.getElem?_of_mem h1
  obtain ⟨i1, hr⟩ := List.getElem?_of_mem h2
  obtain ⟨i2, ht⟩ := List.getElem?_of_mem h3
  obtain ⟨j0, hy⟩ := List.getElem?_of_mem hy9
  have hel : ∀ j, j < n → ∃ (z m : Nat) (h : Nat → Int32), m < 1000 ∧ f j = some z ∧ ∃ k : Nat, W[k]? = some (z, .inl (κ 0, m, .inl h)) := fun j hj => by
    obtain ⟨z, m, h, e0, e1, e2⟩ := h4 j hj
    obtain ⟨k, hk⟩ := List.getElem?_of_mem e2
    exact ⟨z, m, h, e0, e1, k, hk⟩
  refine Ct.of (own := RX6) rfl (by decide +kernel) (Nat.le_of_ble_eq_true rfl) rfl (fun Γ h => ?_)
  refine w_aload_n h (pc := 0) dX6_add_0 rfl ?_
  refine w_aload_n h (pc := 1) dX6_add_1 rfl ?_
  refine w_fV1 h (pc := 2) (mX6_find l D κ ε W i0 i1 j0 b r n y m _ _ _ f g hb hr (by omega) hel hy hm) (wr := []) (List.Perm.refl _) i0 hb rfl (gdV wm_237 wm_238 wm_239 wm_89 wm_240) (by decide +kernel) ⟨(Nat.le_of_ble_eq_true rfl), (Nat.le_of_ble_eq_true rfl)⟩ ⟨(Nat.le_of_ble_eq_true rfl), (Nat.le_of_ble_eq_true rfl)⟩ (Nat.le_of_ble_eq_true rfl) dX6_add_2 (fun v1 u1 hp1 => ?_)
  obtain ⟨⟨z1, hz1, hz2, rfl⟩, rfl⟩ := hp1
  refine WW.equ (u' := (W, 0, 0)) rfl ?_
  simp only [Option.toList_some, List.cons_append, List.nil_append]
  refine w_istore_n h (pc := 5) dX6_add_5 (by decide) ?_
  have jn94 : ∀ (W1 : va_W) (n1 k0 k2 t1 : Nat) (r9 : Value) (g9 : Nat → Int32) (z : Int), 0 ≤ z → z < (n1 : Int) → n1 < 1000 → W1[k0]? = some (b, .inr (6, [.int (iI (V : Int)), .int (iI (N : Int)), r9, .ref t1])) → W1[k2]? = some (t1, .inl (κ 0, n1, .inl g9)) → (∀ g' : Nat → Int32, OwnOk κ b V N (B + 1) (W1.set k2 (t1, .inl (κ 0, n1, .inl g')))) → WW Γ 6 (W1, 2, 200) 94 [(0, .ref b), (2, .int (iI (c : Int))), (3, .int (iI z))] [] := by
    intro W1 n1 k0 k2 t1 r9 g9 z hz3 hz4 hn1 hk0 hk2 hfin9
    refine w_aload_n h (pc := 94) dX6_add_94 rfl ?_
    refine w_get h (pc := 95) wi_X6 k0 hk0 rfl 3 (by decide) wm_104 rfl (v := .ref t1) rfl dX6_add_95 ?_
    refine w_iload_n h (pc := 98) dX6_add_98 rfl ?_
    refine w_dup2 h (pc := 99) dX6_add_99 rfl rfl ?_
    refine w_iald h (pc := 100) k2 hk2 ⟨by omega, by omega⟩ (by omega) rfl dX6_add_100 ?_
    obtain ⟨z2, e2, g3, g4⟩ := iI_rg (g9 z.toNat)
    rw [e2]
    refine w_iload_n h (pc := 101) dX6_add_101 rfl ?_
    refine w_iadd h (pc := 102) dX6_add_102 ?_
    refine w_iast h (pc := 103) k2 hk2 ⟨by omega, by omega⟩ (by omega) dX6_add_103 (W1.set k2 (t1, .inl (κ 0, n1, .inl _)), 2, 200) rfl rfl ?_
    exact w_vret h (pc := 104) rfl dX6_add_104 (Nat.le_of_ble_eq_true rfl) (Nat.le_of_ble_eq_true rfl) ⟨rfl, _, hfin9 _, rfl⟩
  refine w_iload_n h (pc := 6) dX6_add_6 rfl ?_
  refine w_if_ge h (pc := 7) (tgt := 94) dX6_add_7 (by decide) (by omega) (fun c7 => ?_) (fun c7 => ?_)
  · first
    | exact w_cnt h (Nat.zero_le _) (Nat.zero_le _) (WW.sub (by rfl) (jn94 W n i0 i2 t _ g1 z1 c7 hz2 (by omega) hb ht (fun g' => (Own_times h0 (by omega) hb hr ht hel g').more (by omega))))
    | exact WW.sub (by rfl) (jn94 _ (n + 1) i0 (W4.length + 1) q5 _ _ ((n : Int) + 1 - 1) (by omega) (by omega) (by omega) (gl hb4) g5 (fun g' => Own_grow h0 hb hel hy hm hW4 g'))
  · refine w_aload_n h (pc := 10) dX6_add_10 rfl ?_
    refine w_get h (pc := 11) wi_X6 i0 hb rfl 2 (by decide) wm_103 rfl (v := .ref r) rfl dX6_add_11 ?_
    refine w_alen h (pc := 14) i1 3 hr rfl dX6_add_14 ?_
    refine WW.eqs (st' := [.int (iI (n : Int))]) rfl ?_
    refine w_iconst h (pc := 15) dX6_add_15 ?_
    refine w_iadd h (pc := 16) dX6_add_16 ?_
    refine w_newr h (pc := 17) wm_102 (N' := n + 1) rfl (by omega) (Nat.le_of_ble_eq_true rfl) (by show 0 + (n + 1) ≤ 200; omega) dX6_add_17 (fun q4 => ?_)
    refine w_cnt h (c8 := 1) (s8 := 100) (Nat.le_refl _) (by omega) ?_
    refine w_astore h (pc := 20) dX6_add_20 (by decide) ?_
    refine w_aload_n h (pc := 22) dX6_add_22 rfl ?_
    refine w_get h (pc := 23) wi_X6 i0 (gl hb) rfl 2 (by decide) wm_103 rfl (v := .ref r) rfl dX6_add_23 ?_
    refine w_alen h (pc := 26) i1 3 (gl hr) rfl dX6_add_26 ?_
    refine WW.eqs (st' := [.int (iI (n : Int))]) rfl ?_
    refine w_iconst h (pc := 27) dX6_add_27 ?_
    refine w_iadd h (pc := 28) dX6_add_28 ?_
    refine w_newa h (pc := 29) (ty := .int) rfl wm_31 (t0 := 0) rfl (N' := n + 1) rfl (by omega) (a0 := (n + 1, .inl (fun _ => iI 0))) (fun _ => rfl) (by decide) (Nat.le_of_ble_eq_true rfl) (by show 100 + (n + 1) ≤ 200; omega) dX6_add_29 (fun q5 => ?_)
    refine w_cnt h (c8 := 2) (s8 := 200) (Nat.le_refl _) (by omega) ?_
    refine WW.equ (u' := (W ++ [(q4, .inl (κ 3, n + 1, .inr (.inr (.inr (.inr (fun _ => none)))))), (q5, .inl (κ 0, n + 1, .inl (fun _ => iI 0)))], 2, 200)) (by rw [List.append_assoc]; rfl) ?_
    refine w_astore h (pc := 31) dX6_add_31 (by decide) ?_
    refine w_aload_n h (pc := 33) dX6_add_33 rfl ?_
    refine w_get h (pc := 34) wi_X6 i0 (gl hb) rfl 2 (by decide) wm_103 rfl (v := .ref r) rfl dX6_add_34 ?_
    refine w_iconst h (pc := 37) dX6_add_37 ?_
    refine w_aload h (pc := 38) dX6_add_38 rfl ?_
    refine w_iconst h (pc := 40) dX6_add_40 ?_
    refine w_aload_n h (pc := 41) dX6_add_41 rfl ?_
    refine w_get h (pc := 42) wi_X6 i0 (gl hb) rfl 2 (by decide) wm_103 rfl (v := .ref r) rfl dX6_add_42 ?_
    refine w_alen h (pc := 45) i1 3 (gl hr) rfl dX6_add_45 ?_
    refine WW.eqs (st' := [.int (iI (n : Int)), .int (iI 0), .ref q4, .int (iI 0), .ref r]) rfl ?_
    refine w_copyr h (pc := 46) wm_236 wm_189 wm_190 wm_191 i1 W.length (gl hr) g4 (Nat.le_refl _) (by omega) (by omega) (fun i hi z hz => by
      obtain ⟨z9, m9, h9, -, e1, k9, hk9⟩ := hel i hi
      rw [e1] at hz
      cases hz
      exact ⟨k9, m9, h9, gl hk9⟩) (Nat.le_of_ble_eq_true rfl) (Nat.le_of_ble_eq_true rfl) dX6_add_46 ?_
    rw [s4]
    refine w_aload_n h (pc := 49) dX6_add_49 rfl ?_
    refine w_get h (pc := 50) wi_X6 i0 (gl hb) rfl 3 (by decide) wm_104 rfl (v := .ref t) rfl dX6_add_50 ?_
    refine w_iconst h (pc := 53) dX6_add_53 ?_
    refine w_aload h (pc := 54) dX6_add_54 rfl ?_
    refine w_iconst h (pc := 56) dX6_add_56 ?_
    refine w_aload_n h (pc := 57) dX6_add_57 rfl ?_
    refine w_get h (pc := 58) wi_X6 i0 (gl hb) rfl 2 (by decide) wm_103 rfl (v := .ref r) rfl dX6_add_58 ?_
    refine w_alen h (pc := 61) i1 3 (gl hr) rfl dX6_add_61 ?_
    refine WW.eqs (st' := [.int (iI (n : Int)), .int (iI 0), .ref q5, .int (iI 0), .ref t]) rfl ?_
    refine w_copy h (pc := 62) wm_236 wm_189 wm_190 wm_191 i2 (W.length + 1) (gl ht) g5 (sp := 0) (dp := 0) (n := (n : Int)) ⟨by omega, by omega⟩ ⟨by omega, by omega⟩ ⟨by omega, by omega⟩ (by omega) (by omega) (Nat.le_of_ble_eq_true rfl) (Nat.le_of_ble_eq_true rfl) dX6_add_62 (W ++ [(q4, .inl (κ 3, n + 1, .inr (.inr (.inr (.inr (va_cpy f (fun _ => none) 0 0 n)))))), (q5, .inl (κ 0, n + 1, .inl (_)))], 2, 200) s5 rfl ?_
    refine w_aload h (pc := 65) dX6_add_65 rfl ?_
    refine w_aload_n h (pc := 67) dX6_add_67 rfl ?_
    refine w_get h (pc := 68) wi_X6 i0 (gl hb) rfl 2 (by decide) wm_103 rfl (v := .ref r) rfl dX6_add_68 ?_
    refine w_alen h (pc := 71) i1 3 (gl hr) rfl dX6_add_71 ?_
    refine WW.eqs (st' := [.int (iI (n : Int)), .ref q4]) rfl ?_
    refine w_aload_n h (pc := 72) dX6_add_72 rfl ?_
    refine w_rast h (pc := 73) W.length j0 g4 (gl hy) (i := (n : Int)) ⟨by omega, by omega⟩ (by omega) dX6_add_73 ?_
    rw [s4, Int.toNat_natCast]
    refine w_aload_n h (pc := 74) dX6_add_74 rfl ?_
    refine w_aload h (pc := 75) dX6_add_75 rfl ?_
    refine w_putD h (pc := 77) wi_X6 tyX6 tyX6_ok nmX6 i0 (gl hb) rfl 2 (by decide) wm_103 rfl rfl (ty := tyX6 2) (by decide +kernel) rfl rfl (Nat.le_of_ble_eq_true rfl) dX6_add_77 ?_
    obtain ⟨W3, hW3⟩ : ∃ W3, W3 = W.set i0 (b, .inr (6, [.int (iI (V : Int)), .int (iI (N : Int)), .ref q4, .ref t])) := ⟨_, rfl⟩
    rw [List.set_append_left _ _ (List.getElem?_eq_some_iff.mp hb).1, show W.set i0 (b, (.inr (6, List.set [.int (iI (V : Int)), .int (iI (N : Int)), .ref r, .ref t] 2 (.ref q4)) : va_E)) = W3 from hW3.symm]
    have hb3 : W3[i0]? = some (b, .inr (6, [.int (iI (V : Int)), .int (iI (N : Int)), .ref q4, .ref t])) := by rw [hW3]; exact List.getElem?_set_self (List.getElem?_eq_some_iff.mp hb).1
    refine w_aload_n h (pc := 80) dX6_add_80 rfl ?_
    refine w_aload h (pc := 81) dX6_add_81 rfl ?_
    refine w_putD h (pc := 83) wi_X6 tyX6 tyX6_ok nmX6 i0 (gl hb3) rfl 3 (by decide) wm_104 rfl rfl (ty := tyX6 3) (by decide +kernel) rfl rfl (Nat.le_of_ble_eq_true rfl) dX6_add_83 ?_
    obtain ⟨W4, hW4⟩ : ∃ W4, W4 = W.set i0 (b, .inr (6, [.int (iI (V : Int)), .int (iI (N : Int)), .ref q4, .ref q5])) := ⟨_, rfl⟩
    have hW5 : W3.set i0 (b, (.inr (6, List.set [.int (iI (V : Int)), .int (iI (N : Int)), .ref q4, .ref t] 3 (.ref q5)) : va_E)) = W4 := by rw [hW3, hW4, List.set_set]; rfl
    rw [List.set_append_left _ _ (List.getElem?_eq_some_iff.mp hb3).1, hW5]
    have hb4 : W4[i0]? = some (b, .inr (6, [.int (iI (V : Int)), .int (iI (N : Int)), .ref q4, .ref q5])) := by rw [hW4]; exact List.getElem?_set_self (List.getElem?_eq_some_iff.mp hb).1
    refine w_aload_n h (pc := 86) dX6_add_86 rfl ?_
    refine w_get h (pc := 87) wi_X6 i0 (gl hb4) rfl 2 (by decide) wm_103 rfl (v := .ref q4) rfl dX6_add_87 ?_
    refine w_alen h (pc := 90) W4.length 3 g4 rfl dX6_add_90 ?_
    refine WW.eqs (st' := [.int (iI ((n : Int) + 1))]) rfl ?_
    refine w_iconst h (pc := 91) dX6_add_91 ?_
    refine w_isub h (pc := 92) dX6_add_92 ?_
    refine w_istore_n h (pc := 93) dX6_add_93 (by decide) ?_
    first
    | exact w_cnt h (Nat.zero_le _) (Nat.zero_le _) (WW.sub (by rfl) (jn94 W n i0 i2 t _ g1 z1 c7 hz2 (by omega) hb ht (fun g' => (Own_times h0 (by omega) hb hr ht hel g').more (by omega))))
    | exact WW.sub (by rfl) (jn94 _ (n + 1) i0 (W4.length + 1) q5 _ _ ((n : Int) + 1 - 1) (by omega) (by omega) (by omega) (gl hb4) g5 (fun g' => Own_grow h0 hb hel hy hm hW4 g'))

set_option maxHeartbeats 4000000 in
set_option maxRecDepth 100000 in
theorem mX6_learn (l : Launch) (D : va_G) (κ : Nat → Nat) (ε : EE) (W : va_W) (b V N B y m len c : Nat) (f : Nat → Int32) (hO : OwnOk κ b V N B W) (hN : N ≤ 4) (hB : B + 28 ≤ 90) (hm : m < 1000) (hl : len ≤ m) (hl6 : len ≤ 6) : Ct Wd l D κ ε yX6_learn cX6_learn 6 none 3 85 84 5712 ([(y, .inl (κ 0, m, .inl f))] ++ W, 0, 0) [.ref b, .ref y, .int (iI (len : Int)), .int (iI (c : Int))] (fun v u' => v = none ∧ ∃ (W' : va_W) (n2 : Nat × Nat), OwnOk κ b V N (B + 28) W' ∧ u' = ([(y, .inl (κ 0, m, .inl f))] ++ W', n2)) := by
  refine Ct.of (own := RX6) rfl (by decide +kernel) (Nat.le_of_ble_eq_true rfl) rfl (fun Γ h => ?_)
  refine w_iconst h (pc := 0) dX6_learn_0 ?_
  refine w_istore h (pc := 1) dX6_learn_1 (by decide) ?_
  have lp3 : ∀ (n9 k : Nat) (W1 : va_W), N < k + n9 → k ≤ N → OwnOk κ b V N (B + 7 * k) W1 → WW Γ 6 ([(y, .inl (κ 0, m, .inl f))] ++ W1, 21 * k, 1428 * k) 3 [(0, .ref b), (1, .ref y), (2, .int (iI (len : Int))), (3, .int (iI (c : Int))), (4, .int (iI ((k : Int) + 1)))] [] := by
    intro n9
    induction n9 with
    | zero => intro k W1 hn9 hk hO1; exfalso; omega
    | succ n9 ih =>
      intro k W1 hn9 hk hO1
      have ihk := ih
      refine w_iload h (pc := 3) dX6_learn_3 rfl ?_
      refine w_aload_n h (pc := 5) dX6_learn_5 rfl ?_
      obtain ⟨q0, p3, p4, hq0⟩ := Own_at hO1
      refine w_get h (pc := 6) wi_X6 (q0 + 1) (show ([(y, .inl (κ 0, m, .inl f))] ++ W1)[q0 + 1]? = _ from hq0) rfl 1 (by decide) wm_106 rfl (v := .int (iI (N : Int))) rfl dX6_learn_6 ?_
      refine w_icmp_gt h (pc := 9) (tgt := 48) dX6_learn_9 (by decide) (by omega) (by omega) (fun c9 => ?_) (fun c9 => ?_)
      · exact w_vret h (pc := 48) rfl dX6_learn_48 (by show 21 * k ≤ 84; omega) (by show 1428 * k ≤ 5712; omega) ⟨rfl, _, _, hO1.more (by omega), rfl⟩
      · refine w_iconst h (pc := 12) dX6_learn_12 ?_
        refine w_istore h (pc := 13) dX6_learn_13 (by decide) ?_
        have lp15 : ∀ (n9 j : Nat) (W2 : va_W), len + 1 < j + n9 → j ≤ len + 1 → OwnOk κ b V N (B + 7 * k + j) W2 → WW Γ 6 ([(y, .inl (κ 0, m, .inl f))] ++ W2, 21 * k + 3 * j, 1428 * k + 204 * j) 15 [(0, .ref b), (1, .ref y), (2, .int (iI (len : Int))), (3, .int (iI (c : Int))), (4, .int (iI ((k : Int) + 1))), (5, .int (iI (j : Int)))] [] := by
          intro n9
          induction n9 with
          | zero => intro j W2 hn8 hj hO2; exfalso; omega
          | succ n9 ih =>
            intro j W2 hn8 hj hO2
            refine w_iload h (pc := 15) dX6_learn_15 rfl ?_
            refine w_iload_n h (pc := 17) dX6_learn_17 rfl ?_
            refine w_icmp_gt h (pc := 18) (tgt := 42) dX6_learn_18 (by decide) (by omega) (by omega) (fun c18 => ?_) (fun c18 => ?_)
            · refine w_iinc h (pc := 42) dX6_learn_42 rfl (by decide) ?_
              refine w_goto h (pc := 45) (tgt := 3) dX6_learn_45 (by decide) ?_
              refine w_cnt h (c8 := 21 * (k + 1)) (s8 := 1428 * (k + 1)) (by omega) (by omega) ?_
              exact WW.sub (by rfl) (ihk (k + 1) W2 (by omega) (by omega) (hO2.more (by omega)))
            · refine w_aload_n h (pc := 21) dX6_learn_21 rfl ?_
              refine w_aload_n h (pc := 22) dX6_learn_22 rfl ?_
              refine w_aload_n h (pc := 23) dX6_learn_23 rfl ?_
              refine w_iload_n h (pc := 24) dX6_learn_24 rfl ?_
              refine w_iload h (pc := 25) dX6_learn_25 rfl ?_
              refine w_iload h (pc := 27) dX6_learn_27 rfl ?_
              obtain ⟨q1, p5, p6, hq1⟩ := Own_at hO2
              refine w_fV4 h (pc := 29) (mX6_row l D κ ε ([(y, .inl (κ 0, m, .inl f))] ++ W2) (q1 + 1) 0 b y m len j (k + 1) (V : Int) _ _ _ f (show ([(y, .inl (κ 0, m, .inl f))] ++ W2)[q1 + 1]? = _ from hq1) rfl hm hl (by omega) (by omega)) (wr := []) (List.Perm.refl _) (q1 + 1) hq1 rfl (gdV wm_228 wm_229 wm_230 wm_89 wm_231) (by decide +kernel) ⟨(Nat.le_of_ble_eq_true rfl), (Nat.le_of_ble_eq_true rfl)⟩ ⟨by show 21 * k + 3 * j + 1 ≤ 84; omega, by show 1428 * k + 204 * j + 4 ≤ 5712; omega⟩ (Nat.le_of_ble_eq_true rfl) dX6_learn_29 (fun v1 u1 hp1 => ?_)
              obtain ⟨x9, g9, rfl, rfl⟩ := hp1
              simp only [Option.toList_some, List.cons_append, List.nil_append]
              refine w_iload_n h (pc := 32) dX6_learn_32 rfl ?_
              refine w_fV2 h (pc := 33) (mX6_add l D κ ε (W2 ++ [(x9, .inl (κ 0, k + 1, .inl g9))]) b V N (B + 7 * k + j) x9 (k + 1) c g9 (hO2.mono (fun q hq => List.mem_append_left _ hq)) (by omega) (List.mem_append_right _ List.mem_cons_self) (by omega)) (wr := [(y, .inl (κ 0, m, .inl f))]) (List.Perm.refl _) q1 (gl hq1) rfl (gdV wm_232 wm_233 wm_234 wm_89 wm_235) (by decide +kernel) ⟨(Nat.le_of_ble_eq_true rfl), (Nat.le_of_ble_eq_true rfl)⟩ ⟨by show 21 * k + 3 * j + 1 + 2 ≤ 84; omega, by show 1428 * k + 204 * j + 4 + 200 ≤ 5712; omega⟩ (Nat.le_of_ble_eq_true rfl) dX6_learn_33 (fun v2 u2 hp2 => ?_)
              obtain ⟨rfl, W3, hO3, rfl⟩ := hp2
              simp only [Option.toList_none, List.nil_append]
              refine w_iinc h (pc := 36) dX6_learn_36 rfl (by decide) ?_
              refine w_goto h (pc := 39) (tgt := 15) dX6_learn_39 (by decide) ?_
              refine w_cnt h (c8 := 21 * k + 3 * (j + 1)) (s8 := 1428 * k + 204 * (j + 1)) (by omega) (by omega) ?_
              exact WW.sub (by rfl) (ih (j + 1) W3 (by omega) (by omega) (hO3.more (by omega)))
        exact WW.sub (by rfl) (lp15 (len + 2) 0 W1 (by omega) (by omega) (hO1.more (by omega)))
  exact WW.sub (by rfl) (lp3 (N + 1) 0 W (by omega) (by omega) hO)
