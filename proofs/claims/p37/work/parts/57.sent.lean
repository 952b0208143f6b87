theorem dL_sentence_0 : decode cL_sentence 0 = .ok (.aload_n 0, 1) := by decide +kernel
theorem dL_sentence_1 : decode cL_sentence 1 = .ok (.invokevirtual 44, 3) := by decide +kernel
theorem dL_sentence_4 : decode cL_sentence 4 = .ok (.pop, 1) := by decide +kernel
theorem dL_sentence_5 : decode cL_sentence 5 = .ok (.aload_n 1, 1) := by decide +kernel
theorem dL_sentence_6 : decode cL_sentence 6 = .ok (.iload_n 2, 1) := by decide +kernel
theorem dL_sentence_7 : decode cL_sentence 7 = .ok (.invokestatic 9, 3) := by decide +kernel
theorem dL_sentence_10 : decode cL_sentence 10 = .ok (.bipush 7, 2) := by decide +kernel
theorem dL_sentence_12 : decode cL_sentence 12 = .ok (.invokestatic 15, 3) := by decide +kernel
theorem dL_sentence_15 : decode cL_sentence 15 = .ok (.newarray .int, 2) := by decide +kernel
theorem dL_sentence_17 : decode cL_sentence 17 = .ok (.astore 4, 2) := by decide +kernel
theorem dL_sentence_19 : decode cL_sentence 19 = .ok (.iconst 0, 1) := by decide +kernel
theorem dL_sentence_20 : decode cL_sentence 20 = .ok (.istore 5, 2) := by decide +kernel
theorem dL_sentence_22 : decode cL_sentence 22 = .ok (.iload 5, 2) := by decide +kernel
theorem dL_sentence_24 : decode cL_sentence 24 = .ok (.aload 4, 2) := by decide +kernel
theorem dL_sentence_26 : decode cL_sentence 26 = .ok (.arraylength, 1) := by decide +kernel
theorem dL_sentence_27 : decode cL_sentence 27 = .ok (.if_icmp .ge 41, 3) := by decide +kernel
theorem dL_sentence_30 : decode cL_sentence 30 = .ok (.aload 4, 2) := by decide +kernel
theorem dL_sentence_32 : decode cL_sentence 32 = .ok (.iload 5, 2) := by decide +kernel
theorem dL_sentence_34 : decode cL_sentence 34 = .ok (.aload_n 1, 1) := by decide +kernel
theorem dL_sentence_35 : decode cL_sentence 35 = .ok (.iload_n 2, 1) := by decide +kernel
theorem dL_sentence_36 : decode cL_sentence 36 = .ok (.invokestatic 9, 3) := by decide +kernel
theorem dL_sentence_39 : decode cL_sentence 39 = .ok (.iload 5, 2) := by decide +kernel
theorem dL_sentence_41 : decode cL_sentence 41 = .ok (.ishr, 1) := by decide +kernel
theorem dL_sentence_42 : decode cL_sentence 42 = .ok (.iconst 3, 1) := by decide +kernel
theorem dL_sentence_43 : decode cL_sentence 43 = .ok (.iload 5, 2) := by decide +kernel
theorem dL_sentence_45 : decode cL_sentence 45 = .ok (.imul, 1) := by decide +kernel
theorem dL_sentence_46 : decode cL_sentence 46 = .ok (.iadd, 1) := by decide +kernel
theorem dL_sentence_47 : decode cL_sentence 47 = .ok (.iload_n 3, 1) := by decide +kernel
theorem dL_sentence_48 : decode cL_sentence 48 = .ok (.invokestatic 15, 3) := by decide +kernel
theorem dL_sentence_51 : decode cL_sentence 51 = .ok (.iastore, 1) := by decide +kernel
theorem dL_sentence_52 : decode cL_sentence 52 = .ok (.aload_n 0, 1) := by decide +kernel
theorem dL_sentence_53 : decode cL_sentence 53 = .ok (.aload 4, 2) := by decide +kernel
theorem dL_sentence_55 : decode cL_sentence 55 = .ok (.iload 5, 2) := by decide +kernel
theorem dL_sentence_57 : decode cL_sentence 57 = .ok (.iaload, 1) := by decide +kernel
theorem dL_sentence_58 : decode cL_sentence 58 = .ok (.invokevirtual 47, 3) := by decide +kernel
theorem dL_sentence_61 : decode cL_sentence 61 = .ok (.pop, 1) := by decide +kernel
theorem dL_sentence_62 : decode cL_sentence 62 = .ok (.iinc 5 1, 3) := by decide +kernel
theorem dL_sentence_65 : decode cL_sentence 65 = .ok (.goto (-43), 3) := by decide +kernel
theorem dL_sentence_68 : decode cL_sentence 68 = .ok (.aload 4, 2) := by decide +kernel
theorem dL_sentence_70 : decode cL_sentence 70 = .ok (.areturn, 1) := by decide +kernel
theorem dX6_init_0 : decode cX6_init 0 = .ok (.aload_n 0, 1) := by decide +kernel
theorem dX6_init_1 : decode cX6_init 1 = .ok (.invokespecial 1, 3) := by decide +kernel
theorem dX6_init_4 : decode cX6_init 4 = .ok (.aload_n 0, 1) := by decide +kernel
theorem dX6_init_5 : decode cX6_init 5 = .ok (.iconst 0, 1) := by decide +kernel
theorem dX6_init_6 : decode cX6_init 6 = .ok (.anewarray 7, 3) := by decide +kernel
theorem dX6_init_9 : decode cX6_init 9 = .ok (.putfield 9, 3) := by decide +kernel
theorem dX6_init_12 : decode cX6_init 12 = .ok (.aload_n 0, 1) := by decide +kernel
theorem dX6_init_13 : decode cX6_init 13 = .ok (.iconst 0, 1) := by decide +kernel
theorem dX6_init_14 : decode cX6_init 14 = .ok (.newarray .int, 2) := by decide +kernel
theorem dX6_init_16 : decode cX6_init 16 = .ok (.putfield 15, 3) := by decide +kernel
theorem dX6_init_19 : decode cX6_init 19 = .ok (.aload_n 0, 1) := by decide +kernel
theorem dX6_init_20 : decode cX6_init 20 = .ok (.iload_n 1, 1) := by decide +kernel
theorem dX6_init_21 : decode cX6_init 21 = .ok (.putfield 18, 3) := by decide +kernel
theorem dX6_init_24 : decode cX6_init 24 = .ok (.aload_n 0, 1) := by decide +kernel
theorem dX6_init_25 : decode cX6_init 25 = .ok (.iload_n 2, 1) := by decide +kernel
theorem dX6_init_26 : decode cX6_init 26 = .ok (.putfield 22, 3) := by decide +kernel
theorem dX6_init_29 : decode cX6_init 29 = .ok (.return_, 1) := by decide +kernel
set_option maxRecDepth 100000 in
set_option maxHeartbeats 4000000 in
theorem mX6_init (l : Launch) (D : va_G) (κ : Nat → Nat) (ε : EE) (h0 V N : Nat) : Ct Wd l D κ ε yX6_init cX6_init 3 none 1 13 2 0 ([(h0, .inr (6, [.int 0, .int 0, .null, .null]))], 0, 0) [.ref h0, .int (iI (V : Int)), .int (iI (N : Int))] (fun v u' => v = none ∧ ∃ (q1 : Nat) (q2 : Nat), u' = ([(h0, .inr (6, [.int (iI (V : Int)), .int (iI (N : Int)), .ref q1, .ref q2])),
    (q1, .inl (κ 3, 0, .inr (.inr (.inr (.inr (fun _ => none)))))),
    (q2, .inl (κ 0, 0, .inl (fun _ => iI 0)))], 2, 0)) := by
  refine Ct.ofN (own := RX6) rfl (by decide +kernel) (Nat.le_of_ble_eq_true rfl) rfl (fun Γ hn => ?_)
  have h := hn.cx
  refine WW.sub (L' := [(0, .ref h0), (1, .int (iI (V : Int))), (2, .int (iI (N : Int)))]) (by rfl) ?_
  refine w_aload_n h (pc := 0) dX6_init_0 rfl ?_
  refine w_objInit h (pc := 1) wm_101 wm_11 wm_12 (Nat.le_of_ble_eq_true rfl) (Nat.le_of_ble_eq_true rfl) dX6_init_1 ?_
  refine w_aload_n h (pc := 4) dX6_init_4 rfl ?_
  refine w_iconst h (pc := 5) dX6_init_5 ?_
  refine w_newr h (pc := 6) wm_102 (N' := 0) rfl (by decide) (Nat.le_of_ble_eq_true rfl) (Nat.le_of_ble_eq_true rfl) dX6_init_6 (fun q1 => ?_)
  refine w_putD h (pc := 9) wi_X6 tyX6 tyX6_ok nmX6 0 rfl rfl 2 (by decide) wm_103 rfl rfl (ty := tyX6 2) (by decide +kernel) rfl rfl (Nat.le_of_ble_eq_true rfl) dX6_init_9 ?_
  refine w_aload_n h (pc := 12) dX6_init_12 rfl ?_
  refine w_iconst h (pc := 13) dX6_init_13 ?_
  refine w_newa h (pc := 14) (ty := .int) rfl wm_31 (t0 := 0) rfl (N' := 0) rfl (by decide) (a0 := (0, .inl (fun _ => iI 0))) (fun _ => rfl) (by decide) (Nat.le_of_ble_eq_true rfl) (Nat.le_of_ble_eq_true rfl) dX6_init_14 (fun q2 => ?_)
  refine w_putD h (pc := 16) wi_X6 tyX6 tyX6_ok nmX6 0 rfl rfl 3 (by decide) wm_104 rfl rfl (ty := tyX6 3) (by decide +kernel) rfl rfl (Nat.le_of_ble_eq_true rfl) dX6_init_16 ?_
  refine w_aload_n h (pc := 19) dX6_init_19 rfl ?_
  refine w_iload_n h (pc := 20) dX6_init_20 rfl ?_
  refine w_putF hn (pc := 21) wi_X6 tyX6 tyX6_ok nmX6 0 rfl rfl 0 (by decide) wm_105 rfl rfl rfl (ty := tyX6 0) (by decide +kernel) rfl rfl (Nat.le_of_ble_eq_true rfl) dX6_init_21 ?_
  refine w_aload_n h (pc := 24) dX6_init_24 rfl ?_
  refine w_iload_n h (pc := 25) dX6_init_25 rfl ?_
  refine w_putF hn (pc := 26) wi_X6 tyX6 tyX6_ok nmX6 0 rfl rfl 1 (by decide) wm_106 rfl rfl rfl (ty := tyX6 1) (by decide +kernel) rfl rfl (Nat.le_of_ble_eq_true rfl) dX6_init_26 ?_
  exact w_vret h rfl dX6_init_29 (Nat.le_of_ble_eq_true rfl) (Nat.le_of_ble_eq_true rfl) ⟨rfl, q1, q2, rfl⟩

theorem upd_at (f : Nat → Int32) (k : Nat) (x : Int32) : upd f k x k = x := if_pos rfl
theorem upd_ne (f : Nat → Int32) {k j : Nat} (x : Int32) (h : j ≠ k) : upd f k x j = f j := if_neg h
theorem pS (A B C : va_W) : ((A ++ B) ++ C).Perm ((A ++ C) ++ B) := by rw [List.append_assoc]; exact pB A B C
theorem fresh_AB {u : US} (e0 : u.1 0 = 0) (e4 : u.1 4 = 0) (e5 : u.1 5 = 2) (e6 : u.1 6 = 0) (e7 : u.1 7 = 500) (hz : ∀ i, i < 8 → u.1 (12 + i) = 0) : AB 0 2 0 500 0 [] (fun _ => []) u :=
  ⟨⟨by omega, by omega, by omega, by omega, by omega, by simp, by simp⟩, e4, e5, e6, e7, ⟨e0, fun j w h => by simp at h⟩, TA_nil hz⟩
set_option maxHeartbeats 4000000 in
set_option maxRecDepth 100000 in
theorem mL_sentence (l : Launch) (D : va_G) (κ : Nat → Nat) (ε : EE) (hL : ε.2.2.1 ≤ 260) (a : Nat → Nat) (V N way num m : Nat) (S : List Nat) (T : Nat → List (Nat × Nat)) (u : US) (hA : AB V N way num m S T u) (ci : Nat) (hci : ci < 100) (hV1 : 1 ≤ V) : Ct Wd l D κ ε yL_sentence cL_sentence 6 (some (.array .int)) 2 42 1 6 (WS κ a u, 0, 0) [.ref (a 0), .ref ε.2.1, .int (iI (ci : Int)), .int (iI (V : Int))] (fun v u' => ∃ (S1 : List Nat) (x : Nat) (g : Nat → Int32) (u1 : US) (n2 : Nat × Nat), v = some (.ref x) ∧ S1.length ≤ 6 ∧ AB V N way num m S1 T u1 ∧ Fr [0] [6] u u1 ∧ (∀ (i w : Nat), S1[i]? = some w → g i = iI (w : Int)) ∧ u' = ([(x, .inl (κ 0, S1.length, .inl g))] ++ WS κ a u1, n2)) := by
  have hV := hA.1.1
  refine Ct.of (own := RL) rfl (by decide +kernel) (Nat.le_of_ble_eq_true rfl) rfl (fun Γ h => ?_)
  refine w_aload_n h (pc := 0) dL_sentence_0 rfl ?_
  refine w_fV0 h (pc := 1) (mX5_hush l D κ a ε V N way num m S T u hA) (wr := []) (List.Perm.refl _) 0 rfl rfl (gdV wm_144 wm_145 wm_146 wm_2 wm_147) (by decide +kernel) ⟨(Nat.le_of_ble_eq_true rfl), (Nat.le_of_ble_eq_true rfl)⟩ ⟨(Nat.le_of_ble_eq_true rfl), (Nat.le_of_ble_eq_true rfl)⟩ (Nat.le_of_ble_eq_true rfl) dL_sentence_1 (fun v1 u1 hp1 => ?_)
  obtain ⟨rfl, hF1, hA1⟩ := hp1
  refine WW.equ (u' := (WS κ a u1, _, _)) rfl ?_
  simp only [Option.toList_some, List.cons_append, List.nil_append]
  refine w_pop h (pc := 4) dL_sentence_4 rfl ?_
  refine w_aload_n h (pc := 5) dL_sentence_5 rfl ?_
  refine w_iload_n h (pc := 6) dL_sentence_6 rfl ?_
  refine w_fS2 h (pc := 7) (mL_cell l D κ ε hL (WS κ a u1) ci (by omega)) (wr := []) (List.Perm.refl _) (gdS wm_90 wm_91 wm_85 wm_92) (by decide +kernel) ⟨(Nat.le_of_ble_eq_true rfl), (Nat.le_of_ble_eq_true rfl)⟩ ⟨(Nat.le_of_ble_eq_true rfl), (Nat.le_of_ble_eq_true rfl)⟩ (Nat.le_of_ble_eq_true rfl) dL_sentence_7 (fun v7 u7 hp7 => ?_)
  obtain ⟨⟨z1, hz11, hz12, rfl⟩, rfl⟩ := hp7
  refine WW.equ (u' := (WS κ a u1, _, _)) rfl ?_
  simp only [Option.toList_some, List.cons_append, List.nil_append]
  refine w_bipush h (pc := 10) dL_sentence_10 (by decide) ?_
  refine w_fS2 h (pc := 12) (mL_below l D κ ε (WS κ a u1) _ _ (by omega)) (wr := []) (List.Perm.refl _) (gdS wm_94 wm_95 wm_85 wm_96) (by decide +kernel) ⟨(Nat.le_of_ble_eq_true rfl), (Nat.le_of_ble_eq_true rfl)⟩ ⟨(Nat.le_of_ble_eq_true rfl), (Nat.le_of_ble_eq_true rfl)⟩ (Nat.le_of_ble_eq_true rfl) dL_sentence_12 (fun v12 u12 hp12 => ?_)
  obtain ⟨⟨c, hc, rfl⟩, rfl⟩ := hp12
  refine WW.equ (u' := (WS κ a u1, _, _)) rfl ?_
  simp only [Option.toList_some, List.cons_append, List.nil_append]
  refine w_newa h (pc := 15) (ty := .int) rfl wm_31 (t0 := 0) rfl (N' := c) rfl (by omega) (a0 := (c, .inl (fun _ => iI 0))) (fun _ => rfl) (by decide) (Nat.le_of_ble_eq_true rfl) (by show 0 + c ≤ 6; omega) dL_sentence_15 (fun x => ?_)
  refine w_cnt h (c8 := 1) (s8 := 6) (Nat.le_refl _) (by omega) ?_
  refine w_perm h (w1 := [(x, .inl (κ 0, c, .inl (fun _ => iI 0)))] ++ WS κ a u1) (w2 := []) ?_ ?_
  · rw [List.append_nil]
    exact List.perm_append_comm
  refine w_astore h (pc := 17) dL_sentence_17 (by decide) ?_
  refine w_iconst h (pc := 19) dL_sentence_19 ?_
  refine w_istore h (pc := 20) dL_sentence_20 (by decide) ?_
  have lp22 : ∀ (n9 j : Nat) (S2 : List Nat) (g : Nat → Int32) (u2 : US), c < j + n9 → j ≤ c → S2.length = j → AB V N way num m S2 T u2 → Fr [0] [6] u u2 → (∀ (i w : Nat), S2[i]? = some w → g i = iI (w : Int)) → WW Γ 6 ([(x, .inl (κ 0, c, .inl g))] ++ WS κ a u2, 1, 6) 22 [(0, .ref (a 0)), (1, .ref ε.2.1), (2, .int (iI (ci : Int))), (3, .int (iI (V : Int))), (4, .ref x), (5, .int (iI (j : Int)))] [] := by
    intro n9
    induction n9 with
    | zero => intro j S2 g u2 hn9 hj hS2 hA2 hF2 hg; exfalso; omega
    | succ n9 ih =>
      intro j S2 g u2 hn9 hj hS2 hA2 hF2 hg
      refine w_iload h (pc := 22) dL_sentence_22 rfl ?_
      refine w_aload h (pc := 24) dL_sentence_24 rfl ?_
      refine w_alen h (pc := 26) 0 0 rfl rfl dL_sentence_26 ?_
      refine WW.eqs (st' := [.int (iI (c : Int)), .int (iI (j : Int))]) rfl ?_
      refine w_icmp_ge h (pc := 27) (tgt := 68) dL_sentence_27 (by decide) (by omega) (by omega) (fun c27 => ?_) (fun c27 => ?_)
      · refine w_aload h (pc := 68) dL_sentence_68 rfl ?_
        obtain rfl : j = c := by omega
        subst hS2
        exact w_aret h (pc := 70) rfl (Or.inr ⟨_, rfl⟩) dL_sentence_70 (Nat.le_of_ble_eq_true rfl) (Nat.le_of_ble_eq_true rfl) ⟨S2, x, g, u2, _, rfl, by omega, hA2, hF2, hg, rfl⟩
      · refine w_aload h (pc := 30) dL_sentence_30 rfl ?_
        refine w_iload h (pc := 32) dL_sentence_32 rfl ?_
        refine w_aload_n h (pc := 34) dL_sentence_34 rfl ?_
        refine w_iload_n h (pc := 35) dL_sentence_35 rfl ?_
        refine w_fS2 h (pc := 36) (mL_cell l D κ ε hL ([(x, .inl (κ 0, c, .inl g))] ++ WS κ a u2) ci (by omega)) (wr := []) (List.Perm.refl _) (gdS wm_90 wm_91 wm_85 wm_92) (by decide +kernel) ⟨(Nat.le_of_ble_eq_true rfl), (Nat.le_of_ble_eq_true rfl)⟩ ⟨(Nat.le_of_ble_eq_true rfl), (Nat.le_of_ble_eq_true rfl)⟩ (Nat.le_of_ble_eq_true rfl) dL_sentence_36 (fun v36 u36 hp36 => ?_)
        obtain ⟨⟨z2, hz21, hz22, rfl⟩, rfl⟩ := hp36
        refine WW.equ (u' := ([(x, .inl (κ 0, c, .inl g))] ++ WS κ a u2, _, _)) rfl ?_
        simp only [Option.toList_some, List.cons_append, List.nil_append]
        refine w_iload h (pc := 39) dL_sentence_39 rfl ?_
        obtain ⟨z3, hz3, hz4, hz5⟩ := iI_rg (iI z2 >>> (iI (j : Int) &&& 31))
        refine w_ishr h (pc := 41) (z := z3) dL_sentence_41 hz3 ?_
        refine w_iconst h (pc := 42) dL_sentence_42 ?_
        refine w_iload h (pc := 43) dL_sentence_43 rfl ?_
        refine w_imul h (pc := 45) dL_sentence_45 ?_
        refine w_iadd h (pc := 46) dL_sentence_46 ?_
        refine w_iload_n h (pc := 47) dL_sentence_47 rfl ?_
        refine w_fS2 h (pc := 48) (mL_below l D κ ε ([(x, .inl (κ 0, c, .inl g))] ++ WS κ a u2) _ _ (by omega)) (wr := []) (List.Perm.refl _) (gdS wm_94 wm_95 wm_85 wm_96) (by decide +kernel) ⟨(Nat.le_of_ble_eq_true rfl), (Nat.le_of_ble_eq_true rfl)⟩ ⟨(Nat.le_of_ble_eq_true rfl), (Nat.le_of_ble_eq_true rfl)⟩ (Nat.le_of_ble_eq_true rfl) dL_sentence_48 (fun v48 u48 hp48 => ?_)
        obtain ⟨⟨w9, hw9, rfl⟩, rfl⟩ := hp48
        refine WW.equ (u' := ([(x, .inl (κ 0, c, .inl g))] ++ WS κ a u2, _, _)) rfl ?_
        simp only [Option.toList_some, List.cons_append, List.nil_append]
        refine w_iast h (pc := 51) 0 rfl ⟨by omega, by omega⟩ (by omega) dL_sentence_51 ([(x, .inl (κ 0, c, .inl (upd g (j : Int).toNat (iI (w9 : Int)))))] ++ WS κ a u2, 1, 6) rfl rfl ?_
        refine w_aload_n h (pc := 52) dL_sentence_52 rfl ?_
        refine w_aload h (pc := 53) dL_sentence_53 rfl ?_
        refine w_iload h (pc := 55) dL_sentence_55 rfl ?_
        refine w_iald h (pc := 57) 0 rfl ⟨by omega, by omega⟩ (by omega) (v := iI (w9 : Int)) (upd_at _ _ _) dL_sentence_57 ?_
        refine w_fV1 h (pc := 58) (mX5_say l D κ a ε V N way num m S2 T u2 hA2 w9 (by omega) (by omega)) (wr := [(x, .inl (κ 0, c, .inl (upd g (j : Int).toNat (iI (w9 : Int)))))]) (List.Perm.refl _) 0 rfl rfl (gdV wm_148 wm_149 wm_150 wm_2 wm_151) (by decide +kernel) ⟨(Nat.le_of_ble_eq_true rfl), (Nat.le_of_ble_eq_true rfl)⟩ ⟨(Nat.le_of_ble_eq_true rfl), (Nat.le_of_ble_eq_true rfl)⟩ (Nat.le_of_ble_eq_true rfl) dL_sentence_58 (fun v58 u58 hp58 => ?_)
        obtain ⟨rfl, hF5, hA5⟩ := hp58
        refine WW.equ (u' := ([(x, .inl (κ 0, c, .inl (upd g (j : Int).toNat (iI (w9 : Int)))))] ++ WS κ a u58, _, _)) rfl ?_
        simp only [Option.toList_some, List.cons_append, List.nil_append]
        refine w_pop h (pc := 61) dL_sentence_61 rfl ?_
        refine w_iinc h (pc := 62) dL_sentence_62 rfl (by decide) ?_
        refine w_goto h (pc := 65) (tgt := 22) dL_sentence_65 (by decide) ?_
        refine WW.sub (by rfl) (ih (j + 1) (S2 ++ [w9]) _ u58 (by omega) (by omega) (by rw [List.length_append, hS2]; rfl) hA5 (hF2.tr hF5) (fun i w hw => ?_))
        rw [Int.toNat_natCast]
        by_cases e : i = j
        · subst e
          rw [← hS2, List.getElem?_concat_length] at hw
          cases hw
          exact upd_at _ _ _
        · rw [upd_ne _ _ e]
          have hlt := (List.getElem?_eq_some_iff.mp hw).1
          rw [List.length_append] at hlt
          have hlt2 : i < S2.length := by simp at hlt; omega
          rw [List.getElem?_append_left hlt2] at hw
          exact hg i w hw
  exact WW.sub (by rfl) (lp22 (c + 1) 0 [] _ u1 (by omega) (by omega) rfl hA1 (hF1.up (by simp) (by simp)) (fun i w hw => by simp at hw))
