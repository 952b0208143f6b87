theorem dX3_choiceAt_0 : decode cX3_choiceAt 0 = .ok (.iload_n 1, 1) := by decide +kernel
theorem dX3_choiceAt_1 : decode cX3_choiceAt 1 = .ok (.ifCond .lt 20, 3) := by decide +kernel
theorem dX3_choiceAt_4 : decode cX3_choiceAt 4 = .ok (.iload_n 1, 1) := by decide +kernel
theorem dX3_choiceAt_5 : decode cX3_choiceAt 5 = .ok (.bipush 12, 2) := by decide +kernel
theorem dX3_choiceAt_7 : decode cX3_choiceAt 7 = .ok (.if_icmp .ge 14, 3) := by decide +kernel
theorem dX3_choiceAt_10 : decode cX3_choiceAt 10 = .ok (.iload_n 2, 1) := by decide +kernel
theorem dX3_choiceAt_11 : decode cX3_choiceAt 11 = .ok (.ifCond .lt 10, 3) := by decide +kernel
theorem dX3_choiceAt_14 : decode cX3_choiceAt 14 = .ok (.iload_n 2, 1) := by decide +kernel
theorem dX3_choiceAt_15 : decode cX3_choiceAt 15 = .ok (.sipush 1728, 3) := by decide +kernel
theorem dX3_choiceAt_18 : decode cX3_choiceAt 18 = .ok (.if_icmp .lt 5, 3) := by decide +kernel
theorem dX3_choiceAt_23 : decode cX3_choiceAt 23 = .ok (.aload_n 0, 1) := by decide +kernel
theorem dX3_choiceAt_24 : decode cX3_choiceAt 24 = .ok (.getfield 17, 3) := by decide +kernel
theorem dX3_choiceAt_27 : decode cX3_choiceAt 27 = .ok (.iload_n 1, 1) := by decide +kernel
theorem dX3_choiceAt_28 : decode cX3_choiceAt 28 = .ok (.aaload, 1) := by decide +kernel
theorem dX3_choiceAt_29 : decode cX3_choiceAt 29 = .ok (.iload_n 2, 1) := by decide +kernel
theorem dX3_choiceAt_30 : decode cX3_choiceAt 30 = .ok (.iaload, 1) := by decide +kernel
theorem dX3_choiceAt_31 : decode cX3_choiceAt 31 = .ok (.ireturn, 1) := by decide +kernel
theorem dX3_choose_0 : decode cX3_choose 0 = .ok (.aload_n 0, 1) := by decide +kernel
theorem dX3_choose_1 : decode cX3_choose 1 = .ok (.iload_n 1, 1) := by decide +kernel
theorem dX3_choose_2 : decode cX3_choose 2 = .ok (.iload_n 2, 1) := by decide +kernel
theorem dX3_choose_3 : decode cX3_choose 3 = .ok (.invokevirtual 34, 3) := by decide +kernel
theorem dX3_choose_6 : decode cX3_choose 6 = .ok (.iconst 0, 1) := by decide +kernel
theorem dX3_choose_7 : decode cX3_choose 7 = .ok (.istore_n 3, 1) := by decide +kernel
theorem dX3_choose_8 : decode cX3_choose 8 = .ok (.iload_n 3, 1) := by decide +kernel
theorem dX3_choose_9 : decode cX3_choose 9 = .ok (.aload_n 0, 1) := by decide +kernel
theorem dX3_choose_10 : decode cX3_choose 10 = .ok (.iload_n 2, 1) := by decide +kernel
theorem dX3_choose_11 : decode cX3_choose 11 = .ok (.invokevirtual 38, 3) := by decide +kernel
theorem dX3_choose_14 : decode cX3_choose 14 = .ok (.if_icmp .ge 32, 3) := by decide +kernel
theorem dX3_choose_17 : decode cX3_choose 17 = .ok (.aload_n 0, 1) := by decide +kernel
theorem dX3_choose_18 : decode cX3_choose 18 = .ok (.getfield 20, 3) := by decide +kernel
theorem dX3_choose_21 : decode cX3_choose 21 = .ok (.iload_n 3, 1) := by decide +kernel
theorem dX3_choose_22 : decode cX3_choose 22 = .ok (.aload_n 0, 1) := by decide +kernel
theorem dX3_choose_23 : decode cX3_choose 23 = .ok (.getfield 11, 3) := by decide +kernel
theorem dX3_choose_26 : decode cX3_choose 26 = .ok (.iload_n 3, 1) := by decide +kernel
theorem dX3_choose_27 : decode cX3_choose 27 = .ok (.bipush 13, 2) := by decide +kernel
theorem dX3_choose_29 : decode cX3_choose 29 = .ok (.imul, 1) := by decide +kernel
theorem dX3_choose_30 : decode cX3_choose 30 = .ok (.aload_n 0, 1) := by decide +kernel
theorem dX3_choose_31 : decode cX3_choose 31 = .ok (.getfield 26, 3) := by decide +kernel
theorem dX3_choose_34 : decode cX3_choose 34 = .ok (.getfield 42, 3) := by decide +kernel
theorem dX3_choose_37 : decode cX3_choose 37 = .ok (.iadd, 1) := by decide +kernel
theorem dX3_choose_38 : decode cX3_choose 38 = .ok (.iaload, 1) := by decide +kernel
theorem dX3_choose_39 : decode cX3_choose 39 = .ok (.iastore, 1) := by decide +kernel
theorem dX3_choose_40 : decode cX3_choose 40 = .ok (.iinc 3 1, 3) := by decide +kernel
theorem dX3_choose_43 : decode cX3_choose 43 = .ok (.goto (-35), 3) := by decide +kernel
theorem dX3_choose_46 : decode cX3_choose 46 = .ok (.iload_n 2, 1) := by decide +kernel
theorem dX3_choose_47 : decode cX3_choose 47 = .ok (.iconst 1, 1) := by decide +kernel
theorem dX3_choose_48 : decode cX3_choose 48 = .ok (.isub, 1) := by decide +kernel
theorem dX3_choose_49 : decode cX3_choose 49 = .ok (.istore_n 3, 1) := by decide +kernel
theorem dX3_choose_50 : decode cX3_choose 50 = .ok (.iload_n 3, 1) := by decide +kernel
theorem dX3_choose_51 : decode cX3_choose 51 = .ok (.ifCond .lt 53, 3) := by decide +kernel
theorem dX3_choose_54 : decode cX3_choose 54 = .ok (.iload_n 3, 1) := by decide +kernel
theorem dX3_choose_55 : decode cX3_choose 55 = .ok (.aload_n 0, 1) := by decide +kernel
theorem dX3_choose_56 : decode cX3_choose 56 = .ok (.getfield 26, 3) := by decide +kernel
theorem dX3_choose_59 : decode cX3_choose 59 = .ok (.getfield 48, 3) := by decide +kernel
theorem dX3_choose_62 : decode cX3_choose 62 = .ok (.iconst 1, 1) := by decide +kernel
theorem dX3_choose_63 : decode cX3_choose 63 = .ok (.isub, 1) := by decide +kernel
theorem dX3_choose_64 : decode cX3_choose 64 = .ok (.if_icmp .ge 9, 3) := by decide +kernel
theorem dX3_choose_67 : decode cX3_choose 67 = .ok (.aload_n 0, 1) := by decide +kernel
theorem dX3_choose_68 : decode cX3_choose 68 = .ok (.iload_n 1, 1) := by decide +kernel
theorem dX3_choose_69 : decode cX3_choose 69 = .ok (.iload_n 3, 1) := by decide +kernel
theorem dX3_choose_70 : decode cX3_choose 70 = .ok (.invokevirtual 34, 3) := by decide +kernel
theorem dX3_choose_73 : decode cX3_choose 73 = .ok (.aload_n 0, 1) := by decide +kernel
theorem dX3_choose_74 : decode cX3_choose 74 = .ok (.getfield 23, 3) := by decide +kernel
theorem dX3_choose_77 : decode cX3_choose 77 = .ok (.astore 4, 2) := by decide +kernel
theorem dX3_choose_79 : decode cX3_choose 79 = .ok (.aload_n 0, 1) := by decide +kernel
theorem dX3_choose_80 : decode cX3_choose 80 = .ok (.aload_n 0, 1) := by decide +kernel
theorem dX3_choose_81 : decode cX3_choose 81 = .ok (.getfield 20, 3) := by decide +kernel
theorem dX3_choose_84 : decode cX3_choose 84 = .ok (.putfield 23, 3) := by decide +kernel
theorem dX3_choose_87 : decode cX3_choose 87 = .ok (.aload_n 0, 1) := by decide +kernel
theorem dX3_choose_88 : decode cX3_choose 88 = .ok (.aload 4, 2) := by decide +kernel
theorem dX3_choose_90 : decode cX3_choose 90 = .ok (.putfield 20, 3) := by decide +kernel
theorem dX3_choose_93 : decode cX3_choose 93 = .ok (.aload_n 0, 1) := by decide +kernel
theorem dX3_choose_94 : decode cX3_choose 94 = .ok (.iload_n 3, 1) := by decide +kernel
theorem dX3_choose_95 : decode cX3_choose 95 = .ok (.invokevirtual 51, 3) := by decide +kernel
theorem dX3_choose_98 : decode cX3_choose 98 = .ok (.iinc 3 (-1), 3) := by decide +kernel
theorem dX3_choose_101 : decode cX3_choose 101 = .ok (.goto (-51), 3) := by decide +kernel
theorem dX3_choose_104 : decode cX3_choose 104 = .ok (.return_, 1) := by decide +kernel
theorem dX3_stateBehind_0 : decode cX3_stateBehind 0 = .ok (.iload_n 2, 1) := by decide +kernel
theorem dX3_stateBehind_1 : decode cX3_stateBehind 1 = .ok (.aload_n 0, 1) := by decide +kernel
theorem dX3_stateBehind_2 : decode cX3_stateBehind 2 = .ok (.getfield 26, 3) := by decide +kernel
theorem dX3_stateBehind_5 : decode cX3_stateBehind 5 = .ok (.getfield 42, 3) := by decide +kernel
theorem dX3_stateBehind_8 : decode cX3_stateBehind 8 = .ok (.imul, 1) := by decide +kernel
theorem dX3_stateBehind_9 : decode cX3_stateBehind 9 = .ok (.iload_n 3, 1) := by decide +kernel
theorem dX3_stateBehind_10 : decode cX3_stateBehind 10 = .ok (.iadd, 1) := by decide +kernel
theorem dX3_stateBehind_11 : decode cX3_stateBehind 11 = .ok (.aload_n 0, 1) := by decide +kernel
theorem dX3_stateBehind_12 : decode cX3_stateBehind 12 = .ok (.iload_n 1, 1) := by decide +kernel
theorem dX3_stateBehind_13 : decode cX3_stateBehind 13 = .ok (.iconst 1, 1) := by decide +kernel
theorem dX3_stateBehind_14 : decode cX3_stateBehind 14 = .ok (.iadd, 1) := by decide +kernel
theorem dX3_stateBehind_15 : decode cX3_stateBehind 15 = .ok (.invokevirtual 38, 3) := by decide +kernel
theorem dX3_stateBehind_18 : decode cX3_stateBehind 18 = .ok (.irem, 1) := by decide +kernel
theorem dX3_stateBehind_19 : decode cX3_stateBehind 19 = .ok (.ireturn, 1) := by decide +kernel
theorem dX5_complete_0 : decode cX5_complete 0 = .ok (.iload_n 1, 1) := by decide +kernel
theorem dX5_complete_1 : decode cX5_complete 1 = .ok (.aload_n 0, 1) := by decide +kernel
theorem dX5_complete_2 : decode cX5_complete 2 = .ok (.getfield 51, 3) := by decide +kernel
theorem dX5_complete_5 : decode cX5_complete 5 = .ok (.if_icmp .lt 9, 3) := by decide +kernel
theorem dX5_complete_8 : decode cX5_complete 8 = .ok (.iload_n 1, 1) := by decide +kernel
theorem dX5_complete_9 : decode cX5_complete 9 = .ok (.bipush 12, 2) := by decide +kernel
theorem dX5_complete_11 : decode cX5_complete 11 = .ok (.if_icmp .le 13, 3) := by decide +kernel
theorem dX5_complete_24 : decode cX5_complete 24 = .ok (.aload_n 0, 1) := by decide +kernel
theorem dX5_complete_25 : decode cX5_complete 25 = .ok (.getfield 10, 3) := by decide +kernel
theorem dX5_complete_28 : decode cX5_complete 28 = .ok (.getfield 65, 3) := by decide +kernel
theorem dX5_complete_31 : decode cX5_complete 31 = .ok (.ifCond .ne 13, 3) := by decide +kernel
theorem dX5_complete_44 : decode cX5_complete 44 = .ok (.iload_n 1, 1) := by decide +kernel
theorem dX5_complete_45 : decode cX5_complete 45 = .ok (.aload_n 0, 1) := by decide +kernel
theorem dX5_complete_46 : decode cX5_complete 46 = .ok (.getfield 51, 3) := by decide +kernel
theorem dX5_complete_49 : decode cX5_complete 49 = .ok (.isub, 1) := by decide +kernel
theorem dX5_complete_50 : decode cX5_complete 50 = .ok (.istore_n 2, 1) := by decide +kernel
theorem dX5_complete_51 : decode cX5_complete 51 = .ok (.aload_n 0, 1) := by decide +kernel
theorem dX5_complete_52 : decode cX5_complete 52 = .ok (.getfield 30, 3) := by decide +kernel
theorem dX5_complete_55 : decode cX5_complete 55 = .ok (.aload_n 0, 1) := by decide +kernel
theorem dX5_complete_56 : decode cX5_complete 56 = .ok (.aload_n 0, 1) := by decide +kernel
theorem dX5_complete_57 : decode cX5_complete 57 = .ok (.getfield 51, 3) := by decide +kernel
theorem dX5_complete_60 : decode cX5_complete 60 = .ok (.iconst 1, 1) := by decide +kernel
theorem dX5_complete_61 : decode cX5_complete 61 = .ok (.isub, 1) := by decide +kernel
theorem dX5_complete_62 : decode cX5_complete 62 = .ok (.aload_n 0, 1) := by decide +kernel
theorem dX5_complete_63 : decode cX5_complete 63 = .ok (.getfield 10, 3) := by decide +kernel
theorem dX5_complete_66 : decode cX5_complete 66 = .ok (.getfield 83, 3) := by decide +kernel
theorem dX5_complete_69 : decode cX5_complete 69 = .ok (.iconst 1, 1) := by decide +kernel
theorem dX5_complete_70 : decode cX5_complete 70 = .ok (.isub, 1) := by decide +kernel
theorem dX5_complete_71 : decode cX5_complete 71 = .ok (.invokevirtual 202, 3) := by decide +kernel
theorem dX5_complete_74 : decode cX5_complete 74 = .ok (.iload_n 2, 1) := by decide +kernel
theorem dX5_complete_75 : decode cX5_complete 75 = .ok (.invokevirtual 205, 3) := by decide +kernel
theorem dX5_complete_78 : decode cX5_complete 78 = .ok (.iconst 0, 1) := by decide +kernel
theorem dX5_complete_79 : decode cX5_complete 79 = .ok (.istore_n 3, 1) := by decide +kernel
theorem dX5_complete_80 : decode cX5_complete 80 = .ok (.iconst 0, 1) := by decide +kernel
theorem dX5_complete_81 : decode cX5_complete 81 = .ok (.istore 4, 2) := by decide +kernel
theorem dX5_complete_83 : decode cX5_complete 83 = .ok (.iload 4, 2) := by decide +kernel
theorem dX5_complete_85 : decode cX5_complete 85 = .ok (.iload_n 2, 1) := by decide +kernel
theorem dX5_complete_86 : decode cX5_complete 86 = .ok (.if_icmp .ge 40, 3) := by decide +kernel
theorem dX5_complete_89 : decode cX5_complete 89 = .ok (.aload_n 0, 1) := by decide +kernel
theorem dX5_complete_90 : decode cX5_complete 90 = .ok (.getfield 30, 3) := by decide +kernel
theorem dX5_complete_93 : decode cX5_complete 93 = .ok (.iload 4, 2) := by decide +kernel
theorem dX5_complete_95 : decode cX5_complete 95 = .ok (.iload_n 3, 1) := by decide +kernel
theorem dX5_complete_96 : decode cX5_complete 96 = .ok (.invokevirtual 209, 3) := by decide +kernel
theorem dX5_complete_99 : decode cX5_complete 99 = .ok (.istore 5, 2) := by decide +kernel
theorem dX5_complete_101 : decode cX5_complete 101 = .ok (.aload_n 0, 1) := by decide +kernel
theorem dX5_complete_102 : decode cX5_complete 102 = .ok (.iload 5, 2) := by decide +kernel
theorem dX5_complete_104 : decode cX5_complete 104 = .ok (.invokevirtual 97, 3) := by decide +kernel
theorem dX5_complete_107 : decode cX5_complete 107 = .ok (.aload_n 0, 1) := by decide +kernel
theorem dX5_complete_108 : decode cX5_complete 108 = .ok (.getfield 30, 3) := by decide +kernel
theorem dX5_complete_111 : decode cX5_complete 111 = .ok (.iload 4, 2) := by decide +kernel
theorem dX5_complete_113 : decode cX5_complete 113 = .ok (.iload_n 3, 1) := by decide +kernel
theorem dX5_complete_114 : decode cX5_complete 114 = .ok (.iload 5, 2) := by decide +kernel
theorem dX5_complete_116 : decode cX5_complete 116 = .ok (.invokevirtual 212, 3) := by decide +kernel
theorem dX5_complete_119 : decode cX5_complete 119 = .ok (.istore_n 3, 1) := by decide +kernel
theorem dX5_complete_120 : decode cX5_complete 120 = .ok (.iinc 4 1, 3) := by decide +kernel
theorem dX5_complete_123 : decode cX5_complete 123 = .ok (.goto (-40), 3) := by decide +kernel
theorem dX5_complete_126 : decode cX5_complete 126 = .ok (.aload_n 0, 1) := by decide +kernel
theorem dX5_complete_127 : decode cX5_complete 127 = .ok (.invokevirtual 197, 3) := by decide +kernel
theorem dX5_complete_130 : decode cX5_complete 130 = .ok (.ireturn, 1) := by decide +kernel
theorem gs_ok {z : Int} {dd q : Nat} (hd : dd ≤ 1) (hq : q ∈ [lb z, 18 + dd]) : q ∈ [9, 10, 11, 13, 14, 18, 19] := by
  have h := lb_cs z
  simp only [List.mem_cons, List.not_mem_nil, or_false] at hq ⊢
  omega
set_option maxHeartbeats 4000000 in
set_option maxRecDepth 100000 in
theorem mX3_choose (l : Launch) (D : va_G) (κ a : Nat → Nat) (ε : EE) (V N way num m : Nat) (S : List Nat) (T : Nat → List (Nat × Nat)) (u : US) (hA : AB V N way num m S T u) (hV1 : 1 ≤ V) (c more : Nat) (hc : c < 2744) (hmr : more ≤ 2) (hz : ((u.1 10 = 0 ∧ u.1 20 = 1) ∨ (u.1 10 = 1 ∧ u.1 20 = 0))) : Ct (W0 κ a) l D κ ε yX3_choose cX3_choose 5 none 5 123 0 0 u [.ref (a 3), .int (iI (c : Int)), .int (iI (more : Int))] (fun v u' => v = none ∧ Fr [8, 9, 10, 20] [9, 10, 11, 13, 14, 18, 19] u u' ∧ ∀ d, d < more → ∀ s, s < stN V N d → u'.2 (18 + d) s = (chD V N (CcF V N way num T c) more d s : Int)) := by
  obtain ⟨⟨hV, hN, hway, hnum, hm, hSl, hSV⟩, eV, eN, ew, en, ⟨eS, hS⟩, hT⟩ := id hA
  have hlim := pow_lim (V := V) (ch := min more (N - 1)) ⟨hV1, hV⟩ (by omega)
  have hst : stN V N more ≤ 144 := hlim.2
  have hcc : ∀ a b x, CcF V N way num T c a b x ≤ 32768 := fun a b x => co_le _
  refine Ct.of (own := RX3) rfl (by decide +kernel) (Nat.le_of_ble_eq_true rfl) rfl (fun Γ h => ?_)
  refine w_aload_n h (pc := 0) dX3_choose_0 rfl ?_
  refine w_iload_n h (pc := 1) dX3_choose_1 rfl ?_
  refine w_iload_n h (pc := 2) dX3_choose_2 rfl ?_
  refine w_callV2 h (pc := 3) (mX3_fillCosts l D κ a ε V N way num m S T u hA hV1 c more (min more (N - 1)) hc hmr rfl) 3 rfl rfl (gdV wm_416 wm_417 wm_418 wm_23 wm_419) (by decide +kernel) ⟨(Nat.le_of_ble_eq_true rfl), (Nat.le_of_ble_eq_true rfl)⟩ ⟨(Nat.le_of_ble_eq_true rfl), (Nat.le_of_ble_eq_true rfl)⟩ (fun _ _ _ => ⟨rfl, rfl⟩) (Nat.le_of_ble_eq_true rfl) dX3_choose_3 (fun v1 u1 hp1 => ?_)
  obtain ⟨rfl, hF1, ht1⟩ := hp1
  simp only [Option.toList_none, List.nil_append]
  refine w_iconst h (pc := 6) dX3_choose_6 ?_
  refine w_istore_n h (pc := 7) dX3_choose_7 (by decide) ?_
  have lp8 : ∀ (n9 s : Nat) (w : US), stN V N more < s + n9 → s ≤ stN V N more → Fr [8, 9, 10, 20] [9, 10, 11, 13, 14, 18, 19] u w → ((w.1 10 = 0 ∧ w.1 20 = 1) ∨ (w.1 10 = 1 ∧ w.1 20 = 0)) → (∀ s, s < V ^ (min more (N - 1)) → ∀ x, x ≤ V → w.2 11 (s * 13 + x) = (CcF V N way num T c (min more (N - 1)) s x : Int)) → (∀ s9, s9 < s → w.2 (lb (w.1 10)) s9 = (Lr V N (CcF V N way num T c) more 0 s9 : Int)) → WW Γ 5 w 8 [(0, .ref (a 3)), (1, .int (iI (c : Int))), (2, .int (iI (more : Int))), (3, .int (iI (s : Int)))] [] := by
    intro n9
    induction n9 with
    | zero => intro s w hn9 hs hF hzw ht hL; exfalso; omega
    | succ n9 ih =>
      intro s w hn9 hs hF hzw ht hL
      have hAw := hA.of hF (by simp [tS]) (by simp [tG]) (by simp) (by simp)
      have eVw := hAw.2.1
      have eNw := hAw.2.2.1
      have hlb := lb_cs (w.1 10)
      refine w_iload_n h (pc := 8) dX3_choose_8 rfl ?_
      refine w_aload_n h (pc := 9) dX3_choose_9 rfl ?_
      refine w_iload_n h (pc := 10) dX3_choose_10 rfl ?_
      refine w_callV1 h (pc := 11) (mX3_statesAt l D κ a ε V N w ⟨hV1, hV⟩ hN eVw eNw more hmr) 3 rfl rfl (gdV wm_426 wm_427 wm_428 wm_23 wm_429) (by decide +kernel) ⟨(Nat.le_of_ble_eq_true rfl), (Nat.le_of_ble_eq_true rfl)⟩ ⟨(Nat.le_of_ble_eq_true rfl), (Nat.le_of_ble_eq_true rfl)⟩ (fun _ _ _ => ⟨rfl, rfl⟩) (Nat.le_of_ble_eq_true rfl) dX3_choose_11 (fun v2 u2 hp2 => ?_)
      obtain ⟨rfl, e2⟩ := hp2
      obtain rfl := e2.symm
      simp only [Option.toList_some, List.cons_append, List.nil_append]
      refine w_icmp_ge h (pc := 14) (tgt := 46) dX3_choose_14 (by decide) (by omega) (by omega) (fun c14 => ?_) (fun c14 => ?_)
      · obtain rfl : stN V N more = s := by omega
        refine w_iload_n h (pc := 46) dX3_choose_46 rfl ?_
        refine w_iconst h (pc := 47) dX3_choose_47 ?_
        refine w_isub h (pc := 48) dX3_choose_48 ?_
        refine w_istore_n h (pc := 49) dX3_choose_49 (by decide) ?_
        have lp50 : ∀ (n9 k : Nat) (z : Int) (w : US), z + 1 + k = (more : Int) → more < k + n9 → k ≤ more → Fr [8, 9, 10, 20] [9, 10, 11, 13, 14, 18, 19] u w → ((w.1 10 = 0 ∧ w.1 20 = 1) ∨ (w.1 10 = 1 ∧ w.1 20 = 0)) → (∀ s, s < V ^ (min (more - k) (N - 1)) → ∀ x, x ≤ V → w.2 11 (s * 13 + x) = (CcF V N way num T c (min (more - k) (N - 1)) s x : Int)) → (∀ s, s < stN V N (more - k) → w.2 (lb (w.1 10)) s = (Lr V N (CcF V N way num T c) more k s : Int)) → (∀ d, more - k ≤ d → d < more → ∀ s, s < stN V N d → w.2 (18 + d) s = (chD V N (CcF V N way num T c) more d s : Int)) → WW Γ 5 w 50 [(0, .ref (a 3)), (1, .int (iI (c : Int))), (2, .int (iI (more : Int))), (3, .int (iI z))] [] := by
          intro n9
          induction n9 with
          | zero => intro k z w hz9 hn9 hk hF hzw ht hL hC; exfalso; omega
          | succ n9 ih =>
            intro k z w hz9 hn9 hk hF hzw ht hL hC
            have hAw := hA.of hF (by simp [tS]) (by simp [tG]) (by simp) (by simp)
            have eVw := hAw.2.1
            have eNw := hAw.2.2.1
            refine w_iload_n h (pc := 50) dX3_choose_50 rfl ?_
            refine w_if_lt h (pc := 51) (tgt := 104) dX3_choose_51 (by decide) (by omega) (fun c51 => ?_) (fun c51 => ?_)
            · obtain rfl : more = k := by omega
              exact w_vret h (pc := 104) rfl dX3_choose_104 (Nat.le_of_ble_eq_true rfl) (Nat.le_of_ble_eq_true rfl) ⟨rfl, hF, fun d hd s hs => hC d (by omega) hd s hs⟩
            · obtain ⟨dd, rfl⟩ : ∃ dd : Nat, z = (dd : Int) := ⟨z.toNat, by omega⟩
              have hdk : more - k = dd + 1 := by omega
              have jn73 : ∀ w4 : US, Fr [8, 9, 10, 20] [9, 10, 11, 13, 14, 18, 19] u w4 → ((w4.1 10 = 0 ∧ w4.1 20 = 1) ∨ (w4.1 10 = 1 ∧ w4.1 20 = 0)) → (∀ s, s < V ^ (min dd (N - 1)) → ∀ x, x ≤ V → w4.2 11 (s * 13 + x) = (CcF V N way num T c (min dd (N - 1)) s x : Int)) → (∀ s, s < stN V N (more - k) → w4.2 (lb (w4.1 10)) s = (Lr V N (CcF V N way num T c) more k s : Int)) → (∀ d, more - k ≤ d → d < more → ∀ s, s < stN V N d → w4.2 (18 + d) s = (chD V N (CcF V N way num T c) more d s : Int)) → WW Γ 5 w4 73 [(0, .ref (a 3)), (1, .int (iI (c : Int))), (2, .int (iI (more : Int))), (3, .int (iI (dd : Int)))] [] := by
                intro w4 hF4 hz4 ht4 hL4 hC4
                refine w_aload_n h (pc := 73) dX3_choose_73 rfl ?_
                refine g3_leastBehind h (pc := 74) rfl wm_73 dX3_choose_74 ?_
                refine w_astore h (pc := 77) dX3_choose_77 (by decide) ?_
                refine w_aload_n h (pc := 79) dX3_choose_79 rfl ?_
                refine w_aload_n h (pc := 80) dX3_choose_80 rfl ?_
                refine g3_least h (pc := 81) rfl wm_72 dX3_choose_81 ?_
                refine p3_leastBehind h (pc := 84) wm_73 dX3_choose_84 ?_
                refine w_aload_n h (pc := 87) dX3_choose_87 rfl ?_
                refine w_aload h (pc := 88) dX3_choose_88 rfl ?_
                refine p3_least h (pc := 90) wm_72 dX3_choose_90 ?_
                obtain ⟨w5, hw5⟩ : ∃ w5, w5 = uS (uS w4 20 (w4.1 10)) 10 (w4.1 20) := ⟨_, rfl⟩
                rw [show uS (uS w4 20 (w4.1 10)) 10 (w4.1 20) = w5 from hw5.symm]
                have f1 : w5.1 10 = w4.1 20 := by rw [hw5]; exact uS_at _ _ _
                have f2 : w5.1 20 = w4.1 10 := by rw [hw5]; exact (uS_ne _ _ (by decide)).trans (uS_at _ _ _)
                have f3 : w5.2 = w4.2 := by rw [hw5]; rfl
                have hF5 : Fr [8, 9, 10, 20] [9, 10, 11, 13, 14, 18, 19] u w5 := hF4.tr (by rw [hw5]; exact (Fr.S (by simp)).tr (Fr.S (by simp)))
                have hz5 : ((w5.1 10 = 0 ∧ w5.1 20 = 1) ∨ (w5.1 10 = 1 ∧ w5.1 20 = 0)) := by rw [f1, f2]; omega
                have hAw5 := hA.of hF5 (by simp [tS]) (by simp [tG]) (by simp) (by simp)
                have hne5 : lb (w5.1 20) ≠ lb (w5.1 10) := by rcases hz5 with ⟨e1, e2⟩ | ⟨e1, e2⟩ <;> rw [e1, e2] <;> decide
                have ht5 : (∀ s, s < V ^ (min dd (N - 1)) → ∀ x, x ≤ V → w5.2 11 (s * 13 + x) = (CcF V N way num T c (min dd (N - 1)) s x : Int)) := fun s hs x hx => by rw [f3]; exact ht4 s hs x hx
                have hL5 : ∀ s, s < stN V N (dd + 1) → w5.2 (lb (w5.1 20)) s = (Lr V N (CcF V N way num T c) more k s : Int) := fun s hs => by rw [f2, f3]; exact hL4 s (by rw [hdk]; exact hs)
                have hC5 : (∀ d, more - k ≤ d → d < more → ∀ s, s < stN V N d → w5.2 (18 + d) s = (chD V N (CcF V N way num T c) more d s : Int)) := fun d h1 h2 s hs => by rw [f3]; exact hC4 d h1 h2 s hs
                refine w_aload_n h (pc := 93) dX3_choose_93 rfl ?_
                refine w_iload_n h (pc := 94) dX3_choose_94 rfl ?_
                refine w_callV1 h (pc := 95) (mX3_chooseAt l D κ a ε V N w5 ⟨hV1, hV⟩ hN (hAw5.2.1) (hAw5.2.2.1) dd (by omega) (fun s x => CcF V N way num T c (min dd (N - 1)) s x) (fun s => Lr V N (CcF V N way num T c) more k s) (fun s hs x hx => ⟨ht5 s hs x hx, by have := hcc (min dd (N - 1)) s x; omega⟩) _ _ rfl rfl hne5 (fun s hs => ⟨hL5 s hs, by have := Lr_lim (V := V) (N := N) (more := more) hcc k s; omega⟩)) 3 rfl rfl (gdV wm_436 wm_437 wm_438 wm_23 wm_439) (by decide +kernel) ⟨(Nat.le_of_ble_eq_true rfl), (Nat.le_of_ble_eq_true rfl)⟩ ⟨(Nat.le_of_ble_eq_true rfl), (Nat.le_of_ble_eq_true rfl)⟩ (fun _ _ _ => ⟨rfl, rfl⟩) (Nat.le_of_ble_eq_true rfl) dX3_choose_95 (fun v6 u6 hp6 => ?_)
                obtain ⟨rfl, hF6, hr6⟩ := hp6
                simp only [Option.toList_none, List.nil_append]
                refine w_iinc h (pc := 98) dX3_choose_98 rfl (by decide) ?_
                refine w_goto h (pc := 101) (tgt := 50) dX3_choose_101 (by decide) ?_
                refine WW.sub (by rfl) (ih (k + 1) _ u6 (by omega) (by omega) (by omega) (hF5.tr (hF6.up (by simp) (fun q hq => gs_ok (by omega) hq))) ?_ (fun s hs x hx => ?_) (fun s hs => ?_) (fun d h1 h2 s hs => ?_))
                · rw [hF6.1 10 (by simp), hF6.1 20 (by simp)]; exact hz5
                · rw [hF6.2 11 (by have := lb_cs (w5.1 10); simp; omega)]
                  rw [show more - (k + 1) = dd by omega] at hs ⊢
                  exact ht5 s hs x hx
                · rw [show more - (k + 1) = dd by omega] at hs
                  rw [hF6.1 10 (by simp), (hr6 s hs).2, Lr_s, show more - k - 1 = dd by omega]
                  rfl
                · by_cases e : d = dd
                  · subst e
                    rw [(hr6 s hs).1]
                    unfold chD
                    rw [show more - d - 1 = k by omega]
                    rfl
                  · rw [hF6.2 (18 + d) (by have := lb_cs (w5.1 10); simp; omega)]
                    exact hC5 d (by omega) h2 s hs
              refine w_iload_n h (pc := 54) dX3_choose_54 rfl ?_
              refine w_aload_n h (pc := 55) dX3_choose_55 rfl ?_
              refine g3_ledger h (pc := 56) wm_74 dX3_choose_56 ?_
              refine g1_order h (pc := 59) eNw wm_415 dX3_choose_59 ?_
              refine w_iconst h (pc := 62) dX3_choose_62 ?_
              refine w_isub h (pc := 63) dX3_choose_63 ?_
              refine w_icmp_ge h (pc := 64) (tgt := 73) dX3_choose_64 (by decide) (by omega) (by omega) (fun c64 => ?_) (fun c64 => ?_)
              · first
                | exact WW.sub (by rfl) (jn73 u3 (hF.tr (hF3.up (by simp) (by simp))) (by rw [hF3.1 10 (by simp), hF3.1 20 (by simp)]; exact hzw) ht3 (fun s hs => by rw [hF3.1 10 (by simp), hF3.2 (lb (w.1 10)) (by have := lb_cs (w.1 10); simp; omega)]; exact hL s hs) (fun d h1 h2 s hs => by rw [hF3.2 (18 + d) (by simp; omega)]; exact hC d h1 h2 s hs))
                | exact WW.sub (by rfl) (jn73 w hF hzw (by rw [show min dd (N - 1) = min (more - k) (N - 1) by omega]; exact ht) hL hC)
              · refine w_aload_n h (pc := 67) dX3_choose_67 rfl ?_
                refine w_iload_n h (pc := 68) dX3_choose_68 rfl ?_
                refine w_iload_n h (pc := 69) dX3_choose_69 rfl ?_
                refine w_callV2 h (pc := 70) (mX3_fillCosts l D κ a ε V N way num m S T w hAw hV1 c dd (min dd (N - 1)) hc (by omega) rfl) 3 rfl rfl (gdV wm_416 wm_417 wm_418 wm_23 wm_419) (by decide +kernel) ⟨(Nat.le_of_ble_eq_true rfl), (Nat.le_of_ble_eq_true rfl)⟩ ⟨(Nat.le_of_ble_eq_true rfl), (Nat.le_of_ble_eq_true rfl)⟩ (fun _ _ _ => ⟨rfl, rfl⟩) (Nat.le_of_ble_eq_true rfl) dX3_choose_70 (fun v3 u3 hp3 => ?_)
                obtain ⟨rfl, hF3, ht3⟩ := hp3
                simp only [Option.toList_none, List.nil_append]
                first
                | exact WW.sub (by rfl) (jn73 u3 (hF.tr (hF3.up (by simp) (by simp))) (by rw [hF3.1 10 (by simp), hF3.1 20 (by simp)]; exact hzw) ht3 (fun s hs => by rw [hF3.1 10 (by simp), hF3.2 (lb (w.1 10)) (by have := lb_cs (w.1 10); simp; omega)]; exact hL s hs) (fun d h1 h2 s hs => by rw [hF3.2 (18 + d) (by simp; omega)]; exact hC d h1 h2 s hs))
                | exact WW.sub (by rfl) (jn73 w hF hzw (by rw [show min dd (N - 1) = min (more - k) (N - 1) by omega]; exact ht) hL hC)
        exact WW.sub (by rfl) (lp50 (more + 1) 0 _ w (by omega) (by omega) (by omega) hF hzw ht (fun s hs => hL s (by omega)) (fun d h1 h2 => absurd h1 (by omega)))
      · have hci : ((s : Int) * 13 + (V : Int)).toNat = s * 13 + V := by omega
        have hld := ht s (by have : V ^ min more (N - 1) = stN V N more := rfl; omega) V (Nat.le_refl V)
        refine w_aload_n h (pc := 17) dX3_choose_17 rfl ?_
        refine g3_least h (pc := 18) rfl wm_72 dX3_choose_18 ?_
        refine w_iload_n h (pc := 21) dX3_choose_21 rfl ?_
        refine w_aload_n h (pc := 22) dX3_choose_22 rfl ?_
        refine g3_costs h (pc := 23) wm_69 dX3_choose_23 ?_
        refine w_iload_n h (pc := 26) dX3_choose_26 rfl ?_
        refine w_bipush h (pc := 27) dX3_choose_27 (by decide) ?_
        refine w_imul h (pc := 29) dX3_choose_29 ?_
        refine w_aload_n h (pc := 30) dX3_choose_30 rfl ?_
        refine g3_ledger h (pc := 31) wm_74 dX3_choose_31 ?_
        refine g1_words h (pc := 34) eVw wm_414 dX3_choose_34 ?_
        refine w_iadd h (pc := 37) dX3_choose_37 ?_
        refine ld_costs h (pc := 38) (by omega) ((congrArg (w.2 11) hci).trans hld) dX3_choose_38 ?_
        refine st_lb h (pc := 39) (by omega) dX3_choose_39 ?_
        refine w_iinc h (pc := 40) dX3_choose_40 rfl (by decide) ?_
        refine w_goto h (pc := 43) (tgt := 8) dX3_choose_43 (by decide) ?_
        refine WW.sub (by rfl) (ih (s + 1) _ (by omega) (by omega) (hF.tr (Fr.A (by rcases hlb with e | e <;> rw [e] <;> simp))) hzw (fun s9 h9 x hx => ?_) (fun s9 h9 => ?_))
        · rw [uA_ne _ _ (by omega)]; exact ht s9 h9 x hx
        · rw [uA_1, uA_at]
          unfold upI
          rw [Int.toNat_natCast]
          by_cases e : s9 = s
          · rw [if_pos e, e]; rfl
          · rw [if_neg e]; exact hL s9 (by omega)
  exact WW.sub (by rfl) (lp8 (stN V N more + 1) 0 u1 (by omega) (by omega) (hF1.up (by simp) (by simp)) (by rw [hF1.1 10 (by simp), hF1.1 20 (by simp)]; exact hz) ht1 (fun s9 h9 => absurd h9 (Nat.not_lt_zero s9)))

set_option maxHeartbeats 4000000 in
set_option maxRecDepth 100000 in
theorem mX3_choiceAt (l : Launch) (D : va_G) (κ a : Nat → Nat) (ε : EE) (u : US) (d s : Nat) (hd : d < 12) (hs : s < 1728) (r : Nat) (hr : u.2 (18 + d) s = (r : Int)) : Ct (W0 κ a) l D κ ε yX3_choiceAt cX3_choiceAt 3 (some .int) 0 0 0 0 u [.ref (a 3), .int (iI (d : Int)), .int (iI (s : Int))] (fun v u' => v = some (.int (iI (r : Int))) ∧ u' = u) := by
  refine Ct.of (own := RX3) rfl (by decide +kernel) (Nat.le_of_ble_eq_true rfl) rfl (fun Γ h => ?_)
  refine w_iload_n h (pc := 0) dX3_choiceAt_0 rfl ?_
  refine w_if_lt h (pc := 1) (tgt := 21) dX3_choiceAt_1 (by decide) (by omega) (fun c1 => by exfalso; omega) (fun c1 => ?_)
  refine w_iload_n h (pc := 4) dX3_choiceAt_4 rfl ?_
  refine w_bipush h (pc := 5) dX3_choiceAt_5 (by decide) ?_
  refine w_icmp_ge h (pc := 7) (tgt := 21) dX3_choiceAt_7 (by decide) (by omega) (by omega) (fun c7 => by exfalso; omega) (fun c7 => ?_)
  refine w_iload_n h (pc := 10) dX3_choiceAt_10 rfl ?_
  refine w_if_lt h (pc := 11) (tgt := 21) dX3_choiceAt_11 (by decide) (by omega) (fun c11 => by exfalso; omega) (fun c11 => ?_)
  refine w_iload_n h (pc := 14) dX3_choiceAt_14 rfl ?_
  refine w_sipush h (pc := 15) dX3_choiceAt_15 (by decide) ?_
  refine w_icmp_lt h (pc := 18) (tgt := 23) dX3_choiceAt_18 (by decide) (by omega) (by omega) (fun c18 => ?_) (fun c18 => by exfalso; omega)
  refine w_aload_n h (pc := 23) dX3_choiceAt_23 rfl ?_
  refine g3_choices h (pc := 24) wm_71 dX3_choiceAt_24 ?_
  refine w_iload_n h (pc := 27) dX3_choiceAt_27 rfl ?_
  refine ld_choices h (pc := 28) (by omega) (q := 18 + d) (by omega) dX3_choiceAt_28 ?_
  refine w_iload_n h (pc := 29) dX3_choiceAt_29 rfl ?_
  refine ld_ch h (pc := 30) (by omega) (by omega) hr dX3_choiceAt_30 ?_
  exact w_iret h (pc := 31) (ty := .int) rfl rfl dX3_choiceAt_31 (Nat.le_of_ble_eq_true rfl) (Nat.le_of_ble_eq_true rfl) ⟨rfl, rfl⟩

set_option maxHeartbeats 4000000 in
set_option maxRecDepth 100000 in
theorem mX3_stateBehind (l : Launch) (D : va_G) (κ a : Nat → Nat) (ε : EE) (V N : Nat) (u : US) (hV : 1 ≤ V ∧ V ≤ 12) (hN : 1 ≤ N ∧ N ≤ 4) (eV : u.1 4 = (V : Int)) (eN : u.1 5 = (N : Int)) (d s w : Nat) (hd : d ≤ 1) (hs : s ≤ 144) (hw : w < V) : Ct (W0 κ a) l D κ ε yX3_stateBehind cX3_stateBehind 4 (some .int) 3 65 0 0 u [.ref (a 3), .int (iI (d : Int)), .int (iI (s : Int)), .int (iI (w : Int))] (fun v u' => v = some (.int (iI (nx V N d s w : Int))) ∧ u' = u) := by
  have hl2 := pow_lim (V := V) (ch := min (d + 1) (N - 1)) hV (by omega)
  have hst2 : 1 ≤ stN V N (d + 1) ∧ stN V N (d + 1) ≤ 144 := hl2
  obtain ⟨q, hq⟩ : ∃ q, q = s * V := ⟨_, rfl⟩
  have hql : q ≤ 144 * 12 := by rw [hq]; exact Nat.mul_le_mul hs hV.2
  refine Ct.of (own := RX3) rfl (by decide +kernel) (Nat.le_of_ble_eq_true rfl) rfl (fun Γ h => ?_)
  refine w_iload_n h (pc := 0) dX3_stateBehind_0 rfl ?_
  refine w_aload_n h (pc := 1) dX3_stateBehind_1 rfl ?_
  refine g3_ledger h (pc := 2) wm_74 dX3_stateBehind_2 ?_
  refine g1_words h (pc := 5) eV wm_414 dX3_stateBehind_5 ?_
  refine w_imul h (pc := 8) dX3_stateBehind_8 ?_
  rw [show ((s : Int) * (V : Int)) = (q : Int) by rw [hq]; rfl]
  refine w_iload_n h (pc := 9) dX3_stateBehind_9 rfl ?_
  refine w_iadd h (pc := 10) dX3_stateBehind_10 ?_
  refine w_aload_n h (pc := 11) dX3_stateBehind_11 rfl ?_
  refine w_iload_n h (pc := 12) dX3_stateBehind_12 rfl ?_
  refine w_iconst h (pc := 13) dX3_stateBehind_13 ?_
  refine w_iadd h (pc := 14) dX3_stateBehind_14 ?_
  refine w_callV1 h (pc := 15) (mX3_statesAt l D κ a ε V N u hV hN eV eN (d + 1) (by omega)) 3 rfl rfl (gdV wm_426 wm_427 wm_428 wm_23 wm_429) (by decide +kernel) ⟨(Nat.le_of_ble_eq_true rfl), (Nat.le_of_ble_eq_true rfl)⟩ ⟨(Nat.le_of_ble_eq_true rfl), (Nat.le_of_ble_eq_true rfl)⟩ (fun _ _ _ => ⟨rfl, rfl⟩) (Nat.le_of_ble_eq_true rfl) dX3_stateBehind_15 (fun v1 u1 hp1 => ?_)
  obtain ⟨rfl, e1⟩ := hp1
  obtain rfl := e1.symm
  simp only [Option.toList_some, List.cons_append, List.nil_append]
  refine w_irem h (pc := 18) dX3_stateBehind_18 (by omega) (by omega) ?_
  exact w_iret h (pc := 19) (ty := .int) rfl rfl dX3_stateBehind_19 (Nat.le_of_ble_eq_true rfl) (Nat.le_of_ble_eq_true rfl) ⟨by unfold nx; rw [← hq]; rfl, rfl⟩

set_option maxHeartbeats 4000000 in
set_option maxRecDepth 100000 in
theorem mX5_complete (l : Launch) (D : va_G) (κ a : Nat → Nat) (ε : EE) (V N way num m : Nat) (S : List Nat) (T : Nat → List (Nat × Nat)) (u : US) (hA : AB V N way num m S T u) (hV1 : 1 ≤ V) (more : Nat) (hmr : more ≤ 2) (hL12 : S.length + more ≤ 12) (hz : ((u.1 10 = 0 ∧ u.1 20 = 1) ∨ (u.1 10 = 1 ∧ u.1 20 = 0))) : Ct (W0 κ a) l D κ ε yX5_complete cX5_complete 6 (some .int) 6 147 0 0 u [.ref (a 0), .int (iI ((S.length + more : Nat) : Int))] (fun v u' => ∃ ws : List Nat, ws.length = more ∧ (∀ w ∈ ws, w < V) ∧ v = some (.int (iI (scr V N way num (S ++ ws) T : Int))) ∧ AB V N way num m (S ++ ws) T u' ∧ (∀ wt : List Nat, wt.length = more → (∀ w ∈ wt, w < V) → scr V N way num (S ++ ws) T ≤ scr V N way num (S ++ wt) T) ∧ ∀ k, k = 1 ∨ k = 2 ∨ k = 3 ∨ k = 11 → u'.1 k = u.1 k) := by
  obtain ⟨⟨hV, hN, hway, hnum, hm, hSl, hSV⟩, eV, eN, ew, en, ⟨eS, hS⟩, hT⟩ := id hA
  have hbest := cw_best V N (CcF V N way num T (c0 V N S)) more
  have hwl := cw_len V N (CcF V N way num T (c0 V N S)) more more 0 0
  have hwV := cw_lt V N (CcF V N way num T (c0 V N S)) more (by omega) more 0 0
  refine Ct.of (own := RX5) rfl (by decide +kernel) (Nat.le_of_ble_eq_true rfl) rfl (fun Γ h => ?_)
  refine w_iload_n h (pc := 0) dX5_complete_0 rfl ?_
  refine w_aload_n h (pc := 1) dX5_complete_1 rfl ?_
  refine g0_length h (pc := 2) eS wm_33 dX5_complete_2 ?_
  refine w_icmp_lt h (pc := 5) (tgt := 14) dX5_complete_5 (by decide) (by omega) (by omega) (fun c5 => by exfalso; omega) (fun c5 => ?_)
  refine w_iload_n h (pc := 8) dX5_complete_8 rfl ?_
  refine w_bipush h (pc := 9) dX5_complete_9 (by decide) ?_
  refine w_icmp_le h (pc := 11) (tgt := 24) dX5_complete_11 (by decide) (by omega) (by omega) (fun c11 => ?_) (fun c11 => by exfalso; omega)
  refine w_aload_n h (pc := 24) dX5_complete_24 rfl ?_
  refine g0_ledger h (pc := 25) wm_16 dX5_complete_25 ?_
  refine g1_words h (pc := 28) eV wm_113 dX5_complete_28 ?_
  refine w_if_ne h (pc := 31) (tgt := 44) dX5_complete_31 (by decide) (by omega) (fun c31 => ?_) (fun c31 => by exfalso; omega)
  refine w_iload_n h (pc := 44) dX5_complete_44 rfl ?_
  refine w_aload_n h (pc := 45) dX5_complete_45 rfl ?_
  refine g0_length h (pc := 46) eS wm_33 dX5_complete_46 ?_
  refine w_isub h (pc := 49) dX5_complete_49 ?_
  refine w_istore_n h (pc := 50) dX5_complete_50 (by decide) ?_
  refine w_aload_n h (pc := 51) dX5_complete_51 rfl ?_
  refine g0_search h (pc := 52) wm_24 dX5_complete_52 ?_
  refine w_aload_n h (pc := 55) dX5_complete_55 rfl ?_
  refine w_aload_n h (pc := 56) dX5_complete_56 rfl ?_
  refine g0_length h (pc := 57) eS wm_33 dX5_complete_57 ?_
  refine w_iconst h (pc := 60) dX5_complete_60 ?_
  refine w_isub h (pc := 61) dX5_complete_61 ?_
  refine w_aload_n h (pc := 62) dX5_complete_62 rfl ?_
  refine g0_ledger h (pc := 63) wm_16 dX5_complete_63 ?_
  refine g1_order h (pc := 66) eN wm_140 dX5_complete_66 ?_
  refine w_iconst h (pc := 69) dX5_complete_69 ?_
  refine w_isub h (pc := 70) dX5_complete_70 ?_
  rw [show ((N : Int) - 1) = ((N - 1 : Nat) : Int) by omega]
  refine w_callV2 h (pc := 71) (mX5_keyUpTo l D κ a ε V N way num m S T u hA ((S.length : Int) - 1) (by omega) (N - 1) (by omega)) 0 rfl rfl (gdV wm_170 wm_171 wm_172 wm_2 wm_173) (by decide +kernel) ⟨(Nat.le_of_ble_eq_true rfl), (Nat.le_of_ble_eq_true rfl)⟩ ⟨(Nat.le_of_ble_eq_true rfl), (Nat.le_of_ble_eq_true rfl)⟩ (fun _ _ _ => ⟨rfl, rfl⟩) (Nat.le_of_ble_eq_true rfl) dX5_complete_71 (fun v1 u1 hp1 => ?_)
  obtain ⟨rfl, e1⟩ := hp1
  obtain rfl := e1.symm
  simp only [Option.toList_some, List.cons_append, List.nil_append]
  refine w_iload_n h (pc := 74) dX5_complete_74 rfl ?_
  rw [show ((S.length + more : Nat) : Int) - (S.length : Int) = (more : Int) by omega]
  refine w_callV2 h (pc := 75) (mX3_choose l D κ a ε V N way num m S T u hA hV1 (c0 V N S) more (ky_3 hV hSV (by omega) _) hmr hz) 3 rfl rfl (gdV wm_410 wm_411 wm_412 wm_23 wm_413) (by decide +kernel) ⟨(Nat.le_of_ble_eq_true rfl), (Nat.le_of_ble_eq_true rfl)⟩ ⟨(Nat.le_of_ble_eq_true rfl), (Nat.le_of_ble_eq_true rfl)⟩ (fun _ _ _ => ⟨rfl, rfl⟩) (Nat.le_of_ble_eq_true rfl) dX5_complete_75 (fun v2 u2 hp2 => ?_)
  obtain ⟨rfl, hF2, hch⟩ := hp2
  have hA2 := hA.of hF2 (by simp [tS]) (by simp [tG]) (by simp) (by simp)
  simp only [Option.toList_none, List.nil_append]
  refine w_iconst h (pc := 78) dX5_complete_78 ?_
  refine w_istore_n h (pc := 79) dX5_complete_79 (by decide) ?_
  refine w_iconst h (pc := 80) dX5_complete_80 ?_
  refine w_istore h (pc := 81) dX5_complete_81 (by decide) ?_
  have lp83 : ∀ (n9 j s : Nat) (pre : List Nat) (w : US), more < j + n9 → j ≤ more → s < stN V N j → pre.length = j → pre ++ cw V N (CcF V N way num T (c0 V N S)) more (more - j) j s = cw V N (CcF V N way num T (c0 V N S)) more more 0 0 → AB V N way num m (S ++ pre) T w → Fr [0] [6] u2 w → WW Γ 6 w 83 [(0, .ref (a 0)), (2, .int (iI (more : Int))), (3, .int (iI (s : Int))), (4, .int (iI (j : Int)))] [] := by
    intro n9
    induction n9 with
    | zero => intro j s pre w hn9 hj hs hpl hpre hAw hFw; exfalso; omega
    | succ n9 ih =>
      intro j s pre w hn9 hj hs hpl hpre hAw hFw
      refine w_iload h (pc := 83) dX5_complete_83 rfl ?_
      refine w_iload_n h (pc := 85) dX5_complete_85 rfl ?_
      refine w_icmp_ge h (pc := 86) (tgt := 126) dX5_complete_86 (by decide) (by omega) (by omega) (fun c86 => ?_) (fun c86 => ?_)
      · have ej : j = more := by omega
        rw [ej, Nat.sub_self] at hpre
        have epre : pre = cw V N (CcF V N way num T (c0 V N S)) more more 0 0 := by rw [← hpre]; exact (List.append_nil _).symm
        refine w_aload_n h (pc := 126) dX5_complete_126 rfl ?_
        refine w_callV0 h (pc := 127) (mX5_sumOfCosts l D κ a ε V N way num m (S ++ pre) T w hAw) 0 rfl rfl (gdV wm_337 wm_338 wm_339 wm_2 wm_340) (by decide +kernel) ⟨(Nat.le_of_ble_eq_true rfl), (Nat.le_of_ble_eq_true rfl)⟩ ⟨(Nat.le_of_ble_eq_true rfl), (Nat.le_of_ble_eq_true rfl)⟩ (fun _ _ _ => ⟨rfl, rfl⟩) (Nat.le_of_ble_eq_true rfl) dX5_complete_127 (fun v6 u6 hp6 => ?_)
        obtain ⟨rfl, hF6⟩ := hp6
        simp only [Option.toList_some, List.cons_append, List.nil_append]
        have hA6 := hAw.of hF6 (by simp [tS]) (by simp [tG]) (by simp) (by simp)
        rw [epre] at hA6 ⊢
        exact w_iret h (pc := 130) (ty := .int) rfl rfl dX5_complete_130 (Nat.le_of_ble_eq_true rfl) (Nat.le_of_ble_eq_true rfl) ⟨_, hwl, hwV, rfl, hA6, fun wt h1 h2 => by rw [scr_tc ⟨hV1, hV⟩ hN hSV _ (by omega) hwV, scr_tc ⟨hV1, hV⟩ hN hSV _ (by omega) h2]; exact Nat.add_le_add_left (hbest wt h1 h2) _, fun k hk => by rw [hF6.1 k (by simp; omega), hFw.1 k (by simp; omega), hF2.1 k (by simp; omega)]⟩
      · refine w_aload_n h (pc := 89) dX5_complete_89 rfl ?_
        refine g0_search h (pc := 90) wm_24 dX5_complete_90 ?_
        refine w_iload h (pc := 93) dX5_complete_93 rfl ?_
        refine w_iload_n h (pc := 95) dX5_complete_95 rfl ?_
        have hst : stN V N j ≤ 144 := (pow_lim (V := V) (ch := min j (N - 1)) ⟨hV1, hV⟩ (by omega)).2
        obtain ⟨k, hk⟩ : ∃ k, more - j = k + 1 := ⟨more - j - 1, by omega⟩
        rw [hk] at hpre
        have hchv : w.2 (18 + j) s = (chD V N (CcF V N way num T (c0 V N S)) more j s : Int) := by rw [hFw.2 (18 + j) (by simp; omega)]; exact hch j (by omega) s hs
        have hchl : chD V N (CcF V N way num T (c0 V N S)) more j s < V := am_lt (by omega)
        refine w_callV2 h (pc := 96) (mX3_choiceAt l D κ a ε w j s (by omega) (by omega) _ hchv) 3 rfl rfl (gdV wm_440 wm_441 wm_442 wm_23 wm_443) (by decide +kernel) ⟨(Nat.le_of_ble_eq_true rfl), (Nat.le_of_ble_eq_true rfl)⟩ ⟨(Nat.le_of_ble_eq_true rfl), (Nat.le_of_ble_eq_true rfl)⟩ (fun _ _ _ => ⟨rfl, rfl⟩) (Nat.le_of_ble_eq_true rfl) dX5_complete_96 (fun v3 u3 hp3 => ?_)
        obtain ⟨rfl, e3⟩ := hp3
        obtain rfl := e3.symm
        simp only [Option.toList_some, List.cons_append, List.nil_append]
        refine w_istore h (pc := 99) dX5_complete_99 (by decide) ?_
        refine w_aload_n h (pc := 101) dX5_complete_101 rfl ?_
        refine w_iload h (pc := 102) dX5_complete_102 rfl ?_
        refine w_callV1 h (pc := 104) (mX5_append l D κ a ε V N way num m (S ++ pre) T w hAw _ hchl (by rw [List.length_append]; omega)) 0 rfl rfl (gdV wm_158 wm_159 wm_160 wm_2 wm_161) (by decide +kernel) ⟨(Nat.le_of_ble_eq_true rfl), (Nat.le_of_ble_eq_true rfl)⟩ ⟨(Nat.le_of_ble_eq_true rfl), (Nat.le_of_ble_eq_true rfl)⟩ (fun _ _ _ => ⟨rfl, rfl⟩) (Nat.le_of_ble_eq_true rfl) dX5_complete_104 (fun v4 u4 hp4 => ?_)
        obtain ⟨rfl, hF4, hA4⟩ := hp4
        simp only [Option.toList_none, List.nil_append]
        refine w_aload_n h (pc := 107) dX5_complete_107 rfl ?_
        refine g0_search h (pc := 108) wm_24 dX5_complete_108 ?_
        refine w_iload h (pc := 111) dX5_complete_111 rfl ?_
        refine w_iload_n h (pc := 113) dX5_complete_113 rfl ?_
        refine w_iload h (pc := 114) dX5_complete_114 rfl ?_
        refine w_callV3 h (pc := 116) (mX3_stateBehind l D κ a ε V N u4 ⟨hV1, hV⟩ hN hA4.2.1 hA4.2.2.1 j s _ (by omega) (by omega) hchl) 3 rfl rfl (gdV wm_444 wm_445 wm_446 wm_23 wm_447) (by decide +kernel) ⟨(Nat.le_of_ble_eq_true rfl), (Nat.le_of_ble_eq_true rfl)⟩ ⟨(Nat.le_of_ble_eq_true rfl), (Nat.le_of_ble_eq_true rfl)⟩ (fun _ _ _ => ⟨rfl, rfl⟩) (Nat.le_of_ble_eq_true rfl) dX5_complete_116 (fun v5 u5 hp5 => ?_)
        obtain ⟨rfl, e5⟩ := hp5
        obtain rfl := e5.symm
        simp only [Option.toList_some, List.cons_append, List.nil_append]
        refine w_istore_n h (pc := 119) dX5_complete_119 (by decide) ?_
        refine w_iinc h (pc := 120) dX5_complete_120 rfl (by decide) ?_
        refine w_goto h (pc := 123) (tgt := 83) dX5_complete_123 (by decide) ?_
        refine WW.sub (by rfl) (ih (j + 1) (nx V N j s (chD V N (CcF V N way num T (c0 V N S)) more j s)) (pre ++ [chD V N (CcF V N way num T (c0 V N S)) more j s]) u4 (by omega) (by omega) (Nat.mod_lt _ (pow_lim (V := V) (ch := min (j + 1) (N - 1)) ⟨hV1, hV⟩ (by omega)).1) (by rw [List.length_append, hpl]; rfl) ?_ (by rw [← List.append_assoc]; exact hA4) (hFw.tr hF4))
        rw [List.append_assoc, show more - (j + 1) = k by omega]
        exact hpre
  exact WW.sub (by rfl) (lp83 (more + 1) 0 0 [] u2 (by omega) (by omega) (by show 0 < V ^ min 0 (N - 1); rw [Nat.zero_min]; exact Nat.one_pos) rfl rfl (by rw [List.append_nil]; exact hA2) Fr.rfl)
