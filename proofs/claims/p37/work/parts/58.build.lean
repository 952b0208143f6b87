theorem dL_build_0 : decode cL_build 0 = .ok (.iconst 1, 1) := by decide +kernel
theorem dL_build_1 : decode cL_build 1 = .ok (.aload_n 1, 1) := by decide +kernel
theorem dL_build_2 : decode cL_build 2 = .ok (.iconst 0, 1) := by decide +kernel
theorem dL_build_3 : decode cL_build 3 = .ok (.invokestatic 9, 3) := by decide +kernel
theorem dL_build_6 : decode cL_build 6 = .ok (.iconst 5, 1) := by decide +kernel
theorem dL_build_7 : decode cL_build 7 = .ok (.invokestatic 15, 3) := by decide +kernel
theorem dL_build_10 : decode cL_build 10 = .ok (.iadd, 1) := by decide +kernel
theorem dL_build_11 : decode cL_build 11 = .ok (.istore_n 2, 1) := by decide +kernel
theorem dL_build_12 : decode cL_build 12 = .ok (.iconst 1, 1) := by decide +kernel
theorem dL_build_13 : decode cL_build 13 = .ok (.aload_n 1, 1) := by decide +kernel
theorem dL_build_14 : decode cL_build 14 = .ok (.iconst 1, 1) := by decide +kernel
theorem dL_build_15 : decode cL_build 15 = .ok (.invokestatic 9, 3) := by decide +kernel
theorem dL_build_18 : decode cL_build 18 = .ok (.iconst 4, 1) := by decide +kernel
theorem dL_build_19 : decode cL_build 19 = .ok (.invokestatic 15, 3) := by decide +kernel
theorem dL_build_22 : decode cL_build 22 = .ok (.iadd, 1) := by decide +kernel
theorem dL_build_23 : decode cL_build 23 = .ok (.istore_n 3, 1) := by decide +kernel
theorem dL_build_24 : decode cL_build 24 = .ok (.new 19, 3) := by decide +kernel
theorem dL_build_27 : decode cL_build 27 = .ok (.dup, 1) := by decide +kernel
theorem dL_build_28 : decode cL_build 28 = .ok (.iload_n 2, 1) := by decide +kernel
theorem dL_build_29 : decode cL_build 29 = .ok (.iload_n 3, 1) := by decide +kernel
theorem dL_build_30 : decode cL_build 30 = .ok (.invokespecial 21, 3) := by decide +kernel
theorem dL_build_33 : decode cL_build 33 = .ok (.astore 4, 2) := by decide +kernel
theorem dL_build_35 : decode cL_build 35 = .ok (.iconst 0, 1) := by decide +kernel
theorem dL_build_36 : decode cL_build 36 = .ok (.istore 5, 2) := by decide +kernel
theorem dL_build_38 : decode cL_build 38 = .ok (.iload 5, 2) := by decide +kernel
theorem dL_build_40 : decode cL_build 40 = .ok (.iload_n 2, 1) := by decide +kernel
theorem dL_build_41 : decode cL_build 41 = .ok (.if_icmp .ge 14, 3) := by decide +kernel
theorem dL_build_44 : decode cL_build 44 = .ok (.aload_n 0, 1) := by decide +kernel
theorem dL_build_45 : decode cL_build 45 = .ok (.invokevirtual 24, 3) := by decide +kernel
theorem dL_build_48 : decode cL_build 48 = .ok (.pop, 1) := by decide +kernel
theorem dL_build_49 : decode cL_build 49 = .ok (.iinc 5 1, 3) := by decide +kernel
theorem dL_build_52 : decode cL_build 52 = .ok (.goto (-14), 3) := by decide +kernel
theorem dL_build_55 : decode cL_build 55 = .ok (.aload_n 0, 1) := by decide +kernel
theorem dL_build_56 : decode cL_build 56 = .ok (.iload_n 3, 1) := by decide +kernel
theorem dL_build_57 : decode cL_build 57 = .ok (.invokevirtual 30, 3) := by decide +kernel
theorem dL_build_60 : decode cL_build 60 = .ok (.pop, 1) := by decide +kernel
theorem dL_build_61 : decode cL_build 61 = .ok (.iconst 0, 1) := by decide +kernel
theorem dL_build_62 : decode cL_build 62 = .ok (.istore 5, 2) := by decide +kernel
theorem dL_build_64 : decode cL_build 64 = .ok (.iload 5, 2) := by decide +kernel
theorem dL_build_66 : decode cL_build 66 = .ok (.iconst 3, 1) := by decide +kernel
theorem dL_build_67 : decode cL_build 67 = .ok (.if_icmp .ge 59, 3) := by decide +kernel
theorem dL_build_70 : decode cL_build 70 = .ok (.aload_n 0, 1) := by decide +kernel
theorem dL_build_71 : decode cL_build 71 = .ok (.aload_n 1, 1) := by decide +kernel
theorem dL_build_72 : decode cL_build 72 = .ok (.iconst 2, 1) := by decide +kernel
theorem dL_build_73 : decode cL_build 73 = .ok (.iload 5, 2) := by decide +kernel
theorem dL_build_75 : decode cL_build 75 = .ok (.iadd, 1) := by decide +kernel
theorem dL_build_76 : decode cL_build 76 = .ok (.iload_n 2, 1) := by decide +kernel
theorem dL_build_77 : decode cL_build 77 = .ok (.invokestatic 34, 3) := by decide +kernel
theorem dL_build_80 : decode cL_build 80 = .ok (.astore 6, 2) := by decide +kernel
theorem dL_build_82 : decode cL_build 82 = .ok (.iconst 1, 1) := by decide +kernel
theorem dL_build_83 : decode cL_build 83 = .ok (.aload_n 1, 1) := by decide +kernel
theorem dL_build_84 : decode cL_build 84 = .ok (.iconst 2, 1) := by decide +kernel
theorem dL_build_85 : decode cL_build 85 = .ok (.iload 5, 2) := by decide +kernel
theorem dL_build_87 : decode cL_build 87 = .ok (.iadd, 1) := by decide +kernel
theorem dL_build_88 : decode cL_build 88 = .ok (.invokestatic 9, 3) := by decide +kernel
theorem dL_build_91 : decode cL_build 91 = .ok (.bipush 9, 2) := by decide +kernel
theorem dL_build_93 : decode cL_build 93 = .ok (.ishr, 1) := by decide +kernel
theorem dL_build_94 : decode cL_build 94 = .ok (.iconst 4, 1) := by decide +kernel
theorem dL_build_95 : decode cL_build 95 = .ok (.invokestatic 15, 3) := by decide +kernel
theorem dL_build_98 : decode cL_build 98 = .ok (.iadd, 1) := by decide +kernel
theorem dL_build_99 : decode cL_build 99 = .ok (.istore 7, 2) := by decide +kernel
theorem dL_build_101 : decode cL_build 101 = .ok (.aload_n 0, 1) := by decide +kernel
theorem dL_build_102 : decode cL_build 102 = .ok (.iload 7, 2) := by decide +kernel
theorem dL_build_104 : decode cL_build 104 = .ok (.invokevirtual 38, 3) := by decide +kernel
theorem dL_build_107 : decode cL_build 107 = .ok (.pop, 1) := by decide +kernel
theorem dL_build_108 : decode cL_build 108 = .ok (.aload 4, 2) := by decide +kernel
theorem dL_build_110 : decode cL_build 110 = .ok (.aload 6, 2) := by decide +kernel
theorem dL_build_112 : decode cL_build 112 = .ok (.aload 6, 2) := by decide +kernel
theorem dL_build_114 : decode cL_build 114 = .ok (.arraylength, 1) := by decide +kernel
theorem dL_build_115 : decode cL_build 115 = .ok (.iload 7, 2) := by decide +kernel
theorem dL_build_117 : decode cL_build 117 = .ok (.invokevirtual 41, 3) := by decide +kernel
theorem dL_build_120 : decode cL_build 120 = .ok (.iinc 5 1, 3) := by decide +kernel
theorem dL_build_123 : decode cL_build 123 = .ok (.goto (-59), 3) := by decide +kernel
theorem dL_build_126 : decode cL_build 126 = .ok (.aload 4, 2) := by decide +kernel
theorem dL_build_128 : decode cL_build 128 = .ok (.areturn, 1) := by decide +kernel
theorem pQ (A B : va_W) : (A ++ B).Perm (B ++ A) := List.perm_append_comm
theorem pE (B W C : va_W) : (W ++ (B ++ C)).Perm ((B ++ W) ++ C) := by
  rw [List.append_assoc]
  exact pC W B C
theorem w_perm0 {l : Launch} {D : va_G} {κ : Nat → Nat} {ε : EE} {own : String} {cc : ByteArray} {mL : Nat} {ret : Option FieldType} {R : Room} {post : Option Value → DS → Prop} {Γ : DS → Nat → Array Slot → List Value → Prop} {ws : va_W} {c9 s9 : Nat} {pc : Nat} {L : List (Nat × Value)} {st : List Value} (h : Cx Wd l D κ ε own cc mL ret R post Γ) {w1 : va_W} (hp : ws.Perm w1) (k : WW Γ mL (w1, c9, s9) pc L st) : WW Γ mL (ws, c9, s9) pc L st := w_perm h (w2 := []) (by rw [List.append_nil]; exact hp) k
/-- what nobody writes but the seeker and the script -/
def KE (u v : US) : Prop := ∀ k, k ∈ [1, 2, 3, 10, 11, 20] → v.1 k = u.1 k
theorem KE.rfl {u : US} : KE u u := fun _ _ => Eq.refl _
theorem KE.tr {u v w : US} (h1 : KE u v) (h2 : KE v w) : KE u w := fun k hk => (h2 k hk).trans (h1 k hk)
theorem KE.of {u v : US} {ls gs : List Nat} (h : Fr ls gs u v) (h1 : ∀ k, k ∈ [1, 2, 3, 10, 11, 20] → k ∉ ls) : KE u v := fun k hk => h.1 k (h1 k hk)
set_option maxHeartbeats 4000000 in
set_option maxRecDepth 100000 in
theorem mL_build (l : Launch) (D : va_G) (κ : Nat → Nat) (ε : EE) (hL : ε.2.2.1 ≤ 260) (a : Nat → Nat) (u : US) (hA : AB 0 2 0 500 0 [] (fun _ => []) u) : Ct Wd l D κ ε yL_build cL_build 8 (some (.object "CanticleLaw$Own")) 5 130 260 17200 (WS κ a u, 0, 0) [.ref (a 0), .ref ε.2.1] (fun v u' => ∃ (b V N : Nat) (W : va_W) (S1 : List Nat) (T1 : Nat → List (Nat × Nat)) (u1 : US) (n2 : Nat × Nat), v = some (.ref b) ∧ (1 ≤ V ∧ V ≤ 5) ∧ (1 ≤ N ∧ N ≤ 4) ∧ OwnOk κ b V N 90 W ∧ AB V N 0 500 84 S1 T1 u1 ∧ KE u u1 ∧ u' = (W ++ WS κ a u1, n2)) := by
  refine Ct.of (own := RL) rfl (by decide +kernel) (Nat.le_of_ble_eq_true rfl) rfl (fun Γ h => ?_)
  refine w_iconst h (pc := 0) dL_build_0 ?_
  refine w_aload_n h (pc := 1) dL_build_1 rfl ?_
  refine w_iconst h (pc := 2) dL_build_2 ?_
  refine w_fS2 h (pc := 3) (mL_cell l D κ ε hL (WS κ a u) 0 (by omega)) (wr := []) (List.Perm.refl _) (gdS wm_90 wm_91 wm_85 wm_92) (by decide +kernel) ⟨(Nat.le_of_ble_eq_true rfl), (Nat.le_of_ble_eq_true rfl)⟩ ⟨(Nat.le_of_ble_eq_true rfl), (Nat.le_of_ble_eq_true rfl)⟩ (Nat.le_of_ble_eq_true rfl) dL_build_3 (fun v3 u3 hp3 => ?_)
  obtain ⟨⟨z1, hz11, hz12, rfl⟩, rfl⟩ := hp3
  refine WW.equ (u' := (WS κ a u, _, _)) rfl ?_
  simp only [Option.toList_some, List.cons_append, List.nil_append]
  refine w_iconst h (pc := 6) dL_build_6 ?_
  refine w_fS2 h (pc := 7) (mL_below l D κ ε (WS κ a u) _ _ (by omega)) (wr := []) (List.Perm.refl _) (gdS wm_94 wm_95 wm_85 wm_96) (by decide +kernel) ⟨(Nat.le_of_ble_eq_true rfl), (Nat.le_of_ble_eq_true rfl)⟩ ⟨(Nat.le_of_ble_eq_true rfl), (Nat.le_of_ble_eq_true rfl)⟩ (Nat.le_of_ble_eq_true rfl) dL_build_7 (fun v7 u7 hp7 => ?_)
  obtain ⟨⟨r1, hr1, rfl⟩, rfl⟩ := hp7
  refine WW.equ (u' := (WS κ a u, _, _)) rfl ?_
  simp only [Option.toList_some, List.cons_append, List.nil_append]
  refine w_iadd h (pc := 10) dL_build_10 ?_
  obtain ⟨V, hVe⟩ : ∃ V : Nat, V = 1 + r1 := ⟨_, rfl⟩
  rw [show (1 : Int) + (r1 : Int) = (V : Int) by omega]
  refine w_istore_n h (pc := 11) dL_build_11 (by decide) ?_
  refine w_iconst h (pc := 12) dL_build_12 ?_
  refine w_aload_n h (pc := 13) dL_build_13 rfl ?_
  refine w_iconst h (pc := 14) dL_build_14 ?_
  refine w_fS2 h (pc := 15) (mL_cell l D κ ε hL (WS κ a u) 1 (by omega)) (wr := []) (List.Perm.refl _) (gdS wm_90 wm_91 wm_85 wm_92) (by decide +kernel) ⟨(Nat.le_of_ble_eq_true rfl), (Nat.le_of_ble_eq_true rfl)⟩ ⟨(Nat.le_of_ble_eq_true rfl), (Nat.le_of_ble_eq_true rfl)⟩ (Nat.le_of_ble_eq_true rfl) dL_build_15 (fun v15 u15 hp15 => ?_)
  obtain ⟨⟨z2, hz21, hz22, rfl⟩, rfl⟩ := hp15
  refine WW.equ (u' := (WS κ a u, _, _)) rfl ?_
  simp only [Option.toList_some, List.cons_append, List.nil_append]
  refine w_iconst h (pc := 18) dL_build_18 ?_
  refine w_fS2 h (pc := 19) (mL_below l D κ ε (WS κ a u) _ _ (by omega)) (wr := []) (List.Perm.refl _) (gdS wm_94 wm_95 wm_85 wm_96) (by decide +kernel) ⟨(Nat.le_of_ble_eq_true rfl), (Nat.le_of_ble_eq_true rfl)⟩ ⟨(Nat.le_of_ble_eq_true rfl), (Nat.le_of_ble_eq_true rfl)⟩ (Nat.le_of_ble_eq_true rfl) dL_build_19 (fun v19 u19 hp19 => ?_)
  obtain ⟨⟨r2, hr2, rfl⟩, rfl⟩ := hp19
  refine WW.equ (u' := (WS κ a u, _, _)) rfl ?_
  simp only [Option.toList_some, List.cons_append, List.nil_append]
  refine w_iadd h (pc := 22) dL_build_22 ?_
  obtain ⟨N, hNe⟩ : ∃ N : Nat, N = 1 + r2 := ⟨_, rfl⟩
  rw [show (1 : Int) + (r2 : Int) = (N : Int) by omega]
  have hN : 1 ≤ N ∧ N ≤ 4 := by omega
  refine w_istore_n h (pc := 23) dL_build_23 (by decide) ?_
  refine w_new h (pc := 24) wi_X6 tyX6 tyX6_ok wm_87 wm_88 wm_89 (ci := 6) rfl (fs := [.int 0, .int 0, .null, .null]) (fun j hj => by rcases (show j = 0 ∨ j = 1 ∨ j = 2 ∨ j = 3 by omega) with rfl | rfl | rfl | rfl <;> rfl) (Nat.le_of_ble_eq_true rfl) (Nat.le_of_ble_eq_true rfl) dL_build_24 (fun b => ?_)
  refine w_dup h (pc := 27) dL_build_27 rfl ?_
  refine w_iload_n h (pc := 28) dL_build_28 rfl ?_
  refine w_iload_n h (pc := 29) dL_build_29 rfl ?_
  refine w_fI2 h (pc := 30) (mX6_init l D κ ε b V N) (wr := WS κ a u) (List.Perm.refl _) (gdN wm_100) wm_89 wm_98 wm_99 rfl (by decide +kernel) ⟨(Nat.le_of_ble_eq_true rfl), (Nat.le_of_ble_eq_true rfl)⟩ ⟨(Nat.le_of_ble_eq_true rfl), (Nat.le_of_ble_eq_true rfl)⟩ (Nat.le_of_ble_eq_true rfl) dL_build_30 (fun v30 u30 hp30 => ?_)
  obtain ⟨rfl, q1, q2, rfl⟩ := hp30
  refine w_perm0 h List.perm_append_comm ?_
  simp only [Option.toList_none, List.nil_append]
  obtain ⟨Wo, hWo⟩ : ∃ Wo : va_W, Wo = [(b, .inr (6, [.int (iI (V : Int)), .int (iI (N : Int)), .ref q1, .ref q2])), (q1, .inl (κ 3, 0, .inr (.inr (.inr (.inr (fun _ => none)))))), (q2, .inl (κ 0, 0, .inl (fun _ => iI 0)))] := ⟨_, rfl⟩
  refine WW.equ (u' := (Wo ++ WS κ a u, 3, 4)) (by rw [hWo]) ?_
  have hO0 : OwnOk κ b V N 0 Wo := by
    rw [hWo]
    exact ⟨q1, q2, 0, _, _, Nat.le_refl _, List.mem_cons_self, List.mem_cons_of_mem _ List.mem_cons_self, List.mem_cons_of_mem _ (List.mem_cons_of_mem _ List.mem_cons_self), fun j hj => absurd hj (Nat.not_lt_zero _)⟩
  refine w_astore h (pc := 33) dL_build_33 (by decide) ?_
  refine w_iconst h (pc := 35) dL_build_35 ?_
  refine w_istore h (pc := 36) dL_build_36 (by decide) ?_
  have lp38 : ∀ (n9 j : Nat) (u2 : US), V < j + n9 → j ≤ V → AB j 2 0 500 0 [] (fun _ => []) u2 → KE u u2 → WW Γ 8 (Wo ++ WS κ a u2, 3, 4) 38 [(0, .ref (a 0)), (1, .ref ε.2.1), (2, .int (iI (V : Int))), (3, .int (iI (N : Int))), (4, .ref b), (5, .int (iI (j : Int)))] [] := by
    intro n9
    induction n9 with
    | zero => intro j u2 hn9 hj hA2 hK2; exfalso; omega
    | succ n9 ih =>
      intro j u2 hn9 hj hA2 hK2
      refine w_iload h (pc := 38) dL_build_38 rfl ?_
      refine w_iload_n h (pc := 40) dL_build_40 rfl ?_
      refine w_icmp_ge h (pc := 41) (tgt := 55) dL_build_41 (by decide) (by omega) (by omega) (fun c41 => ?_) (fun c41 => ?_)
      · obtain rfl : V = j := by omega
        refine w_aload_n h (pc := 55) dL_build_55 rfl ?_
        refine w_iload_n h (pc := 56) dL_build_56 rfl ?_
        refine w_fV1 h (pc := 57) (mX5_setOrder l D κ a ε V 2 0 500 0 [] (fun _ => []) u2 hA2 N hN) (wr := Wo) (List.Perm.refl _) 0 rfl rfl (gdV wm_134 wm_135 wm_136 wm_2 wm_137) (by decide +kernel) ⟨(Nat.le_of_ble_eq_true rfl), (Nat.le_of_ble_eq_true rfl)⟩ ⟨(Nat.le_of_ble_eq_true rfl), (Nat.le_of_ble_eq_true rfl)⟩ (Nat.le_of_ble_eq_true rfl) dL_build_57 (fun v57 u57 hp57 => ?_)
        obtain ⟨rfl, hF57, hA57⟩ := hp57
        refine WW.equ (u' := (Wo ++ WS κ a u57, _, _)) rfl ?_
        simp only [Option.toList_some, List.cons_append, List.nil_append]
        refine w_pop h (pc := 60) dL_build_60 rfl ?_
        refine w_iconst h (pc := 61) dL_build_61 ?_
        refine w_istore h (pc := 62) dL_build_62 (by decide) ?_
        have lp64 : ∀ (n9 j : Nat) (W1 : va_W) (S2 : List Nat) (T2 : Nat → List (Nat × Nat)) (u2 : US), 3 < j + n9 → j ≤ 3 → OwnOk κ b V N (28 * j) W1 → AB V N 0 500 (28 * j) S2 T2 u2 → KE u u2 → WW Γ 8 (W1 ++ WS κ a u2, 3 + 85 * j, 4 + 5718 * j) 64 [(0, .ref (a 0)), (1, .ref ε.2.1), (2, .int (iI (V : Int))), (3, .int (iI (N : Int))), (4, .ref b), (5, .int (iI (j : Int)))] [] := by
          intro n9
          induction n9 with
          | zero => intro j W1 S2 T2 u2 hn9 hj hO1 hA2 hK2; exfalso; omega
          | succ n9 ih =>
            intro j W1 S2 T2 u2 hn9 hj hO1 hA2 hK2
            refine w_iload h (pc := 64) dL_build_64 rfl ?_
            refine w_iconst h (pc := 66) dL_build_66 ?_
            refine w_icmp_ge h (pc := 67) (tgt := 126) dL_build_67 (by decide) (by omega) (by omega) (fun c67 => ?_) (fun c67 => ?_)
            · refine w_aload h (pc := 126) dL_build_126 rfl ?_
              obtain rfl : j = 3 := by omega
              exact w_aret h (pc := 128) rfl (Or.inl ⟨_, rfl⟩) dL_build_128 (Nat.le_of_ble_eq_true rfl) (Nat.le_of_ble_eq_true rfl) ⟨b, V, N, W1, S2, T2, u2, _, rfl, by omega, by omega, hO1.more (by omega), hA2, hK2, rfl⟩
            · refine w_aload_n h (pc := 70) dL_build_70 rfl ?_
              refine w_aload_n h (pc := 71) dL_build_71 rfl ?_
              refine w_iconst h (pc := 72) dL_build_72 ?_
              refine w_iload h (pc := 73) dL_build_73 rfl ?_
              refine w_iadd h (pc := 75) dL_build_75 ?_
              refine w_iload_n h (pc := 76) dL_build_76 rfl ?_
              rw [show (2 : Int) + (j : Int) = ((2 + j : Nat) : Int) from rfl]
              refine w_fS4 h (pc := 77) (mL_sentence l D κ ε hL a V N 0 500 (28 * j) S2 T2 u2 hA2 (2 + j) (by omega) (by omega)) (wr := W1) (List.Perm.refl _) (gdS wm_141 wm_142 wm_85 wm_143) (by decide +kernel) ⟨(Nat.le_of_ble_eq_true rfl), (Nat.le_of_ble_eq_true rfl)⟩ ⟨by show 3 + 85 * j + 1 ≤ 260; omega, by show 4 + 5718 * j + 6 ≤ 17200; omega⟩ (Nat.le_of_ble_eq_true rfl) dL_build_77 (fun v77 u77 hp77 => ?_)
              obtain ⟨S3, x, g3, u3, n3, rfl, hS3, hA3, hF3, hg3, rfl⟩ := hp77
              refine w_perm0 h (pE [(x, .inl (κ 0, S3.length, .inl g3))] W1 (WS κ a u3)) ?_
              simp only [Option.toList_some, List.cons_append, List.nil_append]
              refine w_astore h (pc := 80) dL_build_80 (by decide) ?_
              refine w_iconst h (pc := 82) dL_build_82 ?_
              refine w_aload_n h (pc := 83) dL_build_83 rfl ?_
              refine w_iconst h (pc := 84) dL_build_84 ?_
              refine w_iload h (pc := 85) dL_build_85 rfl ?_
              refine w_iadd h (pc := 87) dL_build_87 ?_
              rw [show (2 : Int) + (j : Int) = ((2 + j : Nat) : Int) from rfl]
              refine w_fS2 h (pc := 88) (mL_cell l D κ ε hL (([(x, .inl (κ 0, S3.length, .inl g3))] ++ W1) ++ WS κ a u3) (2 + j) (by omega)) (wr := []) (List.Perm.refl _) (gdS wm_90 wm_91 wm_85 wm_92) (by decide +kernel) ⟨(Nat.le_of_ble_eq_true rfl), (Nat.le_of_ble_eq_true rfl)⟩ ⟨by show 3 + 85 * j + 1 + 0 ≤ 260; omega, by show 4 + 5718 * j + 6 + 0 ≤ 17200; omega⟩ (Nat.le_of_ble_eq_true rfl) dL_build_88 (fun v88 u88 hp88 => ?_)
              obtain ⟨⟨z3, hz31, hz32, rfl⟩, rfl⟩ := hp88
              refine WW.equ (u' := (([(x, .inl (κ 0, S3.length, .inl g3))] ++ W1) ++ WS κ a u3, _, _)) rfl ?_
              simp only [Option.toList_some, List.cons_append, List.nil_append]
              refine w_bipush h (pc := 91) dL_build_91 (by decide) ?_
              obtain ⟨z4, hz4, hz5, hz6⟩ := iI_rg (iI z3 >>> (iI 9 &&& 31))
              refine w_ishr h (pc := 93) (z := z4) dL_build_93 hz4 ?_
              refine w_iconst h (pc := 94) dL_build_94 ?_
              refine w_fS2 h (pc := 95) (mL_below l D κ ε (([(x, .inl (κ 0, S3.length, .inl g3))] ++ W1) ++ WS κ a u3) _ _ (by omega)) (wr := []) (List.Perm.refl _) (gdS wm_94 wm_95 wm_85 wm_96) (by decide +kernel) ⟨(Nat.le_of_ble_eq_true rfl), (Nat.le_of_ble_eq_true rfl)⟩ ⟨by show 3 + 85 * j + 1 + 0 + 0 ≤ 260; omega, by show 4 + 5718 * j + 6 + 0 + 0 ≤ 17200; omega⟩ (Nat.le_of_ble_eq_true rfl) dL_build_95 (fun v95 u95 hp95 => ?_)
              obtain ⟨⟨r3, hr3, rfl⟩, rfl⟩ := hp95
              refine WW.equ (u' := (([(x, .inl (κ 0, S3.length, .inl g3))] ++ W1) ++ WS κ a u3, _, _)) rfl ?_
              simp only [Option.toList_some, List.cons_append, List.nil_append]
              refine w_iadd h (pc := 98) dL_build_98 ?_
              obtain ⟨c, hce⟩ : ∃ c : Nat, c = 1 + r3 := ⟨_, rfl⟩
              rw [show (1 : Int) + (r3 : Int) = (c : Int) by omega]
              have hc : 0 < c ∧ c ≤ 4 := by omega
              refine w_istore h (pc := 99) dL_build_99 (by decide) ?_
              refine w_aload_n h (pc := 101) dL_build_101 rfl ?_
              refine w_iload h (pc := 102) dL_build_102 rfl ?_
              refine w_fV1 h (pc := 104) (mX5_learn l D κ a ε V N 0 500 (28 * j) S3 T2 u3 hA3 c hc (by omega) hS3 (by omega)) (wr := ([(x, .inl (κ 0, S3.length, .inl g3))] ++ W1)) (List.Perm.refl _) 0 rfl rfl (gdV wm_162 wm_163 wm_164 wm_2 wm_165) (by decide +kernel) ⟨(Nat.le_of_ble_eq_true rfl), (Nat.le_of_ble_eq_true rfl)⟩ ⟨by show 3 + 85 * j + 1 + 0 + 0 + 0 ≤ 260; omega, by show 4 + 5718 * j + 6 + 0 + 0 + 0 ≤ 17200; omega⟩ (Nat.le_of_ble_eq_true rfl) dL_build_104 (fun v104 u104 hp104 => ?_)
              obtain ⟨hF4, T4, hA4, -, rfl⟩ := hp104
              refine WW.equ (u' := (([(x, .inl (κ 0, S3.length, .inl g3))] ++ W1) ++ WS κ a u104, _, _)) rfl ?_
              simp only [Option.toList_some, List.cons_append, List.nil_append]
              refine w_pop h (pc := 107) dL_build_107 rfl ?_
              refine w_aload h (pc := 108) dL_build_108 rfl ?_
              refine w_aload h (pc := 110) dL_build_110 rfl ?_
              refine w_aload h (pc := 112) dL_build_112 rfl ?_
              refine w_alen h (pc := 114) 0 0 rfl rfl dL_build_114 ?_
              refine WW.eqs (st' := [.int (iI (S3.length : Int)), .ref x, .ref b]) rfl ?_
              refine w_iload h (pc := 115) dL_build_115 rfl ?_
              obtain ⟨q0, p3, p4, hq0⟩ := Own_at hO1
              refine w_fV3 h (pc := 117) (mX6_learn l D κ ε W1 b V N (28 * j) x S3.length S3.length c g3 hO1 (by omega) (by omega) (by omega) (Nat.le_refl _) hS3) (wr := WS κ a u104) (pQ ([(x, .inl (κ 0, S3.length, .inl g3))] ++ W1) (WS κ a u104)) (q0 + 1) (show ([(x, .inl (κ 0, S3.length, .inl g3))] ++ W1)[q0 + 1]? = _ from hq0) rfl (gdV wm_224 wm_225 wm_226 wm_89 wm_227) (by decide +kernel) ⟨(Nat.le_of_ble_eq_true rfl), (Nat.le_of_ble_eq_true rfl)⟩ ⟨by show 3 + 85 * j + 1 + 0 + 0 + 0 + 84 ≤ 260; omega, by show 4 + 5718 * j + 6 + 0 + 0 + 0 + 5712 ≤ 17200; omega⟩ (Nat.le_of_ble_eq_true rfl) dL_build_117 (fun v117 u117 hp117 => ?_)
              obtain ⟨rfl, W3, n4, hO3, rfl⟩ := hp117
              refine w_perm0 h List.perm_append_comm ?_
              simp only [Option.toList_none, List.nil_append]
              refine w_iinc h (pc := 120) dL_build_120 rfl (by decide) ?_
              refine w_goto h (pc := 123) (tgt := 64) dL_build_123 (by decide) ?_
              refine w_cnt h (c8 := 3 + 85 * (j + 1)) (s8 := 4 + 5718 * (j + 1)) (by omega) (by omega) ?_
              exact WW.sub (by rfl) (ih (j + 1) ([(x, .inl (κ 0, S3.length, .inl g3))] ++ W3) S3 T4 u104 (by omega) (by omega) ((hO3.mono (fun q hq => List.mem_append_right _ hq)).more (by omega)) hA4 (((hK2.tr (KE.of hF3 (by simp))).tr (KE.of hF4 (by simp [tS])))))
        exact WW.sub (by rfl) (lp64 4 0 Wo [] (fun _ => []) u57 (by omega) (by omega) hO0 hA57 (hK2.tr (KE.of hF57 (by simp [tS]))))
      · refine w_aload_n h (pc := 44) dL_build_44 rfl ?_
        refine w_fV0 h (pc := 45) (mX5_addWord l D κ a ε j 2 0 500 0 [] (fun _ => []) u2 hA2 (by omega)) (wr := Wo) (List.Perm.refl _) 0 rfl rfl (gdV wm_107 wm_108 wm_109 wm_2 wm_110) (by decide +kernel) ⟨(Nat.le_of_ble_eq_true rfl), (Nat.le_of_ble_eq_true rfl)⟩ ⟨(Nat.le_of_ble_eq_true rfl), (Nat.le_of_ble_eq_true rfl)⟩ (Nat.le_of_ble_eq_true rfl) dL_build_45 (fun v45 u45 hp45 => ?_)
        obtain ⟨rfl, hF45, hA45⟩ := hp45
        refine WW.equ (u' := (Wo ++ WS κ a u45, _, _)) rfl ?_
        simp only [Option.toList_some, List.cons_append, List.nil_append]
        refine w_pop h (pc := 48) dL_build_48 rfl ?_
        refine w_iinc h (pc := 49) dL_build_49 rfl (by decide) ?_
        refine w_goto h (pc := 52) (tgt := 38) dL_build_52 (by decide) ?_
        exact WW.sub (by rfl) (ih (j + 1) u45 (by omega) (by omega) hA45 (hK2.tr (KE.of hF45 (by simp [tS]))))
  exact WW.sub (by rfl) (lp38 (V + 1) 0 u (by omega) (by omega) hA KE.rfl)
