theorem dX1_pick_0 : decode cX1_pick 0 = .ok (.lconst 0, 1) := by decide +kernel
theorem dX1_pick_1 : decode cX1_pick 1 = .ok (.lstore_n 3, 1) := by decide +kernel
theorem dX1_pick_2 : decode cX1_pick 2 = .ok (.aload_n 0, 1) := by decide +kernel
theorem dX1_pick_3 : decode cX1_pick 3 = .ok (.getfield 32, 3) := by decide +kernel
theorem dX1_pick_6 : decode cX1_pick 6 = .ok (.getfield 37, 3) := by decide +kernel
theorem dX1_pick_9 : decode cX1_pick 9 = .ok (.istore 5, 2) := by decide +kernel
theorem dX1_pick_11 : decode cX1_pick 11 = .ok (.iload 5, 2) := by decide +kernel
theorem dX1_pick_13 : decode cX1_pick 13 = .ok (.ifCond .lt 27, 3) := by decide +kernel
theorem dX1_pick_16 : decode cX1_pick 16 = .ok (.lload_n 3, 1) := by decide +kernel
theorem dX1_pick_17 : decode cX1_pick 17 = .ok (.iload_n 2, 1) := by decide +kernel
theorem dX1_pick_18 : decode cX1_pick 18 = .ok (.iload 5, 2) := by decide +kernel
theorem dX1_pick_20 : decode cX1_pick 20 = .ok (.ishr, 1) := by decide +kernel
theorem dX1_pick_21 : decode cX1_pick 21 = .ok (.iconst 1, 1) := by decide +kernel
theorem dX1_pick_22 : decode cX1_pick 22 = .ok (.iand, 1) := by decide +kernel
theorem dX1_pick_23 : decode cX1_pick 23 = .ok (.aload_n 0, 1) := by decide +kernel
theorem dX1_pick_24 : decode cX1_pick 24 = .ok (.getfield 18, 3) := by decide +kernel
theorem dX1_pick_27 : decode cX1_pick 27 = .ok (.iload 5, 2) := by decide +kernel
theorem dX1_pick_29 : decode cX1_pick 29 = .ok (.iaload, 1) := by decide +kernel
theorem dX1_pick_30 : decode cX1_pick 30 = .ok (.imul, 1) := by decide +kernel
theorem dX1_pick_31 : decode cX1_pick 31 = .ok (.i2l, 1) := by decide +kernel
theorem dX1_pick_32 : decode cX1_pick 32 = .ok (.ladd, 1) := by decide +kernel
theorem dX1_pick_33 : decode cX1_pick 33 = .ok (.lstore_n 3, 1) := by decide +kernel
theorem dX1_pick_34 : decode cX1_pick 34 = .ok (.iinc 5 (-1), 3) := by decide +kernel
theorem dX1_pick_37 : decode cX1_pick 37 = .ok (.goto (-26), 3) := by decide +kernel
theorem dX1_pick_40 : decode cX1_pick 40 = .ok (.iload_n 1, 1) := by decide +kernel
theorem dX1_pick_41 : decode cX1_pick 41 = .ok (.i2l, 1) := by decide +kernel
theorem dX1_pick_42 : decode cX1_pick 42 = .ok (.lload_n 3, 1) := by decide +kernel
theorem dX1_pick_43 : decode cX1_pick 43 = .ok (.lmul, 1) := by decide +kernel
theorem dX1_pick_44 : decode cX1_pick 44 = .ok (.ldc2_w 104, 3) := by decide +kernel
theorem dX1_pick_47 : decode cX1_pick 47 = .ok (.ldiv, 1) := by decide +kernel
theorem dX1_pick_48 : decode cX1_pick 48 = .ok (.lstore 5, 2) := by decide +kernel
theorem dX1_pick_50 : decode cX1_pick 50 = .ok (.iconst (-1), 1) := by decide +kernel
theorem dX1_pick_51 : decode cX1_pick 51 = .ok (.istore 7, 2) := by decide +kernel
theorem dX1_pick_53 : decode cX1_pick 53 = .ok (.lconst 0, 1) := by decide +kernel
theorem dX1_pick_54 : decode cX1_pick 54 = .ok (.lstore 8, 2) := by decide +kernel
theorem dX1_pick_56 : decode cX1_pick 56 = .ok (.iconst 0, 1) := by decide +kernel
theorem dX1_pick_57 : decode cX1_pick 57 = .ok (.istore 10, 2) := by decide +kernel
theorem dX1_pick_59 : decode cX1_pick 59 = .ok (.iload 10, 2) := by decide +kernel
theorem dX1_pick_61 : decode cX1_pick 61 = .ok (.aload_n 0, 1) := by decide +kernel
theorem dX1_pick_62 : decode cX1_pick 62 = .ok (.getfield 32, 3) := by decide +kernel
theorem dX1_pick_65 : decode cX1_pick 65 = .ok (.getfield 37, 3) := by decide +kernel
theorem dX1_pick_68 : decode cX1_pick 68 = .ok (.if_icmp .gt 57, 3) := by decide +kernel
theorem dX1_pick_71 : decode cX1_pick 71 = .ok (.iload_n 2, 1) := by decide +kernel
theorem dX1_pick_72 : decode cX1_pick 72 = .ok (.iload 10, 2) := by decide +kernel
theorem dX1_pick_74 : decode cX1_pick 74 = .ok (.ishr, 1) := by decide +kernel
theorem dX1_pick_75 : decode cX1_pick 75 = .ok (.iconst 1, 1) := by decide +kernel
theorem dX1_pick_76 : decode cX1_pick 76 = .ok (.iand, 1) := by decide +kernel
theorem dX1_pick_77 : decode cX1_pick 77 = .ok (.iconst 1, 1) := by decide +kernel
theorem dX1_pick_78 : decode cX1_pick 78 = .ok (.if_icmp .ne 41, 3) := by decide +kernel
theorem dX1_pick_81 : decode cX1_pick 81 = .ok (.lload 8, 2) := by decide +kernel
theorem dX1_pick_83 : decode cX1_pick 83 = .ok (.aload_n 0, 1) := by decide +kernel
theorem dX1_pick_84 : decode cX1_pick 84 = .ok (.getfield 18, 3) := by decide +kernel
theorem dX1_pick_87 : decode cX1_pick 87 = .ok (.iload 10, 2) := by decide +kernel
theorem dX1_pick_89 : decode cX1_pick 89 = .ok (.iaload, 1) := by decide +kernel
theorem dX1_pick_90 : decode cX1_pick 90 = .ok (.i2l, 1) := by decide +kernel
theorem dX1_pick_91 : decode cX1_pick 91 = .ok (.ladd, 1) := by decide +kernel
theorem dX1_pick_92 : decode cX1_pick 92 = .ok (.lstore 8, 2) := by decide +kernel
theorem dX1_pick_94 : decode cX1_pick 94 = .ok (.lload 8, 2) := by decide +kernel
theorem dX1_pick_96 : decode cX1_pick 96 = .ok (.lload 5, 2) := by decide +kernel
theorem dX1_pick_98 : decode cX1_pick 98 = .ok (.lcmp, 1) := by decide +kernel
theorem dX1_pick_99 : decode cX1_pick 99 = .ok (.ifCond .le 6, 3) := by decide +kernel
theorem dX1_pick_102 : decode cX1_pick 102 = .ok (.iload 10, 2) := by decide +kernel
theorem dX1_pick_104 : decode cX1_pick 104 = .ok (.ireturn, 1) := by decide +kernel
theorem dX1_pick_105 : decode cX1_pick 105 = .ok (.iload 7, 2) := by decide +kernel
theorem dX1_pick_107 : decode cX1_pick 107 = .ok (.ifCond .ge 8, 3) := by decide +kernel
theorem dX1_pick_110 : decode cX1_pick 110 = .ok (.iload 10, 2) := by decide +kernel
theorem dX1_pick_112 : decode cX1_pick 112 = .ok (.goto 5, 3) := by decide +kernel
theorem dX1_pick_115 : decode cX1_pick 115 = .ok (.iload 7, 2) := by decide +kernel
theorem dX1_pick_117 : decode cX1_pick 117 = .ok (.istore 7, 2) := by decide +kernel
theorem dX1_pick_119 : decode cX1_pick 119 = .ok (.iinc 10 1, 3) := by decide +kernel
theorem dX1_pick_122 : decode cX1_pick 122 = .ok (.goto (-63), 3) := by decide +kernel
theorem dX1_pick_125 : decode cX1_pick 125 = .ok (.iload 7, 2) := by decide +kernel
theorem dX1_pick_127 : decode cX1_pick 127 = .ok (.ifCond .ge 13, 3) := by decide +kernel
theorem dX1_pick_140 : decode cX1_pick 140 = .ok (.iload 7, 2) := by decide +kernel
theorem dX1_pick_142 : decode cX1_pick 142 = .ok (.ireturn, 1) := by decide +kernel
set_option maxHeartbeats 4000000 in
set_option maxRecDepth 100000 in
theorem mX1_pick (l : Launch) (D : va_G) (κ a : Nat → Nat) (ε : EE) (V : Nat) (u : US) (hV : V ≤ 12) (eV : u.1 4 = (V : Int)) (p : Nat → Nat) (hc : ∀ x, x ≤ V → u.2 9 x = (p x : Int) ∧ p x ≤ 1000000) (lk9 : Nat) (hlk : lk9 < 10000) (o : Int) (b : Nat → Nat) (hb : ∀ w, w ≤ V → ((iI o >>> (iI (w : Int) &&& 31)) &&& iI 1 = iI (b w : Int)) ∧ b w ≤ 1) (hex : ∃ w, w ≤ V ∧ b w = 1) : Ct (W0 κ a) l D κ ε yX1_pick cX1_pick 11 (some .int) 0 0 0 0 u [.ref (a 2), .int (iI (lk9 : Int)), .int (iI o)] (fun v u' => u' = u ∧ ∃ r : Nat, v = some (.int (iI (r : Int))) ∧ r ≤ V ∧ b r = 1 ∧ (0 < sm (fun i => b i * p i) (V + 1) → 0 < p r)) := by
  have hterm : ∀ i, i ≤ V → b i * p i ≤ 1000000 := fun i hi => by
    have h1 := (hb i hi).2
    have h2 := (hc i hi).2
    have := Nat.mul_le_mul h1 h2
    omega
  have hsum : ∀ j, j ≤ V + 1 → sm (fun i => b i * p i) j ≤ 13000000 := fun j hj => by
    have := sm_bound (f := (fun i => b i * p i)) (B := 1000000) j (fun i hi => hterm i (by omega))
    omega
  refine Ct.of (own := RX1) rfl (by decide +kernel) (Nat.le_of_ble_eq_true rfl) rfl (fun Γ h => ?_)
  refine w_lconst h (pc := 0) (z := 0) dX1_pick_0 (by decide) ?_
  refine w_lstore_n h (pc := 1) dX1_pick_1 (by decide) ?_
  refine w_aload_n h (pc := 2) dX1_pick_2 rfl ?_
  refine g2_ledger h (pc := 3) wm_64 dX1_pick_3 ?_
  refine g1_words h (pc := 6) eV wm_307 dX1_pick_6 ?_
  refine w_istore h (pc := 9) dX1_pick_9 (by decide) ?_
  have lp11 : ∀ (n9 j : Nat) (s z : Int), z + 1 = (j : Int) → j < n9 → j ≤ V + 1 → s + (sm (fun i => b i * p i) j : Int) = (sm (fun i => b i * p i) (V + 1) : Int) → WW Γ 11 u 11 [(0, .ref (a 2)), (1, .int (iI (lk9 : Int))), (2, .int (iI o)), (3, .long (lI s)), (5, .int (iI z))] [] := by
    intro n9
    induction n9 with
    | zero => intro j s z hz9 hn9 hj hs; exfalso; omega
    | succ n9 ih =>
      intro j s z hz9 hn9 hj hs
      refine w_iload h (pc := 11) dX1_pick_11 rfl ?_
      refine w_if_lt h (pc := 13) (tgt := 40) dX1_pick_13 (by decide) (by omega) (fun c13 => ?_) (fun c13 => ?_)
      · have ej : j = 0 := by omega
        subst ej
        have hs2 : s = (sm (fun i => b i * p i) (V + 1) : Int) := by have : sm (fun i => b i * p i) 0 = 0 := rfl; omega
        subst hs2
        obtain ⟨all, hall⟩ : ∃ all, all = sm (fun i => b i * p i) (V + 1) := ⟨_, rfl⟩
        rw [← hall]
        have hall2 : all ≤ 13000000 := by rw [hall]; exact hsum _ (Nat.le_refl _)
        refine w_iload_n h (pc := 40) dX1_pick_40 rfl ?_
        refine w_i2l h (pc := 41) dX1_pick_41 (by omega) ?_
        refine w_lload_n h (pc := 42) dX1_pick_42 rfl ?_
        refine w_lmul h (pc := 43) dX1_pick_43 ?_
        refine w_ldc2 h (pc := 44) (z := 10000) dX1_pick_44 wm_369 (by decide) ?_
        obtain ⟨g, hg⟩ : ∃ g : Nat, g = lk9 * all := ⟨_, rfl⟩
        have hgm : g ≤ 10000 * 13000000 := by rw [hg]; exact Nat.mul_le_mul (by omega) hall2
        rw [show ((lk9 : Int) * (all : Int)) = (g : Int) by rw [hg]; rfl]
        refine w_ldiv h (pc := 47) dX1_pick_47 (by omega) (by omega) ?_
        obtain ⟨dr, hdr⟩ : ∃ dr : Nat, dr = g / 10000 := ⟨_, rfl⟩
        rw [show ((g : Int) / 10000) = (dr : Int) by rw [hdr]; rfl]
        have hdl : 0 < all → dr < all := fun h9 => by rw [hdr, hg]; exact drawn_lt hlk h9
        refine w_lstore h (pc := 48) dX1_pick_48 (by decide) ?_
        refine w_iconst h (pc := 50) dX1_pick_50 ?_
        refine w_istore h (pc := 51) dX1_pick_51 (by decide) ?_
        refine w_lconst h (pc := 53) (z := 0) dX1_pick_53 (by decide) ?_
        refine w_lstore h (pc := 54) dX1_pick_54 (by decide) ?_
        refine w_iconst h (pc := 56) dX1_pick_56 ?_
        refine w_istore h (pc := 57) dX1_pick_57 (by decide) ?_
        have lp59 : ∀ (n9 j : Nat) (s f : Int), V + 1 < j + n9 → j ≤ V + 1 → s = (sm (fun i => b i * p i) j : Int) → (s ≤ (dr : Int)) → (f = -1 ∧ (∀ i, i < j → b i ≠ 1) ∨ ∃ f9 : Nat, f = (f9 : Int) ∧ f9 < j ∧ b f9 = 1) → WW Γ 11 u 59 [(0, .ref (a 2)), (1, .int (iI (lk9 : Int))), (2, .int (iI o)), (5, .long (lI (dr : Int))), (7, .int (iI f)), (8, .long (lI s)), (10, .int (iI (j : Int)))] [] := by
          intro n9
          induction n9 with
          | zero => intro j s f hn9 hj hs hsd hf; exfalso; omega
          | succ n9 ih =>
            intro j s f hn9 hj hs hsd hf
            refine w_iload h (pc := 59) dX1_pick_59 rfl ?_
            refine w_aload_n h (pc := 61) dX1_pick_61 rfl ?_
            refine g2_ledger h (pc := 62) wm_64 dX1_pick_62 ?_
            refine g1_words h (pc := 65) eV wm_307 dX1_pick_65 ?_
            refine w_icmp_gt h (pc := 68) (tgt := 125) dX1_pick_68 (by decide) (by omega) (by omega) (fun c68 => ?_) (fun c68 => ?_)
            · have ej : j = V + 1 := by omega
              have hz : ¬ 0 < all := fun q => by have := hdl q; rw [ej, ← hall] at hs; omega
              obtain ⟨w9, hw9, hb9⟩ := hex
              have hf2 : ∃ f9 : Nat, f = (f9 : Int) ∧ f9 < j ∧ b f9 = 1 := by
                rcases hf with ⟨-, q⟩ | q
                · exact absurd hb9 (q w9 (by omega))
                · exact q
              obtain ⟨f9, rfl, hf9, hbf⟩ := hf2
              refine w_iload h (pc := 125) dX1_pick_125 rfl ?_
              refine w_if_ge h (pc := 127) (tgt := 140) dX1_pick_127 (by decide) (by omega) (fun c127 => ?_) (fun c127 => by exfalso; omega)
              refine w_iload h (pc := 140) dX1_pick_140 rfl ?_
              exact w_iret h (pc := 142) (ty := .int) rfl rfl dX1_pick_142 (Nat.le_of_ble_eq_true rfl) (Nat.le_of_ble_eq_true rfl) ⟨rfl, f9, rfl, by omega, hbf, fun q => absurd (by rw [hall]; exact q) hz⟩
            · have hfr : -1 ≤ f ∧ f < 100 := by rcases hf with ⟨q1, -⟩ | ⟨f9, q1, q2, -⟩ <;> omega
              have hcj := hc j (by omega)
              have hbj := hb j (by omega)
              obtain ⟨zs, hzs⟩ := shr_any (iI o) (iI (j : Int))
              have hsj := hsum j hj
              have hs1 : sm (fun i => b i * p i) (j + 1) = sm (fun i => b i * p i) j + b j * p j := sm_s _ _
              refine w_iload_n h (pc := 71) dX1_pick_71 rfl ?_
              refine w_iload h (pc := 72) dX1_pick_72 rfl ?_
              refine w_ishr h (pc := 74) (z := zs) dX1_pick_74 hzs ?_
              refine w_iconst h (pc := 75) dX1_pick_75 ?_
              refine w_iand h (pc := 76) (z := (b j : Int)) dX1_pick_76 (by rw [← hzs]; exact hbj.1) ?_
              refine w_iconst h (pc := 77) dX1_pick_77 ?_
              refine w_icmp_ne h (pc := 78) (tgt := 119) dX1_pick_78 (by decide) (by omega) (by omega) (fun c78 => ?_) (fun c78 => ?_)
              · refine w_iinc h (pc := 119) dX1_pick_119 rfl (by decide) ?_
                refine w_goto h (pc := 122) (tgt := 59) dX1_pick_122 (by decide) ?_
                first
                | exact WW.sub (by rfl) (ih (j + 1) s f (by omega) (by omega) (by rw [hs1, show b j = 0 by omega, Nat.zero_mul]; exact hs) hsd (by rcases hf with ⟨q1, q2⟩ | ⟨f9, q1, q2, q3⟩; exact Or.inl ⟨q1, fun i hi q => by rcases Nat.lt_or_ge i j with z | z; exact q2 i z q; obtain rfl : i = j := (by omega); omega⟩; exact Or.inr ⟨f9, q1, by omega, q3⟩))
                | exact WW.sub (by rfl) (ih (j + 1) _ (j : Int) (by omega) (by omega) (by rw [hs2]; omega) (by omega) (Or.inr ⟨j, rfl, by omega, hb1⟩))
                | exact WW.sub (by rfl) (ih (j + 1) _ f (by omega) (by omega) (by rw [hs2]; omega) (by omega) (by rcases hf with ⟨q1, q2⟩ | ⟨f9, q1, q2, q3⟩; exfalso; omega; exact Or.inr ⟨f9, q1, by omega, q3⟩))
              · have hb1 : b j = 1 := by omega
                have hs2 : sm (fun i => b i * p i) (j + 1) = sm (fun i => b i * p i) j + p j := by rw [hs1, hb1, Nat.one_mul]
                refine w_lload h (pc := 81) dX1_pick_81 rfl ?_
                refine w_aload_n h (pc := 83) dX1_pick_83 rfl ?_
                refine g2_chances h (pc := 84) wm_60 dX1_pick_84 ?_
                refine w_iload h (pc := 87) dX1_pick_87 rfl ?_
                refine ld_chances h (pc := 89) (by omega) hcj.1 dX1_pick_89 ?_
                refine w_i2l h (pc := 90) dX1_pick_90 (by omega) ?_
                refine w_ladd h (pc := 91) dX1_pick_91 ?_
                refine w_lstore h (pc := 92) dX1_pick_92 (by decide) ?_
                refine w_lload h (pc := 94) dX1_pick_94 rfl ?_
                refine w_lload h (pc := 96) dX1_pick_96 rfl ?_
                refine w_lcmp h (pc := 98) dX1_pick_98 ?_
                refine w_lif_le h (pc := 99) (tgt := 105) dX1_pick_99 (by decide) (by omega) (by omega) (fun c99 => ?_) (fun c99 => ?_)
                · refine w_iload h (pc := 105) dX1_pick_105 rfl ?_
                  refine w_if_ge h (pc := 107) (tgt := 115) dX1_pick_107 (by decide) (by clear hf hex; omega) (fun c107 => ?_) (fun c107 => ?_)
                  · refine w_iload h (pc := 115) dX1_pick_115 rfl ?_
                    refine w_istore h (pc := 117) dX1_pick_117 (by decide) ?_
                    refine w_iinc h (pc := 119) dX1_pick_119 rfl (by decide) ?_
                    refine w_goto h (pc := 122) (tgt := 59) dX1_pick_122 (by decide) ?_
                    first
                    | exact WW.sub (by rfl) (ih (j + 1) s f (by omega) (by omega) (by rw [hs1, show b j = 0 by omega, Nat.zero_mul]; exact hs) hsd (by rcases hf with ⟨q1, q2⟩ | ⟨f9, q1, q2, q3⟩; exact Or.inl ⟨q1, fun i hi q => by rcases Nat.lt_or_ge i j with z | z; exact q2 i z q; obtain rfl : i = j := (by omega); omega⟩; exact Or.inr ⟨f9, q1, by omega, q3⟩))
                    | exact WW.sub (by rfl) (ih (j + 1) _ (j : Int) (by omega) (by omega) (by rw [hs2]; omega) (by omega) (Or.inr ⟨j, rfl, by omega, hb1⟩))
                    | exact WW.sub (by rfl) (ih (j + 1) _ f (by omega) (by omega) (by rw [hs2]; omega) (by omega) (by rcases hf with ⟨q1, q2⟩ | ⟨f9, q1, q2, q3⟩; exfalso; omega; exact Or.inr ⟨f9, q1, by omega, q3⟩))
                  · refine w_iload h (pc := 110) dX1_pick_110 rfl ?_
                    refine w_goto h (pc := 112) (tgt := 117) dX1_pick_112 (by decide) ?_
                    refine w_istore h (pc := 117) dX1_pick_117 (by decide) ?_
                    refine w_iinc h (pc := 119) dX1_pick_119 rfl (by decide) ?_
                    refine w_goto h (pc := 122) (tgt := 59) dX1_pick_122 (by decide) ?_
                    first
                    | exact WW.sub (by rfl) (ih (j + 1) s f (by omega) (by omega) (by rw [hs1, show b j = 0 by omega, Nat.zero_mul]; exact hs) hsd (by rcases hf with ⟨q1, q2⟩ | ⟨f9, q1, q2, q3⟩; exact Or.inl ⟨q1, fun i hi q => by rcases Nat.lt_or_ge i j with z | z; exact q2 i z q; obtain rfl : i = j := (by omega); omega⟩; exact Or.inr ⟨f9, q1, by omega, q3⟩))
                    | exact WW.sub (by rfl) (ih (j + 1) _ (j : Int) (by omega) (by omega) (by rw [hs2]; omega) (by omega) (Or.inr ⟨j, rfl, by omega, hb1⟩))
                    | exact WW.sub (by rfl) (ih (j + 1) _ f (by omega) (by omega) (by rw [hs2]; omega) (by omega) (by rcases hf with ⟨q1, q2⟩ | ⟨f9, q1, q2, q3⟩; exfalso; omega; exact Or.inr ⟨f9, q1, by omega, q3⟩))
                · have hpj : 0 < p j := by omega
                  refine w_iload h (pc := 102) dX1_pick_102 rfl ?_
                  exact w_iret h (pc := 104) (ty := .int) rfl rfl dX1_pick_104 (Nat.le_of_ble_eq_true rfl) (Nat.le_of_ble_eq_true rfl) ⟨rfl, j, rfl, by omega, hb1, fun _ => hpj⟩
        exact WW.sub (by rfl) (lp59 (V + 2) 0 0 (-1) (by omega) (by omega) rfl (by omega) (Or.inl ⟨rfl, fun i hi => absurd hi (Nat.not_lt_zero i)⟩))
      · obtain ⟨y, hy⟩ : ∃ y : Nat, y + 1 = j := ⟨j - 1, by omega⟩
        obtain rfl : z = (y : Int) := by omega
        have hcy := hc y (by omega)
        have hby := hb y (by omega)
        have hty := hterm y (by omega)
        obtain ⟨zs, hzs⟩ := shr_any (iI o) (iI (y : Int))
        have hsp : sm (fun i => b i * p i) j = sm (fun i => b i * p i) y + b y * p y := by rw [← hy, sm_s]
        have hsj := hsum j hj
        have hsV := hsum (V + 1) (Nat.le_refl _)
        refine w_lload_n h (pc := 16) dX1_pick_16 rfl ?_
        refine w_iload_n h (pc := 17) dX1_pick_17 rfl ?_
        refine w_iload h (pc := 18) dX1_pick_18 rfl ?_
        refine w_ishr h (pc := 20) (z := zs) dX1_pick_20 hzs ?_
        refine w_iconst h (pc := 21) dX1_pick_21 ?_
        refine w_iand h (pc := 22) (z := (b y : Int)) dX1_pick_22 (by rw [← hzs]; exact hby.1) ?_
        refine w_aload_n h (pc := 23) dX1_pick_23 rfl ?_
        refine g2_chances h (pc := 24) wm_60 dX1_pick_24 ?_
        refine w_iload h (pc := 27) dX1_pick_27 rfl ?_
        refine ld_chances h (pc := 29) (by omega) hcy.1 dX1_pick_29 ?_
        refine w_imul h (pc := 30) dX1_pick_30 ?_
        obtain ⟨g, hg⟩ : ∃ g : Nat, g = b y * p y := ⟨_, rfl⟩
        rw [← hg] at hsp hty
        rw [show ((b y : Int) * (p y : Int)) = (g : Int) by rw [hg]; rfl]
        refine w_i2l h (pc := 31) dX1_pick_31 (by omega) ?_
        refine w_ladd h (pc := 32) dX1_pick_32 ?_
        refine w_lstore_n h (pc := 33) dX1_pick_33 (by decide) ?_
        refine w_iinc h (pc := 34) dX1_pick_34 rfl (by decide) ?_
        refine w_goto h (pc := 37) (tgt := 11) dX1_pick_37 (by decide) ?_
        exact WW.sub (by rfl) (ih y _ ((y : Int) + -1) (by omega) (by omega) (by omega) (by rw [hsp] at hs; omega))
  exact WW.sub (by rfl) (lp11 (V + 2) (V + 1) 0 (V : Int) (by omega) (by omega) (by omega) (by omega))
