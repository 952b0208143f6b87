theorem dX1_isLikelier_0 : decode cX1_isLikelier 0 = .ok (.aload_n 0, 1) := by decide +kernel
theorem dX1_isLikelier_1 : decode cX1_isLikelier 1 = .ok (.getfield 18, 3) := by decide +kernel
theorem dX1_isLikelier_4 : decode cX1_isLikelier 4 = .ok (.iload_n 1, 1) := by decide +kernel
theorem dX1_isLikelier_5 : decode cX1_isLikelier 5 = .ok (.iaload, 1) := by decide +kernel
theorem dX1_isLikelier_6 : decode cX1_isLikelier 6 = .ok (.aload_n 0, 1) := by decide +kernel
theorem dX1_isLikelier_7 : decode cX1_isLikelier 7 = .ok (.getfield 18, 3) := by decide +kernel
theorem dX1_isLikelier_10 : decode cX1_isLikelier 10 = .ok (.iload_n 2, 1) := by decide +kernel
theorem dX1_isLikelier_11 : decode cX1_isLikelier 11 = .ok (.iaload, 1) := by decide +kernel
theorem dX1_isLikelier_12 : decode cX1_isLikelier 12 = .ok (.if_icmp .eq 24, 3) := by decide +kernel
theorem dX1_isLikelier_15 : decode cX1_isLikelier 15 = .ok (.aload_n 0, 1) := by decide +kernel
theorem dX1_isLikelier_16 : decode cX1_isLikelier 16 = .ok (.getfield 18, 3) := by decide +kernel
theorem dX1_isLikelier_19 : decode cX1_isLikelier 19 = .ok (.iload_n 1, 1) := by decide +kernel
theorem dX1_isLikelier_20 : decode cX1_isLikelier 20 = .ok (.iaload, 1) := by decide +kernel
theorem dX1_isLikelier_21 : decode cX1_isLikelier 21 = .ok (.aload_n 0, 1) := by decide +kernel
theorem dX1_isLikelier_22 : decode cX1_isLikelier 22 = .ok (.getfield 18, 3) := by decide +kernel
theorem dX1_isLikelier_25 : decode cX1_isLikelier 25 = .ok (.iload_n 2, 1) := by decide +kernel
theorem dX1_isLikelier_26 : decode cX1_isLikelier 26 = .ok (.iaload, 1) := by decide +kernel
theorem dX1_isLikelier_27 : decode cX1_isLikelier 27 = .ok (.if_icmp .le 7, 3) := by decide +kernel
theorem dX1_isLikelier_30 : decode cX1_isLikelier 30 = .ok (.iconst 1, 1) := by decide +kernel
theorem dX1_isLikelier_31 : decode cX1_isLikelier 31 = .ok (.goto 4, 3) := by decide +kernel
theorem dX1_isLikelier_34 : decode cX1_isLikelier 34 = .ok (.iconst 0, 1) := by decide +kernel
theorem dX1_isLikelier_35 : decode cX1_isLikelier 35 = .ok (.ireturn, 1) := by decide +kernel
theorem dX1_isLikelier_36 : decode cX1_isLikelier 36 = .ok (.iload_n 1, 1) := by decide +kernel
theorem dX1_isLikelier_37 : decode cX1_isLikelier 37 = .ok (.iload_n 2, 1) := by decide +kernel
theorem dX1_isLikelier_38 : decode cX1_isLikelier 38 = .ok (.if_icmp .ge 7, 3) := by decide +kernel
theorem dX1_isLikelier_41 : decode cX1_isLikelier 41 = .ok (.iconst 1, 1) := by decide +kernel
theorem dX1_isLikelier_42 : decode cX1_isLikelier 42 = .ok (.goto 4, 3) := by decide +kernel
theorem dX1_isLikelier_45 : decode cX1_isLikelier 45 = .ok (.iconst 0, 1) := by decide +kernel
theorem dX1_isLikelier_46 : decode cX1_isLikelier 46 = .ok (.ireturn, 1) := by decide +kernel
theorem dX1_likeliest_0 : decode cX1_likeliest 0 = .ok (.iconst 0, 1) := by decide +kernel
theorem dX1_likeliest_1 : decode cX1_likeliest 1 = .ok (.istore_n 2, 1) := by decide +kernel
theorem dX1_likeliest_2 : decode cX1_likeliest 2 = .ok (.iconst 0, 1) := by decide +kernel
theorem dX1_likeliest_3 : decode cX1_likeliest 3 = .ok (.istore_n 3, 1) := by decide +kernel
theorem dX1_likeliest_4 : decode cX1_likeliest 4 = .ok (.iload_n 3, 1) := by decide +kernel
theorem dX1_likeliest_5 : decode cX1_likeliest 5 = .ok (.aload_n 0, 1) := by decide +kernel
theorem dX1_likeliest_6 : decode cX1_likeliest 6 = .ok (.getfield 32, 3) := by decide +kernel
theorem dX1_likeliest_9 : decode cX1_likeliest 9 = .ok (.getfield 37, 3) := by decide +kernel
theorem dX1_likeliest_12 : decode cX1_likeliest 12 = .ok (.if_icmp .gt 24, 3) := by decide +kernel
theorem dX1_likeliest_15 : decode cX1_likeliest 15 = .ok (.aload_n 0, 1) := by decide +kernel
theorem dX1_likeliest_16 : decode cX1_likeliest 16 = .ok (.iload_n 3, 1) := by decide +kernel
theorem dX1_likeliest_17 : decode cX1_likeliest 17 = .ok (.invokevirtual 101, 3) := by decide +kernel
theorem dX1_likeliest_20 : decode cX1_likeliest 20 = .ok (.iload_n 1, 1) := by decide +kernel
theorem dX1_likeliest_21 : decode cX1_likeliest 21 = .ok (.if_icmp .ge 9, 3) := by decide +kernel
theorem dX1_likeliest_24 : decode cX1_likeliest 24 = .ok (.iload_n 2, 1) := by decide +kernel
theorem dX1_likeliest_25 : decode cX1_likeliest 25 = .ok (.iconst 1, 1) := by decide +kernel
theorem dX1_likeliest_26 : decode cX1_likeliest 26 = .ok (.iload_n 3, 1) := by decide +kernel
theorem dX1_likeliest_27 : decode cX1_likeliest 27 = .ok (.ishl, 1) := by decide +kernel
theorem dX1_likeliest_28 : decode cX1_likeliest 28 = .ok (.ior, 1) := by decide +kernel
theorem dX1_likeliest_29 : decode cX1_likeliest 29 = .ok (.istore_n 2, 1) := by decide +kernel
theorem dX1_likeliest_30 : decode cX1_likeliest 30 = .ok (.iinc 3 1, 3) := by decide +kernel
theorem dX1_likeliest_33 : decode cX1_likeliest 33 = .ok (.goto (-29), 3) := by decide +kernel
theorem dX1_likeliest_36 : decode cX1_likeliest 36 = .ok (.iload_n 2, 1) := by decide +kernel
theorem dX1_likeliest_37 : decode cX1_likeliest 37 = .ok (.ireturn, 1) := by decide +kernel
theorem dX1_rankOf_0 : decode cX1_rankOf 0 = .ok (.iconst 0, 1) := by decide +kernel
theorem dX1_rankOf_1 : decode cX1_rankOf 1 = .ok (.istore_n 2, 1) := by decide +kernel
theorem dX1_rankOf_2 : decode cX1_rankOf 2 = .ok (.iconst 0, 1) := by decide +kernel
theorem dX1_rankOf_3 : decode cX1_rankOf 3 = .ok (.istore_n 3, 1) := by decide +kernel
theorem dX1_rankOf_4 : decode cX1_rankOf 4 = .ok (.iload_n 3, 1) := by decide +kernel
theorem dX1_rankOf_5 : decode cX1_rankOf 5 = .ok (.aload_n 0, 1) := by decide +kernel
theorem dX1_rankOf_6 : decode cX1_rankOf 6 = .ok (.getfield 32, 3) := by decide +kernel
theorem dX1_rankOf_9 : decode cX1_rankOf 9 = .ok (.getfield 37, 3) := by decide +kernel
theorem dX1_rankOf_12 : decode cX1_rankOf 12 = .ok (.if_icmp .gt 21, 3) := by decide +kernel
theorem dX1_rankOf_15 : decode cX1_rankOf 15 = .ok (.aload_n 0, 1) := by decide +kernel
theorem dX1_rankOf_16 : decode cX1_rankOf 16 = .ok (.iload_n 3, 1) := by decide +kernel
theorem dX1_rankOf_17 : decode cX1_rankOf 17 = .ok (.iload_n 1, 1) := by decide +kernel
theorem dX1_rankOf_18 : decode cX1_rankOf 18 = .ok (.invokevirtual 97, 3) := by decide +kernel
theorem dX1_rankOf_21 : decode cX1_rankOf 21 = .ok (.ifCond .eq 6, 3) := by decide +kernel
theorem dX1_rankOf_24 : decode cX1_rankOf 24 = .ok (.iinc 2 1, 3) := by decide +kernel
theorem dX1_rankOf_27 : decode cX1_rankOf 27 = .ok (.iinc 3 1, 3) := by decide +kernel
theorem dX1_rankOf_30 : decode cX1_rankOf 30 = .ok (.goto (-26), 3) := by decide +kernel
theorem dX1_rankOf_33 : decode cX1_rankOf 33 = .ok (.iload_n 2, 1) := by decide +kernel
theorem dX1_rankOf_34 : decode cX1_rankOf 34 = .ok (.ireturn, 1) := by decide +kernel
theorem dX1_reckon_0 : decode cX1_reckon 0 = .ok (.aload_n 0, 1) := by decide +kernel
theorem dX1_reckon_1 : decode cX1_reckon 1 = .ok (.getfield 18, 3) := by decide +kernel
theorem dX1_reckon_4 : decode cX1_reckon 4 = .ok (.ldc 36, 2) := by decide +kernel
theorem dX1_reckon_6 : decode cX1_reckon 6 = .ok (.aload_n 0, 1) := by decide +kernel
theorem dX1_reckon_7 : decode cX1_reckon 7 = .ok (.getfield 32, 3) := by decide +kernel
theorem dX1_reckon_10 : decode cX1_reckon 10 = .ok (.getfield 37, 3) := by decide +kernel
theorem dX1_reckon_13 : decode cX1_reckon 13 = .ok (.iconst 1, 1) := by decide +kernel
theorem dX1_reckon_14 : decode cX1_reckon 14 = .ok (.iadd, 1) := by decide +kernel
theorem dX1_reckon_15 : decode cX1_reckon 15 = .ok (.idiv, 1) := by decide +kernel
theorem dX1_reckon_16 : decode cX1_reckon 16 = .ok (.invokestatic 42, 3) := by decide +kernel
theorem dX1_reckon_19 : decode cX1_reckon 19 = .ok (.aload_n 0, 1) := by decide +kernel
theorem dX1_reckon_20 : decode cX1_reckon 20 = .ok (.getfield 9, 3) := by decide +kernel
theorem dX1_reckon_23 : decode cX1_reckon 23 = .ok (.ifCond .ne 7, 3) := by decide +kernel
theorem dX1_reckon_26 : decode cX1_reckon 26 = .ok (.iload_n 1, 1) := by decide +kernel
theorem dX1_reckon_27 : decode cX1_reckon 27 = .ok (.goto 4, 3) := by decide +kernel
theorem dX1_reckon_30 : decode cX1_reckon 30 = .ok (.iconst 1, 1) := by decide +kernel
theorem dX1_reckon_31 : decode cX1_reckon 31 = .ok (.istore_n 3, 1) := by decide +kernel
theorem dX1_reckon_32 : decode cX1_reckon 32 = .ok (.iload_n 3, 1) := by decide +kernel
theorem dX1_reckon_33 : decode cX1_reckon 33 = .ok (.iload_n 1, 1) := by decide +kernel
theorem dX1_reckon_34 : decode cX1_reckon 34 = .ok (.if_icmp .gt 23, 3) := by decide +kernel
theorem dX1_reckon_37 : decode cX1_reckon 37 = .ok (.aload_n 0, 1) := by decide +kernel
theorem dX1_reckon_38 : decode cX1_reckon 38 = .ok (.iload_n 3, 1) := by decide +kernel
theorem dX1_reckon_39 : decode cX1_reckon 39 = .ok (.iload_n 2, 1) := by decide +kernel
theorem dX1_reckon_40 : decode cX1_reckon 40 = .ok (.getstatic 48, 3) := by decide +kernel
theorem dX1_reckon_43 : decode cX1_reckon 43 = .ok (.iload_n 3, 1) := by decide +kernel
theorem dX1_reckon_44 : decode cX1_reckon 44 = .ok (.iconst 1, 1) := by decide +kernel
theorem dX1_reckon_45 : decode cX1_reckon 45 = .ok (.isub, 1) := by decide +kernel
theorem dX1_reckon_46 : decode cX1_reckon 46 = .ok (.iaload, 1) := by decide +kernel
theorem dX1_reckon_47 : decode cX1_reckon 47 = .ok (.irem, 1) := by decide +kernel
theorem dX1_reckon_48 : decode cX1_reckon 48 = .ok (.invokevirtual 51, 3) := by decide +kernel
theorem dX1_reckon_51 : decode cX1_reckon 51 = .ok (.iinc 3 1, 3) := by decide +kernel
theorem dX1_reckon_54 : decode cX1_reckon 54 = .ok (.goto (-22), 3) := by decide +kernel
theorem dX1_reckon_57 : decode cX1_reckon 57 = .ok (.return_, 1) := by decide +kernel
theorem dX1_withRank_0 : decode cX1_withRank 0 = .ok (.iconst 0, 1) := by decide +kernel
theorem dX1_withRank_1 : decode cX1_withRank 1 = .ok (.istore_n 2, 1) := by decide +kernel
theorem dX1_withRank_2 : decode cX1_withRank 2 = .ok (.iload_n 2, 1) := by decide +kernel
theorem dX1_withRank_3 : decode cX1_withRank 3 = .ok (.aload_n 0, 1) := by decide +kernel
theorem dX1_withRank_4 : decode cX1_withRank 4 = .ok (.getfield 32, 3) := by decide +kernel
theorem dX1_withRank_7 : decode cX1_withRank 7 = .ok (.getfield 37, 3) := by decide +kernel
theorem dX1_withRank_10 : decode cX1_withRank 10 = .ok (.if_icmp .ge 20, 3) := by decide +kernel
theorem dX1_withRank_13 : decode cX1_withRank 13 = .ok (.aload_n 0, 1) := by decide +kernel
theorem dX1_withRank_14 : decode cX1_withRank 14 = .ok (.iload_n 2, 1) := by decide +kernel
theorem dX1_withRank_15 : decode cX1_withRank 15 = .ok (.invokevirtual 101, 3) := by decide +kernel
theorem dX1_withRank_18 : decode cX1_withRank 18 = .ok (.iload_n 1, 1) := by decide +kernel
theorem dX1_withRank_19 : decode cX1_withRank 19 = .ok (.if_icmp .ne 5, 3) := by decide +kernel
theorem dX1_withRank_22 : decode cX1_withRank 22 = .ok (.iload_n 2, 1) := by decide +kernel
theorem dX1_withRank_23 : decode cX1_withRank 23 = .ok (.ireturn, 1) := by decide +kernel
theorem dX1_withRank_24 : decode cX1_withRank 24 = .ok (.iinc 2 1, 3) := by decide +kernel
theorem dX1_withRank_27 : decode cX1_withRank 27 = .ok (.goto (-25), 3) := by decide +kernel
theorem dX1_withRank_30 : decode cX1_withRank 30 = .ok (.aload_n 0, 1) := by decide +kernel
theorem dX1_withRank_31 : decode cX1_withRank 31 = .ok (.getfield 32, 3) := by decide +kernel
theorem dX1_withRank_34 : decode cX1_withRank 34 = .ok (.getfield 37, 3) := by decide +kernel
theorem dX1_withRank_37 : decode cX1_withRank 37 = .ok (.ireturn, 1) := by decide +kernel
set_option maxHeartbeats 4000000 in
set_option maxRecDepth 100000 in
theorem mX1_reckon (l : Launch) (D : va_G) (κ a : Nat → Nat) (ε : EE) (V m N way num : Nat) (u : US) (T : Nat → List (Nat × Nat)) (hV : V ≤ 12) (hm : m ≤ 800) (hN : 1 ≤ N ∧ N ≤ 4) (hway : way ≤ 4) (hnum : 1 ≤ num ∧ num ≤ 1000) (hT : TA V m u T) (eV : u.1 4 = (V : Int)) (eN : u.1 5 = (N : Int)) (ew : u.1 6 = (way : Int)) (en : u.1 7 = (num : Int)) (n : Nat) (hn : 1 ≤ n ∧ n ≤ N) (c : Nat) (hc : c < 38416) : Ct (W0 κ a) l D κ ε yX1_reckon cX1_reckon 4 none 3 73 0 0 u [.ref (a 2), .int (iI (n : Int)), .int (iI (c : Int))] (fun v u' => v = none ∧ Fr [8, 9] [9, 10] u u' ∧ ∀ w, w ≤ V → u'.2 9 w = (chs way num V N (fun n => T (n - 1)) (fun n => T (n + 3)) n c w : Int)) := by
  refine Ct.of (own := RX1) rfl (by decide +kernel) (Nat.le_of_ble_eq_true rfl) rfl (fun Γ h => ?_)
  refine w_aload_n h (pc := 0) dX1_reckon_0 rfl ?_
  refine g2_chances h (pc := 1) wm_60 dX1_reckon_1 ?_
  refine w_ldc h (pc := 4) (z := 1000000) dX1_reckon_4 wm_306 (by decide) ?_
  refine w_aload_n h (pc := 6) dX1_reckon_6 rfl ?_
  refine g2_ledger h (pc := 7) wm_64 dX1_reckon_7 ?_
  refine g1_words h (pc := 10) eV wm_307 dX1_reckon_10 ?_
  refine w_iconst h (pc := 13) dX1_reckon_13 ?_
  refine w_iadd h (pc := 14) dX1_reckon_14 ?_
  refine w_idiv h (pc := 15) dX1_reckon_15 (by omega) (by omega) ?_
  refine w_callS2 h (pc := 16) (mJ7_fill l D κ a ε u 9 13 (1000000 / ((V : Int) + 1)) (by decide) (fun _ => rfl) (fun _ _ => rfl)) (gdS wm_288 wm_289 wm_290 wm_291) (by decide +kernel) ⟨(Nat.le_of_ble_eq_true rfl), (Nat.le_of_ble_eq_true rfl)⟩ ⟨(Nat.le_of_ble_eq_true rfl), (Nat.le_of_ble_eq_true rfl)⟩ (fun _ _ _ => ⟨rfl, rfl⟩) (Nat.le_of_ble_eq_true rfl) dX1_reckon_16 (fun v1 u1 hp1 => ?_)
  obtain ⟨rfl, e1⟩ := hp1
  have hF1 : Fr [8, 9] [9, 10] u u1 := by rw [e1]; exact Fr.A (by simp)
  have hc1 : ∀ x, x ≤ V → u1.2 9 x = ((1000000 / (V + 1) : Nat) : Int) := fun x hx => by rw [e1, uA_at]; exact if_pos (by omega)
  have ew1 : u1.1 6 = (way : Int) := (hF1.1 6 (by simp)).trans ew
  obtain ⟨lo, M, hlo⟩ : ∃ lo M : Nat, (way = 0 ∧ lo = n ∧ M = 1) ∨ (way ≠ 0 ∧ lo = 1 ∧ M = n) := by
    by_cases q : way = 0
    · exact ⟨n, 1, Or.inl ⟨q, rfl, rfl⟩⟩
    · exact ⟨1, n, Or.inr ⟨q, rfl, rfl⟩⟩
  simp only [Option.toList_none, List.nil_append]
  refine w_aload_n h (pc := 19) dX1_reckon_19 rfl ?_
  refine g2_way h (pc := 20) ew1 wm_58 dX1_reckon_20 ?_
  refine w_if_ne h (pc := 23) (tgt := 30) dX1_reckon_23 (by decide) (by omega) (fun c23 => ?_) (fun c23 => ?_)
  · refine w_iconst h (pc := 30) dX1_reckon_30 ?_
    refine w_istore_n h (pc := 31) dX1_reckon_31 (by decide) ?_
    have lp32 : ∀ (n9 k : Nat) (z : Int) (w : US), z = (lo : Int) + k → M < k + n9 → k ≤ M → Fr [8, 9] [9, 10] u w → (∀ x, x ≤ V → w.2 9 x = (rcF way num V N (fun n => T (n - 1)) (fun n => T (n + 3)) c lo k x : Int)) → WW Γ 4 w 32 [(0, .ref (a 2)), (1, .int (iI (n : Int))), (2, .int (iI (c : Int))), (3, .int (iI z))] [] := by
      intro n9
      induction n9 with
      | zero => intro k z w hz hn9 hk hFw hch; exfalso; omega
      | succ n9 ih =>
        intro k z w hz hn9 hk hFw hch
        have eVw : w.1 4 = (V : Int) := (hFw.1 4 (by simp)).trans eV
        have eNw : w.1 5 = (N : Int) := (hFw.1 5 (by simp)).trans eN
        have eww : w.1 6 = (way : Int) := (hFw.1 6 (by simp)).trans ew
        have enw : w.1 7 = (num : Int) := (hFw.1 7 (by simp)).trans en
        have hTw : TA V m w T := hT.of hFw (by simp [tS]) (by simp [tG])
        refine w_iload_n h (pc := 32) dX1_reckon_32 rfl ?_
        refine w_iload_n h (pc := 33) dX1_reckon_33 rfl ?_
        refine w_icmp_gt h (pc := 34) (tgt := 57) dX1_reckon_34 (by decide) (by omega) (by omega) (fun c34 => ?_) (fun c34 => ?_)
        · have e : k = M := by omega
          have hfin : ∀ x, chs way num V N (fun n => T (n - 1)) (fun n => T (n + 3)) n c x = rcF way num V N (fun n => T (n - 1)) (fun n => T (n + 3)) c lo M x := by
            intro x
            unfold chs
            rcases hlo with ⟨q1, q2, q3⟩ | ⟨q1, q2, q3⟩
            · rw [if_pos q1, q2, q3]
            · rw [if_neg q1, q2, q3]
          exact w_vret h (pc := 57) rfl dX1_reckon_57 (Nat.le_of_ble_eq_true rfl) (Nat.le_of_ble_eq_true rfl) ⟨rfl, hFw, fun x hx => by rw [hch x hx, hfin, e]⟩
        · obtain rfl : z = ((lo + k : Nat) : Int) := by omega
          have hix : (((lo + k : Nat) : Int) - 1).toNat = lo + k - 1 := by omega
          have hpw := pw_p14 (n := lo + k - 1) (by omega)
          have hp14 := p14_cs (n := lo + k - 1) (by omega)
          have hck : c % 14 ^ (lo + k - 1) < 2744 := by
            have h1 : c % 14 ^ (lo + k - 1) < 14 ^ (lo + k - 1) := Nat.mod_lt _ (Nat.pow_pos (by omega))
            have h2 : 14 ^ (lo + k - 1) ≤ 14 ^ 3 := Nat.pow_le_pow_right (by omega) (by omega)
            omega
          have hpk : ∀ x, x ≤ V → w.2 9 x = (rcF way num V N (fun n => T (n - 1)) (fun n => T (n + 3)) c lo k x : Int) ∧ rcF way num V N (fun n => T (n - 1)) (fun n => T (n + 3)) c lo k x ≤ 1000000 := fun x hx => ⟨hch x hx, (rcF_Ch hnum k).each x (by omega)⟩
          refine w_aload_n h (pc := 37) dX1_reckon_37 rfl ?_
          refine w_iload_n h (pc := 38) dX1_reckon_38 rfl ?_
          refine w_iload_n h (pc := 39) dX1_reckon_39 rfl ?_
          refine w_powsN h (pc := 40) (fun _ z => z.1) dX1_reckon_40 ?_
          refine w_iload_n h (pc := 43) dX1_reckon_43 rfl ?_
          refine w_iconst h (pc := 44) dX1_reckon_44 ?_
          refine w_isub h (pc := 45) dX1_reckon_45 ?_
          refine w_pow h (pc := 46) (by omega) ((congrArg pw hix).trans hpw) dX1_reckon_46 ?_
          refine w_irem h (pc := 47) dX1_reckon_47 (by omega) (by omega) ?_
          refine w_callV2 h (pc := 48) (mX1_refine l D κ a ε V m N way num w T hV hm hN hway hnum hTw eVw eNw eww enw (lo + k) (by omega) (c % 14 ^ (lo + k - 1)) hck (rcF way num V N (fun n => T (n - 1)) (fun n => T (n + 3)) c lo k) hpk) 2 rfl rfl (gdV wm_308 wm_309 wm_310 wm_19 wm_311) (by decide +kernel) ⟨(Nat.le_of_ble_eq_true rfl), (Nat.le_of_ble_eq_true rfl)⟩ ⟨(Nat.le_of_ble_eq_true rfl), (Nat.le_of_ble_eq_true rfl)⟩ (fun _ _ _ => ⟨rfl, rfl⟩) (Nat.le_of_ble_eq_true rfl) dX1_reckon_48 (fun v2 u2 hp2 => ?_)
          obtain ⟨rfl, hF2, hch2⟩ := hp2
          simp only [Option.toList_none, List.nil_append]
          refine w_iinc h (pc := 51) dX1_reckon_51 rfl (by decide) ?_
          refine w_goto h (pc := 54) (tgt := 32) dX1_reckon_54 (by decide) ?_
          exact WW.sub (by rfl) (ih (k + 1) _ u2 (by omega) (by omega) (by omega) (hFw.tr hF2) hch2)
    first
    | exact WW.sub (by rfl) (lp32 (M + 1) 0 (n : Int) u1 (by omega) (by omega) (by omega) hF1 hc1)
    | exact WW.sub (by rfl) (lp32 (M + 1) 0 (1 : Int) u1 (by omega) (by omega) (by omega) hF1 hc1)
  · refine w_iload_n h (pc := 26) dX1_reckon_26 rfl ?_
    refine w_goto h (pc := 27) (tgt := 31) dX1_reckon_27 (by decide) ?_
    refine w_istore_n h (pc := 31) dX1_reckon_31 (by decide) ?_
    have lp32 : ∀ (n9 k : Nat) (z : Int) (w : US), z = (lo : Int) + k → M < k + n9 → k ≤ M → Fr [8, 9] [9, 10] u w → (∀ x, x ≤ V → w.2 9 x = (rcF way num V N (fun n => T (n - 1)) (fun n => T (n + 3)) c lo k x : Int)) → WW Γ 4 w 32 [(0, .ref (a 2)), (1, .int (iI (n : Int))), (2, .int (iI (c : Int))), (3, .int (iI z))] [] := by
      intro n9
      induction n9 with
      | zero => intro k z w hz hn9 hk hFw hch; exfalso; omega
      | succ n9 ih =>
        intro k z w hz hn9 hk hFw hch
        have eVw : w.1 4 = (V : Int) := (hFw.1 4 (by simp)).trans eV
        have eNw : w.1 5 = (N : Int) := (hFw.1 5 (by simp)).trans eN
        have eww : w.1 6 = (way : Int) := (hFw.1 6 (by simp)).trans ew
        have enw : w.1 7 = (num : Int) := (hFw.1 7 (by simp)).trans en
        have hTw : TA V m w T := hT.of hFw (by simp [tS]) (by simp [tG])
        refine w_iload_n h (pc := 32) dX1_reckon_32 rfl ?_
        refine w_iload_n h (pc := 33) dX1_reckon_33 rfl ?_
        refine w_icmp_gt h (pc := 34) (tgt := 57) dX1_reckon_34 (by decide) (by omega) (by omega) (fun c34 => ?_) (fun c34 => ?_)
        · have e : k = M := by omega
          have hfin : ∀ x, chs way num V N (fun n => T (n - 1)) (fun n => T (n + 3)) n c x = rcF way num V N (fun n => T (n - 1)) (fun n => T (n + 3)) c lo M x := by
            intro x
            unfold chs
            rcases hlo with ⟨q1, q2, q3⟩ | ⟨q1, q2, q3⟩
            · rw [if_pos q1, q2, q3]
            · rw [if_neg q1, q2, q3]
          exact w_vret h (pc := 57) rfl dX1_reckon_57 (Nat.le_of_ble_eq_true rfl) (Nat.le_of_ble_eq_true rfl) ⟨rfl, hFw, fun x hx => by rw [hch x hx, hfin, e]⟩
        · obtain rfl : z = ((lo + k : Nat) : Int) := by omega
          have hix : (((lo + k : Nat) : Int) - 1).toNat = lo + k - 1 := by omega
          have hpw := pw_p14 (n := lo + k - 1) (by omega)
          have hp14 := p14_cs (n := lo + k - 1) (by omega)
          have hck : c % 14 ^ (lo + k - 1) < 2744 := by
            have h1 : c % 14 ^ (lo + k - 1) < 14 ^ (lo + k - 1) := Nat.mod_lt _ (Nat.pow_pos (by omega))
            have h2 : 14 ^ (lo + k - 1) ≤ 14 ^ 3 := Nat.pow_le_pow_right (by omega) (by omega)
            omega
          have hpk : ∀ x, x ≤ V → w.2 9 x = (rcF way num V N (fun n => T (n - 1)) (fun n => T (n + 3)) c lo k x : Int) ∧ rcF way num V N (fun n => T (n - 1)) (fun n => T (n + 3)) c lo k x ≤ 1000000 := fun x hx => ⟨hch x hx, (rcF_Ch hnum k).each x (by omega)⟩
          refine w_aload_n h (pc := 37) dX1_reckon_37 rfl ?_
          refine w_iload_n h (pc := 38) dX1_reckon_38 rfl ?_
          refine w_iload_n h (pc := 39) dX1_reckon_39 rfl ?_
          refine w_powsN h (pc := 40) (fun _ z => z.1) dX1_reckon_40 ?_
          refine w_iload_n h (pc := 43) dX1_reckon_43 rfl ?_
          refine w_iconst h (pc := 44) dX1_reckon_44 ?_
          refine w_isub h (pc := 45) dX1_reckon_45 ?_
          refine w_pow h (pc := 46) (by omega) ((congrArg pw hix).trans hpw) dX1_reckon_46 ?_
          refine w_irem h (pc := 47) dX1_reckon_47 (by omega) (by omega) ?_
          refine w_callV2 h (pc := 48) (mX1_refine l D κ a ε V m N way num w T hV hm hN hway hnum hTw eVw eNw eww enw (lo + k) (by omega) (c % 14 ^ (lo + k - 1)) hck (rcF way num V N (fun n => T (n - 1)) (fun n => T (n + 3)) c lo k) hpk) 2 rfl rfl (gdV wm_308 wm_309 wm_310 wm_19 wm_311) (by decide +kernel) ⟨(Nat.le_of_ble_eq_true rfl), (Nat.le_of_ble_eq_true rfl)⟩ ⟨(Nat.le_of_ble_eq_true rfl), (Nat.le_of_ble_eq_true rfl)⟩ (fun _ _ _ => ⟨rfl, rfl⟩) (Nat.le_of_ble_eq_true rfl) dX1_reckon_48 (fun v2 u2 hp2 => ?_)
          obtain ⟨rfl, hF2, hch2⟩ := hp2
          simp only [Option.toList_none, List.nil_append]
          refine w_iinc h (pc := 51) dX1_reckon_51 rfl (by decide) ?_
          refine w_goto h (pc := 54) (tgt := 32) dX1_reckon_54 (by decide) ?_
          exact WW.sub (by rfl) (ih (k + 1) _ u2 (by omega) (by omega) (by omega) (hFw.tr hF2) hch2)
    first
    | exact WW.sub (by rfl) (lp32 (M + 1) 0 (n : Int) u1 (by omega) (by omega) (by omega) hF1 hc1)
    | exact WW.sub (by rfl) (lp32 (M + 1) 0 (1 : Int) u1 (by omega) (by omega) (by omega) hF1 hc1)

set_option maxHeartbeats 4000000 in
set_option maxRecDepth 100000 in
theorem mX1_isLikelier (l : Launch) (D : va_G) (κ a : Nat → Nat) (ε : EE) (V : Nat) (u : US) (hV : V ≤ 12) (eV : u.1 4 = (V : Int)) (p : Nat → Nat) (hc : ∀ x, x ≤ V → u.2 9 x = (p x : Int) ∧ p x ≤ 1000000) (x y : Nat) (hx9 : x ≤ V) (hy9 : y ≤ V) : Ct (W0 κ a) l D κ ε yX1_isLikelier cX1_isLikelier 3 (some .boolean) 0 0 0 0 u [.ref (a 2), .int (iI (x : Int)), .int (iI (y : Int))] (fun v u' => v = some (.int (iI (if lk p x y then 1 else 0))) ∧ u' = u) := by
  have h1 := hc x hx9
  have h2 := hc y hy9
  refine Ct.of (own := RX1) rfl (by decide +kernel) (Nat.le_of_ble_eq_true rfl) rfl (fun Γ h => ?_)
  refine w_aload_n h (pc := 0) dX1_isLikelier_0 rfl ?_
  refine g2_chances h (pc := 1) wm_60 dX1_isLikelier_1 ?_
  refine w_iload_n h (pc := 4) dX1_isLikelier_4 rfl ?_
  refine ld_chances h (pc := 5) (by omega) h1.1 dX1_isLikelier_5 ?_
  refine w_aload_n h (pc := 6) dX1_isLikelier_6 rfl ?_
  refine g2_chances h (pc := 7) wm_60 dX1_isLikelier_7 ?_
  refine w_iload_n h (pc := 10) dX1_isLikelier_10 rfl ?_
  refine ld_chances h (pc := 11) (by omega) h2.1 dX1_isLikelier_11 ?_
  refine w_icmp_eq h (pc := 12) (tgt := 36) dX1_isLikelier_12 (by decide) (by omega) (by omega) (fun c12 => ?_) (fun c12 => ?_)
  · refine w_iload_n h (pc := 36) dX1_isLikelier_36 rfl ?_
    refine w_iload_n h (pc := 37) dX1_isLikelier_37 rfl ?_
    refine w_icmp_ge h (pc := 38) (tgt := 45) dX1_isLikelier_38 (by decide) (by omega) (by omega) (fun c38 => ?_) (fun c38 => ?_)
    · have hlk : ¬ lk p x y := by rintro (q | q) <;> omega
      refine w_iconst h (pc := 45) dX1_isLikelier_45 ?_
      exact w_iret h (pc := 46) (ty := .boolean) rfl rfl dX1_isLikelier_46 (Nat.le_of_ble_eq_true rfl) (Nat.le_of_ble_eq_true rfl) ⟨by first | rw [if_pos hlk] | rw [if_neg hlk], rfl⟩
    · have hlk : lk p x y := Or.inr ⟨by omega, by omega⟩
      refine w_iconst h (pc := 41) dX1_isLikelier_41 ?_
      refine w_goto h (pc := 42) (tgt := 46) dX1_isLikelier_42 (by decide) ?_
      exact w_iret h (pc := 46) (ty := .boolean) rfl rfl dX1_isLikelier_46 (Nat.le_of_ble_eq_true rfl) (Nat.le_of_ble_eq_true rfl) ⟨by first | rw [if_pos hlk] | rw [if_neg hlk], rfl⟩
  · refine w_aload_n h (pc := 15) dX1_isLikelier_15 rfl ?_
    refine g2_chances h (pc := 16) wm_60 dX1_isLikelier_16 ?_
    refine w_iload_n h (pc := 19) dX1_isLikelier_19 rfl ?_
    refine ld_chances h (pc := 20) (by omega) h1.1 dX1_isLikelier_20 ?_
    refine w_aload_n h (pc := 21) dX1_isLikelier_21 rfl ?_
    refine g2_chances h (pc := 22) wm_60 dX1_isLikelier_22 ?_
    refine w_iload_n h (pc := 25) dX1_isLikelier_25 rfl ?_
    refine ld_chances h (pc := 26) (by omega) h2.1 dX1_isLikelier_26 ?_
    refine w_icmp_le h (pc := 27) (tgt := 34) dX1_isLikelier_27 (by decide) (by omega) (by omega) (fun c27 => ?_) (fun c27 => ?_)
    · have hlk : ¬ lk p x y := by rintro (q | q) <;> omega
      refine w_iconst h (pc := 34) dX1_isLikelier_34 ?_
      exact w_iret h (pc := 35) (ty := .boolean) rfl rfl dX1_isLikelier_35 (Nat.le_of_ble_eq_true rfl) (Nat.le_of_ble_eq_true rfl) ⟨by first | rw [if_pos hlk] | rw [if_neg hlk], rfl⟩
    · have hlk : lk p x y := Or.inl (by omega)
      refine w_iconst h (pc := 30) dX1_isLikelier_30 ?_
      refine w_goto h (pc := 31) (tgt := 35) dX1_isLikelier_31 (by decide) ?_
      exact w_iret h (pc := 35) (ty := .boolean) rfl rfl dX1_isLikelier_35 (Nat.le_of_ble_eq_true rfl) (Nat.le_of_ble_eq_true rfl) ⟨by first | rw [if_pos hlk] | rw [if_neg hlk], rfl⟩

set_option maxHeartbeats 4000000 in
set_option maxRecDepth 100000 in
theorem mX1_rankOf (l : Launch) (D : va_G) (κ a : Nat → Nat) (ε : EE) (V : Nat) (u : US) (hV : V ≤ 12) (eV : u.1 4 = (V : Int)) (p : Nat → Nat) (hc : ∀ x, x ≤ V → u.2 9 x = (p x : Int) ∧ p x ≤ 1000000) (w : Nat) (hw : w ≤ V) : Ct (W0 κ a) l D κ ε yX1_rankOf cX1_rankOf 4 (some .int) 1 22 0 0 u [.ref (a 2), .int (iI (w : Int))] (fun v u' => v = some (.int (iI (rk p (V + 1) w : Int))) ∧ u' = u) := by
  refine Ct.of (own := RX1) rfl (by decide +kernel) (Nat.le_of_ble_eq_true rfl) rfl (fun Γ h => ?_)
  refine w_iconst h (pc := 0) dX1_rankOf_0 ?_
  refine w_istore_n h (pc := 1) dX1_rankOf_1 (by decide) ?_
  refine w_iconst h (pc := 2) dX1_rankOf_2 ?_
  refine w_istore_n h (pc := 3) dX1_rankOf_3 (by decide) ?_
  have lp4 : ∀ (n9 j : Nat) (s : Int), V + 1 < j + n9 → j ≤ V + 1 → s = (sm (fun o => if lk p o w then 1 else 0) j : Int) → WW Γ 4 u 4 [(0, .ref (a 2)), (1, .int (iI (w : Int))), (2, .int (iI s)), (3, .int (iI (j : Int)))] [] := by
    intro n9
    induction n9 with
    | zero => intro j s hn9 hj hs; exfalso; omega
    | succ n9 ih =>
      intro j s hn9 hj hs
      refine w_iload_n h (pc := 4) dX1_rankOf_4 rfl ?_
      refine w_aload_n h (pc := 5) dX1_rankOf_5 rfl ?_
      refine g2_ledger h (pc := 6) wm_64 dX1_rankOf_6 ?_
      refine g1_words h (pc := 9) eV wm_307 dX1_rankOf_9 ?_
      refine w_icmp_gt h (pc := 12) (tgt := 33) dX1_rankOf_12 (by decide) (by omega) (by omega) (fun c12 => ?_) (fun c12 => ?_)
      · have e : j = V + 1 := by omega
        refine w_iload_n h (pc := 33) dX1_rankOf_33 rfl ?_
        exact w_iret h (pc := 34) (ty := .int) rfl rfl dX1_rankOf_34 (Nat.le_of_ble_eq_true rfl) (Nat.le_of_ble_eq_true rfl) ⟨by rw [hs, e]; rfl, rfl⟩
      · refine w_aload_n h (pc := 15) dX1_rankOf_15 rfl ?_
        refine w_iload_n h (pc := 16) dX1_rankOf_16 rfl ?_
        refine w_iload_n h (pc := 17) dX1_rankOf_17 rfl ?_
        refine w_callV2 h (pc := 18) (mX1_isLikelier l D κ a ε V u hV eV p hc j w (by omega) hw) 2 rfl rfl (gdV wm_333 wm_334 wm_335 wm_19 wm_336) (by decide +kernel) ⟨(Nat.le_of_ble_eq_true rfl), (Nat.le_of_ble_eq_true rfl)⟩ ⟨(Nat.le_of_ble_eq_true rfl), (Nat.le_of_ble_eq_true rfl)⟩ (fun _ _ _ => ⟨rfl, rfl⟩) (Nat.le_of_ble_eq_true rfl) dX1_rankOf_18 (fun v1 u1 hp1 => ?_)
        obtain ⟨rfl, e1⟩ := hp1
        obtain rfl := e1.symm
        simp only [Option.toList_some, List.cons_append, List.nil_append]
        refine w_if_eq h (pc := 21) (tgt := 27) dX1_rankOf_21 (by decide) (by split <;> omega) (fun c21 => ?_) (fun c21 => ?_)
        · refine w_iinc h (pc := 27) dX1_rankOf_27 rfl (by decide) ?_
          refine w_goto h (pc := 30) (tgt := 4) dX1_rankOf_30 (by decide) ?_
          first
          | exact WW.sub (by rfl) (ih (j + 1) (s + 1) (by omega) (by omega) (by rw [sm_s, if_pos (Classical.byContradiction fun q => by rw [if_neg q] at c21; omega)]; omega))
          | exact WW.sub (by rfl) (ih (j + 1) s (by omega) (by omega) (by rw [sm_s, if_neg (fun q => by rw [if_pos q] at c21; omega)]; omega))
        · refine w_iinc h (pc := 24) dX1_rankOf_24 rfl (by decide) ?_
          refine w_iinc h (pc := 27) dX1_rankOf_27 rfl (by decide) ?_
          refine w_goto h (pc := 30) (tgt := 4) dX1_rankOf_30 (by decide) ?_
          first
          | exact WW.sub (by rfl) (ih (j + 1) (s + 1) (by omega) (by omega) (by rw [sm_s, if_pos (Classical.byContradiction fun q => by rw [if_neg q] at c21; omega)]; omega))
          | exact WW.sub (by rfl) (ih (j + 1) s (by omega) (by omega) (by rw [sm_s, if_neg (fun q => by rw [if_pos q] at c21; omega)]; omega))
  exact WW.sub (by rfl) (lp4 (V + 2) 0 0 (by omega) (by omega) rfl)

set_option maxHeartbeats 4000000 in
set_option maxRecDepth 100000 in
theorem mX1_withRank (l : Launch) (D : va_G) (κ a : Nat → Nat) (ε : EE) (V : Nat) (u : US) (hV : V ≤ 12) (eV : u.1 4 = (V : Int)) (p : Nat → Nat) (hc : ∀ x, x ≤ V → u.2 9 x = (p x : Int) ∧ p x ≤ 1000000) (r : Nat) (hr : r ≤ V) : Ct (W0 κ a) l D κ ε yX1_withRank cX1_withRank 3 (some .int) 2 45 0 0 u [.ref (a 2), .int (iI (r : Int))] (fun v u' => v = some (.int (iI (fw p V r : Int))) ∧ u' = u) := by
  refine Ct.of (own := RX1) rfl (by decide +kernel) (Nat.le_of_ble_eq_true rfl) rfl (fun Γ h => ?_)
  refine w_iconst h (pc := 0) dX1_withRank_0 ?_
  refine w_istore_n h (pc := 1) dX1_withRank_1 (by decide) ?_
  have lp2 : ∀ (n9 j : Nat), V < j + n9 → j ≤ V → (∀ x, x < j → ¬ rk p (V + 1) x = r) → WW Γ 3 u 2 [(0, .ref (a 2)), (1, .int (iI (r : Int))), (2, .int (iI (j : Int)))] [] := by
    intro n9
    induction n9 with
    | zero => intro j hn9 hj hno; exfalso; omega
    | succ n9 ih =>
      intro j hn9 hj hno
      refine w_iload_n h (pc := 2) dX1_withRank_2 rfl ?_
      refine w_aload_n h (pc := 3) dX1_withRank_3 rfl ?_
      refine g2_ledger h (pc := 4) wm_64 dX1_withRank_4 ?_
      refine g1_words h (pc := 7) eV wm_307 dX1_withRank_7 ?_
      refine w_icmp_ge h (pc := 10) (tgt := 30) dX1_withRank_10 (by decide) (by omega) (by omega) (fun c10 => ?_) (fun c10 => ?_)
      · have e : j = V := by omega
        have hfw : fw p V r = V := fst9_no (fun x hx => hno x (by omega))
        refine w_aload_n h (pc := 30) dX1_withRank_30 rfl ?_
        refine g2_ledger h (pc := 31) wm_64 dX1_withRank_31 ?_
        refine g1_words h (pc := 34) eV wm_307 dX1_withRank_34 ?_
        exact w_iret h (pc := 37) (ty := .int) rfl rfl dX1_withRank_37 (Nat.le_of_ble_eq_true rfl) (Nat.le_of_ble_eq_true rfl) ⟨by rw [hfw], rfl⟩
      · refine w_aload_n h (pc := 13) dX1_withRank_13 rfl ?_
        refine w_iload_n h (pc := 14) dX1_withRank_14 rfl ?_
        refine w_callV1 h (pc := 15) (mX1_rankOf l D κ a ε V u hV eV p hc j (by omega)) 2 rfl rfl (gdV wm_329 wm_330 wm_331 wm_19 wm_332) (by decide +kernel) ⟨(Nat.le_of_ble_eq_true rfl), (Nat.le_of_ble_eq_true rfl)⟩ ⟨(Nat.le_of_ble_eq_true rfl), (Nat.le_of_ble_eq_true rfl)⟩ (fun _ _ _ => ⟨rfl, rfl⟩) (Nat.le_of_ble_eq_true rfl) dX1_withRank_15 (fun v1 u1 hp1 => ?_)
        obtain ⟨rfl, e1⟩ := hp1
        obtain rfl := e1.symm
        have hrk := rk_in (c := p) (n := V + 1) (w := j) (by omega)
        simp only [Option.toList_some, List.cons_append, List.nil_append]
        refine w_iload_n h (pc := 18) dX1_withRank_18 rfl ?_
        refine w_icmp_ne h (pc := 19) (tgt := 24) dX1_withRank_19 (by decide) (by omega) (by omega) (fun c19 => ?_) (fun c19 => ?_)
        · refine w_iinc h (pc := 24) dX1_withRank_24 rfl (by decide) ?_
          refine w_goto h (pc := 27) (tgt := 2) dX1_withRank_27 (by decide) ?_
          exact WW.sub (by rfl) (ih (j + 1) (by omega) (by omega) (fun x hx q => by rcases Nat.lt_or_ge x j with z | z; exact hno x z q; obtain rfl : x = j := (by omega); omega))
        · have hfw : fw p V r = j := fst9_at (by omega) (by omega) hno
          refine w_iload_n h (pc := 22) dX1_withRank_22 rfl ?_
          exact w_iret h (pc := 23) (ty := .int) rfl rfl dX1_withRank_23 (Nat.le_of_ble_eq_true rfl) (Nat.le_of_ble_eq_true rfl) ⟨by rw [hfw], rfl⟩
  exact WW.sub (by rfl) (lp2 (V + 1) 0 (by omega) (by omega) (fun x hx => absurd hx (Nat.not_lt_zero x)))

set_option maxHeartbeats 4000000 in
set_option maxRecDepth 100000 in
theorem mX1_likeliest (l : Launch) (D : va_G) (κ a : Nat → Nat) (ε : EE) (V : Nat) (u : US) (hV : V ≤ 12) (eV : u.1 4 = (V : Int)) (p : Nat → Nat) (hc : ∀ x, x ≤ V → u.2 9 x = (p x : Int) ∧ p x ≤ 1000000) (w0 : Nat) (hw0 : w0 ≤ V) (hr0 : rk p (V + 1) w0 = 0) : Ct (W0 κ a) l D κ ε yX1_likeliest cX1_likeliest 4 (some .int) 2 45 0 0 u [.ref (a 2), .int (iI 1)] (fun v u' => v = some (.int (iI ((2 ^ w0 : Nat) : Int))) ∧ u' = u) := by
  refine Ct.of (own := RX1) rfl (by decide +kernel) (Nat.le_of_ble_eq_true rfl) rfl (fun Γ h => ?_)
  refine w_iconst h (pc := 0) dX1_likeliest_0 ?_
  refine w_istore_n h (pc := 1) dX1_likeliest_1 (by decide) ?_
  refine w_iconst h (pc := 2) dX1_likeliest_2 ?_
  refine w_istore_n h (pc := 3) dX1_likeliest_3 (by decide) ?_
  have lp4 : ∀ (n9 j : Nat) (s : Int), V + 1 < j + n9 → j ≤ V + 1 → s = (if w0 < j then ((2 ^ w0 : Nat) : Int) else 0) → WW Γ 4 u 4 [(0, .ref (a 2)), (1, .int (iI 1)), (2, .int (iI s)), (3, .int (iI (j : Int)))] [] := by
    intro n9
    induction n9 with
    | zero => intro j s hn9 hj hs; exfalso; omega
    | succ n9 ih =>
      intro j s hn9 hj hs
      refine w_iload_n h (pc := 4) dX1_likeliest_4 rfl ?_
      refine w_aload_n h (pc := 5) dX1_likeliest_5 rfl ?_
      refine g2_ledger h (pc := 6) wm_64 dX1_likeliest_6 ?_
      refine g1_words h (pc := 9) eV wm_307 dX1_likeliest_9 ?_
      refine w_icmp_gt h (pc := 12) (tgt := 36) dX1_likeliest_12 (by decide) (by omega) (by omega) (fun c12 => ?_) (fun c12 => ?_)
      · have e : w0 < j := by omega
        rw [if_pos e] at hs
        refine w_iload_n h (pc := 36) dX1_likeliest_36 rfl ?_
        exact w_iret h (pc := 37) (ty := .int) rfl rfl dX1_likeliest_37 (Nat.le_of_ble_eq_true rfl) (Nat.le_of_ble_eq_true rfl) ⟨by rw [hs], rfl⟩
      · refine w_aload_n h (pc := 15) dX1_likeliest_15 rfl ?_
        refine w_iload_n h (pc := 16) dX1_likeliest_16 rfl ?_
        refine w_callV1 h (pc := 17) (mX1_rankOf l D κ a ε V u hV eV p hc j (by omega)) 2 rfl rfl (gdV wm_329 wm_330 wm_331 wm_19 wm_332) (by decide +kernel) ⟨(Nat.le_of_ble_eq_true rfl), (Nat.le_of_ble_eq_true rfl)⟩ ⟨(Nat.le_of_ble_eq_true rfl), (Nat.le_of_ble_eq_true rfl)⟩ (fun _ _ _ => ⟨rfl, rfl⟩) (Nat.le_of_ble_eq_true rfl) dX1_likeliest_17 (fun v1 u1 hp1 => ?_)
        obtain ⟨rfl, e1⟩ := hp1
        obtain rfl := e1.symm
        have hrk := rk_in (c := p) (n := V + 1) (w := j) (by omega)
        simp only [Option.toList_some, List.cons_append, List.nil_append]
        refine w_iload_n h (pc := 20) dX1_likeliest_20 rfl ?_
        refine w_icmp_ge h (pc := 21) (tgt := 30) dX1_likeliest_21 (by decide) (by omega) (by omega) (fun c21 => ?_) (fun c21 => ?_)
        · have hup : j ≠ w0 → (if w0 < j then ((2 ^ w0 : Nat) : Int) else 0) = (if w0 < j + 1 then ((2 ^ w0 : Nat) : Int) else 0) := fun q => by
            by_cases z : w0 < j
            · rw [if_pos z, if_pos (by omega)]
            · rw [if_neg z, if_neg (by omega)]
          refine w_iinc h (pc := 30) dX1_likeliest_30 rfl (by decide) ?_
          refine w_goto h (pc := 33) (tgt := 4) dX1_likeliest_33 (by decide) ?_
          first
          | exact WW.sub (by rfl) (ih (j + 1) ((2 ^ j : Nat) : Int) (by omega) (by omega) (by rw [if_pos (by omega), ej]))
          | exact WW.sub (by rfl) (ih (j + 1) s (by omega) (by omega) (by rw [hs]; exact hup (fun q => by subst q; omega)))
        · have ej : j = w0 := rk_inj (c := p) (n := V + 1) (by omega) (by omega) (by omega)
          rw [if_neg (by omega)] at hs
          subst hs
          refine w_iload_n h (pc := 24) dX1_likeliest_24 rfl ?_
          refine w_iconst h (pc := 25) dX1_likeliest_25 ?_
          refine w_iload_n h (pc := 26) dX1_likeliest_26 rfl ?_
          refine w_ishl h (pc := 27) (z := ((2 ^ j : Nat) : Int)) dX1_likeliest_27 (shl_1 (by omega)) ?_
          refine w_ior h (pc := 28) (z := ((2 ^ j : Nat) : Int)) dX1_likeliest_28 (or_0 _) ?_
          refine w_istore_n h (pc := 29) dX1_likeliest_29 (by decide) ?_
          have hup : j ≠ w0 → (if w0 < j then ((2 ^ w0 : Nat) : Int) else 0) = (if w0 < j + 1 then ((2 ^ w0 : Nat) : Int) else 0) := fun q => by
            by_cases z : w0 < j
            · rw [if_pos z, if_pos (by omega)]
            · rw [if_neg z, if_neg (by omega)]
          refine w_iinc h (pc := 30) dX1_likeliest_30 rfl (by decide) ?_
          refine w_goto h (pc := 33) (tgt := 4) dX1_likeliest_33 (by decide) ?_
          first
          | exact WW.sub (by rfl) (ih (j + 1) ((2 ^ j : Nat) : Int) (by omega) (by omega) (by rw [if_pos (by omega), ej]))
          | exact WW.sub (by rfl) (ih (j + 1) s (by omega) (by omega) (by rw [hs]; exact hup (fun q => by subst q; omega)))
  exact WW.sub (by rfl) (lp4 (V + 2) 0 0 (by omega) (by omega) (if_neg (Nat.not_lt_zero w0)).symm)
