theorem dX5_addSentence_0 : decode cX5_addSentence 0 = .ok (.iconst 1, 1) := by decide +kernel
theorem dX5_addSentence_1 : decode cX5_addSentence 1 = .ok (.istore_n 2, 1) := by decide +kernel
theorem dX5_addSentence_2 : decode cX5_addSentence 2 = .ok (.iload_n 2, 1) := by decide +kernel
theorem dX5_addSentence_3 : decode cX5_addSentence 3 = .ok (.aload_n 0, 1) := by decide +kernel
theorem dX5_addSentence_4 : decode cX5_addSentence 4 = .ok (.getfield 10, 3) := by decide +kernel
theorem dX5_addSentence_7 : decode cX5_addSentence 7 = .ok (.getfield 83, 3) := by decide +kernel
theorem dX5_addSentence_10 : decode cX5_addSentence 10 = .ok (.if_icmp .gt 40, 3) := by decide +kernel
theorem dX5_addSentence_13 : decode cX5_addSentence 13 = .ok (.iconst 0, 1) := by decide +kernel
theorem dX5_addSentence_14 : decode cX5_addSentence 14 = .ok (.istore_n 3, 1) := by decide +kernel
theorem dX5_addSentence_15 : decode cX5_addSentence 15 = .ok (.iload_n 3, 1) := by decide +kernel
theorem dX5_addSentence_16 : decode cX5_addSentence 16 = .ok (.aload_n 0, 1) := by decide +kernel
theorem dX5_addSentence_17 : decode cX5_addSentence 17 = .ok (.getfield 51, 3) := by decide +kernel
theorem dX5_addSentence_20 : decode cX5_addSentence 20 = .ok (.if_icmp .gt 24, 3) := by decide +kernel
theorem dX5_addSentence_23 : decode cX5_addSentence 23 = .ok (.aload_n 0, 1) := by decide +kernel
theorem dX5_addSentence_24 : decode cX5_addSentence 24 = .ok (.getfield 10, 3) := by decide +kernel
theorem dX5_addSentence_27 : decode cX5_addSentence 27 = .ok (.iload_n 2, 1) := by decide +kernel
theorem dX5_addSentence_28 : decode cX5_addSentence 28 = .ok (.aload_n 0, 1) := by decide +kernel
theorem dX5_addSentence_29 : decode cX5_addSentence 29 = .ok (.iload_n 3, 1) := by decide +kernel
theorem dX5_addSentence_30 : decode cX5_addSentence 30 = .ok (.iload_n 2, 1) := by decide +kernel
theorem dX5_addSentence_31 : decode cX5_addSentence 31 = .ok (.invokevirtual 202, 3) := by decide +kernel
theorem dX5_addSentence_34 : decode cX5_addSentence 34 = .ok (.iload_n 1, 1) := by decide +kernel
theorem dX5_addSentence_35 : decode cX5_addSentence 35 = .ok (.invokevirtual 270, 3) := by decide +kernel
theorem dX5_addSentence_38 : decode cX5_addSentence 38 = .ok (.iinc 3 1, 3) := by decide +kernel
theorem dX5_addSentence_41 : decode cX5_addSentence 41 = .ok (.goto (-26), 3) := by decide +kernel
theorem dX5_addSentence_44 : decode cX5_addSentence 44 = .ok (.iinc 2 1, 3) := by decide +kernel
theorem dX5_addSentence_47 : decode cX5_addSentence 47 = .ok (.goto (-45), 3) := by decide +kernel
theorem dX5_addSentence_50 : decode cX5_addSentence 50 = .ok (.return_, 1) := by decide +kernel
theorem dX5_append_0 : decode cX5_append 0 = .ok (.aload_n 0, 1) := by decide +kernel
theorem dX5_append_1 : decode cX5_append 1 = .ok (.getfield 51, 3) := by decide +kernel
theorem dX5_append_4 : decode cX5_append 4 = .ok (.bipush 12, 2) := by decide +kernel
theorem dX5_append_6 : decode cX5_append 6 = .ok (.if_icmp .ge 23, 3) := by decide +kernel
theorem dX5_append_9 : decode cX5_append 9 = .ok (.aload_n 0, 1) := by decide +kernel
theorem dX5_append_10 : decode cX5_append 10 = .ok (.getfield 47, 3) := by decide +kernel
theorem dX5_append_13 : decode cX5_append 13 = .ok (.aload_n 0, 1) := by decide +kernel
theorem dX5_append_14 : decode cX5_append 14 = .ok (.getfield 51, 3) := by decide +kernel
theorem dX5_append_17 : decode cX5_append 17 = .ok (.iload_n 1, 1) := by decide +kernel
theorem dX5_append_18 : decode cX5_append 18 = .ok (.iastore, 1) := by decide +kernel
theorem dX5_append_19 : decode cX5_append 19 = .ok (.aload_n 0, 1) := by decide +kernel
theorem dX5_append_20 : decode cX5_append 20 = .ok (.dup, 1) := by decide +kernel
theorem dX5_append_21 : decode cX5_append 21 = .ok (.getfield 51, 3) := by decide +kernel
theorem dX5_append_24 : decode cX5_append 24 = .ok (.iconst 1, 1) := by decide +kernel
theorem dX5_append_25 : decode cX5_append 25 = .ok (.iadd, 1) := by decide +kernel
theorem dX5_append_26 : decode cX5_append 26 = .ok (.putfield 51, 3) := by decide +kernel
theorem dX5_append_29 : decode cX5_append 29 = .ok (.return_, 1) := by decide +kernel
theorem dX5_canTakeSentence_0 : decode cX5_canTakeSentence 0 = .ok (.iconst 1, 1) := by decide +kernel
theorem dX5_canTakeSentence_1 : decode cX5_canTakeSentence 1 = .ok (.istore_n 1, 1) := by decide +kernel
theorem dX5_canTakeSentence_2 : decode cX5_canTakeSentence 2 = .ok (.iload_n 1, 1) := by decide +kernel
theorem dX5_canTakeSentence_3 : decode cX5_canTakeSentence 3 = .ok (.aload_n 0, 1) := by decide +kernel
theorem dX5_canTakeSentence_4 : decode cX5_canTakeSentence 4 = .ok (.getfield 10, 3) := by decide +kernel
theorem dX5_canTakeSentence_7 : decode cX5_canTakeSentence 7 = .ok (.getfield 83, 3) := by decide +kernel
theorem dX5_canTakeSentence_10 : decode cX5_canTakeSentence 10 = .ok (.if_icmp .gt 55, 3) := by decide +kernel
theorem dX5_canTakeSentence_13 : decode cX5_canTakeSentence 13 = .ok (.iconst 0, 1) := by decide +kernel
theorem dX5_canTakeSentence_14 : decode cX5_canTakeSentence 14 = .ok (.istore_n 2, 1) := by decide +kernel
theorem dX5_canTakeSentence_15 : decode cX5_canTakeSentence 15 = .ok (.iload_n 2, 1) := by decide +kernel
theorem dX5_canTakeSentence_16 : decode cX5_canTakeSentence 16 = .ok (.aload_n 0, 1) := by decide +kernel
theorem dX5_canTakeSentence_17 : decode cX5_canTakeSentence 17 = .ok (.getfield 51, 3) := by decide +kernel
theorem dX5_canTakeSentence_20 : decode cX5_canTakeSentence 20 = .ok (.if_icmp .gt 39, 3) := by decide +kernel
theorem dX5_canTakeSentence_23 : decode cX5_canTakeSentence 23 = .ok (.aload_n 0, 1) := by decide +kernel
theorem dX5_canTakeSentence_24 : decode cX5_canTakeSentence 24 = .ok (.iload_n 2, 1) := by decide +kernel
theorem dX5_canTakeSentence_25 : decode cX5_canTakeSentence 25 = .ok (.iload_n 1, 1) := by decide +kernel
theorem dX5_canTakeSentence_26 : decode cX5_canTakeSentence 26 = .ok (.invokevirtual 202, 3) := by decide +kernel
theorem dX5_canTakeSentence_29 : decode cX5_canTakeSentence 29 = .ok (.istore_n 3, 1) := by decide +kernel
theorem dX5_canTakeSentence_30 : decode cX5_canTakeSentence 30 = .ok (.aload_n 0, 1) := by decide +kernel
theorem dX5_canTakeSentence_31 : decode cX5_canTakeSentence 31 = .ok (.getfield 10, 3) := by decide +kernel
theorem dX5_canTakeSentence_34 : decode cX5_canTakeSentence 34 = .ok (.iload_n 1, 1) := by decide +kernel
theorem dX5_canTakeSentence_35 : decode cX5_canTakeSentence 35 = .ok (.invokevirtual 131, 3) := by decide +kernel
theorem dX5_canTakeSentence_38 : decode cX5_canTakeSentence 38 = .ok (.iload_n 3, 1) := by decide +kernel
theorem dX5_canTakeSentence_39 : decode cX5_canTakeSentence 39 = .ok (.invokevirtual 278, 3) := by decide +kernel
theorem dX5_canTakeSentence_42 : decode cX5_canTakeSentence 42 = .ok (.aload_n 0, 1) := by decide +kernel
theorem dX5_canTakeSentence_43 : decode cX5_canTakeSentence 43 = .ok (.iload_n 3, 1) := by decide +kernel
theorem dX5_canTakeSentence_44 : decode cX5_canTakeSentence 44 = .ok (.iload_n 1, 1) := by decide +kernel
theorem dX5_canTakeSentence_45 : decode cX5_canTakeSentence 45 = .ok (.invokevirtual 281, 3) := by decide +kernel
theorem dX5_canTakeSentence_48 : decode cX5_canTakeSentence 48 = .ok (.if_icmp .ge 5, 3) := by decide +kernel
theorem dX5_canTakeSentence_53 : decode cX5_canTakeSentence 53 = .ok (.iinc 2 1, 3) := by decide +kernel
theorem dX5_canTakeSentence_56 : decode cX5_canTakeSentence 56 = .ok (.goto (-41), 3) := by decide +kernel
theorem dX5_canTakeSentence_59 : decode cX5_canTakeSentence 59 = .ok (.iinc 1 1, 3) := by decide +kernel
theorem dX5_canTakeSentence_62 : decode cX5_canTakeSentence 62 = .ok (.goto (-60), 3) := by decide +kernel
theorem dX5_canTakeSentence_65 : decode cX5_canTakeSentence 65 = .ok (.iconst 1, 1) := by decide +kernel
theorem dX5_canTakeSentence_66 : decode cX5_canTakeSentence 66 = .ok (.ireturn, 1) := by decide +kernel
theorem dX5_isOrder_0 : decode cX5_isOrder 0 = .ok (.iload_n 1, 1) := by decide +kernel
theorem dX5_isOrder_1 : decode cX5_isOrder 1 = .ok (.iconst 1, 1) := by decide +kernel
theorem dX5_isOrder_2 : decode cX5_isOrder 2 = .ok (.if_icmp .lt 18, 3) := by decide +kernel
theorem dX5_isOrder_5 : decode cX5_isOrder 5 = .ok (.iload_n 1, 1) := by decide +kernel
theorem dX5_isOrder_6 : decode cX5_isOrder 6 = .ok (.aload_n 0, 1) := by decide +kernel
theorem dX5_isOrder_7 : decode cX5_isOrder 7 = .ok (.getfield 10, 3) := by decide +kernel
theorem dX5_isOrder_10 : decode cX5_isOrder 10 = .ok (.getfield 83, 3) := by decide +kernel
theorem dX5_isOrder_13 : decode cX5_isOrder 13 = .ok (.if_icmp .gt 7, 3) := by decide +kernel
theorem dX5_isOrder_16 : decode cX5_isOrder 16 = .ok (.iconst 1, 1) := by decide +kernel
theorem dX5_isOrder_17 : decode cX5_isOrder 17 = .ok (.goto 4, 3) := by decide +kernel
theorem dX5_isOrder_21 : decode cX5_isOrder 21 = .ok (.ireturn, 1) := by decide +kernel
theorem dX5_isStep_0 : decode cX5_isStep 0 = .ok (.iload_n 1, 1) := by decide +kernel
theorem dX5_isStep_1 : decode cX5_isStep 1 = .ok (.tableswitch 89 0 5 #[39, 39, 41, 72, 47, 72], 39) := by decide +kernel
theorem dX5_isStep_73 : decode cX5_isStep 73 = .ok (.iload_n 2, 1) := by decide +kernel
theorem dX5_isStep_74 : decode cX5_isStep 74 = .ok (.iconst 1, 1) := by decide +kernel
theorem dX5_isStep_75 : decode cX5_isStep 75 = .ok (.if_icmp .lt 13, 3) := by decide +kernel
theorem dX5_isStep_78 : decode cX5_isStep 78 = .ok (.iload_n 2, 1) := by decide +kernel
theorem dX5_isStep_79 : decode cX5_isStep 79 = .ok (.bipush 12, 2) := by decide +kernel
theorem dX5_isStep_81 : decode cX5_isStep 81 = .ok (.if_icmp .gt 7, 3) := by decide +kernel
theorem dX5_isStep_84 : decode cX5_isStep 84 = .ok (.iconst 1, 1) := by decide +kernel
theorem dX5_isStep_85 : decode cX5_isStep 85 = .ok (.goto 4, 3) := by decide +kernel
theorem dX5_isStep_89 : decode cX5_isStep 89 = .ok (.ireturn, 1) := by decide +kernel
theorem dX5_isWay_0 : decode cX5_isWay 0 = .ok (.iload_n 0, 1) := by decide +kernel
theorem dX5_isWay_1 : decode cX5_isWay 1 = .ok (.ifCond .lt 24, 3) := by decide +kernel
theorem dX5_isWay_4 : decode cX5_isWay 4 = .ok (.iload_n 0, 1) := by decide +kernel
theorem dX5_isWay_5 : decode cX5_isWay 5 = .ok (.iconst 4, 1) := by decide +kernel
theorem dX5_isWay_6 : decode cX5_isWay 6 = .ok (.if_icmp .gt 19, 3) := by decide +kernel
theorem dX5_isWay_9 : decode cX5_isWay 9 = .ok (.iload_n 1, 1) := by decide +kernel
theorem dX5_isWay_10 : decode cX5_isWay 10 = .ok (.iconst 1, 1) := by decide +kernel
theorem dX5_isWay_11 : decode cX5_isWay 11 = .ok (.if_icmp .lt 14, 3) := by decide +kernel
theorem dX5_isWay_14 : decode cX5_isWay 14 = .ok (.iload_n 1, 1) := by decide +kernel
theorem dX5_isWay_15 : decode cX5_isWay 15 = .ok (.sipush 1000, 3) := by decide +kernel
theorem dX5_isWay_18 : decode cX5_isWay 18 = .ok (.if_icmp .gt 7, 3) := by decide +kernel
theorem dX5_isWay_21 : decode cX5_isWay 21 = .ok (.iconst 1, 1) := by decide +kernel
theorem dX5_isWay_22 : decode cX5_isWay 22 = .ok (.goto 4, 3) := by decide +kernel
theorem dX5_isWay_26 : decode cX5_isWay 26 = .ok (.ireturn, 1) := by decide +kernel
theorem dX5_isWord_0 : decode cX5_isWord 0 = .ok (.iload_n 1, 1) := by decide +kernel
theorem dX5_isWord_1 : decode cX5_isWord 1 = .ok (.ifCond .lt 18, 3) := by decide +kernel
theorem dX5_isWord_4 : decode cX5_isWord 4 = .ok (.iload_n 1, 1) := by decide +kernel
theorem dX5_isWord_5 : decode cX5_isWord 5 = .ok (.aload_n 0, 1) := by decide +kernel
theorem dX5_isWord_6 : decode cX5_isWord 6 = .ok (.getfield 10, 3) := by decide +kernel
theorem dX5_isWord_9 : decode cX5_isWord 9 = .ok (.getfield 65, 3) := by decide +kernel
theorem dX5_isWord_12 : decode cX5_isWord 12 = .ok (.if_icmp .ge 7, 3) := by decide +kernel
theorem dX5_isWord_15 : decode cX5_isWord 15 = .ok (.iconst 1, 1) := by decide +kernel
theorem dX5_isWord_16 : decode cX5_isWord 16 = .ok (.goto 4, 3) := by decide +kernel
theorem dX5_isWord_20 : decode cX5_isWord 20 = .ok (.ireturn, 1) := by decide +kernel
theorem dX5_takeSentence_0 : decode cX5_takeSentence 0 = .ok (.iconst 0, 1) := by decide +kernel
theorem dX5_takeSentence_1 : decode cX5_takeSentence 1 = .ok (.istore_n 2, 1) := by decide +kernel
theorem dX5_takeSentence_2 : decode cX5_takeSentence 2 = .ok (.iconst 1, 1) := by decide +kernel
theorem dX5_takeSentence_3 : decode cX5_takeSentence 3 = .ok (.istore_n 3, 1) := by decide +kernel
theorem dX5_takeSentence_4 : decode cX5_takeSentence 4 = .ok (.iload_n 3, 1) := by decide +kernel
theorem dX5_takeSentence_5 : decode cX5_takeSentence 5 = .ok (.aload_n 0, 1) := by decide +kernel
theorem dX5_takeSentence_6 : decode cX5_takeSentence 6 = .ok (.getfield 10, 3) := by decide +kernel
theorem dX5_takeSentence_9 : decode cX5_takeSentence 9 = .ok (.getfield 83, 3) := by decide +kernel
theorem dX5_takeSentence_12 : decode cX5_takeSentence 12 = .ok (.if_icmp .gt 49, 3) := by decide +kernel
theorem dX5_takeSentence_15 : decode cX5_takeSentence 15 = .ok (.iconst 0, 1) := by decide +kernel
theorem dX5_takeSentence_16 : decode cX5_takeSentence 16 = .ok (.istore 4, 2) := by decide +kernel
theorem dX5_takeSentence_18 : decode cX5_takeSentence 18 = .ok (.iload 4, 2) := by decide +kernel
theorem dX5_takeSentence_20 : decode cX5_takeSentence 20 = .ok (.aload_n 0, 1) := by decide +kernel
theorem dX5_takeSentence_21 : decode cX5_takeSentence 21 = .ok (.getfield 51, 3) := by decide +kernel
theorem dX5_takeSentence_24 : decode cX5_takeSentence 24 = .ok (.if_icmp .gt 31, 3) := by decide +kernel
theorem dX5_takeSentence_27 : decode cX5_takeSentence 27 = .ok (.aload_n 0, 1) := by decide +kernel
theorem dX5_takeSentence_28 : decode cX5_takeSentence 28 = .ok (.getfield 10, 3) := by decide +kernel
theorem dX5_takeSentence_31 : decode cX5_takeSentence 31 = .ok (.iload_n 3, 1) := by decide +kernel
theorem dX5_takeSentence_32 : decode cX5_takeSentence 32 = .ok (.aload_n 0, 1) := by decide +kernel
theorem dX5_takeSentence_33 : decode cX5_takeSentence 33 = .ok (.iload 4, 2) := by decide +kernel
theorem dX5_takeSentence_35 : decode cX5_takeSentence 35 = .ok (.iload_n 3, 1) := by decide +kernel
theorem dX5_takeSentence_36 : decode cX5_takeSentence 36 = .ok (.invokevirtual 202, 3) := by decide +kernel
theorem dX5_takeSentence_39 : decode cX5_takeSentence 39 = .ok (.iload_n 1, 1) := by decide +kernel
theorem dX5_takeSentence_40 : decode cX5_takeSentence 40 = .ok (.invokevirtual 274, 3) := by decide +kernel
theorem dX5_takeSentence_43 : decode cX5_takeSentence 43 = .ok (.ifCond .eq 6, 3) := by decide +kernel
theorem dX5_takeSentence_46 : decode cX5_takeSentence 46 = .ok (.iinc 2 1, 3) := by decide +kernel
theorem dX5_takeSentence_49 : decode cX5_takeSentence 49 = .ok (.iinc 4 1, 3) := by decide +kernel
theorem dX5_takeSentence_52 : decode cX5_takeSentence 52 = .ok (.goto (-34), 3) := by decide +kernel
theorem dX5_takeSentence_55 : decode cX5_takeSentence 55 = .ok (.iinc 3 1, 3) := by decide +kernel
theorem dX5_takeSentence_58 : decode cX5_takeSentence 58 = .ok (.goto (-54), 3) := by decide +kernel
theorem dX5_takeSentence_61 : decode cX5_takeSentence 61 = .ok (.iload_n 2, 1) := by decide +kernel
theorem dX5_takeSentence_62 : decode cX5_takeSentence 62 = .ok (.ireturn, 1) := by decide +kernel
theorem dX5_timesInSentence_0 : decode cX5_timesInSentence 0 = .ok (.iconst 0, 1) := by decide +kernel
theorem dX5_timesInSentence_1 : decode cX5_timesInSentence 1 = .ok (.istore_n 3, 1) := by decide +kernel
theorem dX5_timesInSentence_2 : decode cX5_timesInSentence 2 = .ok (.iconst 0, 1) := by decide +kernel
theorem dX5_timesInSentence_3 : decode cX5_timesInSentence 3 = .ok (.istore 4, 2) := by decide +kernel
theorem dX5_timesInSentence_5 : decode cX5_timesInSentence 5 = .ok (.iload 4, 2) := by decide +kernel
theorem dX5_timesInSentence_7 : decode cX5_timesInSentence 7 = .ok (.aload_n 0, 1) := by decide +kernel
theorem dX5_timesInSentence_8 : decode cX5_timesInSentence 8 = .ok (.getfield 51, 3) := by decide +kernel
theorem dX5_timesInSentence_11 : decode cX5_timesInSentence 11 = .ok (.if_icmp .gt 23, 3) := by decide +kernel
theorem dX5_timesInSentence_14 : decode cX5_timesInSentence 14 = .ok (.aload_n 0, 1) := by decide +kernel
theorem dX5_timesInSentence_15 : decode cX5_timesInSentence 15 = .ok (.iload 4, 2) := by decide +kernel
theorem dX5_timesInSentence_17 : decode cX5_timesInSentence 17 = .ok (.iload_n 2, 1) := by decide +kernel
theorem dX5_timesInSentence_18 : decode cX5_timesInSentence 18 = .ok (.invokevirtual 202, 3) := by decide +kernel
theorem dX5_timesInSentence_21 : decode cX5_timesInSentence 21 = .ok (.iload_n 1, 1) := by decide +kernel
theorem dX5_timesInSentence_22 : decode cX5_timesInSentence 22 = .ok (.if_icmp .ne 6, 3) := by decide +kernel
theorem dX5_timesInSentence_25 : decode cX5_timesInSentence 25 = .ok (.iinc 3 1, 3) := by decide +kernel
theorem dX5_timesInSentence_28 : decode cX5_timesInSentence 28 = .ok (.iinc 4 1, 3) := by decide +kernel
theorem dX5_timesInSentence_31 : decode cX5_timesInSentence 31 = .ok (.goto (-26), 3) := by decide +kernel
theorem dX5_timesInSentence_34 : decode cX5_timesInSentence 34 = .ok (.iload_n 3, 1) := by decide +kernel
theorem dX5_timesInSentence_35 : decode cX5_timesInSentence 35 = .ok (.ireturn, 1) := by decide +kernel
set_option maxHeartbeats 4000000 in
set_option maxRecDepth 100000 in
theorem mX5_isWord (l : Launch) (D : va_G) (κ a : Nat → Nat) (ε : EE) (V N way num m : Nat) (S : List Nat) (T : Nat → List (Nat × Nat)) (u : US) (hA : AB V N way num m S T u) (w : Nat) (hw : w < V) : Ct (W0 κ a) l D κ ε yX5_isWord cX5_isWord 2 (some .boolean) 0 0 0 0 u [.ref (a 0), .int (iI (w : Int))] (fun v u' => v = some (.int (iI 1)) ∧ u' = u) := by
  obtain ⟨⟨hV, hN, hway, hnum, hm, hSl, hSV⟩, eV, eN, ew, en, ⟨eS, hS⟩, hT⟩ := id hA
  refine Ct.of (own := RX5) rfl (by decide +kernel) (Nat.le_of_ble_eq_true rfl) rfl (fun Γ h => ?_)
  refine w_iload_n h (pc := 0) dX5_isWord_0 rfl ?_
  refine w_if_lt h (pc := 1) (tgt := 19) dX5_isWord_1 (by decide) (by omega) (fun c1 => by exfalso; omega) (fun c1 => ?_)
  refine w_iload_n h (pc := 4) dX5_isWord_4 rfl ?_
  refine w_aload_n h (pc := 5) dX5_isWord_5 rfl ?_
  refine g0_ledger h (pc := 6) wm_16 dX5_isWord_6 ?_
  refine g1_words h (pc := 9) eV wm_113 dX5_isWord_9 ?_
  refine w_icmp_ge h (pc := 12) (tgt := 19) dX5_isWord_12 (by decide) (by omega) (by omega) (fun c12 => by exfalso; omega) (fun c12 => ?_)
  refine w_iconst h (pc := 15) dX5_isWord_15 ?_
  refine w_goto h (pc := 16) (tgt := 20) dX5_isWord_16 (by decide) ?_
  exact w_iret h (pc := 20) (ty := .boolean) rfl rfl dX5_isWord_20 (Nat.le_of_ble_eq_true rfl) (Nat.le_of_ble_eq_true rfl) ⟨rfl, rfl⟩

set_option maxHeartbeats 4000000 in
set_option maxRecDepth 100000 in
theorem mX5_isOrder (l : Launch) (D : va_G) (κ a : Nat → Nat) (ε : EE) (V N way num m : Nat) (S : List Nat) (T : Nat → List (Nat × Nat)) (u : US) (hA : AB V N way num m S T u) (n : Nat) (hn : 1 ≤ n ∧ n ≤ N) : Ct (W0 κ a) l D κ ε yX5_isOrder cX5_isOrder 2 (some .boolean) 0 0 0 0 u [.ref (a 0), .int (iI (n : Int))] (fun v u' => v = some (.int (iI 1)) ∧ u' = u) := by
  obtain ⟨⟨hV, hN, hway, hnum, hm, hSl, hSV⟩, eV, eN, ew, en, ⟨eS, hS⟩, hT⟩ := id hA
  refine Ct.of (own := RX5) rfl (by decide +kernel) (Nat.le_of_ble_eq_true rfl) rfl (fun Γ h => ?_)
  refine w_iload_n h (pc := 0) dX5_isOrder_0 rfl ?_
  refine w_iconst h (pc := 1) dX5_isOrder_1 ?_
  refine w_icmp_lt h (pc := 2) (tgt := 20) dX5_isOrder_2 (by decide) (by omega) (by omega) (fun c2 => by exfalso; omega) (fun c2 => ?_)
  refine w_iload_n h (pc := 5) dX5_isOrder_5 rfl ?_
  refine w_aload_n h (pc := 6) dX5_isOrder_6 rfl ?_
  refine g0_ledger h (pc := 7) wm_16 dX5_isOrder_7 ?_
  refine g1_order h (pc := 10) eN wm_140 dX5_isOrder_10 ?_
  refine w_icmp_gt h (pc := 13) (tgt := 20) dX5_isOrder_13 (by decide) (by omega) (by omega) (fun c13 => by exfalso; omega) (fun c13 => ?_)
  refine w_iconst h (pc := 16) dX5_isOrder_16 ?_
  refine w_goto h (pc := 17) (tgt := 21) dX5_isOrder_17 (by decide) ?_
  exact w_iret h (pc := 21) (ty := .boolean) rfl rfl dX5_isOrder_21 (Nat.le_of_ble_eq_true rfl) (Nat.le_of_ble_eq_true rfl) ⟨rfl, rfl⟩

set_option maxHeartbeats 4000000 in
set_option maxRecDepth 100000 in
theorem mX5_isWay (l : Launch) (D : va_G) (κ a : Nat → Nat) (ε : EE) (u : US) (w n : Nat) (hw : w ≤ 4) (hn : 1 ≤ n ∧ n ≤ 1000) : Ct (W0 κ a) l D κ ε yX5_isWay cX5_isWay 2 (some .boolean) 0 0 0 0 u [.int (iI (w : Int)), .int (iI (n : Int))] (fun v u' => v = some (.int (iI 1)) ∧ u' = u) := by
  refine Ct.of (own := RX5) rfl (by decide +kernel) (Nat.le_of_ble_eq_true rfl) rfl (fun Γ h => ?_)
  refine w_iload_n h (pc := 0) dX5_isWay_0 rfl ?_
  refine w_if_lt h (pc := 1) (tgt := 25) dX5_isWay_1 (by decide) (by omega) (fun c1 => by exfalso; omega) (fun c1 => ?_)
  refine w_iload_n h (pc := 4) dX5_isWay_4 rfl ?_
  refine w_iconst h (pc := 5) dX5_isWay_5 ?_
  refine w_icmp_gt h (pc := 6) (tgt := 25) dX5_isWay_6 (by decide) (by omega) (by omega) (fun c6 => by exfalso; omega) (fun c6 => ?_)
  refine w_iload_n h (pc := 9) dX5_isWay_9 rfl ?_
  refine w_iconst h (pc := 10) dX5_isWay_10 ?_
  refine w_icmp_lt h (pc := 11) (tgt := 25) dX5_isWay_11 (by decide) (by omega) (by omega) (fun c11 => by exfalso; omega) (fun c11 => ?_)
  refine w_iload_n h (pc := 14) dX5_isWay_14 rfl ?_
  refine w_sipush h (pc := 15) dX5_isWay_15 (by decide) ?_
  refine w_icmp_gt h (pc := 18) (tgt := 25) dX5_isWay_18 (by decide) (by omega) (by omega) (fun c18 => by exfalso; omega) (fun c18 => ?_)
  refine w_iconst h (pc := 21) dX5_isWay_21 ?_
  refine w_goto h (pc := 22) (tgt := 26) dX5_isWay_22 (by decide) ?_
  exact w_iret h (pc := 26) (ty := .boolean) rfl rfl dX5_isWay_26 (Nat.le_of_ble_eq_true rfl) (Nat.le_of_ble_eq_true rfl) ⟨rfl, rfl⟩

set_option maxHeartbeats 4000000 in
set_option maxRecDepth 100000 in
theorem mX5_isStep (l : Launch) (D : va_G) (κ a : Nat → Nat) (ε : EE) (u : US) : Ct (W0 κ a) l D κ ε yX5_isStep cX5_isStep 3 (some .boolean) 2 40 0 0 u [.ref (a 0), .int (iI 3), .int (iI 1)] (fun v u' => v = some (.int (iI 1)) ∧ u' = u) := by
  refine Ct.of (own := RX5) rfl (by decide +kernel) (Nat.le_of_ble_eq_true rfl) rfl (fun Γ h => ?_)
  refine w_iload_n h (pc := 0) dX5_isStep_0 rfl ?_
  refine w_tabIn h (pc := 1) (tgt := 73) (off := 72) dX5_isStep_1 (by omega) (by decide) (by decide) rfl (by decide) ?_
  refine w_iload_n h (pc := 73) dX5_isStep_73 rfl ?_
  refine w_iconst h (pc := 74) dX5_isStep_74 ?_
  refine w_icmp_lt h (pc := 75) (tgt := 88) dX5_isStep_75 (by decide) (by omega) (by omega) (fun c75 => by exfalso; omega) (fun c75 => ?_)
  refine w_iload_n h (pc := 78) dX5_isStep_78 rfl ?_
  refine w_bipush h (pc := 79) dX5_isStep_79 (by decide) ?_
  refine w_icmp_gt h (pc := 81) (tgt := 88) dX5_isStep_81 (by decide) (by omega) (by omega) (fun c81 => by exfalso; omega) (fun c81 => ?_)
  refine w_iconst h (pc := 84) dX5_isStep_84 ?_
  refine w_goto h (pc := 85) (tgt := 89) dX5_isStep_85 (by decide) ?_
  exact w_iret h (pc := 89) (ty := .boolean) rfl rfl dX5_isStep_89 (Nat.le_of_ble_eq_true rfl) (Nat.le_of_ble_eq_true rfl) ⟨rfl, rfl⟩

set_option maxHeartbeats 4000000 in
set_option maxRecDepth 100000 in
theorem mX5_append (l : Launch) (D : va_G) (κ a : Nat → Nat) (ε : EE) (V N way num m : Nat) (S : List Nat) (T : Nat → List (Nat × Nat)) (u : US) (hA : AB V N way num m S T u) (w : Nat) (hw : w < V) (hl9 : S.length < 12) : Ct (W0 κ a) l D κ ε yX5_append cX5_append 2 none 0 0 0 0 u [.ref (a 0), .int (iI (w : Int))] (fun v u' => v = none ∧ Fr [0] [6] u u' ∧ AB V N way num m (S ++ [w]) T u') := by
  obtain ⟨⟨hV, hN, hway, hnum, hm, hSl, hSV⟩, eV, eN, ew, en, ⟨eS, hS⟩, hT⟩ := id hA
  refine Ct.of (own := RX5) rfl (by decide +kernel) (Nat.le_of_ble_eq_true rfl) rfl (fun Γ h => ?_)
  refine w_aload_n h (pc := 0) dX5_append_0 rfl ?_
  refine g0_length h (pc := 1) eS wm_33 dX5_append_1 ?_
  refine w_bipush h (pc := 4) dX5_append_4 (by decide) ?_
  refine w_icmp_ge h (pc := 6) (tgt := 29) dX5_append_6 (by decide) (by omega) (by omega) (fun c6 => by exfalso; omega) (fun c6 => ?_)
  refine w_aload_n h (pc := 9) dX5_append_9 rfl ?_
  refine g0_sentence h (pc := 10) wm_32 dX5_append_10 ?_
  refine w_aload_n h (pc := 13) dX5_append_13 rfl ?_
  refine g0_length h (pc := 14) eS wm_33 dX5_append_14 ?_
  refine w_iload_n h (pc := 17) dX5_append_17 rfl ?_
  refine st_sentence h (pc := 18) (by omega) dX5_append_18 ?_
  refine w_aload_n h (pc := 19) dX5_append_19 rfl ?_
  refine w_dup h (pc := 20) dX5_append_20 rfl ?_
  refine g0_length h (pc := 21) eS wm_33 dX5_append_21 ?_
  refine w_iconst h (pc := 24) dX5_append_24 ?_
  refine w_iadd h (pc := 25) dX5_append_25 ?_
  refine p0_length h (pc := 26) wm_33 dX5_append_26 ?_
  exact w_vret h (pc := 29) rfl dX5_append_29 (Nat.le_of_ble_eq_true rfl) (Nat.le_of_ble_eq_true rfl) ⟨rfl, (Fr.A (by simp)).tr (Fr.S (by simp)), ab_app hA hw hl9⟩

set_option maxHeartbeats 4000000 in
set_option maxRecDepth 100000 in
theorem mX5_addSentence (l : Launch) (D : va_G) (κ a : Nat → Nat) (ε : EE) (V N way num m : Nat) (S : List Nat) (T : Nat → List (Nat × Nat)) (u : US) (hA : AB V N way num m S T u) (c : Nat) (hc : 0 < c ∧ c ≤ 4) (hm9 : m + 28 ≤ 700) (hS6 : S.length ≤ 6) : Ct (W0 κ a) l D κ ε yX5_addSentence cX5_addSentence 4 none 3 86 0 0 u [.ref (a 0), .int (iI (c : Int))] (fun v u' => v = none ∧ Fr tS tG u u' ∧ ∃ T', AB V N way num (m + 28) S T' u' ∧ ∀ i, i < 4 → T' i = adT V S T c N 0 i) := by
  obtain ⟨⟨hV, hN, hway, hnum, hm, hSl, hSV⟩, eV, eN, ew, en, ⟨eS, hS⟩, hT⟩ := id hA
  refine Ct.of (own := RX5) rfl (by decide +kernel) (Nat.le_of_ble_eq_true rfl) rfl (fun Γ h => ?_)
  refine w_iconst h (pc := 0) dX5_addSentence_0 ?_
  refine w_istore_n h (pc := 1) dX5_addSentence_1 (by decide) ?_
  have lp2 : ∀ (n9 o m9 : Nat) (w : US), N < o + n9 → o ≤ N → m9 ≤ m + 7 * o → Fr tS tG u w → (∃ T9, TA V m9 w T9 ∧ ∀ i, i < 4 → T9 i = adT V S T c o 0 i) → WW Γ 4 w 2 [(0, .ref (a 0)), (1, .int (iI (c : Int))), (2, .int (iI ((o : Int) + 1)))] [] := by
    intro n9
    induction n9 with
    | zero => intro o m9 w hn9 ho hm99 hF hT9; exfalso; omega
    | succ n9 ih =>
      intro o m9 w hn9 ho hm99 hF hT9
      obtain ⟨T9, hT9, hs9⟩ := hT9
      have hAw := hA.setT hF hT9 (by omega)
      obtain ⟨-, eVw, eNw, eww, enw, ⟨eSw, hSw⟩, -⟩ := id hAw
      refine w_iload_n h (pc := 2) dX5_addSentence_2 rfl ?_
      refine w_aload_n h (pc := 3) dX5_addSentence_3 rfl ?_
      refine g0_ledger h (pc := 4) wm_16 dX5_addSentence_4 ?_
      refine g1_order h (pc := 7) eNw wm_140 dX5_addSentence_7 ?_
      refine w_icmp_gt h (pc := 10) (tgt := 50) dX5_addSentence_10 (by decide) (by omega) (by omega) (fun c10 => ?_) (fun c10 => ?_)
      · have e : o = N := by omega
        subst e
        exact w_vret h (pc := 50) rfl dX5_addSentence_50 (Nat.le_of_ble_eq_true rfl) (Nat.le_of_ble_eq_true rfl) ⟨rfl, hF, T9, hA.setT hF (hT9.mono (by omega)) (by omega), hs9⟩
      · have ih_2 := ih
        refine w_iconst h (pc := 13) dX5_addSentence_13 ?_
        refine w_istore_n h (pc := 14) dX5_addSentence_14 (by decide) ?_
        have lp15 : ∀ (n9 p m9 : Nat) (w : US), S.length + 1 < p + n9 → p ≤ S.length + 1 → m9 ≤ m + 7 * o + p → Fr tS tG u w → (∃ T9, TA V m9 w T9 ∧ ∀ i, i < 4 → T9 i = adT V S T c o p i) → WW Γ 4 w 15 [(0, .ref (a 0)), (1, .int (iI (c : Int))), (2, .int (iI ((o : Int) + 1))), (3, .int (iI (p : Int)))] [] := by
          intro n9
          induction n9 with
          | zero => intro p m8 w8 hn8 hp hm8 hF8 hT8; exfalso; omega
          | succ n9 ih =>
            intro p m8 w8 hn8 hp hm8 hF8 hT8
            obtain ⟨T8, hT8, hs8⟩ := hT8
            have hAw8 := hA.setT hF8 hT8 (by omega)
            obtain ⟨-, eVx, eNx, ewx, enx, ⟨eSx, hSx⟩, -⟩ := id hAw8
            refine w_iload_n h (pc := 15) dX5_addSentence_15 rfl ?_
            refine w_aload_n h (pc := 16) dX5_addSentence_16 rfl ?_
            refine g0_length h (pc := 17) eSx wm_33 dX5_addSentence_17 ?_
            refine w_icmp_gt h (pc := 20) (tgt := 44) dX5_addSentence_20 (by decide) (by omega) (by omega) (fun c20 => ?_) (fun c20 => ?_)
            · refine w_iinc h (pc := 44) dX5_addSentence_44 rfl (by decide) ?_
              refine w_goto h (pc := 47) (tgt := 2) dX5_addSentence_47 (by decide) ?_
              exact WW.sub (by rfl) (ih_2 (o + 1) m8 w8 (by omega) (by omega) (by omega) hF8 ⟨T8, hT8, fun i hi => by rw [hs8 i hi, show p = S.length + 1 by omega]; exact adT_next V S T c o i⟩)
            · refine w_aload_n h (pc := 23) dX5_addSentence_23 rfl ?_
              refine g0_ledger h (pc := 24) wm_16 dX5_addSentence_24 ?_
              refine w_iload_n h (pc := 27) dX5_addSentence_27 rfl ?_
              refine w_aload_n h (pc := 28) dX5_addSentence_28 rfl ?_
              refine w_iload_n h (pc := 29) dX5_addSentence_29 rfl ?_
              refine w_iload_n h (pc := 30) dX5_addSentence_30 rfl ?_
              rw [show ((o : Int) + 1) = ((o + 1 : Nat) : Int) from rfl]
              refine w_callV2 h (pc := 31) (mX5_keyUpTo l D κ a ε V N way num m8 S T8 w8 hAw8 (p : Int) (by omega) (o + 1) (by omega)) 0 rfl rfl (gdV wm_170 wm_171 wm_172 wm_2 wm_173) (by decide +kernel) ⟨(Nat.le_of_ble_eq_true rfl), (Nat.le_of_ble_eq_true rfl)⟩ ⟨(Nat.le_of_ble_eq_true rfl), (Nat.le_of_ble_eq_true rfl)⟩ (fun _ _ _ => ⟨rfl, rfl⟩) (Nat.le_of_ble_eq_true rfl) dX5_addSentence_31 (fun v1 u1 hp1 => ?_)
              obtain ⟨rfl, e1⟩ := hp1
              obtain rfl := e1.symm
              simp only [Option.toList_some, List.cons_append, List.nil_append]
              refine w_iload_n h (pc := 34) dX5_addSentence_34 rfl ?_
              have hky := ky_4 hV hSV (n := o + 1) (by omega) (p : Int)
              have hkm := ky_mod hV hSV o (p : Int)
              have hkp := dg_pos (V := V) (S := S) (z := (p : Int)) (by omega)
              have hkl := dg_le hSV (p : Int)
              refine w_callV3 h (pc := 35) (mX0_raise l D κ a ε V m8 w8 T8 hT8 (o + 1) (by omega) (by omega) (ky V S (p : Int) (o + 1)) hky (by omega) c hc) 1 rfl rfl (gdV wm_178 wm_179 wm_180 wm_15 wm_181) (by decide +kernel) ⟨(Nat.le_of_ble_eq_true rfl), (Nat.le_of_ble_eq_true rfl)⟩ ⟨(Nat.le_of_ble_eq_true rfl), (Nat.le_of_ble_eq_true rfl)⟩ (fun _ _ _ => ⟨rfl, rfl⟩) (Nat.le_of_ble_eq_true rfl) dX5_addSentence_35 (fun v2 u2 hp2 => ?_)
              obtain ⟨rfl, hF2, T2, hT2, hs2⟩ := hp2
              simp only [Option.toList_none, List.nil_append]
              refine w_iinc h (pc := 38) dX5_addSentence_38 rfl (by decide) ?_
              refine w_goto h (pc := 41) (tgt := 15) dX5_addSentence_41 (by decide) ?_
              exact WW.sub (by rfl) (ih (p + 1) (m8 + 1) _ (by omega) (by omega) (by omega) (hF8.tr hF2) ⟨T2, hT2, fun i hi => by rw [hs2 i hi]; first | (rw [hs8 i hi]; exact adT_step V S T c o p i)⟩)
        exact WW.sub (by rfl) (lp15 (S.length + 2) 0 m9 w (by omega) (by omega) (by omega) hF ⟨T9, hT9, hs9⟩)
  exact WW.sub (by rfl) (lp2 (N + 1) 0 m u (by omega) (by omega) (by omega) Fr.rfl ⟨T, hT, fun i _ => (adT_0 V S T c i).symm⟩)

set_option maxHeartbeats 4000000 in
set_option maxRecDepth 100000 in
theorem mX5_takeSentence (l : Launch) (D : va_G) (κ a : Nat → Nat) (ε : EE) (V N way num m : Nat) (S : List Nat) (T : Nat → List (Nat × Nat)) (u : US) (hA : AB V N way num m S T u) (c : Nat) (hc : 0 < c ∧ c ≤ 4) : Ct (W0 κ a) l D κ ε yX5_takeSentence cX5_takeSentence 5 (some .int) 5 130 0 0 u [.ref (a 0), .int (iI (c : Int))] (fun v u' => (∃ g : Nat, v = some (.int (iI (g : Int))) ∧ g ≤ 52) ∧ Fr tS tG u u' ∧ ∃ T', AB V N way num m S T' u' ∧ ∀ i, i < 4 → T' i = lwT V S T c N 0 i) := by
  obtain ⟨⟨hV, hN, hway, hnum, hm, hSl, hSV⟩, eV, eN, ew, en, ⟨eS, hS⟩, hT⟩ := id hA
  refine Ct.of (own := RX5) rfl (by decide +kernel) (Nat.le_of_ble_eq_true rfl) rfl (fun Γ h => ?_)
  refine w_iconst h (pc := 0) dX5_takeSentence_0 ?_
  refine w_istore_n h (pc := 1) dX5_takeSentence_1 (by decide) ?_
  refine w_iconst h (pc := 2) dX5_takeSentence_2 ?_
  refine w_istore_n h (pc := 3) dX5_takeSentence_3 (by decide) ?_
  have lp4 : ∀ (n9 o g : Nat) (w : US), N < o + n9 → o ≤ N → g ≤ 13 * o → Fr tS tG u w → (∃ T9, TA V m w T9 ∧ ∀ i, i < 4 → T9 i = lwT V S T c o 0 i) → WW Γ 5 w 4 [(0, .ref (a 0)), (1, .int (iI (c : Int))), (2, .int (iI (g : Int))), (3, .int (iI ((o : Int) + 1)))] [] := by
    intro n9
    induction n9 with
    | zero => intro o g w hn9 ho hg hF hT9; exfalso; omega
    | succ n9 ih =>
      intro o g w hn9 ho hg hF hT9
      obtain ⟨T9, hT9, hs9⟩ := hT9
      have hAw := hA.setT hF hT9 (by omega)
      obtain ⟨-, eVw, eNw, eww, enw, ⟨eSw, hSw⟩, -⟩ := id hAw
      refine w_iload_n h (pc := 4) dX5_takeSentence_4 rfl ?_
      refine w_aload_n h (pc := 5) dX5_takeSentence_5 rfl ?_
      refine g0_ledger h (pc := 6) wm_16 dX5_takeSentence_6 ?_
      refine g1_order h (pc := 9) eNw wm_140 dX5_takeSentence_9 ?_
      refine w_icmp_gt h (pc := 12) (tgt := 61) dX5_takeSentence_12 (by decide) (by omega) (by omega) (fun c12 => ?_) (fun c12 => ?_)
      · have e : o = N := by omega
        subst e
        refine w_iload_n h (pc := 61) dX5_takeSentence_61 rfl ?_
        exact w_iret h (pc := 62) (ty := .int) rfl rfl dX5_takeSentence_62 (Nat.le_of_ble_eq_true rfl) (Nat.le_of_ble_eq_true rfl) ⟨⟨g, rfl, by omega⟩, hF, T9, hA.setT hF hT9 (by omega), hs9⟩
      · have ih_2 := ih
        refine w_iconst h (pc := 15) dX5_takeSentence_15 ?_
        refine w_istore h (pc := 16) dX5_takeSentence_16 (by decide) ?_
        have lp18 : ∀ (n9 p g : Nat) (w : US), S.length + 1 < p + n9 → p ≤ S.length + 1 → g ≤ 13 * o + p → Fr tS tG u w → (∃ T9, TA V m w T9 ∧ ∀ i, i < 4 → T9 i = lwT V S T c o p i) → WW Γ 5 w 18 [(0, .ref (a 0)), (1, .int (iI (c : Int))), (2, .int (iI (g : Int))), (3, .int (iI ((o : Int) + 1))), (4, .int (iI (p : Int)))] [] := by
          intro n9
          induction n9 with
          | zero => intro p g8 w8 hn8 hp hg8 hF8 hT8; exfalso; omega
          | succ n9 ih =>
            intro p g8 w8 hn8 hp hg8 hF8 hT8
            obtain ⟨T8, hT8, hs8⟩ := hT8
            have hAw8 := hA.setT hF8 hT8 (by omega)
            obtain ⟨-, eVx, eNx, ewx, enx, ⟨eSx, hSx⟩, -⟩ := id hAw8
            refine w_iload h (pc := 18) dX5_takeSentence_18 rfl ?_
            refine w_aload_n h (pc := 20) dX5_takeSentence_20 rfl ?_
            refine g0_length h (pc := 21) eSx wm_33 dX5_takeSentence_21 ?_
            refine w_icmp_gt h (pc := 24) (tgt := 55) dX5_takeSentence_24 (by decide) (by omega) (by omega) (fun c24 => ?_) (fun c24 => ?_)
            · refine w_iinc h (pc := 55) dX5_takeSentence_55 rfl (by decide) ?_
              refine w_goto h (pc := 58) (tgt := 4) dX5_takeSentence_58 (by decide) ?_
              exact WW.sub (by rfl) (ih_2 (o + 1) g8 w8 (by omega) (by omega) (by omega) hF8 ⟨T8, hT8, fun i hi => by rw [hs8 i hi, show p = S.length + 1 by omega]; exact lwT_next V S T c o i⟩)
            · refine w_aload_n h (pc := 27) dX5_takeSentence_27 rfl ?_
              refine g0_ledger h (pc := 28) wm_16 dX5_takeSentence_28 ?_
              refine w_iload_n h (pc := 31) dX5_takeSentence_31 rfl ?_
              refine w_aload_n h (pc := 32) dX5_takeSentence_32 rfl ?_
              refine w_iload h (pc := 33) dX5_takeSentence_33 rfl ?_
              refine w_iload_n h (pc := 35) dX5_takeSentence_35 rfl ?_
              rw [show ((o : Int) + 1) = ((o + 1 : Nat) : Int) from rfl]
              refine w_callV2 h (pc := 36) (mX5_keyUpTo l D κ a ε V N way num m S T8 w8 hAw8 (p : Int) (by omega) (o + 1) (by omega)) 0 rfl rfl (gdV wm_170 wm_171 wm_172 wm_2 wm_173) (by decide +kernel) ⟨(Nat.le_of_ble_eq_true rfl), (Nat.le_of_ble_eq_true rfl)⟩ ⟨(Nat.le_of_ble_eq_true rfl), (Nat.le_of_ble_eq_true rfl)⟩ (fun _ _ _ => ⟨rfl, rfl⟩) (Nat.le_of_ble_eq_true rfl) dX5_takeSentence_36 (fun v1 u1 hp1 => ?_)
              obtain ⟨rfl, e1⟩ := hp1
              obtain rfl := e1.symm
              simp only [Option.toList_some, List.cons_append, List.nil_append]
              refine w_iload_n h (pc := 39) dX5_takeSentence_39 rfl ?_
              have hky := ky_4 hV hSV (n := o + 1) (by omega) (p : Int)
              have hkm := ky_mod hV hSV o (p : Int)
              have hkp := dg_pos (V := V) (S := S) (z := (p : Int)) (by omega)
              have hkl := dg_le hSV (p : Int)
              refine w_callV3 h (pc := 40) (mX0_lower l D κ a ε V m w8 T8 hT8 (o + 1) (by omega) (by omega) (ky V S (p : Int) (o + 1)) hky (by omega) c hc) 1 rfl rfl (gdV wm_208 wm_209 wm_210 wm_15 wm_211) (by decide +kernel) ⟨(Nat.le_of_ble_eq_true rfl), (Nat.le_of_ble_eq_true rfl)⟩ ⟨(Nat.le_of_ble_eq_true rfl), (Nat.le_of_ble_eq_true rfl)⟩ (fun _ _ _ => ⟨rfl, rfl⟩) (Nat.le_of_ble_eq_true rfl) dX5_takeSentence_40 (fun v2 u2 hp2 => ?_)
              obtain ⟨rfl, hF2, T2, hT2, hs2⟩ := hp2
              simp only [Option.toList_some, List.cons_append, List.nil_append]
              refine w_if_eq h (pc := 43) (tgt := 49) dX5_takeSentence_43 (by decide) (by split <;> omega) (fun c43 => ?_) (fun c43 => ?_)
              · refine w_iinc h (pc := 49) dX5_takeSentence_49 rfl (by decide) ?_
                refine w_goto h (pc := 52) (tgt := 18) dX5_takeSentence_52 (by decide) ?_
                first
                | exact WW.sub (by rfl) (ih (p + 1) g8 _ (by omega) (by omega) (by omega) (hF8.tr hF2) ⟨T2, hT2, fun i hi => by rw [hs2 i hi, hs8 i hi]; exact lwT_step V S T c o p i⟩)
                | exact WW.sub (by rfl) (ih (p + 1) (g8 + 1) _ (by omega) (by omega) (by omega) (hF8.tr hF2) ⟨T2, hT2, fun i hi => by rw [hs2 i hi, hs8 i hi]; exact lwT_step V S T c o p i⟩)
              · refine w_iinc h (pc := 46) dX5_takeSentence_46 rfl (by decide) ?_
                refine w_iinc h (pc := 49) dX5_takeSentence_49 rfl (by decide) ?_
                refine w_goto h (pc := 52) (tgt := 18) dX5_takeSentence_52 (by decide) ?_
                first
                | exact WW.sub (by rfl) (ih (p + 1) g8 _ (by omega) (by omega) (by omega) (hF8.tr hF2) ⟨T2, hT2, fun i hi => by rw [hs2 i hi, hs8 i hi]; exact lwT_step V S T c o p i⟩)
                | exact WW.sub (by rfl) (ih (p + 1) (g8 + 1) _ (by omega) (by omega) (by omega) (hF8.tr hF2) ⟨T2, hT2, fun i hi => by rw [hs2 i hi, hs8 i hi]; exact lwT_step V S T c o p i⟩)
        exact WW.sub (by rfl) (lp18 (S.length + 2) 0 g w (by omega) (by omega) (by omega) hF ⟨T9, hT9, hs9⟩)
  exact WW.sub (by rfl) (lp4 (N + 1) 0 0 u (by omega) (by omega) (by omega) Fr.rfl ⟨T, hT, fun i _ => (lwT_0 V S T c i).symm⟩)

set_option maxHeartbeats 4000000 in
set_option maxRecDepth 100000 in
theorem mX5_timesInSentence (l : Launch) (D : va_G) (κ a : Nat → Nat) (ε : EE) (V N way num m : Nat) (S : List Nat) (T : Nat → List (Nat × Nat)) (u : US) (hA : AB V N way num m S T u) (k n : Nat) (hk : k < 38416) (hn : n ≤ 4) : Ct (W0 κ a) l D κ ε yX5_timesInSentence cX5_timesInSentence 5 (some .int) 2 45 0 0 u [.ref (a 0), .int (iI (k : Int)), .int (iI (n : Int))] (fun v u' => v = some (.int (iI (oc k (kys V S n (S.length + 1)) : Int))) ∧ u' = u) := by
  obtain ⟨⟨hV, hN, hway, hnum, hm, hSl, hSV⟩, eV, eN, ew, en, ⟨eS, hS⟩, hT⟩ := id hA
  refine Ct.of (own := RX5) rfl (by decide +kernel) (Nat.le_of_ble_eq_true rfl) rfl (fun Γ h => ?_)
  refine w_iconst h (pc := 0) dX5_timesInSentence_0 ?_
  refine w_istore_n h (pc := 1) dX5_timesInSentence_1 (by decide) ?_
  refine w_iconst h (pc := 2) dX5_timesInSentence_2 ?_
  refine w_istore h (pc := 3) dX5_timesInSentence_3 (by decide) ?_
  have lp5 : ∀ (n9 p : Nat) (s : Int), S.length + 1 < p + n9 → p ≤ S.length + 1 → s = (oc k (kys V S n p) : Int) → WW Γ 5 u 5 [(0, .ref (a 0)), (1, .int (iI (k : Int))), (2, .int (iI (n : Int))), (3, .int (iI s)), (4, .int (iI (p : Int)))] [] := by
    intro n9
    induction n9 with
    | zero => intro p s hn9 hp hs; exfalso; omega
    | succ n9 ih =>
      intro p s hn9 hp hs
      refine w_iload h (pc := 5) dX5_timesInSentence_5 rfl ?_
      refine w_aload_n h (pc := 7) dX5_timesInSentence_7 rfl ?_
      refine g0_length h (pc := 8) eS wm_33 dX5_timesInSentence_8 ?_
      refine w_icmp_gt h (pc := 11) (tgt := 34) dX5_timesInSentence_11 (by decide) (by omega) (by omega) (fun c11 => ?_) (fun c11 => ?_)
      · obtain rfl : p = S.length + 1 := by omega
        refine w_iload_n h (pc := 34) dX5_timesInSentence_34 rfl ?_
        exact w_iret h (pc := 35) (ty := .int) rfl rfl dX5_timesInSentence_35 (Nat.le_of_ble_eq_true rfl) (Nat.le_of_ble_eq_true rfl) ⟨by rw [hs], rfl⟩
      · refine w_aload_n h (pc := 14) dX5_timesInSentence_14 rfl ?_
        refine w_iload h (pc := 15) dX5_timesInSentence_15 rfl ?_
        refine w_iload_n h (pc := 17) dX5_timesInSentence_17 rfl ?_
        refine w_callV2 h (pc := 18) (mX5_keyUpTo l D κ a ε V N way num m S T u hA (p : Int) (by omega) n hn) 0 rfl rfl (gdV wm_170 wm_171 wm_172 wm_2 wm_173) (by decide +kernel) ⟨(Nat.le_of_ble_eq_true rfl), (Nat.le_of_ble_eq_true rfl)⟩ ⟨(Nat.le_of_ble_eq_true rfl), (Nat.le_of_ble_eq_true rfl)⟩ (fun _ _ _ => ⟨rfl, rfl⟩) (Nat.le_of_ble_eq_true rfl) dX5_timesInSentence_18 (fun v1 u1 hp1 => ?_)
        obtain ⟨rfl, e1⟩ := hp1
        obtain rfl := e1.symm
        have hky := ky_4 hV hSV hn (p : Int)
        simp only [Option.toList_some, List.cons_append, List.nil_append]
        refine w_iload_n h (pc := 21) dX5_timesInSentence_21 rfl ?_
        refine w_icmp_ne h (pc := 22) (tgt := 28) dX5_timesInSentence_22 (by decide) (by omega) (by omega) (fun c22 => ?_) (fun c22 => ?_)
        · refine w_iinc h (pc := 28) dX5_timesInSentence_28 rfl (by decide) ?_
          refine w_goto h (pc := 31) (tgt := 5) dX5_timesInSentence_31 (by decide) ?_
          first
          | exact WW.sub (by rfl) (ih (p + 1) s (by omega) (by omega) (by rw [kys_s, oc_s, if_neg (by omega)]; omega))
          | exact WW.sub (by rfl) (ih (p + 1) (s + 1) (by omega) (by omega) (by rw [kys_s, oc_s, if_pos (by omega)]; omega))
        · refine w_iinc h (pc := 25) dX5_timesInSentence_25 rfl (by decide) ?_
          refine w_iinc h (pc := 28) dX5_timesInSentence_28 rfl (by decide) ?_
          refine w_goto h (pc := 31) (tgt := 5) dX5_timesInSentence_31 (by decide) ?_
          first
          | exact WW.sub (by rfl) (ih (p + 1) s (by omega) (by omega) (by rw [kys_s, oc_s, if_neg (by omega)]; omega))
          | exact WW.sub (by rfl) (ih (p + 1) (s + 1) (by omega) (by omega) (by rw [kys_s, oc_s, if_pos (by omega)]; omega))
  exact WW.sub (by rfl) (lp5 (S.length + 2) 0 0 (by omega) (by omega) rfl)

set_option maxHeartbeats 4000000 in
set_option maxRecDepth 100000 in
theorem mX5_canTakeSentence (l : Launch) (D : va_G) (κ a : Nat → Nat) (ε : EE) (V N way num m : Nat) (S : List Nat) (T : Nat → List (Nat × Nat)) (u : US) (hA : AB V N way num m S T u) (hcan : ∀ n, 1 ≤ n → n ≤ N → ∀ p : Nat, p ≤ S.length → oc (ky V S (p : Int) n) (kys V S n (S.length + 1)) ≤ gt (T (n - 1)) (ky V S (p : Int) n)) : Ct (W0 κ a) l D κ ε yX5_canTakeSentence cX5_canTakeSentence 4 (some .boolean) 3 69 0 0 u [.ref (a 0)] (fun v u' => v = some (.int (iI 1)) ∧ u' = u) := by
  obtain ⟨⟨hV, hN, hway, hnum, hm, hSl, hSV⟩, eV, eN, ew, en, ⟨eS, hS⟩, hT⟩ := id hA
  refine Ct.of (own := RX5) rfl (by decide +kernel) (Nat.le_of_ble_eq_true rfl) rfl (fun Γ h => ?_)
  refine w_iconst h (pc := 0) dX5_canTakeSentence_0 ?_
  refine w_istore_n h (pc := 1) dX5_canTakeSentence_1 (by decide) ?_
  have lp2 : ∀ (n9 o : Nat), N < o + n9 → o ≤ N → WW Γ 4 u 2 [(0, .ref (a 0)), (1, .int (iI ((o : Int) + 1)))] [] := by
    intro n9
    induction n9 with
    | zero => intro o hn9 ho; exfalso; omega
    | succ n9 ih =>
      intro o hn9 ho
      refine w_iload_n h (pc := 2) dX5_canTakeSentence_2 rfl ?_
      refine w_aload_n h (pc := 3) dX5_canTakeSentence_3 rfl ?_
      refine g0_ledger h (pc := 4) wm_16 dX5_canTakeSentence_4 ?_
      refine g1_order h (pc := 7) eN wm_140 dX5_canTakeSentence_7 ?_
      refine w_icmp_gt h (pc := 10) (tgt := 65) dX5_canTakeSentence_10 (by decide) (by omega) (by omega) (fun c10 => ?_) (fun c10 => ?_)
      · refine w_iconst h (pc := 65) dX5_canTakeSentence_65 ?_
        exact w_iret h (pc := 66) (ty := .boolean) rfl rfl dX5_canTakeSentence_66 (Nat.le_of_ble_eq_true rfl) (Nat.le_of_ble_eq_true rfl) ⟨rfl, rfl⟩
      · have ih_2 := ih
        refine w_iconst h (pc := 13) dX5_canTakeSentence_13 ?_
        refine w_istore_n h (pc := 14) dX5_canTakeSentence_14 (by decide) ?_
        have lp15 : ∀ (n9 p : Nat), S.length + 1 < p + n9 → p ≤ S.length + 1 → WW Γ 4 u 15 [(0, .ref (a 0)), (1, .int (iI ((o : Int) + 1))), (2, .int (iI (p : Int)))] [] := by
          intro n9
          induction n9 with
          | zero => intro p hn8 hp; exfalso; omega
          | succ n9 ih =>
            intro p hn8 hp
            refine w_iload_n h (pc := 15) dX5_canTakeSentence_15 rfl ?_
            refine w_aload_n h (pc := 16) dX5_canTakeSentence_16 rfl ?_
            refine g0_length h (pc := 17) eS wm_33 dX5_canTakeSentence_17 ?_
            refine w_icmp_gt h (pc := 20) (tgt := 59) dX5_canTakeSentence_20 (by decide) (by omega) (by omega) (fun c20 => ?_) (fun c20 => ?_)
            · refine w_iinc h (pc := 59) dX5_canTakeSentence_59 rfl (by decide) ?_
              refine w_goto h (pc := 62) (tgt := 2) dX5_canTakeSentence_62 (by decide) ?_
              exact WW.sub (by rfl) (ih_2 (o + 1) (by omega) (by omega))
            · refine w_aload_n h (pc := 23) dX5_canTakeSentence_23 rfl ?_
              refine w_iload_n h (pc := 24) dX5_canTakeSentence_24 rfl ?_
              refine w_iload_n h (pc := 25) dX5_canTakeSentence_25 rfl ?_
              rw [show ((o : Int) + 1) = ((o + 1 : Nat) : Int) from rfl]
              have hky := ky_4 hV hSV (n := o + 1) (by omega) (p : Int)
              have hcn := hcan (o + 1) (by omega) (by omega) p (by omega)
              have hTo := hT o (by omega)
              have hgl : gt (T o) (ky V S (p : Int) (o + 1)) ≤ 4 * m := gt_le fun b hb => (hTo.2.2.2.2 b hb).2.2.2
              have hol := oc_le (ky V S (p : Int) (o + 1)) (kys V S (o + 1) (S.length + 1))
              rw [kys_len] at hol
              rw [show o + 1 - 1 = o by omega] at hcn
              refine w_callV2 h (pc := 26) (mX5_keyUpTo l D κ a ε V N way num m S T u hA (p : Int) (by omega) (o + 1) (by omega)) 0 rfl rfl (gdV wm_170 wm_171 wm_172 wm_2 wm_173) (by decide +kernel) ⟨(Nat.le_of_ble_eq_true rfl), (Nat.le_of_ble_eq_true rfl)⟩ ⟨(Nat.le_of_ble_eq_true rfl), (Nat.le_of_ble_eq_true rfl)⟩ (fun _ _ _ => ⟨rfl, rfl⟩) (Nat.le_of_ble_eq_true rfl) dX5_canTakeSentence_26 (fun v1 u1 hp1 => ?_)
              obtain ⟨rfl, e1⟩ := hp1
              obtain rfl := e1.symm
              simp only [Option.toList_some, List.cons_append, List.nil_append]
              refine w_istore_n h (pc := 29) dX5_canTakeSentence_29 (by decide) ?_
              refine w_aload_n h (pc := 30) dX5_canTakeSentence_30 rfl ?_
              refine g0_ledger h (pc := 31) wm_16 dX5_canTakeSentence_31 ?_
              refine w_iload_n h (pc := 34) dX5_canTakeSentence_34 rfl ?_
              refine w_callV1 h (pc := 35) (mX0_countsOf l D κ a ε u (o + 1) (by omega)) 1 rfl rfl (gdV wm_269 wm_120 wm_121 wm_15 wm_122) (by decide +kernel) ⟨(Nat.le_of_ble_eq_true rfl), (Nat.le_of_ble_eq_true rfl)⟩ ⟨(Nat.le_of_ble_eq_true rfl), (Nat.le_of_ble_eq_true rfl)⟩ (fun _ _ _ => ⟨rfl, rfl⟩) (Nat.le_of_ble_eq_true rfl) dX5_canTakeSentence_35 (fun v2 u2 hp2 => ?_)
              obtain ⟨rfl, e2⟩ := hp2
              obtain rfl := e2.symm
              rw [show o + 1 - 1 = o by omega]
              simp only [Option.toList_some, List.cons_append, List.nil_append]
              refine w_iload_n h (pc := 38) dX5_canTakeSentence_38 rfl ?_
              refine w_callV1 h (pc := 39) (mX4_numberOf l D κ a ε u o (by omega) (T o) hTo.1 (hTo.2.O (by omega)) (ky V S (p : Int) (o + 1)) (by omega)) _ (ws_T (by omega)) rfl (gdV wm_394 wm_395 wm_396 wm_47 wm_397) (by decide +kernel) ⟨(Nat.le_of_ble_eq_true rfl), (Nat.le_of_ble_eq_true rfl)⟩ ⟨(Nat.le_of_ble_eq_true rfl), (Nat.le_of_ble_eq_true rfl)⟩ (fun _ _ _ => ⟨rfl, rfl⟩) (Nat.le_of_ble_eq_true rfl) dX5_canTakeSentence_39 (fun v3 u3 hp3 => ?_)
              obtain ⟨rfl, e3⟩ := hp3
              obtain rfl := e3.symm
              simp only [Option.toList_some, List.cons_append, List.nil_append]
              refine w_aload_n h (pc := 42) dX5_canTakeSentence_42 rfl ?_
              refine w_iload_n h (pc := 43) dX5_canTakeSentence_43 rfl ?_
              refine w_iload_n h (pc := 44) dX5_canTakeSentence_44 rfl ?_
              refine w_callV2 h (pc := 45) (mX5_timesInSentence l D κ a ε V N way num m S T u hA (ky V S (p : Int) (o + 1)) (o + 1) (by omega) (by omega)) 0 rfl rfl (gdV wm_398 wm_399 wm_400 wm_2 wm_401) (by decide +kernel) ⟨(Nat.le_of_ble_eq_true rfl), (Nat.le_of_ble_eq_true rfl)⟩ ⟨(Nat.le_of_ble_eq_true rfl), (Nat.le_of_ble_eq_true rfl)⟩ (fun _ _ _ => ⟨rfl, rfl⟩) (Nat.le_of_ble_eq_true rfl) dX5_canTakeSentence_45 (fun v4 u4 hp4 => ?_)
              obtain ⟨rfl, e4⟩ := hp4
              obtain rfl := e4.symm
              simp only [Option.toList_some, List.cons_append, List.nil_append]
              refine w_icmp_ge h (pc := 48) (tgt := 53) dX5_canTakeSentence_48 (by decide) (by omega) (by omega) (fun c48 => ?_) (fun c48 => by exfalso; omega)
              refine w_iinc h (pc := 53) dX5_canTakeSentence_53 rfl (by decide) ?_
              refine w_goto h (pc := 56) (tgt := 15) dX5_canTakeSentence_56 (by decide) ?_
              exact WW.sub (by rfl) (ih (p + 1) (by omega) (by omega))
        exact WW.sub (by rfl) (lp15 (S.length + 2) 0 (by omega) (by omega))
  exact WW.sub (by rfl) (lp2 (N + 1) 0 (by omega) (by omega))
