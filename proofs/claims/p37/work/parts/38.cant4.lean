theorem dX2_append_0 : decode cX2_append 0 = .ok (.aload_n 0, 1) := by decide +kernel
theorem dX2_append_1 : decode cX2_append 1 = .ok (.getfield 21, 3) := by decide +kernel
theorem dX2_append_4 : decode cX2_append 4 = .ok (.bipush 12, 2) := by decide +kernel
theorem dX2_append_6 : decode cX2_append 6 = .ok (.if_icmp .ge 33, 3) := by decide +kernel
theorem dX2_append_9 : decode cX2_append 9 = .ok (.aload_n 0, 1) := by decide +kernel
theorem dX2_append_10 : decode cX2_append 10 = .ok (.getfield 9, 3) := by decide +kernel
theorem dX2_append_13 : decode cX2_append 13 = .ok (.aload_n 0, 1) := by decide +kernel
theorem dX2_append_14 : decode cX2_append 14 = .ok (.getfield 21, 3) := by decide +kernel
theorem dX2_append_17 : decode cX2_append 17 = .ok (.iload_n 1, 1) := by decide +kernel
theorem dX2_append_18 : decode cX2_append 18 = .ok (.iastore, 1) := by decide +kernel
theorem dX2_append_19 : decode cX2_append 19 = .ok (.aload_n 0, 1) := by decide +kernel
theorem dX2_append_20 : decode cX2_append 20 = .ok (.getfield 15, 3) := by decide +kernel
theorem dX2_append_23 : decode cX2_append 23 = .ok (.aload_n 0, 1) := by decide +kernel
theorem dX2_append_24 : decode cX2_append 24 = .ok (.getfield 21, 3) := by decide +kernel
theorem dX2_append_27 : decode cX2_append 27 = .ok (.iload_n 2, 1) := by decide +kernel
theorem dX2_append_28 : decode cX2_append 28 = .ok (.iastore, 1) := by decide +kernel
theorem dX2_append_29 : decode cX2_append 29 = .ok (.aload_n 0, 1) := by decide +kernel
theorem dX2_append_30 : decode cX2_append 30 = .ok (.dup, 1) := by decide +kernel
theorem dX2_append_31 : decode cX2_append 31 = .ok (.getfield 21, 3) := by decide +kernel
theorem dX2_append_34 : decode cX2_append 34 = .ok (.iconst 1, 1) := by decide +kernel
theorem dX2_append_35 : decode cX2_append 35 = .ok (.iadd, 1) := by decide +kernel
theorem dX2_append_36 : decode cX2_append 36 = .ok (.putfield 21, 3) := by decide +kernel
theorem dX2_append_39 : decode cX2_append 39 = .ok (.aload_n 0, 1) := by decide +kernel
theorem dX2_append_40 : decode cX2_append 40 = .ok (.getfield 21, 3) := by decide +kernel
theorem dX2_append_43 : decode cX2_append 43 = .ok (.iconst 1, 1) := by decide +kernel
theorem dX2_append_44 : decode cX2_append 44 = .ok (.isub, 1) := by decide +kernel
theorem dX2_append_45 : decode cX2_append 45 = .ok (.ireturn, 1) := by decide +kernel
theorem dX2_forgetReturns_0 : decode cX2_forgetReturns 0 = .ok (.aload_n 0, 1) := by decide +kernel
theorem dX2_forgetReturns_1 : decode cX2_forgetReturns 1 = .ok (.getfield 18, 3) := by decide +kernel
theorem dX2_forgetReturns_4 : decode cX2_forgetReturns 4 = .ok (.iconst 0, 1) := by decide +kernel
theorem dX2_forgetReturns_5 : decode cX2_forgetReturns 5 = .ok (.invokestatic 25, 3) := by decide +kernel
theorem dX2_forgetReturns_8 : decode cX2_forgetReturns 8 = .ok (.return_, 1) := by decide +kernel
theorem dX5_addStep_0 : decode cX5_addStep 0 = .ok (.aload_n 0, 1) := by decide +kernel
theorem dX5_addStep_1 : decode cX5_addStep 1 = .ok (.iload_n 1, 1) := by decide +kernel
theorem dX5_addStep_2 : decode cX5_addStep 2 = .ok (.iload_n 2, 1) := by decide +kernel
theorem dX5_addStep_3 : decode cX5_addStep 3 = .ok (.invokevirtual 217, 3) := by decide +kernel
theorem dX5_addStep_6 : decode cX5_addStep 6 = .ok (.ifCond .ne 13, 3) := by decide +kernel
theorem dX5_addStep_19 : decode cX5_addStep 19 = .ok (.aload_n 0, 1) := by decide +kernel
theorem dX5_addStep_20 : decode cX5_addStep 20 = .ok (.getfield 37, 3) := by decide +kernel
theorem dX5_addStep_23 : decode cX5_addStep 23 = .ok (.getfield 222, 3) := by decide +kernel
theorem dX5_addStep_26 : decode cX5_addStep 26 = .ok (.bipush 12, 2) := by decide +kernel
theorem dX5_addStep_28 : decode cX5_addStep 28 = .ok (.if_icmp .lt 13, 3) := by decide +kernel
theorem dX5_addStep_41 : decode cX5_addStep 41 = .ok (.aload_n 0, 1) := by decide +kernel
theorem dX5_addStep_42 : decode cX5_addStep 42 = .ok (.getfield 37, 3) := by decide +kernel
theorem dX5_addStep_45 : decode cX5_addStep 45 = .ok (.iload_n 1, 1) := by decide +kernel
theorem dX5_addStep_46 : decode cX5_addStep 46 = .ok (.iload_n 2, 1) := by decide +kernel
theorem dX5_addStep_47 : decode cX5_addStep 47 = .ok (.invokevirtual 225, 3) := by decide +kernel
theorem dX5_addStep_50 : decode cX5_addStep 50 = .ok (.ireturn, 1) := by decide +kernel
theorem dX5_addWord_0 : decode cX5_addWord 0 = .ok (.aload_n 0, 1) := by decide +kernel
theorem dX5_addWord_1 : decode cX5_addWord 1 = .ok (.getfield 10, 3) := by decide +kernel
theorem dX5_addWord_4 : decode cX5_addWord 4 = .ok (.getfield 65, 3) := by decide +kernel
theorem dX5_addWord_7 : decode cX5_addWord 7 = .ok (.bipush 12, 2) := by decide +kernel
theorem dX5_addWord_9 : decode cX5_addWord 9 = .ok (.if_icmp .lt 13, 3) := by decide +kernel
theorem dX5_addWord_22 : decode cX5_addWord 22 = .ok (.aload_n 0, 1) := by decide +kernel
theorem dX5_addWord_23 : decode cX5_addWord 23 = .ok (.getfield 10, 3) := by decide +kernel
theorem dX5_addWord_26 : decode cX5_addWord 26 = .ok (.invokevirtual 75, 3) := by decide +kernel
theorem dX5_addWord_29 : decode cX5_addWord 29 = .ok (.aload_n 0, 1) := by decide +kernel
theorem dX5_addWord_30 : decode cX5_addWord 30 = .ok (.iconst 0, 1) := by decide +kernel
theorem dX5_addWord_31 : decode cX5_addWord 31 = .ok (.putfield 51, 3) := by decide +kernel
theorem dX5_addWord_34 : decode cX5_addWord 34 = .ok (.aload_n 0, 1) := by decide +kernel
theorem dX5_addWord_35 : decode cX5_addWord 35 = .ok (.getfield 10, 3) := by decide +kernel
theorem dX5_addWord_38 : decode cX5_addWord 38 = .ok (.dup, 1) := by decide +kernel
theorem dX5_addWord_39 : decode cX5_addWord 39 = .ok (.getfield 65, 3) := by decide +kernel
theorem dX5_addWord_42 : decode cX5_addWord 42 = .ok (.iconst 1, 1) := by decide +kernel
theorem dX5_addWord_43 : decode cX5_addWord 43 = .ok (.iadd, 1) := by decide +kernel
theorem dX5_addWord_44 : decode cX5_addWord 44 = .ok (.putfield 65, 3) := by decide +kernel
theorem dX5_addWord_47 : decode cX5_addWord 47 = .ok (.aload_n 0, 1) := by decide +kernel
theorem dX5_addWord_48 : decode cX5_addWord 48 = .ok (.getfield 10, 3) := by decide +kernel
theorem dX5_addWord_51 : decode cX5_addWord 51 = .ok (.getfield 65, 3) := by decide +kernel
theorem dX5_addWord_54 : decode cX5_addWord 54 = .ok (.iconst 1, 1) := by decide +kernel
theorem dX5_addWord_55 : decode cX5_addWord 55 = .ok (.isub, 1) := by decide +kernel
theorem dX5_addWord_56 : decode cX5_addWord 56 = .ok (.ireturn, 1) := by decide +kernel
theorem dX5_chance_0 : decode cX5_chance 0 = .ok (.iload_n 1, 1) := by decide +kernel
theorem dX5_chance_1 : decode cX5_chance 1 = .ok (.ifCond .lt 14, 3) := by decide +kernel
theorem dX5_chance_4 : decode cX5_chance 4 = .ok (.iload_n 1, 1) := by decide +kernel
theorem dX5_chance_5 : decode cX5_chance 5 = .ok (.aload_n 0, 1) := by decide +kernel
theorem dX5_chance_6 : decode cX5_chance 6 = .ok (.getfield 10, 3) := by decide +kernel
theorem dX5_chance_9 : decode cX5_chance 9 = .ok (.getfield 65, 3) := by decide +kernel
theorem dX5_chance_12 : decode cX5_chance 12 = .ok (.if_icmp .le 13, 3) := by decide +kernel
theorem dX5_chance_25 : decode cX5_chance 25 = .ok (.aload_n 0, 1) := by decide +kernel
theorem dX5_chance_26 : decode cX5_chance 26 = .ok (.invokevirtual 183, 3) := by decide +kernel
theorem dX5_chance_29 : decode cX5_chance 29 = .ok (.aload_n 0, 1) := by decide +kernel
theorem dX5_chance_30 : decode cX5_chance 30 = .ok (.getfield 21, 3) := by decide +kernel
theorem dX5_chance_33 : decode cX5_chance 33 = .ok (.getfield 186, 3) := by decide +kernel
theorem dX5_chance_36 : decode cX5_chance 36 = .ok (.iload_n 1, 1) := by decide +kernel
theorem dX5_chance_37 : decode cX5_chance 37 = .ok (.iaload, 1) := by decide +kernel
theorem dX5_chance_38 : decode cX5_chance 38 = .ok (.ireturn, 1) := by decide +kernel
theorem dX5_costOf_0 : decode cX5_costOf 0 = .ok (.iload_n 1, 1) := by decide +kernel
theorem dX5_costOf_1 : decode cX5_costOf 1 = .ok (.invokestatic 194, 3) := by decide +kernel
theorem dX5_costOf_4 : decode cX5_costOf 4 = .ok (.ireturn, 1) := by decide +kernel
theorem dX5_entries_0 : decode cX5_entries 0 = .ok (.aload_n 0, 1) := by decide +kernel
theorem dX5_entries_1 : decode cX5_entries 1 = .ok (.iload_n 1, 1) := by decide +kernel
theorem dX5_entries_2 : decode cX5_entries 2 = .ok (.invokevirtual 126, 3) := by decide +kernel
theorem dX5_entries_5 : decode cX5_entries 5 = .ok (.ifCond .ne 13, 3) := by decide +kernel
theorem dX5_entries_18 : decode cX5_entries 18 = .ok (.aload_n 0, 1) := by decide +kernel
theorem dX5_entries_19 : decode cX5_entries 19 = .ok (.getfield 10, 3) := by decide +kernel
theorem dX5_entries_22 : decode cX5_entries 22 = .ok (.iload_n 1, 1) := by decide +kernel
theorem dX5_entries_23 : decode cX5_entries 23 = .ok (.invokevirtual 131, 3) := by decide +kernel
theorem dX5_entries_26 : decode cX5_entries 26 = .ok (.getfield 135, 3) := by decide +kernel
theorem dX5_entries_29 : decode cX5_entries 29 = .ok (.ireturn, 1) := by decide +kernel
theorem dX5_hasEnded_0 : decode cX5_hasEnded 0 = .ok (.aload_n 0, 1) := by decide +kernel
theorem dX5_hasEnded_1 : decode cX5_hasEnded 1 = .ok (.getfield 61, 3) := by decide +kernel
theorem dX5_hasEnded_4 : decode cX5_hasEnded 4 = .ok (.ireturn, 1) := by decide +kernel
theorem dX5_hush_0 : decode cX5_hush 0 = .ok (.aload_n 0, 1) := by decide +kernel
theorem dX5_hush_1 : decode cX5_hush 1 = .ok (.getfield 51, 3) := by decide +kernel
theorem dX5_hush_4 : decode cX5_hush 4 = .ok (.istore_n 1, 1) := by decide +kernel
theorem dX5_hush_5 : decode cX5_hush 5 = .ok (.aload_n 0, 1) := by decide +kernel
theorem dX5_hush_6 : decode cX5_hush 6 = .ok (.iconst 0, 1) := by decide +kernel
theorem dX5_hush_7 : decode cX5_hush 7 = .ok (.putfield 51, 3) := by decide +kernel
theorem dX5_hush_10 : decode cX5_hush 10 = .ok (.iload_n 1, 1) := by decide +kernel
theorem dX5_hush_11 : decode cX5_hush 11 = .ok (.ireturn, 1) := by decide +kernel
theorem dX5_learn_0 : decode cX5_learn 0 = .ok (.iload_n 1, 1) := by decide +kernel
theorem dX5_learn_1 : decode cX5_learn 1 = .ok (.iconst 1, 1) := by decide +kernel
theorem dX5_learn_2 : decode cX5_learn 2 = .ok (.if_icmp .lt 9, 3) := by decide +kernel
theorem dX5_learn_5 : decode cX5_learn 5 = .ok (.iload_n 1, 1) := by decide +kernel
theorem dX5_learn_6 : decode cX5_learn 6 = .ok (.bipush 100, 2) := by decide +kernel
theorem dX5_learn_8 : decode cX5_learn 8 = .ok (.if_icmp .le 13, 3) := by decide +kernel
theorem dX5_learn_21 : decode cX5_learn 21 = .ok (.aload_n 0, 1) := by decide +kernel
theorem dX5_learn_22 : decode cX5_learn 22 = .ok (.getfield 10, 3) := by decide +kernel
theorem dX5_learn_25 : decode cX5_learn 25 = .ok (.getfield 65, 3) := by decide +kernel
theorem dX5_learn_28 : decode cX5_learn 28 = .ok (.ifCond .ne 13, 3) := by decide +kernel
theorem dX5_learn_41 : decode cX5_learn 41 = .ok (.aload_n 0, 1) := by decide +kernel
theorem dX5_learn_42 : decode cX5_learn 42 = .ok (.iload_n 1, 1) := by decide +kernel
theorem dX5_learn_43 : decode cX5_learn 43 = .ok (.invokevirtual 105, 3) := by decide +kernel
theorem dX5_learn_46 : decode cX5_learn 46 = .ok (.aload_n 0, 1) := by decide +kernel
theorem dX5_learn_47 : decode cX5_learn 47 = .ok (.getfield 10, 3) := by decide +kernel
theorem dX5_learn_50 : decode cX5_learn 50 = .ok (.invokevirtual 108, 3) := by decide +kernel
theorem dX5_learn_53 : decode cX5_learn 53 = .ok (.sipush 800, 3) := by decide +kernel
theorem dX5_learn_56 : decode cX5_learn 56 = .ok (.if_icmp .le 19, 3) := by decide +kernel
theorem dX5_learn_75 : decode cX5_learn 75 = .ok (.aload_n 0, 1) := by decide +kernel
theorem dX5_learn_76 : decode cX5_learn 76 = .ok (.getfield 10, 3) := by decide +kernel
theorem dX5_learn_79 : decode cX5_learn 79 = .ok (.invokevirtual 108, 3) := by decide +kernel
theorem dX5_learn_82 : decode cX5_learn 82 = .ok (.ireturn, 1) := by decide +kernel
theorem dX5_length_0 : decode cX5_length 0 = .ok (.aload_n 0, 1) := by decide +kernel
theorem dX5_length_1 : decode cX5_length 1 = .ok (.getfield 51, 3) := by decide +kernel
theorem dX5_length_4 : decode cX5_length 4 = .ok (.ireturn, 1) := by decide +kernel
theorem dX5_ofContext_0 : decode cX5_ofContext 0 = .ok (.aload_n 0, 1) := by decide +kernel
theorem dX5_ofContext_1 : decode cX5_ofContext 1 = .ok (.iload_n 1, 1) := by decide +kernel
theorem dX5_ofContext_2 : decode cX5_ofContext 2 = .ok (.invokevirtual 126, 3) := by decide +kernel
theorem dX5_ofContext_5 : decode cX5_ofContext 5 = .ok (.ifCond .eq 12, 3) := by decide +kernel
theorem dX5_ofContext_8 : decode cX5_ofContext 8 = .ok (.iload_n 2, 1) := by decide +kernel
theorem dX5_ofContext_9 : decode cX5_ofContext 9 = .ok (.ifCond .lt 8, 3) := by decide +kernel
theorem dX5_ofContext_12 : decode cX5_ofContext 12 = .ok (.iload_n 2, 1) := by decide +kernel
theorem dX5_ofContext_13 : decode cX5_ofContext 13 = .ok (.iconst 1, 1) := by decide +kernel
theorem dX5_ofContext_14 : decode cX5_ofContext 14 = .ok (.if_icmp .le 13, 3) := by decide +kernel
theorem dX5_ofContext_27 : decode cX5_ofContext 27 = .ok (.aload_n 0, 1) := by decide +kernel
theorem dX5_ofContext_28 : decode cX5_ofContext 28 = .ok (.iload_n 1, 1) := by decide +kernel
theorem dX5_ofContext_29 : decode cX5_ofContext 29 = .ok (.iload_n 2, 1) := by decide +kernel
theorem dX5_ofContext_30 : decode cX5_ofContext 30 = .ok (.invokevirtual 154, 3) := by decide +kernel
theorem dX5_ofContext_33 : decode cX5_ofContext 33 = .ok (.ireturn, 1) := by decide +kernel
theorem dX5_prune_0 : decode cX5_prune 0 = .ok (.iload_n 1, 1) := by decide +kernel
theorem dX5_prune_1 : decode cX5_prune 1 = .ok (.iconst 2, 1) := by decide +kernel
theorem dX5_prune_2 : decode cX5_prune 2 = .ok (.if_icmp .lt 26, 3) := by decide +kernel
theorem dX5_prune_5 : decode cX5_prune 5 = .ok (.iload_n 1, 1) := by decide +kernel
theorem dX5_prune_6 : decode cX5_prune 6 = .ok (.aload_n 0, 1) := by decide +kernel
theorem dX5_prune_7 : decode cX5_prune 7 = .ok (.getfield 10, 3) := by decide +kernel
theorem dX5_prune_10 : decode cX5_prune 10 = .ok (.getfield 83, 3) := by decide +kernel
theorem dX5_prune_13 : decode cX5_prune 13 = .ok (.if_icmp .gt 15, 3) := by decide +kernel
theorem dX5_prune_16 : decode cX5_prune 16 = .ok (.iload_n 2, 1) := by decide +kernel
theorem dX5_prune_17 : decode cX5_prune 17 = .ok (.iconst 1, 1) := by decide +kernel
theorem dX5_prune_18 : decode cX5_prune 18 = .ok (.if_icmp .lt 10, 3) := by decide +kernel
theorem dX5_prune_21 : decode cX5_prune 21 = .ok (.iload_n 2, 1) := by decide +kernel
theorem dX5_prune_22 : decode cX5_prune 22 = .ok (.sipush 1000, 3) := by decide +kernel
theorem dX5_prune_25 : decode cX5_prune 25 = .ok (.if_icmp .le 13, 3) := by decide +kernel
theorem dX5_prune_38 : decode cX5_prune 38 = .ok (.aload_n 0, 1) := by decide +kernel
theorem dX5_prune_39 : decode cX5_prune 39 = .ok (.getfield 10, 3) := by decide +kernel
theorem dX5_prune_42 : decode cX5_prune 42 = .ok (.iload_n 1, 1) := by decide +kernel
theorem dX5_prune_43 : decode cX5_prune 43 = .ok (.invokevirtual 131, 3) := by decide +kernel
theorem dX5_prune_46 : decode cX5_prune 46 = .ok (.astore_n 3, 1) := by decide +kernel
theorem dX5_prune_47 : decode cX5_prune 47 = .ok (.iconst 0, 1) := by decide +kernel
theorem dX5_prune_48 : decode cX5_prune 48 = .ok (.istore 4, 2) := by decide +kernel
theorem dX5_prune_50 : decode cX5_prune 50 = .ok (.iload 4, 2) := by decide +kernel
theorem dX5_prune_52 : decode cX5_prune 52 = .ok (.aload_n 3, 1) := by decide +kernel
theorem dX5_prune_53 : decode cX5_prune 53 = .ok (.getfield 135, 3) := by decide +kernel
theorem dX5_prune_56 : decode cX5_prune 56 = .ok (.if_icmp .ge 32, 3) := by decide +kernel
theorem dX5_prune_59 : decode cX5_prune 59 = .ok (.aload_n 0, 1) := by decide +kernel
theorem dX5_prune_60 : decode cX5_prune 60 = .ok (.getfield 43, 3) := by decide +kernel
theorem dX5_prune_63 : decode cX5_prune 63 = .ok (.iload 4, 2) := by decide +kernel
theorem dX5_prune_65 : decode cX5_prune 65 = .ok (.aload_n 3, 1) := by decide +kernel
theorem dX5_prune_66 : decode cX5_prune 66 = .ok (.getfield 149, 3) := by decide +kernel
theorem dX5_prune_69 : decode cX5_prune 69 = .ok (.iload 4, 2) := by decide +kernel
theorem dX5_prune_71 : decode cX5_prune 71 = .ok (.iaload, 1) := by decide +kernel
theorem dX5_prune_72 : decode cX5_prune 72 = .ok (.iload_n 2, 1) := by decide +kernel
theorem dX5_prune_73 : decode cX5_prune 73 = .ok (.if_icmp .ge 7, 3) := by decide +kernel
theorem dX5_prune_76 : decode cX5_prune 76 = .ok (.iconst 1, 1) := by decide +kernel
theorem dX5_prune_77 : decode cX5_prune 77 = .ok (.goto 4, 3) := by decide +kernel
theorem dX5_prune_80 : decode cX5_prune 80 = .ok (.iconst 0, 1) := by decide +kernel
theorem dX5_prune_81 : decode cX5_prune 81 = .ok (.bastore, 1) := by decide +kernel
theorem dX5_prune_82 : decode cX5_prune 82 = .ok (.iinc 4 1, 3) := by decide +kernel
theorem dX5_prune_85 : decode cX5_prune 85 = .ok (.goto (-35), 3) := by decide +kernel
theorem dX5_prune_88 : decode cX5_prune 88 = .ok (.aload_n 0, 1) := by decide +kernel
theorem dX5_prune_89 : decode cX5_prune 89 = .ok (.iload_n 1, 1) := by decide +kernel
theorem dX5_prune_90 : decode cX5_prune 90 = .ok (.invokevirtual 160, 3) := by decide +kernel
theorem dX5_prune_93 : decode cX5_prune 93 = .ok (.ireturn, 1) := by decide +kernel
theorem dX5_ranked_0 : decode cX5_ranked 0 = .ok (.iload_n 1, 1) := by decide +kernel
theorem dX5_ranked_1 : decode cX5_ranked 1 = .ok (.ifCond .lt 14, 3) := by decide +kernel
theorem dX5_ranked_4 : decode cX5_ranked 4 = .ok (.iload_n 1, 1) := by decide +kernel
theorem dX5_ranked_5 : decode cX5_ranked 5 = .ok (.aload_n 0, 1) := by decide +kernel
theorem dX5_ranked_6 : decode cX5_ranked 6 = .ok (.getfield 10, 3) := by decide +kernel
theorem dX5_ranked_9 : decode cX5_ranked 9 = .ok (.getfield 65, 3) := by decide +kernel
theorem dX5_ranked_12 : decode cX5_ranked 12 = .ok (.if_icmp .le 13, 3) := by decide +kernel
theorem dX5_ranked_25 : decode cX5_ranked 25 = .ok (.aload_n 0, 1) := by decide +kernel
theorem dX5_ranked_26 : decode cX5_ranked 26 = .ok (.invokevirtual 183, 3) := by decide +kernel
theorem dX5_ranked_29 : decode cX5_ranked 29 = .ok (.aload_n 0, 1) := by decide +kernel
theorem dX5_ranked_30 : decode cX5_ranked 30 = .ok (.getfield 21, 3) := by decide +kernel
theorem dX5_ranked_33 : decode cX5_ranked 33 = .ok (.iload_n 1, 1) := by decide +kernel
theorem dX5_ranked_34 : decode cX5_ranked 34 = .ok (.invokevirtual 191, 3) := by decide +kernel
theorem dX5_ranked_37 : decode cX5_ranked 37 = .ok (.ireturn, 1) := by decide +kernel
theorem dX5_say_0 : decode cX5_say 0 = .ok (.aload_n 0, 1) := by decide +kernel
theorem dX5_say_1 : decode cX5_say 1 = .ok (.iload_n 1, 1) := by decide +kernel
theorem dX5_say_2 : decode cX5_say 2 = .ok (.invokevirtual 86, 3) := by decide +kernel
theorem dX5_say_5 : decode cX5_say 5 = .ok (.ifCond .ne 13, 3) := by decide +kernel
theorem dX5_say_18 : decode cX5_say 18 = .ok (.aload_n 0, 1) := by decide +kernel
theorem dX5_say_19 : decode cX5_say 19 = .ok (.getfield 51, 3) := by decide +kernel
theorem dX5_say_22 : decode cX5_say 22 = .ok (.bipush 12, 2) := by decide +kernel
theorem dX5_say_24 : decode cX5_say 24 = .ok (.if_icmp .lt 13, 3) := by decide +kernel
theorem dX5_say_37 : decode cX5_say 37 = .ok (.aload_n 0, 1) := by decide +kernel
theorem dX5_say_38 : decode cX5_say 38 = .ok (.iload_n 1, 1) := by decide +kernel
theorem dX5_say_39 : decode cX5_say 39 = .ok (.invokevirtual 97, 3) := by decide +kernel
theorem dX5_say_42 : decode cX5_say 42 = .ok (.aload_n 0, 1) := by decide +kernel
theorem dX5_say_43 : decode cX5_say 43 = .ok (.getfield 51, 3) := by decide +kernel
theorem dX5_say_46 : decode cX5_say 46 = .ok (.ireturn, 1) := by decide +kernel
theorem dX5_score_0 : decode cX5_score 0 = .ok (.aload_n 0, 1) := by decide +kernel
theorem dX5_score_1 : decode cX5_score 1 = .ok (.invokevirtual 197, 3) := by decide +kernel
theorem dX5_score_4 : decode cX5_score 4 = .ok (.ireturn, 1) := by decide +kernel
theorem dX5_scoreBy_0 : decode cX5_scoreBy 0 = .ok (.iload_n 1, 1) := by decide +kernel
theorem dX5_scoreBy_1 : decode cX5_scoreBy 1 = .ok (.iload_n 2, 1) := by decide +kernel
theorem dX5_scoreBy_2 : decode cX5_scoreBy 2 = .ok (.invokestatic 169, 3) := by decide +kernel
theorem dX5_scoreBy_5 : decode cX5_scoreBy 5 = .ok (.ifCond .ne 13, 3) := by decide +kernel
theorem dX5_scoreBy_18 : decode cX5_scoreBy 18 = .ok (.aload_n 0, 1) := by decide +kernel
theorem dX5_scoreBy_19 : decode cX5_scoreBy 19 = .ok (.getfield 21, 3) := by decide +kernel
theorem dX5_scoreBy_22 : decode cX5_scoreBy 22 = .ok (.getfield 175, 3) := by decide +kernel
theorem dX5_scoreBy_25 : decode cX5_scoreBy 25 = .ok (.istore_n 3, 1) := by decide +kernel
theorem dX5_scoreBy_26 : decode cX5_scoreBy 26 = .ok (.aload_n 0, 1) := by decide +kernel
theorem dX5_scoreBy_27 : decode cX5_scoreBy 27 = .ok (.getfield 21, 3) := by decide +kernel
theorem dX5_scoreBy_30 : decode cX5_scoreBy 30 = .ok (.getfield 178, 3) := by decide +kernel
theorem dX5_scoreBy_33 : decode cX5_scoreBy 33 = .ok (.istore 4, 2) := by decide +kernel
theorem dX5_scoreBy_35 : decode cX5_scoreBy 35 = .ok (.aload_n 0, 1) := by decide +kernel
theorem dX5_scoreBy_36 : decode cX5_scoreBy 36 = .ok (.getfield 21, 3) := by decide +kernel
theorem dX5_scoreBy_39 : decode cX5_scoreBy 39 = .ok (.iload_n 1, 1) := by decide +kernel
theorem dX5_scoreBy_40 : decode cX5_scoreBy 40 = .ok (.putfield 175, 3) := by decide +kernel
theorem dX5_scoreBy_43 : decode cX5_scoreBy 43 = .ok (.aload_n 0, 1) := by decide +kernel
theorem dX5_scoreBy_44 : decode cX5_scoreBy 44 = .ok (.getfield 21, 3) := by decide +kernel
theorem dX5_scoreBy_47 : decode cX5_scoreBy 47 = .ok (.iload_n 2, 1) := by decide +kernel
theorem dX5_scoreBy_48 : decode cX5_scoreBy 48 = .ok (.putfield 178, 3) := by decide +kernel
theorem dX5_scoreBy_51 : decode cX5_scoreBy 51 = .ok (.aload_n 0, 1) := by decide +kernel
theorem dX5_scoreBy_52 : decode cX5_scoreBy 52 = .ok (.invokevirtual 197, 3) := by decide +kernel
theorem dX5_scoreBy_55 : decode cX5_scoreBy 55 = .ok (.istore 5, 2) := by decide +kernel
theorem dX5_scoreBy_57 : decode cX5_scoreBy 57 = .ok (.aload_n 0, 1) := by decide +kernel
theorem dX5_scoreBy_58 : decode cX5_scoreBy 58 = .ok (.getfield 21, 3) := by decide +kernel
theorem dX5_scoreBy_61 : decode cX5_scoreBy 61 = .ok (.iload_n 3, 1) := by decide +kernel
theorem dX5_scoreBy_62 : decode cX5_scoreBy 62 = .ok (.putfield 175, 3) := by decide +kernel
theorem dX5_scoreBy_65 : decode cX5_scoreBy 65 = .ok (.aload_n 0, 1) := by decide +kernel
theorem dX5_scoreBy_66 : decode cX5_scoreBy 66 = .ok (.getfield 21, 3) := by decide +kernel
theorem dX5_scoreBy_69 : decode cX5_scoreBy 69 = .ok (.iload 4, 2) := by decide +kernel
theorem dX5_scoreBy_71 : decode cX5_scoreBy 71 = .ok (.putfield 178, 3) := by decide +kernel
theorem dX5_scoreBy_74 : decode cX5_scoreBy 74 = .ok (.iload 5, 2) := by decide +kernel
theorem dX5_scoreBy_76 : decode cX5_scoreBy 76 = .ok (.ireturn, 1) := by decide +kernel
theorem dX5_scoreLearned_0 : decode cX5_scoreLearned 0 = .ok (.iload_n 1, 1) := by decide +kernel
theorem dX5_scoreLearned_1 : decode cX5_scoreLearned 1 = .ok (.iconst 1, 1) := by decide +kernel
theorem dX5_scoreLearned_2 : decode cX5_scoreLearned 2 = .ok (.if_icmp .lt 9, 3) := by decide +kernel
theorem dX5_scoreLearned_5 : decode cX5_scoreLearned 5 = .ok (.iload_n 1, 1) := by decide +kernel
theorem dX5_scoreLearned_6 : decode cX5_scoreLearned 6 = .ok (.bipush 100, 2) := by decide +kernel
theorem dX5_scoreLearned_8 : decode cX5_scoreLearned 8 = .ok (.if_icmp .le 13, 3) := by decide +kernel
theorem dX5_scoreLearned_21 : decode cX5_scoreLearned 21 = .ok (.aload_n 0, 1) := by decide +kernel
theorem dX5_scoreLearned_22 : decode cX5_scoreLearned 22 = .ok (.getfield 10, 3) := by decide +kernel
theorem dX5_scoreLearned_25 : decode cX5_scoreLearned 25 = .ok (.getfield 65, 3) := by decide +kernel
theorem dX5_scoreLearned_28 : decode cX5_scoreLearned 28 = .ok (.ifCond .ne 13, 3) := by decide +kernel
theorem dX5_scoreLearned_41 : decode cX5_scoreLearned 41 = .ok (.aload_n 0, 1) := by decide +kernel
theorem dX5_scoreLearned_42 : decode cX5_scoreLearned 42 = .ok (.iload_n 1, 1) := by decide +kernel
theorem dX5_scoreLearned_43 : decode cX5_scoreLearned 43 = .ok (.invokevirtual 105, 3) := by decide +kernel
theorem dX5_scoreLearned_46 : decode cX5_scoreLearned 46 = .ok (.aload_n 0, 1) := by decide +kernel
theorem dX5_scoreLearned_47 : decode cX5_scoreLearned 47 = .ok (.invokevirtual 197, 3) := by decide +kernel
theorem dX5_scoreLearned_50 : decode cX5_scoreLearned 50 = .ok (.istore_n 2, 1) := by decide +kernel
theorem dX5_scoreLearned_51 : decode cX5_scoreLearned 51 = .ok (.aload_n 0, 1) := by decide +kernel
theorem dX5_scoreLearned_52 : decode cX5_scoreLearned 52 = .ok (.iload_n 1, 1) := by decide +kernel
theorem dX5_scoreLearned_53 : decode cX5_scoreLearned 53 = .ok (.invokevirtual 112, 3) := by decide +kernel
theorem dX5_scoreLearned_56 : decode cX5_scoreLearned 56 = .ok (.pop, 1) := by decide +kernel
theorem dX5_scoreLearned_57 : decode cX5_scoreLearned 57 = .ok (.iload_n 2, 1) := by decide +kernel
theorem dX5_scoreLearned_58 : decode cX5_scoreLearned 58 = .ok (.ireturn, 1) := by decide +kernel
theorem dX5_setOrder_0 : decode cX5_setOrder 0 = .ok (.iload_n 1, 1) := by decide +kernel
theorem dX5_setOrder_1 : decode cX5_setOrder 1 = .ok (.iconst 1, 1) := by decide +kernel
theorem dX5_setOrder_2 : decode cX5_setOrder 2 = .ok (.if_icmp .lt 8, 3) := by decide +kernel
theorem dX5_setOrder_5 : decode cX5_setOrder 5 = .ok (.iload_n 1, 1) := by decide +kernel
theorem dX5_setOrder_6 : decode cX5_setOrder 6 = .ok (.iconst 4, 1) := by decide +kernel
theorem dX5_setOrder_7 : decode cX5_setOrder 7 = .ok (.if_icmp .le 13, 3) := by decide +kernel
theorem dX5_setOrder_20 : decode cX5_setOrder 20 = .ok (.aload_n 0, 1) := by decide +kernel
theorem dX5_setOrder_21 : decode cX5_setOrder 21 = .ok (.getfield 10, 3) := by decide +kernel
theorem dX5_setOrder_24 : decode cX5_setOrder 24 = .ok (.getfield 83, 3) := by decide +kernel
theorem dX5_setOrder_27 : decode cX5_setOrder 27 = .ok (.istore_n 2, 1) := by decide +kernel
theorem dX5_setOrder_28 : decode cX5_setOrder 28 = .ok (.aload_n 0, 1) := by decide +kernel
theorem dX5_setOrder_29 : decode cX5_setOrder 29 = .ok (.getfield 10, 3) := by decide +kernel
theorem dX5_setOrder_32 : decode cX5_setOrder 32 = .ok (.invokevirtual 75, 3) := by decide +kernel
theorem dX5_setOrder_35 : decode cX5_setOrder 35 = .ok (.aload_n 0, 1) := by decide +kernel
theorem dX5_setOrder_36 : decode cX5_setOrder 36 = .ok (.getfield 10, 3) := by decide +kernel
theorem dX5_setOrder_39 : decode cX5_setOrder 39 = .ok (.iload_n 1, 1) := by decide +kernel
theorem dX5_setOrder_40 : decode cX5_setOrder 40 = .ok (.putfield 83, 3) := by decide +kernel
theorem dX5_setOrder_43 : decode cX5_setOrder 43 = .ok (.iload_n 2, 1) := by decide +kernel
theorem dX5_setOrder_44 : decode cX5_setOrder 44 = .ok (.ireturn, 1) := by decide +kernel
theorem dX5_setWay_0 : decode cX5_setWay 0 = .ok (.iload_n 1, 1) := by decide +kernel
theorem dX5_setWay_1 : decode cX5_setWay 1 = .ok (.iload_n 2, 1) := by decide +kernel
theorem dX5_setWay_2 : decode cX5_setWay 2 = .ok (.invokestatic 169, 3) := by decide +kernel
theorem dX5_setWay_5 : decode cX5_setWay 5 = .ok (.ifCond .ne 13, 3) := by decide +kernel
theorem dX5_setWay_18 : decode cX5_setWay 18 = .ok (.aload_n 0, 1) := by decide +kernel
theorem dX5_setWay_19 : decode cX5_setWay 19 = .ok (.getfield 21, 3) := by decide +kernel
theorem dX5_setWay_22 : decode cX5_setWay 22 = .ok (.getfield 175, 3) := by decide +kernel
theorem dX5_setWay_25 : decode cX5_setWay 25 = .ok (.istore_n 3, 1) := by decide +kernel
theorem dX5_setWay_26 : decode cX5_setWay 26 = .ok (.aload_n 0, 1) := by decide +kernel
theorem dX5_setWay_27 : decode cX5_setWay 27 = .ok (.getfield 21, 3) := by decide +kernel
theorem dX5_setWay_30 : decode cX5_setWay 30 = .ok (.iload_n 1, 1) := by decide +kernel
theorem dX5_setWay_31 : decode cX5_setWay 31 = .ok (.putfield 175, 3) := by decide +kernel
theorem dX5_setWay_34 : decode cX5_setWay 34 = .ok (.aload_n 0, 1) := by decide +kernel
theorem dX5_setWay_35 : decode cX5_setWay 35 = .ok (.getfield 21, 3) := by decide +kernel
theorem dX5_setWay_38 : decode cX5_setWay 38 = .ok (.iload_n 2, 1) := by decide +kernel
theorem dX5_setWay_39 : decode cX5_setWay 39 = .ok (.putfield 178, 3) := by decide +kernel
theorem dX5_setWay_42 : decode cX5_setWay 42 = .ok (.iload_n 3, 1) := by decide +kernel
theorem dX5_setWay_43 : decode cX5_setWay 43 = .ok (.ireturn, 1) := by decide +kernel
theorem dX5_unlearn_0 : decode cX5_unlearn 0 = .ok (.aload_n 0, 1) := by decide +kernel
theorem dX5_unlearn_1 : decode cX5_unlearn 1 = .ok (.invokevirtual 118, 3) := by decide +kernel
theorem dX5_unlearn_4 : decode cX5_unlearn 4 = .ok (.ifCond .ne 13, 3) := by decide +kernel
theorem dX5_unlearn_17 : decode cX5_unlearn 17 = .ok (.aload_n 0, 1) := by decide +kernel
theorem dX5_unlearn_18 : decode cX5_unlearn 18 = .ok (.iconst 1, 1) := by decide +kernel
theorem dX5_unlearn_19 : decode cX5_unlearn 19 = .ok (.invokevirtual 112, 3) := by decide +kernel
theorem dX5_unlearn_22 : decode cX5_unlearn 22 = .ok (.ireturn, 1) := by decide +kernel
theorem dX5_wordAt_0 : decode cX5_wordAt 0 = .ok (.iload_n 1, 1) := by decide +kernel
theorem dX5_wordAt_1 : decode cX5_wordAt 1 = .ok (.ifCond .lt 11, 3) := by decide +kernel
theorem dX5_wordAt_4 : decode cX5_wordAt 4 = .ok (.iload_n 1, 1) := by decide +kernel
theorem dX5_wordAt_5 : decode cX5_wordAt 5 = .ok (.aload_n 0, 1) := by decide +kernel
theorem dX5_wordAt_6 : decode cX5_wordAt 6 = .ok (.getfield 51, 3) := by decide +kernel
theorem dX5_wordAt_9 : decode cX5_wordAt 9 = .ok (.if_icmp .lt 13, 3) := by decide +kernel
theorem dX5_wordAt_22 : decode cX5_wordAt 22 = .ok (.aload_n 0, 1) := by decide +kernel
theorem dX5_wordAt_23 : decode cX5_wordAt 23 = .ok (.getfield 47, 3) := by decide +kernel
theorem dX5_wordAt_26 : decode cX5_wordAt 26 = .ok (.iload_n 1, 1) := by decide +kernel
theorem dX5_wordAt_27 : decode cX5_wordAt 27 = .ok (.iaload, 1) := by decide +kernel
theorem dX5_wordAt_28 : decode cX5_wordAt 28 = .ok (.ireturn, 1) := by decide +kernel
theorem dX5_wouldDraw_0 : decode cX5_wouldDraw 0 = .ok (.aload_n 0, 1) := by decide +kernel
theorem dX5_wouldDraw_1 : decode cX5_wouldDraw 1 = .ok (.getfield 10, 3) := by decide +kernel
theorem dX5_wouldDraw_4 : decode cX5_wouldDraw 4 = .ok (.getfield 65, 3) := by decide +kernel
theorem dX5_wouldDraw_7 : decode cX5_wouldDraw 7 = .ok (.ifCond .ne 13, 3) := by decide +kernel
theorem dX5_wouldDraw_20 : decode cX5_wouldDraw 20 = .ok (.aload_n 0, 1) := by decide +kernel
theorem dX5_wouldDraw_21 : decode cX5_wouldDraw 21 = .ok (.invokevirtual 183, 3) := by decide +kernel
theorem dX5_wouldDraw_24 : decode cX5_wouldDraw 24 = .ok (.aload_n 0, 1) := by decide +kernel
theorem dX5_wouldDraw_25 : decode cX5_wouldDraw 25 = .ok (.getfield 21, 3) := by decide +kernel
theorem dX5_wouldDraw_28 : decode cX5_wouldDraw 28 = .ok (.aload_n 0, 1) := by decide +kernel
theorem dX5_wouldDraw_29 : decode cX5_wouldDraw 29 = .ok (.getfield 55, 3) := by decide +kernel
theorem dX5_wouldDraw_32 : decode cX5_wouldDraw 32 = .ok (.invokestatic 244, 3) := by decide +kernel
theorem dX5_wouldDraw_35 : decode cX5_wouldDraw 35 = .ok (.aload_n 0, 1) := by decide +kernel
theorem dX5_wouldDraw_36 : decode cX5_wouldDraw 36 = .ok (.invokevirtual 247, 3) := by decide +kernel
theorem dX5_wouldDraw_39 : decode cX5_wouldDraw 39 = .ok (.invokevirtual 250, 3) := by decide +kernel
theorem dX5_wouldDraw_42 : decode cX5_wouldDraw 42 = .ok (.ireturn, 1) := by decide +kernel
set_option maxHeartbeats 4000000 in
set_option maxRecDepth 100000 in
theorem mX5_addWord (l : Launch) (D : va_G) (κ a : Nat → Nat) (ε : EE) (V N way num m : Nat) (S : List Nat) (T : Nat → List (Nat × Nat)) (u : US) (hA : AB V N way num m S T u) (hV9 : V < 12) : Ct (W0 κ a) l D κ ε yX5_addWord cX5_addWord 1 (some .int) 3 63 0 0 u [.ref (a 0)] (fun v u' => v = some (.int (iI (V : Int))) ∧ Fr (0 :: 4 :: tS) [] u u' ∧ AB (V + 1) N way num 0 [] (fun _ => []) u') := by
  obtain ⟨⟨hV, hN, hway, hnum, hm, hSl, hSV⟩, eV, eN, ew, en, ⟨eS, hS⟩, hT⟩ := id hA
  refine Ct.of (own := RX5) rfl (by decide +kernel) (Nat.le_of_ble_eq_true rfl) rfl (fun Γ h => ?_)
  refine w_aload_n h (pc := 0) dX5_addWord_0 rfl ?_
  refine g0_ledger h (pc := 1) wm_16 dX5_addWord_1 ?_
  refine g1_words h (pc := 4) eV wm_113 dX5_addWord_4 ?_
  refine w_bipush h (pc := 7) dX5_addWord_7 (by decide) ?_
  refine w_icmp_lt h (pc := 9) (tgt := 22) dX5_addWord_9 (by decide) (by omega) (by omega) (fun c9 => ?_) (fun c9 => by exfalso; omega)
  refine w_aload_n h (pc := 22) dX5_addWord_22 rfl ?_
  refine g0_ledger h (pc := 23) wm_16 dX5_addWord_23 ?_
  refine w_callV0 h (pc := 26) (mX0_forgetAll l D κ a ε u) 1 rfl rfl (gdV wm_114 wm_115 wm_116 wm_15 wm_117) (by decide +kernel) ⟨(Nat.le_of_ble_eq_true rfl), (Nat.le_of_ble_eq_true rfl)⟩ ⟨(Nat.le_of_ble_eq_true rfl), (Nat.le_of_ble_eq_true rfl)⟩ (fun _ _ _ => ⟨rfl, rfl⟩) (Nat.le_of_ble_eq_true rfl) dX5_addWord_26 (fun v1 u1 hp1 => ?_)
  obtain ⟨rfl, hF1, hz1⟩ := hp1
  have eV1 : u1.1 4 = (V : Int) := (hF1.1 4 (by simp [tS])).trans eV
  simp only [Option.toList_none, List.nil_append]
  refine w_aload_n h (pc := 29) dX5_addWord_29 rfl ?_
  refine w_iconst h (pc := 30) dX5_addWord_30 ?_
  refine p0_length h (pc := 31) wm_33 dX5_addWord_31 ?_
  refine w_aload_n h (pc := 34) dX5_addWord_34 rfl ?_
  refine g0_ledger h (pc := 35) wm_16 dX5_addWord_35 ?_
  refine w_dup h (pc := 38) dX5_addWord_38 rfl ?_
  refine g1_words h (pc := 39) eV1 wm_113 dX5_addWord_39 ?_
  refine w_iconst h (pc := 42) dX5_addWord_42 ?_
  refine w_iadd h (pc := 43) dX5_addWord_43 ?_
  refine p1_words h (pc := 44) wm_113 dX5_addWord_44 ?_
  refine w_aload_n h (pc := 47) dX5_addWord_47 rfl ?_
  refine g0_ledger h (pc := 48) wm_16 dX5_addWord_48 ?_
  refine g1_words h (pc := 51) (uS_at _ _ _) wm_113 dX5_addWord_51 ?_
  refine w_iconst h (pc := 54) dX5_addWord_54 ?_
  have hr : ((V : Int) + 1 - 1) = (V : Int) := by omega
  refine w_isub h (pc := 55) dX5_addWord_55 ?_
  exact w_iret h (pc := 56) (ty := .int) rfl rfl dX5_addWord_56 (Nat.le_of_ble_eq_true rfl) (Nat.le_of_ble_eq_true rfl) ⟨by rw [hr], ((hF1.mono (by simp [tS]) (by simp)).tr (Fr.S (by simp))).tr (Fr.S (by simp)), ⟨by omega, hN, hway, hnum, by omega, by simp, by simp⟩, uS_at _ _ _, (hF1.1 5 (by simp [tS])).trans eN, (hF1.1 6 (by simp [tS])).trans ew, (hF1.1 7 (by simp [tS])).trans en, ⟨rfl, fun j w hw => by simp at hw⟩, TA_nil (fun i hi => by show (uS (uS u1 0 0) 4 _).1 (12 + i) = 0; rw [uS_ne _ _ (by omega), uS_ne _ _ (by omega)]; exact hz1 i hi)⟩

set_option maxHeartbeats 4000000 in
set_option maxRecDepth 100000 in
theorem mX5_setOrder (l : Launch) (D : va_G) (κ a : Nat → Nat) (ε : EE) (V N way num m : Nat) (S : List Nat) (T : Nat → List (Nat × Nat)) (u : US) (hA : AB V N way num m S T u) (n : Nat) (hn : 1 ≤ n ∧ n ≤ 4) : Ct (W0 κ a) l D κ ε yX5_setOrder cX5_setOrder 3 (some .int) 3 63 0 0 u [.ref (a 0), .int (iI (n : Int))] (fun v u' => v = some (.int (iI (N : Int))) ∧ Fr (5 :: tS) [] u u' ∧ AB V n way num 0 S (fun _ => []) u') := by
  obtain ⟨⟨hV, hN, hway, hnum, hm, hSl, hSV⟩, eV, eN, ew, en, ⟨eS, hS⟩, hT⟩ := id hA
  refine Ct.of (own := RX5) rfl (by decide +kernel) (Nat.le_of_ble_eq_true rfl) rfl (fun Γ h => ?_)
  refine w_iload_n h (pc := 0) dX5_setOrder_0 rfl ?_
  refine w_iconst h (pc := 1) dX5_setOrder_1 ?_
  refine w_icmp_lt h (pc := 2) (tgt := 10) dX5_setOrder_2 (by decide) (by omega) (by omega) (fun c2 => by exfalso; omega) (fun c2 => ?_)
  refine w_iload_n h (pc := 5) dX5_setOrder_5 rfl ?_
  refine w_iconst h (pc := 6) dX5_setOrder_6 ?_
  refine w_icmp_le h (pc := 7) (tgt := 20) dX5_setOrder_7 (by decide) (by omega) (by omega) (fun c7 => ?_) (fun c7 => by exfalso; omega)
  refine w_aload_n h (pc := 20) dX5_setOrder_20 rfl ?_
  refine g0_ledger h (pc := 21) wm_16 dX5_setOrder_21 ?_
  refine g1_order h (pc := 24) eN wm_140 dX5_setOrder_24 ?_
  refine w_istore_n h (pc := 27) dX5_setOrder_27 (by decide) ?_
  refine w_aload_n h (pc := 28) dX5_setOrder_28 rfl ?_
  refine g0_ledger h (pc := 29) wm_16 dX5_setOrder_29 ?_
  refine w_callV0 h (pc := 32) (mX0_forgetAll l D κ a ε u) 1 rfl rfl (gdV wm_114 wm_115 wm_116 wm_15 wm_117) (by decide +kernel) ⟨(Nat.le_of_ble_eq_true rfl), (Nat.le_of_ble_eq_true rfl)⟩ ⟨(Nat.le_of_ble_eq_true rfl), (Nat.le_of_ble_eq_true rfl)⟩ (fun _ _ _ => ⟨rfl, rfl⟩) (Nat.le_of_ble_eq_true rfl) dX5_setOrder_32 (fun v1 u1 hp1 => ?_)
  obtain ⟨rfl, hF1, hz1⟩ := hp1
  simp only [Option.toList_none, List.nil_append]
  refine w_aload_n h (pc := 35) dX5_setOrder_35 rfl ?_
  refine g0_ledger h (pc := 36) wm_16 dX5_setOrder_36 ?_
  refine w_iload_n h (pc := 39) dX5_setOrder_39 rfl ?_
  refine p1_order h (pc := 40) wm_140 dX5_setOrder_40 ?_
  refine w_iload_n h (pc := 43) dX5_setOrder_43 rfl ?_
  exact w_iret h (pc := 44) (ty := .int) rfl rfl dX5_setOrder_44 (Nat.le_of_ble_eq_true rfl) (Nat.le_of_ble_eq_true rfl) ⟨rfl, (hF1.mono (by simp [tS]) (by simp)).tr (Fr.S (by simp)), ⟨hV, hn, hway, hnum, by omega, hSl, hSV⟩, (hF1.1 4 (by simp [tS])).trans eV, uS_at _ _ _, (hF1.1 6 (by simp [tS])).trans ew, (hF1.1 7 (by simp [tS])).trans en, ⟨(hF1.1 0 (by simp [tS])).trans eS, fun j w hw => by rw [uS_2, hF1.2 6 (by simp)]; exact hS j w hw⟩, TA_nil (fun i hi => by rw [uS_ne _ _ (by omega)]; exact hz1 i hi)⟩

set_option maxHeartbeats 4000000 in
set_option maxRecDepth 100000 in
theorem mX5_say (l : Launch) (D : va_G) (κ a : Nat → Nat) (ε : EE) (V N way num m : Nat) (S : List Nat) (T : Nat → List (Nat × Nat)) (u : US) (hA : AB V N way num m S T u) (w : Nat) (hw : w < V) (hl9 : S.length < 12) : Ct (W0 κ a) l D κ ε yX5_say cX5_say 2 (some .int) 1 21 0 0 u [.ref (a 0), .int (iI (w : Int))] (fun v u' => v = some (.int (iI ((S.length + 1 : Nat) : Int))) ∧ Fr [0] [6] u u' ∧ AB V N way num m (S ++ [w]) T u') := by
  obtain ⟨⟨hV, hN, hway, hnum, hm, hSl, hSV⟩, eV, eN, ew, en, ⟨eS, hS⟩, hT⟩ := id hA
  refine Ct.of (own := RX5) rfl (by decide +kernel) (Nat.le_of_ble_eq_true rfl) rfl (fun Γ h => ?_)
  refine w_aload_n h (pc := 0) dX5_say_0 rfl ?_
  refine w_iload_n h (pc := 1) dX5_say_1 rfl ?_
  refine w_callV1 h (pc := 2) (mX5_isWord l D κ a ε V N way num m S T u hA w hw) 0 rfl rfl (gdV wm_154 wm_155 wm_156 wm_2 wm_157) (by decide +kernel) ⟨(Nat.le_of_ble_eq_true rfl), (Nat.le_of_ble_eq_true rfl)⟩ ⟨(Nat.le_of_ble_eq_true rfl), (Nat.le_of_ble_eq_true rfl)⟩ (fun _ _ _ => ⟨rfl, rfl⟩) (Nat.le_of_ble_eq_true rfl) dX5_say_2 (fun v1 u1 hp1 => ?_)
  obtain ⟨rfl, e1⟩ := hp1
  obtain rfl := e1.symm
  simp only [Option.toList_some, List.cons_append, List.nil_append]
  refine w_if_ne h (pc := 5) (tgt := 18) dX5_say_5 (by decide) (by omega) (fun c5 => ?_) (fun c5 => by exfalso; omega)
  refine w_aload_n h (pc := 18) dX5_say_18 rfl ?_
  refine g0_length h (pc := 19) eS wm_33 dX5_say_19 ?_
  refine w_bipush h (pc := 22) dX5_say_22 (by decide) ?_
  refine w_icmp_lt h (pc := 24) (tgt := 37) dX5_say_24 (by decide) (by omega) (by omega) (fun c24 => ?_) (fun c24 => by exfalso; omega)
  refine w_aload_n h (pc := 37) dX5_say_37 rfl ?_
  refine w_iload_n h (pc := 38) dX5_say_38 rfl ?_
  refine w_callV1 h (pc := 39) (mX5_append l D κ a ε V N way num m S T u hA w hw hl9) 0 rfl rfl (gdV wm_158 wm_159 wm_160 wm_2 wm_161) (by decide +kernel) ⟨(Nat.le_of_ble_eq_true rfl), (Nat.le_of_ble_eq_true rfl)⟩ ⟨(Nat.le_of_ble_eq_true rfl), (Nat.le_of_ble_eq_true rfl)⟩ (fun _ _ _ => ⟨rfl, rfl⟩) (Nat.le_of_ble_eq_true rfl) dX5_say_39 (fun v2 u2 hp2 => ?_)
  obtain ⟨rfl, hF2, hA2⟩ := hp2
  have eS2 : u2.1 0 = ((S.length + 1 : Nat) : Int) := by rw [hA2.2.2.2.2.2.1.1, List.length_append]; rfl
  simp only [Option.toList_none, List.nil_append]
  refine w_aload_n h (pc := 42) dX5_say_42 rfl ?_
  refine g0_length h (pc := 43) eS2 wm_33 dX5_say_43 ?_
  exact w_iret h (pc := 46) (ty := .int) rfl rfl dX5_say_46 (Nat.le_of_ble_eq_true rfl) (Nat.le_of_ble_eq_true rfl) ⟨rfl, hF2, hA2⟩

set_option maxHeartbeats 4000000 in
set_option maxRecDepth 100000 in
theorem mX5_hush (l : Launch) (D : va_G) (κ a : Nat → Nat) (ε : EE) (V N way num m : Nat) (S : List Nat) (T : Nat → List (Nat × Nat)) (u : US) (hA : AB V N way num m S T u) : Ct (W0 κ a) l D κ ε yX5_hush cX5_hush 2 (some .int) 0 0 0 0 u [.ref (a 0)] (fun v u' => v = some (.int (iI (S.length : Int))) ∧ Fr [0] [] u u' ∧ AB V N way num m [] T u') := by
  obtain ⟨⟨hV, hN, hway, hnum, hm, hSl, hSV⟩, eV, eN, ew, en, ⟨eS, hS⟩, hT⟩ := id hA
  refine Ct.of (own := RX5) rfl (by decide +kernel) (Nat.le_of_ble_eq_true rfl) rfl (fun Γ h => ?_)
  refine w_aload_n h (pc := 0) dX5_hush_0 rfl ?_
  refine g0_length h (pc := 1) eS wm_33 dX5_hush_1 ?_
  refine w_istore_n h (pc := 4) dX5_hush_4 (by decide) ?_
  refine w_aload_n h (pc := 5) dX5_hush_5 rfl ?_
  refine w_iconst h (pc := 6) dX5_hush_6 ?_
  refine p0_length h (pc := 7) wm_33 dX5_hush_7 ?_
  refine w_iload_n h (pc := 10) dX5_hush_10 rfl ?_
  exact w_iret h (pc := 11) (ty := .int) rfl rfl dX5_hush_11 (Nat.le_of_ble_eq_true rfl) (Nat.le_of_ble_eq_true rfl) ⟨rfl, Fr.S (by simp), ⟨hV, hN, hway, hnum, hm, by simp, by simp⟩, eV, eN, ew, en, ⟨rfl, fun j w hw => by simp at hw⟩, hT.of (Fr.S (ls := [0]) (gs := []) (by simp)) (by simp [tS]) (by simp)⟩

set_option maxHeartbeats 4000000 in
set_option maxRecDepth 100000 in
theorem mX5_learn (l : Launch) (D : va_G) (κ a : Nat → Nat) (ε : EE) (V N way num m : Nat) (S : List Nat) (T : Nat → List (Nat × Nat)) (u : US) (hA : AB V N way num m S T u) (c : Nat) (hc : 0 < c ∧ c ≤ 4) (hm9 : m ≤ 140) (hS6 : S.length ≤ 6) (hV1 : 1 ≤ V) : Ct (W0 κ a) l D κ ε yX5_learn cX5_learn 2 (some .int) 4 109 0 0 u [.ref (a 0), .int (iI (c : Int))] (fun v u' => Fr tS tG u u' ∧ ∃ T1, AB V N way num (m + 28) S T1 u' ∧ (∀ i, i < 4 → T1 i = adT V S T c N 0 i) ∧ v = some (.int (iI (sm (fun i => (T1 i).length) N : Int)))) := by
  obtain ⟨⟨hV, hN, hway, hnum, hm, hSl, hSV⟩, eV, eN, ew, en, ⟨eS, hS⟩, hT⟩ := id hA
  refine Ct.of (own := RX5) rfl (by decide +kernel) (Nat.le_of_ble_eq_true rfl) rfl (fun Γ h => ?_)
  refine w_iload_n h (pc := 0) dX5_learn_0 rfl ?_
  refine w_iconst h (pc := 1) dX5_learn_1 ?_
  refine w_icmp_lt h (pc := 2) (tgt := 11) dX5_learn_2 (by decide) (by omega) (by omega) (fun c2 => by exfalso; omega) (fun c2 => ?_)
  refine w_iload_n h (pc := 5) dX5_learn_5 rfl ?_
  refine w_bipush h (pc := 6) dX5_learn_6 (by decide) ?_
  refine w_icmp_le h (pc := 8) (tgt := 21) dX5_learn_8 (by decide) (by omega) (by omega) (fun c8 => ?_) (fun c8 => by exfalso; omega)
  refine w_aload_n h (pc := 21) dX5_learn_21 rfl ?_
  refine g0_ledger h (pc := 22) wm_16 dX5_learn_22 ?_
  refine g1_words h (pc := 25) eV wm_113 dX5_learn_25 ?_
  refine w_if_ne h (pc := 28) (tgt := 41) dX5_learn_28 (by decide) (by omega) (fun c28 => ?_) (fun c28 => by exfalso; omega)
  refine w_aload_n h (pc := 41) dX5_learn_41 rfl ?_
  refine w_iload_n h (pc := 42) dX5_learn_42 rfl ?_
  refine w_callV1 h (pc := 43) (mX5_addSentence l D κ a ε V N way num m S T u hA c hc (by omega) hS6) 0 rfl rfl (gdV wm_166 wm_167 wm_168 wm_2 wm_169) (by decide +kernel) ⟨(Nat.le_of_ble_eq_true rfl), (Nat.le_of_ble_eq_true rfl)⟩ ⟨(Nat.le_of_ble_eq_true rfl), (Nat.le_of_ble_eq_true rfl)⟩ (fun _ _ _ => ⟨rfl, rfl⟩) (Nat.le_of_ble_eq_true rfl) dX5_learn_43 (fun v1 u1 hp1 => ?_)
  obtain ⟨rfl, hF1, T1, hA1, hs1⟩ := hp1
  have hT1 := hA1.2.2.2.2.2.2
  have eN1 := hA1.2.2.1
  have hsum : sm (fun i => (T1 i).length) N ≤ 4 * (m + 28) := Nat.le_trans (sm_bound N (B := m + 28) (fun i hi => (hT1 i (by omega)).2.2.2.1)) (Nat.mul_le_mul_right _ hN.2)
  simp only [Option.toList_none, List.nil_append]
  refine w_aload_n h (pc := 46) dX5_learn_46 rfl ?_
  refine g0_ledger h (pc := 47) wm_16 dX5_learn_47 ?_
  refine w_callV0 h (pc := 50) (mX0_sizeInAll l D κ a ε V (m + 28) u1 T1 hT1 N hN.2 eN1 (by omega)) 1 rfl rfl (gdV wm_200 wm_201 wm_202 wm_15 wm_203) (by decide +kernel) ⟨(Nat.le_of_ble_eq_true rfl), (Nat.le_of_ble_eq_true rfl)⟩ ⟨(Nat.le_of_ble_eq_true rfl), (Nat.le_of_ble_eq_true rfl)⟩ (fun _ _ _ => ⟨rfl, rfl⟩) (Nat.le_of_ble_eq_true rfl) dX5_learn_50 (fun v2 u2 hp2 => ?_)
  obtain ⟨rfl, e2⟩ := hp2
  obtain rfl := e2.symm
  simp only [Option.toList_some, List.cons_append, List.nil_append]
  refine w_sipush h (pc := 53) dX5_learn_53 (by decide) ?_
  refine w_icmp_le h (pc := 56) (tgt := 75) dX5_learn_56 (by decide) (by omega) (by omega) (fun c56 => ?_) (fun c56 => by exfalso; omega)
  refine w_aload_n h (pc := 75) dX5_learn_75 rfl ?_
  refine g0_ledger h (pc := 76) wm_16 dX5_learn_76 ?_
  refine w_callV0 h (pc := 79) (mX0_sizeInAll l D κ a ε V (m + 28) u1 T1 hT1 N hN.2 eN1 (by omega)) 1 rfl rfl (gdV wm_200 wm_201 wm_202 wm_15 wm_203) (by decide +kernel) ⟨(Nat.le_of_ble_eq_true rfl), (Nat.le_of_ble_eq_true rfl)⟩ ⟨(Nat.le_of_ble_eq_true rfl), (Nat.le_of_ble_eq_true rfl)⟩ (fun _ _ _ => ⟨rfl, rfl⟩) (Nat.le_of_ble_eq_true rfl) dX5_learn_79 (fun v3 u3 hp3 => ?_)
  obtain ⟨rfl, e3⟩ := hp3
  obtain rfl := e3.symm
  simp only [Option.toList_some, List.cons_append, List.nil_append]
  exact w_iret h (pc := 82) (ty := .int) rfl rfl dX5_learn_82 (Nat.le_of_ble_eq_true rfl) (Nat.le_of_ble_eq_true rfl) ⟨hF1, T1, hA1, hs1, rfl⟩

set_option maxHeartbeats 4000000 in
set_option maxRecDepth 100000 in
theorem mX5_unlearn (l : Launch) (D : va_G) (κ a : Nat → Nat) (ε : EE) (V N way num m : Nat) (S : List Nat) (T : Nat → List (Nat × Nat)) (u : US) (hA : AB V N way num m S T u) (hcan : ∀ n, 1 ≤ n → n ≤ N → ∀ p : Nat, p ≤ S.length → oc (ky V S (p : Int) n) (kys V S n (S.length + 1)) ≤ gt (T (n - 1)) (ky V S (p : Int) n)) : Ct (W0 κ a) l D κ ε yX5_unlearn cX5_unlearn 1 (some .int) 6 154 0 0 u [.ref (a 0)] (fun v u' => (∃ g : Nat, v = some (.int (iI (g : Int))) ∧ g ≤ 52) ∧ Fr tS tG u u' ∧ ∃ T1, AB V N way num m S T1 u' ∧ ∀ i, i < 4 → T1 i = lwT V S T 1 N 0 i) := by
  obtain ⟨⟨hV, hN, hway, hnum, hm, hSl, hSV⟩, eV, eN, ew, en, ⟨eS, hS⟩, hT⟩ := id hA
  refine Ct.of (own := RX5) rfl (by decide +kernel) (Nat.le_of_ble_eq_true rfl) rfl (fun Γ h => ?_)
  refine w_aload_n h (pc := 0) dX5_unlearn_0 rfl ?_
  refine w_callV0 h (pc := 1) (mX5_canTakeSentence l D κ a ε V N way num m S T u hA hcan) 0 rfl rfl (gdV wm_390 wm_391 wm_392 wm_2 wm_393) (by decide +kernel) ⟨(Nat.le_of_ble_eq_true rfl), (Nat.le_of_ble_eq_true rfl)⟩ ⟨(Nat.le_of_ble_eq_true rfl), (Nat.le_of_ble_eq_true rfl)⟩ (fun _ _ _ => ⟨rfl, rfl⟩) (Nat.le_of_ble_eq_true rfl) dX5_unlearn_1 (fun v1 u1 hp1 => ?_)
  obtain ⟨rfl, e1⟩ := hp1
  obtain rfl := e1.symm
  simp only [Option.toList_some, List.cons_append, List.nil_append]
  refine w_if_ne h (pc := 4) (tgt := 17) dX5_unlearn_4 (by decide) (by omega) (fun c4 => ?_) (fun c4 => by exfalso; omega)
  refine w_aload_n h (pc := 17) dX5_unlearn_17 rfl ?_
  refine w_iconst h (pc := 18) dX5_unlearn_18 ?_
  refine w_callV1 h (pc := 19) (mX5_takeSentence l D κ a ε V N way num m S T u hA 1 (by omega)) 0 rfl rfl (gdV wm_204 wm_205 wm_206 wm_2 wm_207) (by decide +kernel) ⟨(Nat.le_of_ble_eq_true rfl), (Nat.le_of_ble_eq_true rfl)⟩ ⟨(Nat.le_of_ble_eq_true rfl), (Nat.le_of_ble_eq_true rfl)⟩ (fun _ _ _ => ⟨rfl, rfl⟩) (Nat.le_of_ble_eq_true rfl) dX5_unlearn_19 (fun v2 u2 hp2 => ?_)
  obtain ⟨⟨g, rfl, hg⟩, hF2, hx2⟩ := hp2
  simp only [Option.toList_some, List.cons_append, List.nil_append]
  exact w_iret h (pc := 22) (ty := .int) rfl rfl dX5_unlearn_22 (Nat.le_of_ble_eq_true rfl) (Nat.le_of_ble_eq_true rfl) ⟨⟨g, rfl, hg⟩, hF2, hx2⟩

set_option maxHeartbeats 4000000 in
set_option maxRecDepth 100000 in
theorem mX5_length (l : Launch) (D : va_G) (κ a : Nat → Nat) (ε : EE) (V N way num m : Nat) (S : List Nat) (T : Nat → List (Nat × Nat)) (u : US) (hA : AB V N way num m S T u) : Ct (W0 κ a) l D κ ε yX5_length cX5_length 1 (some .int) 0 0 0 0 u [.ref (a 0)] (fun v u' => v = some (.int (iI (S.length : Int))) ∧ u' = u) := by
  obtain ⟨⟨hV, hN, hway, hnum, hm, hSl, hSV⟩, eV, eN, ew, en, ⟨eS, hS⟩, hT⟩ := id hA
  refine Ct.of (own := RX5) rfl (by decide +kernel) (Nat.le_of_ble_eq_true rfl) rfl (fun Γ h => ?_)
  refine w_aload_n h (pc := 0) dX5_length_0 rfl ?_
  refine g0_length h (pc := 1) eS wm_33 dX5_length_1 ?_
  exact w_iret h (pc := 4) (ty := .int) rfl rfl dX5_length_4 (Nat.le_of_ble_eq_true rfl) (Nat.le_of_ble_eq_true rfl) ⟨rfl, rfl⟩

set_option maxHeartbeats 4000000 in
set_option maxRecDepth 100000 in
theorem mX5_wordAt (l : Launch) (D : va_G) (κ a : Nat → Nat) (ε : EE) (V N way num m : Nat) (S : List Nat) (T : Nat → List (Nat × Nat)) (u : US) (hA : AB V N way num m S T u) (j w : Nat) (hj : S[j]? = some w) : Ct (W0 κ a) l D κ ε yX5_wordAt cX5_wordAt 2 (some .int) 0 0 0 0 u [.ref (a 0), .int (iI (j : Int))] (fun v u' => v = some (.int (iI (w : Int))) ∧ u' = u) := by
  obtain ⟨⟨hV, hN, hway, hnum, hm, hSl, hSV⟩, eV, eN, ew, en, ⟨eS, hS⟩, hT⟩ := id hA
  have hj9 := (List.getElem?_eq_some_iff.mp hj).1
  refine Ct.of (own := RX5) rfl (by decide +kernel) (Nat.le_of_ble_eq_true rfl) rfl (fun Γ h => ?_)
  refine w_iload_n h (pc := 0) dX5_wordAt_0 rfl ?_
  refine w_if_lt h (pc := 1) (tgt := 12) dX5_wordAt_1 (by decide) (by omega) (fun c1 => by exfalso; omega) (fun c1 => ?_)
  refine w_iload_n h (pc := 4) dX5_wordAt_4 rfl ?_
  refine w_aload_n h (pc := 5) dX5_wordAt_5 rfl ?_
  refine g0_length h (pc := 6) eS wm_33 dX5_wordAt_6 ?_
  refine w_icmp_lt h (pc := 9) (tgt := 22) dX5_wordAt_9 (by decide) (by omega) (by omega) (fun c9 => ?_) (fun c9 => by exfalso; omega)
  refine w_aload_n h (pc := 22) dX5_wordAt_22 rfl ?_
  refine g0_sentence h (pc := 23) wm_32 dX5_wordAt_23 ?_
  refine w_iload_n h (pc := 26) dX5_wordAt_26 rfl ?_
  refine ld_sentence h (pc := 27) (by omega) (hS j w hj) dX5_wordAt_27 ?_
  exact w_iret h (pc := 28) (ty := .int) rfl rfl dX5_wordAt_28 (Nat.le_of_ble_eq_true rfl) (Nat.le_of_ble_eq_true rfl) ⟨rfl, rfl⟩

set_option maxHeartbeats 4000000 in
set_option maxRecDepth 100000 in
theorem mX5_entries (l : Launch) (D : va_G) (κ a : Nat → Nat) (ε : EE) (V N way num m : Nat) (S : List Nat) (T : Nat → List (Nat × Nat)) (u : US) (hA : AB V N way num m S T u) (n : Nat) (hn : 1 ≤ n ∧ n ≤ N) : Ct (W0 κ a) l D κ ε yX5_entries cX5_entries 2 (some .int) 2 42 0 0 u [.ref (a 0), .int (iI (n : Int))] (fun v u' => v = some (.int (iI ((T (n - 1)).length : Int))) ∧ u' = u) := by
  obtain ⟨⟨hV, hN, hway, hnum, hm, hSl, hSV⟩, eV, eN, ew, en, ⟨eS, hS⟩, hT⟩ := id hA
  refine Ct.of (own := RX5) rfl (by decide +kernel) (Nat.le_of_ble_eq_true rfl) rfl (fun Γ h => ?_)
  refine w_aload_n h (pc := 0) dX5_entries_0 rfl ?_
  refine w_iload_n h (pc := 1) dX5_entries_1 rfl ?_
  refine w_callV1 h (pc := 2) (mX5_isOrder l D κ a ε V N way num m S T u hA n hn) 0 rfl rfl (gdV wm_460 wm_461 wm_462 wm_2 wm_463) (by decide +kernel) ⟨(Nat.le_of_ble_eq_true rfl), (Nat.le_of_ble_eq_true rfl)⟩ ⟨(Nat.le_of_ble_eq_true rfl), (Nat.le_of_ble_eq_true rfl)⟩ (fun _ _ _ => ⟨rfl, rfl⟩) (Nat.le_of_ble_eq_true rfl) dX5_entries_2 (fun v1 u1 hp1 => ?_)
  obtain ⟨rfl, e1⟩ := hp1
  obtain rfl := e1.symm
  simp only [Option.toList_some, List.cons_append, List.nil_append]
  refine w_if_ne h (pc := 5) (tgt := 18) dX5_entries_5 (by decide) (by omega) (fun c5 => ?_) (fun c5 => by exfalso; omega)
  refine w_aload_n h (pc := 18) dX5_entries_18 rfl ?_
  refine g0_ledger h (pc := 19) wm_16 dX5_entries_19 ?_
  refine w_iload_n h (pc := 22) dX5_entries_22 rfl ?_
  refine w_callV1 h (pc := 23) (mX0_countsOf l D κ a ε u n (by omega)) 1 rfl rfl (gdV wm_269 wm_120 wm_121 wm_15 wm_122) (by decide +kernel) ⟨(Nat.le_of_ble_eq_true rfl), (Nat.le_of_ble_eq_true rfl)⟩ ⟨(Nat.le_of_ble_eq_true rfl), (Nat.le_of_ble_eq_true rfl)⟩ (fun _ _ _ => ⟨rfl, rfl⟩) (Nat.le_of_ble_eq_true rfl) dX5_entries_23 (fun v2 u2 hp2 => ?_)
  obtain ⟨rfl, e2⟩ := hp2
  obtain rfl := e2.symm
  simp only [Option.toList_some, List.cons_append, List.nil_append]
  refine gT_size h (pc := 26) (by omega) (hT (n - 1) (by omega)).1.1 wm_266 dX5_entries_26 ?_
  exact w_iret h (pc := 29) (ty := .int) rfl rfl dX5_entries_29 (Nat.le_of_ble_eq_true rfl) (Nat.le_of_ble_eq_true rfl) ⟨rfl, rfl⟩

set_option maxHeartbeats 4000000 in
set_option maxRecDepth 100000 in
theorem mX5_ofContext (l : Launch) (D : va_G) (κ a : Nat → Nat) (ε : EE) (V N way num m : Nat) (S : List Nat) (T : Nat → List (Nat × Nat)) (u : US) (hA : AB V N way num m S T u) (n : Nat) (hn : 1 ≤ n ∧ n ≤ N) : Ct (W0 κ a) l D κ ε yX5_ofContext cX5_ofContext 3 (some .int) 3 70 0 0 u [.ref (a 0), .int (iI (n : Int)), .int (iI 0)] (fun v u' => v = some (.int (iI (rfS (T (n - 1)) (ky V S ((S.length : Int) - 1) (n - 1)) V : Int))) ∧ Fr [8, 9] [10] u u') := by
  obtain ⟨⟨hV, hN, hway, hnum, hm, hSl, hSV⟩, eV, eN, ew, en, ⟨eS, hS⟩, hT⟩ := id hA
  refine Ct.of (own := RX5) rfl (by decide +kernel) (Nat.le_of_ble_eq_true rfl) rfl (fun Γ h => ?_)
  refine w_aload_n h (pc := 0) dX5_ofContext_0 rfl ?_
  refine w_iload_n h (pc := 1) dX5_ofContext_1 rfl ?_
  refine w_callV1 h (pc := 2) (mX5_isOrder l D κ a ε V N way num m S T u hA n hn) 0 rfl rfl (gdV wm_460 wm_461 wm_462 wm_2 wm_463) (by decide +kernel) ⟨(Nat.le_of_ble_eq_true rfl), (Nat.le_of_ble_eq_true rfl)⟩ ⟨(Nat.le_of_ble_eq_true rfl), (Nat.le_of_ble_eq_true rfl)⟩ (fun _ _ _ => ⟨rfl, rfl⟩) (Nat.le_of_ble_eq_true rfl) dX5_ofContext_2 (fun v1 u1 hp1 => ?_)
  obtain ⟨rfl, e1⟩ := hp1
  obtain rfl := e1.symm
  simp only [Option.toList_some, List.cons_append, List.nil_append]
  refine w_if_eq h (pc := 5) (tgt := 17) dX5_ofContext_5 (by decide) (by omega) (fun c5 => by exfalso; omega) (fun c5 => ?_)
  refine w_iload_n h (pc := 8) dX5_ofContext_8 rfl ?_
  refine w_if_lt h (pc := 9) (tgt := 17) dX5_ofContext_9 (by decide) (by omega) (fun c9 => by exfalso; omega) (fun c9 => ?_)
  refine w_iload_n h (pc := 12) dX5_ofContext_12 rfl ?_
  refine w_iconst h (pc := 13) dX5_ofContext_13 ?_
  refine w_icmp_le h (pc := 14) (tgt := 27) dX5_ofContext_14 (by decide) (by omega) (by omega) (fun c14 => ?_) (fun c14 => by exfalso; omega)
  refine w_aload_n h (pc := 27) dX5_ofContext_27 rfl ?_
  refine w_iload_n h (pc := 28) dX5_ofContext_28 rfl ?_
  refine w_iload_n h (pc := 29) dX5_ofContext_29 rfl ?_
  refine w_callV2 h (pc := 30) (mX5_totalBehind0 l D κ a ε V N way num m S T u hA n hn) 0 rfl rfl (gdV wm_275 wm_276 wm_277 wm_2 wm_278) (by decide +kernel) ⟨(Nat.le_of_ble_eq_true rfl), (Nat.le_of_ble_eq_true rfl)⟩ ⟨(Nat.le_of_ble_eq_true rfl), (Nat.le_of_ble_eq_true rfl)⟩ (fun _ _ _ => ⟨rfl, rfl⟩) (Nat.le_of_ble_eq_true rfl) dX5_ofContext_30 (fun v2 u2 hp2 => ?_)
  obtain ⟨rfl, hF2⟩ := hp2
  simp only [Option.toList_some, List.cons_append, List.nil_append]
  exact w_iret h (pc := 33) (ty := .int) rfl rfl dX5_ofContext_33 (Nat.le_of_ble_eq_true rfl) (Nat.le_of_ble_eq_true rfl) ⟨rfl, hF2⟩

set_option maxHeartbeats 4000000 in
set_option maxRecDepth 100000 in
theorem mX5_prune (l : Launch) (D : va_G) (κ a : Nat → Nat) (ε : EE) (V N way num m : Nat) (S : List Nat) (T : Nat → List (Nat × Nat)) (u : US) (hA : AB V N way num m S T u) (n : Nat) (hn : 2 ≤ n ∧ n ≤ N) (lst dm : Nat) (hl9 : 1 ≤ lst ∧ lst ≤ 1000) (hdm : ∀ b ∈ T (n - 1), (b.2 < lst ∧ dm = 1) ∨ (lst ≤ b.2 ∧ dm = 0)) (hd01 : dm = 0 ∨ dm = 1) : Ct (W0 κ a) l D κ ε yX5_prune cX5_prune 5 (some .int) 6 153 0 0 u [.ref (a 0), .int (iI (n : Int)), .int (iI (lst : Int))] (fun v u' => v = some (.int (iI ((dm * (T (n - 1)).length : Nat) : Int))) ∧ Fr tS (5 :: tG) u u' ∧ ∃ T1, AB V N way num m S T1 u' ∧ (dm = 0 → ∀ i, i < 4 → T1 i = T i) ∧ (dm = 1 → T1 (n - 1) = [])) := by
  obtain ⟨⟨hV, hN, hway, hnum, hm, hSl, hSV⟩, eV, eN, ew, en, ⟨eS, hS⟩, hT⟩ := id hA
  have hT0 := hT (n - 1) (by omega)
  have hlen := hT0.2.2.2.1
  refine Ct.of (own := RX5) rfl (by decide +kernel) (Nat.le_of_ble_eq_true rfl) rfl (fun Γ h => ?_)
  refine w_iload_n h (pc := 0) dX5_prune_0 rfl ?_
  refine w_iconst h (pc := 1) dX5_prune_1 ?_
  refine w_icmp_lt h (pc := 2) (tgt := 28) dX5_prune_2 (by decide) (by omega) (by omega) (fun c2 => by exfalso; omega) (fun c2 => ?_)
  refine w_iload_n h (pc := 5) dX5_prune_5 rfl ?_
  refine w_aload_n h (pc := 6) dX5_prune_6 rfl ?_
  refine g0_ledger h (pc := 7) wm_16 dX5_prune_7 ?_
  refine g1_order h (pc := 10) eN wm_140 dX5_prune_10 ?_
  refine w_icmp_gt h (pc := 13) (tgt := 28) dX5_prune_13 (by decide) (by omega) (by omega) (fun c13 => by exfalso; omega) (fun c13 => ?_)
  refine w_iload_n h (pc := 16) dX5_prune_16 rfl ?_
  refine w_iconst h (pc := 17) dX5_prune_17 ?_
  refine w_icmp_lt h (pc := 18) (tgt := 28) dX5_prune_18 (by decide) (by omega) (by omega) (fun c18 => by exfalso; omega) (fun c18 => ?_)
  refine w_iload_n h (pc := 21) dX5_prune_21 rfl ?_
  refine w_sipush h (pc := 22) dX5_prune_22 (by decide) ?_
  refine w_icmp_le h (pc := 25) (tgt := 38) dX5_prune_25 (by decide) (by omega) (by omega) (fun c25 => ?_) (fun c25 => by exfalso; omega)
  refine w_aload_n h (pc := 38) dX5_prune_38 rfl ?_
  refine g0_ledger h (pc := 39) wm_16 dX5_prune_39 ?_
  refine w_iload_n h (pc := 42) dX5_prune_42 rfl ?_
  refine w_callV1 h (pc := 43) (mX0_countsOf l D κ a ε u n (by omega)) 1 rfl rfl (gdV wm_269 wm_120 wm_121 wm_15 wm_122) (by decide +kernel) ⟨(Nat.le_of_ble_eq_true rfl), (Nat.le_of_ble_eq_true rfl)⟩ ⟨(Nat.le_of_ble_eq_true rfl), (Nat.le_of_ble_eq_true rfl)⟩ (fun _ _ _ => ⟨rfl, rfl⟩) (Nat.le_of_ble_eq_true rfl) dX5_prune_43 (fun v1 u1 hp1 => ?_)
  obtain ⟨rfl, e1⟩ := hp1
  obtain rfl := e1.symm
  simp only [Option.toList_some, List.cons_append, List.nil_append]
  refine w_astore_n h (pc := 46) dX5_prune_46 (by decide) ?_
  refine w_iconst h (pc := 47) dX5_prune_47 ?_
  refine w_istore h (pc := 48) dX5_prune_48 (by decide) ?_
  have lp50 : ∀ (n9 e : Nat) (w : US), (T (n - 1)).length < e + n9 → e ≤ (T (n - 1)).length → Fr [] [5] u w → (∀ x, x < e → w.2 5 x = (dm : Int)) → WW Γ 5 w 50 [(0, .ref (a 0)), (1, .int (iI (n : Int))), (2, .int (iI (lst : Int))), (3, .ref (a (30 + 3 * (n - 1)))), (4, .int (iI (e : Int)))] [] := by
    intro n9
    induction n9 with
    | zero => intro e w hn9 he hF hd; exfalso; omega
    | succ n9 ih =>
      intro e w hn9 he hF hd
      have hTw : TR w (n - 1) (T (n - 1)) := hT0.1.of (by omega) hF (by simp) (by simp [tG])
      refine w_iload h (pc := 50) dX5_prune_50 rfl ?_
      refine w_aload_n h (pc := 52) dX5_prune_52 rfl ?_
      refine gT_size h (pc := 53) (by omega) hTw.1 wm_266 dX5_prune_53 ?_
      refine w_icmp_ge h (pc := 56) (tgt := 88) dX5_prune_56 (by decide) (by omega) (by omega) (fun c56 => ?_) (fun c56 => ?_)
      · have hAw := hA.of hF (by simp) (by simp [tG]) (by simp) (by simp)
        refine w_aload_n h (pc := 88) dX5_prune_88 rfl ?_
        refine w_iload_n h (pc := 89) dX5_prune_89 rfl ?_
        refine w_callV1 h (pc := 90) (mX5_dropDoomed l D κ a ε V N way num m S T w hAw n hn dm hd01 (fun x hx => hd x (by omega))) 0 rfl rfl (gdV wm_468 wm_469 wm_470 wm_2 wm_471) (by decide +kernel) ⟨(Nat.le_of_ble_eq_true rfl), (Nat.le_of_ble_eq_true rfl)⟩ ⟨(Nat.le_of_ble_eq_true rfl), (Nat.le_of_ble_eq_true rfl)⟩ (fun _ _ _ => ⟨rfl, rfl⟩) (Nat.le_of_ble_eq_true rfl) dX5_prune_90 (fun v2 u2 hp2 => ?_)
        obtain ⟨rfl, hF2, hx2⟩ := hp2
        simp only [Option.toList_some, List.cons_append, List.nil_append]
        exact w_iret h (pc := 93) (ty := .int) rfl rfl dX5_prune_93 (Nat.le_of_ble_eq_true rfl) (Nat.le_of_ble_eq_true rfl) ⟨rfl, (hF.up (by intro k hk; simp_all) (by intro k hk; simp_all)).tr (hF2.up (by intro k hk; simp_all) (by intro k hk; simp_all)), hx2⟩
      · obtain ⟨b, hb⟩ := getN (t := T (n - 1)) (j := e) (by omega)
        have hcv := (hTw.2 _ b hb).2
        have hbb := hT0.2.2.2.2 b (List.mem_of_getElem? hb)
        have hdb := hdm b (List.mem_of_getElem? hb)
        refine w_aload_n h (pc := 59) dX5_prune_59 rfl ?_
        refine g0_doomed h (pc := 60) wm_30 dX5_prune_60 ?_
        refine w_iload h (pc := 63) dX5_prune_63 rfl ?_
        refine w_aload_n h (pc := 65) dX5_prune_65 rfl ?_
        refine gT_counts h (pc := 66) (by omega) wm_268 dX5_prune_66 ?_
        refine w_iload h (pc := 69) dX5_prune_69 rfl ?_
        refine ld_counts h (pc := 71) (by omega) (by omega) hcv dX5_prune_71 ?_
        refine w_iload_n h (pc := 72) dX5_prune_72 rfl ?_
        refine w_icmp_ge h (pc := 73) (tgt := 80) dX5_prune_73 (by decide) (by omega) (by omega) (fun c73 => ?_) (fun c73 => ?_)
        · refine w_iconst h (pc := 80) dX5_prune_80 ?_
          refine st_doomed h (pc := 81) (by omega) (by omega) dX5_prune_81 ?_
          refine w_iinc h (pc := 82) dX5_prune_82 rfl (by decide) ?_
          refine w_goto h (pc := 85) (tgt := 50) dX5_prune_85 (by decide) ?_
          refine WW.sub (by rfl) (ih (e + 1) _ (by omega) (by omega) (hF.tr (Fr.A (by simp))) (fun x hx => ?_))
          rw [uA_at]
          unfold upI
          rw [Int.toNat_natCast]
          by_cases q : x = e
          · rw [if_pos q]; omega
          · rw [if_neg q]; exact hd x (by omega)
        · refine w_iconst h (pc := 76) dX5_prune_76 ?_
          refine w_goto h (pc := 77) (tgt := 81) dX5_prune_77 (by decide) ?_
          refine st_doomed h (pc := 81) (by omega) (by omega) dX5_prune_81 ?_
          refine w_iinc h (pc := 82) dX5_prune_82 rfl (by decide) ?_
          refine w_goto h (pc := 85) (tgt := 50) dX5_prune_85 (by decide) ?_
          refine WW.sub (by rfl) (ih (e + 1) _ (by omega) (by omega) (hF.tr (Fr.A (by simp))) (fun x hx => ?_))
          rw [uA_at]
          unfold upI
          rw [Int.toNat_natCast]
          by_cases q : x = e
          · rw [if_pos q]; omega
          · rw [if_neg q]; exact hd x (by omega)
  exact WW.sub (by rfl) (lp50 ((T (n - 1)).length + 1) 0 u (by omega) (by omega) Fr.rfl (fun x hx => absurd hx (Nat.not_lt_zero x)))

set_option maxHeartbeats 4000000 in
set_option maxRecDepth 100000 in
theorem mX5_setWay (l : Launch) (D : va_G) (κ a : Nat → Nat) (ε : EE) (V N way num m : Nat) (S : List Nat) (T : Nat → List (Nat × Nat)) (u : US) (hA : AB V N way num m S T u) (w n : Nat) (hw : w ≤ 4) (hn : 1 ≤ n ∧ n ≤ 1000) : Ct (W0 κ a) l D κ ε yX5_setWay cX5_setWay 4 (some .int) 1 21 0 0 u [.ref (a 0), .int (iI (w : Int)), .int (iI (n : Int))] (fun v u' => v = some (.int (iI (way : Int))) ∧ Fr [6, 7] [] u u' ∧ AB V N w n m S T u') := by
  obtain ⟨⟨hV, hN, hway, hnum, hm, hSl, hSV⟩, eV, eN, ew, en, ⟨eS, hS⟩, hT⟩ := id hA
  refine Ct.of (own := RX5) rfl (by decide +kernel) (Nat.le_of_ble_eq_true rfl) rfl (fun Γ h => ?_)
  refine w_iload_n h (pc := 0) dX5_setWay_0 rfl ?_
  refine w_iload_n h (pc := 1) dX5_setWay_1 rfl ?_
  refine w_callS2 h (pc := 2) (mX5_isWay l D κ a ε u w n hw hn) (gdS wm_250 wm_251 wm_2 wm_252) (by decide +kernel) ⟨(Nat.le_of_ble_eq_true rfl), (Nat.le_of_ble_eq_true rfl)⟩ ⟨(Nat.le_of_ble_eq_true rfl), (Nat.le_of_ble_eq_true rfl)⟩ (fun _ _ _ => ⟨rfl, rfl⟩) (Nat.le_of_ble_eq_true rfl) dX5_setWay_2 (fun v1 u1 hp1 => ?_)
  obtain ⟨rfl, e1⟩ := hp1
  obtain rfl := e1.symm
  simp only [Option.toList_some, List.cons_append, List.nil_append]
  refine w_if_ne h (pc := 5) (tgt := 18) dX5_setWay_5 (by decide) (by omega) (fun c5 => ?_) (fun c5 => by exfalso; omega)
  refine w_aload_n h (pc := 18) dX5_setWay_18 rfl ?_
  refine g0_reckoner h (pc := 19) wm_20 dX5_setWay_19 ?_
  refine g2_way h (pc := 22) ew wm_248 dX5_setWay_22 ?_
  refine w_istore_n h (pc := 25) dX5_setWay_25 (by decide) ?_
  refine w_aload_n h (pc := 26) dX5_setWay_26 rfl ?_
  refine g0_reckoner h (pc := 27) wm_20 dX5_setWay_27 ?_
  refine w_iload_n h (pc := 30) dX5_setWay_30 rfl ?_
  refine p2_way h (pc := 31) wm_248 dX5_setWay_31 ?_
  refine w_aload_n h (pc := 34) dX5_setWay_34 rfl ?_
  refine g0_reckoner h (pc := 35) wm_20 dX5_setWay_35 ?_
  refine w_iload_n h (pc := 38) dX5_setWay_38 rfl ?_
  refine p2_number h (pc := 39) wm_249 dX5_setWay_39 ?_
  refine w_iload_n h (pc := 42) dX5_setWay_42 rfl ?_
  exact w_iret h (pc := 43) (ty := .int) rfl rfl dX5_setWay_43 (Nat.le_of_ble_eq_true rfl) (Nat.le_of_ble_eq_true rfl) ⟨rfl, (Fr.S (by simp)).tr (Fr.S (by simp)), ⟨hV, hN, hw, hn, hm, hSl, hSV⟩, eV, eN, rfl, rfl, ⟨eS, hS⟩, hT.of ((Fr.S (ls := [6, 7]) (gs := []) (by simp)).tr (Fr.S (by simp))) (by simp [tS]) (by simp)⟩

set_option maxHeartbeats 4000000 in
set_option maxRecDepth 100000 in
theorem mX5_chance (l : Launch) (D : va_G) (κ a : Nat → Nat) (ε : EE) (V N way num m : Nat) (S : List Nat) (T : Nat → List (Nat × Nat)) (u : US) (hA : AB V N way num m S T u) (w : Nat) (hw : w ≤ V) : Ct (W0 κ a) l D κ ε yX5_chance cX5_chance 2 (some .int) 5 116 0 0 u [.ref (a 0), .int (iI (w : Int))] (fun v u' => v = some (.int (iI ((chz V N way num S T (S.length : Int)) w : Int))) ∧ Fr [8, 9] [9, 10] u u') := by
  obtain ⟨⟨hV, hN, hway, hnum, hm, hSl, hSV⟩, eV, eN, ew, en, ⟨eS, hS⟩, hT⟩ := id hA
  refine Ct.of (own := RX5) rfl (by decide +kernel) (Nat.le_of_ble_eq_true rfl) rfl (fun Γ h => ?_)
  refine w_iload_n h (pc := 0) dX5_chance_0 rfl ?_
  refine w_if_lt h (pc := 1) (tgt := 15) dX5_chance_1 (by decide) (by omega) (fun c1 => by exfalso; omega) (fun c1 => ?_)
  refine w_iload_n h (pc := 4) dX5_chance_4 rfl ?_
  refine w_aload_n h (pc := 5) dX5_chance_5 rfl ?_
  refine g0_ledger h (pc := 6) wm_16 dX5_chance_6 ?_
  refine g1_words h (pc := 9) eV wm_113 dX5_chance_9 ?_
  refine w_icmp_le h (pc := 12) (tgt := 25) dX5_chance_12 (by decide) (by omega) (by omega) (fun c12 => ?_) (fun c12 => by exfalso; omega)
  refine w_aload_n h (pc := 25) dX5_chance_25 rfl ?_
  refine w_callV0 h (pc := 26) (mX5_reckonBehindSentence l D κ a ε V N way num m S T u hA) 0 rfl rfl (gdV wm_298 wm_299 wm_300 wm_2 wm_301) (by decide +kernel) ⟨(Nat.le_of_ble_eq_true rfl), (Nat.le_of_ble_eq_true rfl)⟩ ⟨(Nat.le_of_ble_eq_true rfl), (Nat.le_of_ble_eq_true rfl)⟩ (fun _ _ _ => ⟨rfl, rfl⟩) (Nat.le_of_ble_eq_true rfl) dX5_chance_26 (fun v1 u1 hp1 => ?_)
  obtain ⟨rfl, hF1, hc1⟩ := hp1
  have eV1 : u1.1 4 = (V : Int) := (hF1.1 4 (by simp)).trans eV
  have hcl : ∀ x, x ≤ V → (chz V N way num S T (S.length : Int)) x ≤ 1000000 := fun x hx => chz_le hnum hN.1 _ hx
  simp only [Option.toList_none, List.nil_append]
  refine w_aload_n h (pc := 29) dX5_chance_29 rfl ?_
  refine g0_reckoner h (pc := 30) wm_20 dX5_chance_30 ?_
  refine g2_chances h (pc := 33) wm_297 dX5_chance_33 ?_
  refine w_iload_n h (pc := 36) dX5_chance_36 rfl ?_
  refine ld_chances h (pc := 37) (by omega) (hc1 w hw) dX5_chance_37 ?_
  exact w_iret h (pc := 38) (ty := .int) rfl rfl dX5_chance_38 (Nat.le_of_ble_eq_true rfl) (Nat.le_of_ble_eq_true rfl) ⟨rfl, hF1⟩

set_option maxHeartbeats 4000000 in
set_option maxRecDepth 100000 in
theorem mX5_ranked (l : Launch) (D : va_G) (κ a : Nat → Nat) (ε : EE) (V N way num m : Nat) (S : List Nat) (T : Nat → List (Nat × Nat)) (u : US) (hA : AB V N way num m S T u) (r : Nat) (hr : r ≤ V) : Ct (W0 κ a) l D κ ε yX5_ranked cX5_ranked 2 (some .int) 5 116 0 0 u [.ref (a 0), .int (iI (r : Int))] (fun v u' => v = some (.int (iI (fw (chz V N way num S T (S.length : Int)) V r : Int))) ∧ Fr [8, 9] [9, 10] u u') := by
  obtain ⟨⟨hV, hN, hway, hnum, hm, hSl, hSV⟩, eV, eN, ew, en, ⟨eS, hS⟩, hT⟩ := id hA
  refine Ct.of (own := RX5) rfl (by decide +kernel) (Nat.le_of_ble_eq_true rfl) rfl (fun Γ h => ?_)
  refine w_iload_n h (pc := 0) dX5_ranked_0 rfl ?_
  refine w_if_lt h (pc := 1) (tgt := 15) dX5_ranked_1 (by decide) (by omega) (fun c1 => by exfalso; omega) (fun c1 => ?_)
  refine w_iload_n h (pc := 4) dX5_ranked_4 rfl ?_
  refine w_aload_n h (pc := 5) dX5_ranked_5 rfl ?_
  refine g0_ledger h (pc := 6) wm_16 dX5_ranked_6 ?_
  refine g1_words h (pc := 9) eV wm_113 dX5_ranked_9 ?_
  refine w_icmp_le h (pc := 12) (tgt := 25) dX5_ranked_12 (by decide) (by omega) (by omega) (fun c12 => ?_) (fun c12 => by exfalso; omega)
  refine w_aload_n h (pc := 25) dX5_ranked_25 rfl ?_
  refine w_callV0 h (pc := 26) (mX5_reckonBehindSentence l D κ a ε V N way num m S T u hA) 0 rfl rfl (gdV wm_298 wm_299 wm_300 wm_2 wm_301) (by decide +kernel) ⟨(Nat.le_of_ble_eq_true rfl), (Nat.le_of_ble_eq_true rfl)⟩ ⟨(Nat.le_of_ble_eq_true rfl), (Nat.le_of_ble_eq_true rfl)⟩ (fun _ _ _ => ⟨rfl, rfl⟩) (Nat.le_of_ble_eq_true rfl) dX5_ranked_26 (fun v1 u1 hp1 => ?_)
  obtain ⟨rfl, hF1, hc1⟩ := hp1
  have eV1 : u1.1 4 = (V : Int) := (hF1.1 4 (by simp)).trans eV
  have hcl : ∀ x, x ≤ V → (chz V N way num S T (S.length : Int)) x ≤ 1000000 := fun x hx => chz_le hnum hN.1 _ hx
  simp only [Option.toList_none, List.nil_append]
  refine w_aload_n h (pc := 29) dX5_ranked_29 rfl ?_
  refine g0_reckoner h (pc := 30) wm_20 dX5_ranked_30 ?_
  refine w_iload_n h (pc := 33) dX5_ranked_33 rfl ?_
  refine w_callV1 h (pc := 34) (mX1_withRank l D κ a ε V u1 hV eV1 (chz V N way num S T (S.length : Int)) (fun x hx => ⟨hc1 x hx, hcl x hx⟩) r hr) 2 rfl rfl (gdV wm_325 wm_326 wm_327 wm_19 wm_328) (by decide +kernel) ⟨(Nat.le_of_ble_eq_true rfl), (Nat.le_of_ble_eq_true rfl)⟩ ⟨(Nat.le_of_ble_eq_true rfl), (Nat.le_of_ble_eq_true rfl)⟩ (fun _ _ _ => ⟨rfl, rfl⟩) (Nat.le_of_ble_eq_true rfl) dX5_ranked_34 (fun v2 u2 hp2 => ?_)
  obtain ⟨rfl, e2⟩ := hp2
  obtain rfl := e2.symm
  simp only [Option.toList_some, List.cons_append, List.nil_append]
  exact w_iret h (pc := 37) (ty := .int) rfl rfl dX5_ranked_37 (Nat.le_of_ble_eq_true rfl) (Nat.le_of_ble_eq_true rfl) ⟨rfl, hF1⟩

set_option maxHeartbeats 4000000 in
set_option maxRecDepth 100000 in
theorem mX5_costOf (l : Launch) (D : va_G) (κ a : Nat → Nat) (ε : EE) (u : US) (p : Nat) (hp : p ≤ 1000000) : Ct (W0 κ a) l D κ ε yX5_costOf cX5_costOf 2 (some .int) 1 23 0 0 u [.ref (a 0), .int (iI (p : Int))] (fun v u' => v = some (.int (iI (co p : Int))) ∧ u' = u) := by
  refine Ct.of (own := RX5) rfl (by decide +kernel) (Nat.le_of_ble_eq_true rfl) rfl (fun Γ h => ?_)
  refine w_iload_n h (pc := 0) dX5_costOf_0 rfl ?_
  refine w_callS1 h (pc := 1) (mX5_cost l D κ a ε u p hp) (gdS wm_341 wm_342 wm_2 wm_343) (by decide +kernel) ⟨(Nat.le_of_ble_eq_true rfl), (Nat.le_of_ble_eq_true rfl)⟩ ⟨(Nat.le_of_ble_eq_true rfl), (Nat.le_of_ble_eq_true rfl)⟩ (fun _ _ _ => ⟨rfl, rfl⟩) (Nat.le_of_ble_eq_true rfl) dX5_costOf_1 (fun v1 u1 hp1 => ?_)
  obtain ⟨rfl, e1⟩ := hp1
  obtain rfl := e1.symm
  simp only [Option.toList_some, List.cons_append, List.nil_append]
  exact w_iret h (pc := 4) (ty := .int) rfl rfl dX5_costOf_4 (Nat.le_of_ble_eq_true rfl) (Nat.le_of_ble_eq_true rfl) ⟨rfl, rfl⟩

set_option maxHeartbeats 4000000 in
set_option maxRecDepth 100000 in
theorem mX5_score (l : Launch) (D : va_G) (κ a : Nat → Nat) (ε : EE) (V N way num m : Nat) (S : List Nat) (T : Nat → List (Nat × Nat)) (u : US) (hA : AB V N way num m S T u) : Ct (W0 κ a) l D κ ε yX5_score cX5_score 1 (some .int) 5 119 0 0 u [.ref (a 0)] (fun v u' => v = some (.int (iI (scr V N way num S T : Int))) ∧ Fr [8, 9] [9, 10] u u') := by
  obtain ⟨⟨hV, hN, hway, hnum, hm, hSl, hSV⟩, eV, eN, ew, en, ⟨eS, hS⟩, hT⟩ := id hA
  refine Ct.of (own := RX5) rfl (by decide +kernel) (Nat.le_of_ble_eq_true rfl) rfl (fun Γ h => ?_)
  refine w_aload_n h (pc := 0) dX5_score_0 rfl ?_
  refine w_callV0 h (pc := 1) (mX5_sumOfCosts l D κ a ε V N way num m S T u hA) 0 rfl rfl (gdV wm_337 wm_338 wm_339 wm_2 wm_340) (by decide +kernel) ⟨(Nat.le_of_ble_eq_true rfl), (Nat.le_of_ble_eq_true rfl)⟩ ⟨(Nat.le_of_ble_eq_true rfl), (Nat.le_of_ble_eq_true rfl)⟩ (fun _ _ _ => ⟨rfl, rfl⟩) (Nat.le_of_ble_eq_true rfl) dX5_score_1 (fun v1 u1 hp1 => ?_)
  obtain ⟨rfl, hF1⟩ := hp1
  simp only [Option.toList_some, List.cons_append, List.nil_append]
  exact w_iret h (pc := 4) (ty := .int) rfl rfl dX5_score_4 (Nat.le_of_ble_eq_true rfl) (Nat.le_of_ble_eq_true rfl) ⟨rfl, hF1⟩

set_option maxHeartbeats 4000000 in
set_option maxRecDepth 100000 in
theorem mX5_wouldDraw (l : Launch) (D : va_G) (κ a : Nat → Nat) (ε : EE) (V N way num m : Nat) (S : List Nat) (T : Nat → List (Nat × Nat)) (u : US) (hA : AB V N way num m S T u) (hV1 : 1 ≤ V) (lk9 : Nat) (hlk : lk9 < 10000) (elk : u.1 1 = (lk9 : Int)) : Ct (W0 κ a) l D κ ε yX5_wouldDraw cX5_wouldDraw 1 (some .int) 5 116 0 0 u [.ref (a 0)] (fun v u' => Fr [8, 9] [9, 10] u u' ∧ ∃ r : Nat, v = some (.int (iI (r : Int))) ∧ r ≤ V ∧ (0 < sm (chz V N way num S T (S.length : Int)) (V + 1) → 0 < (chz V N way num S T (S.length : Int)) r)) := by
  obtain ⟨⟨hV, hN, hway, hnum, hm, hSl, hSV⟩, eV, eN, ew, en, ⟨eS, hS⟩, hT⟩ := id hA
  refine Ct.of (own := RX5) rfl (by decide +kernel) (Nat.le_of_ble_eq_true rfl) rfl (fun Γ h => ?_)
  refine w_aload_n h (pc := 0) dX5_wouldDraw_0 rfl ?_
  refine g0_ledger h (pc := 1) wm_16 dX5_wouldDraw_1 ?_
  refine g1_words h (pc := 4) eV wm_113 dX5_wouldDraw_4 ?_
  refine w_if_ne h (pc := 7) (tgt := 20) dX5_wouldDraw_7 (by decide) (by omega) (fun c7 => ?_) (fun c7 => by exfalso; omega)
  refine w_aload_n h (pc := 20) dX5_wouldDraw_20 rfl ?_
  refine w_callV0 h (pc := 21) (mX5_reckonBehindSentence l D κ a ε V N way num m S T u hA) 0 rfl rfl (gdV wm_298 wm_299 wm_300 wm_2 wm_301) (by decide +kernel) ⟨(Nat.le_of_ble_eq_true rfl), (Nat.le_of_ble_eq_true rfl)⟩ ⟨(Nat.le_of_ble_eq_true rfl), (Nat.le_of_ble_eq_true rfl)⟩ (fun _ _ _ => ⟨rfl, rfl⟩) (Nat.le_of_ble_eq_true rfl) dX5_wouldDraw_21 (fun v1 u1 hp1 => ?_)
  obtain ⟨rfl, hF1, hc1⟩ := hp1
  have eV1 : u1.1 4 = (V : Int) := (hF1.1 4 (by simp)).trans eV
  have hcl : ∀ x, x ≤ V → (chz V N way num S T (S.length : Int)) x ≤ 1000000 := fun x hx => chz_le hnum hN.1 _ hx
  have elk1 : u1.1 1 = (lk9 : Int) := (hF1.1 1 (by simp)).trans elk
  simp only [Option.toList_none, List.nil_append]
  refine w_aload_n h (pc := 24) dX5_wouldDraw_24 rfl ?_
  refine g0_reckoner h (pc := 25) wm_20 dX5_wouldDraw_25 ?_
  refine w_aload_n h (pc := 28) dX5_wouldDraw_28 rfl ?_
  refine g0_luck h (pc := 29) elk1 wm_34 dX5_wouldDraw_29 ?_
  refine w_callS1 h (pc := 32) (mX5_luckBehind l D κ a ε u1 lk9 hlk) (gdS wm_358 wm_359 wm_2 wm_360) (by decide +kernel) ⟨(Nat.le_of_ble_eq_true rfl), (Nat.le_of_ble_eq_true rfl)⟩ ⟨(Nat.le_of_ble_eq_true rfl), (Nat.le_of_ble_eq_true rfl)⟩ (fun _ _ _ => ⟨rfl, rfl⟩) (Nat.le_of_ble_eq_true rfl) dX5_wouldDraw_32 (fun v2 u2 hp2 => ?_)
  obtain ⟨rfl, e2⟩ := hp2
  obtain rfl := e2.symm
  simp only [Option.toList_some, List.cons_append, List.nil_append]
  refine w_aload_n h (pc := 35) dX5_wouldDraw_35 rfl ?_
  refine w_callV0 h (pc := 36) (mX5_allOutcomes l D κ a ε V u1 hV eV1) 0 rfl rfl (gdV wm_361 wm_362 wm_363 wm_2 wm_364) (by decide +kernel) ⟨(Nat.le_of_ble_eq_true rfl), (Nat.le_of_ble_eq_true rfl)⟩ ⟨(Nat.le_of_ble_eq_true rfl), (Nat.le_of_ble_eq_true rfl)⟩ (fun _ _ _ => ⟨rfl, rfl⟩) (Nat.le_of_ble_eq_true rfl) dX5_wouldDraw_36 (fun v3 u3 hp3 => ?_)
  obtain ⟨rfl, e3⟩ := hp3
  obtain rfl := e3.symm
  simp only [Option.toList_some, List.cons_append, List.nil_append]
  refine w_callV2 h (pc := 39) (mX1_pick l D κ a ε V u1 hV eV1 (chz V N way num S T (S.length : Int)) (fun x hx => ⟨hc1 x hx, hcl x hx⟩) ((lk9 * 4621 + 2777) % 10000) (by omega) ((2 ^ (V + 1) - 1 : Nat) : Int) (fun _ => 1) (fun w hw => ⟨bit_all hV hw, Nat.le_refl _⟩) ⟨0, by omega, rfl⟩) 2 rfl rfl (gdV wm_365 wm_366 wm_367 wm_19 wm_368) (by decide +kernel) ⟨(Nat.le_of_ble_eq_true rfl), (Nat.le_of_ble_eq_true rfl)⟩ ⟨(Nat.le_of_ble_eq_true rfl), (Nat.le_of_ble_eq_true rfl)⟩ (fun _ _ _ => ⟨rfl, rfl⟩) (Nat.le_of_ble_eq_true rfl) dX5_wouldDraw_39 (fun v4 u4 hp4 => ?_)
  obtain ⟨e4, r, rfl, hr, -, hpos⟩ := hp4
  obtain rfl := e4.symm
  rw [sm_cg (g := (chz V N way num S T (S.length : Int))) (fun i _ => Nat.one_mul _)] at hpos
  simp only [Option.toList_some, List.cons_append, List.nil_append]
  exact w_iret h (pc := 42) (ty := .int) rfl rfl dX5_wouldDraw_42 (Nat.le_of_ble_eq_true rfl) (Nat.le_of_ble_eq_true rfl) ⟨hF1, r, rfl, hr, hpos⟩

set_option maxHeartbeats 4000000 in
set_option maxRecDepth 100000 in
theorem mX5_scoreBy (l : Launch) (D : va_G) (κ a : Nat → Nat) (ε : EE) (V N way num m : Nat) (S : List Nat) (T : Nat → List (Nat × Nat)) (u : US) (hA : AB V N way num m S T u) (w n : Nat) (hw : w ≤ 4) (hn : 1 ≤ n ∧ n ≤ 1000) : Ct (W0 κ a) l D κ ε yX5_scoreBy cX5_scoreBy 6 (some .int) 5 119 0 0 u [.ref (a 0), .int (iI (w : Int)), .int (iI (n : Int))] (fun v u' => v = some (.int (iI (scr V N w n S T : Int))) ∧ Fr [6, 7, 8, 9] [9, 10] u u' ∧ AB V N way num m S T u') := by
  obtain ⟨⟨hV, hN, hway, hnum, hm, hSl, hSV⟩, eV, eN, ew, en, ⟨eS, hS⟩, hT⟩ := id hA
  refine Ct.of (own := RX5) rfl (by decide +kernel) (Nat.le_of_ble_eq_true rfl) rfl (fun Γ h => ?_)
  refine w_iload_n h (pc := 0) dX5_scoreBy_0 rfl ?_
  refine w_iload_n h (pc := 1) dX5_scoreBy_1 rfl ?_
  refine w_callS2 h (pc := 2) (mX5_isWay l D κ a ε u w n hw hn) (gdS wm_250 wm_251 wm_2 wm_252) (by decide +kernel) ⟨(Nat.le_of_ble_eq_true rfl), (Nat.le_of_ble_eq_true rfl)⟩ ⟨(Nat.le_of_ble_eq_true rfl), (Nat.le_of_ble_eq_true rfl)⟩ (fun _ _ _ => ⟨rfl, rfl⟩) (Nat.le_of_ble_eq_true rfl) dX5_scoreBy_2 (fun v1 u1 hp1 => ?_)
  obtain ⟨rfl, e1⟩ := hp1
  obtain rfl := e1.symm
  simp only [Option.toList_some, List.cons_append, List.nil_append]
  refine w_if_ne h (pc := 5) (tgt := 18) dX5_scoreBy_5 (by decide) (by omega) (fun c5 => ?_) (fun c5 => by exfalso; omega)
  refine w_aload_n h (pc := 18) dX5_scoreBy_18 rfl ?_
  refine g0_reckoner h (pc := 19) wm_20 dX5_scoreBy_19 ?_
  refine g2_way h (pc := 22) ew wm_248 dX5_scoreBy_22 ?_
  refine w_istore_n h (pc := 25) dX5_scoreBy_25 (by decide) ?_
  refine w_aload_n h (pc := 26) dX5_scoreBy_26 rfl ?_
  refine g0_reckoner h (pc := 27) wm_20 dX5_scoreBy_27 ?_
  refine g2_number h (pc := 30) en wm_249 dX5_scoreBy_30 ?_
  refine w_istore h (pc := 33) dX5_scoreBy_33 (by decide) ?_
  refine w_aload_n h (pc := 35) dX5_scoreBy_35 rfl ?_
  refine g0_reckoner h (pc := 36) wm_20 dX5_scoreBy_36 ?_
  refine w_iload_n h (pc := 39) dX5_scoreBy_39 rfl ?_
  refine p2_way h (pc := 40) wm_248 dX5_scoreBy_40 ?_
  refine w_aload_n h (pc := 43) dX5_scoreBy_43 rfl ?_
  refine g0_reckoner h (pc := 44) wm_20 dX5_scoreBy_44 ?_
  refine w_iload_n h (pc := 47) dX5_scoreBy_47 rfl ?_
  refine p2_number h (pc := 48) wm_249 dX5_scoreBy_48 ?_
  refine w_aload_n h (pc := 51) dX5_scoreBy_51 rfl ?_
  refine w_callV0 h (pc := 52) (mX5_sumOfCosts l D κ a ε V N w n m S T (uS (uS u 6 (w : Int)) 7 (n : Int)) ⟨⟨hV, hN, hw, hn, hm, hSl, hSV⟩, eV, eN, rfl, rfl, ⟨eS, hS⟩, hT.of ((Fr.S (ls := [6, 7]) (gs := []) (by simp)).tr (Fr.S (by simp))) (by simp [tS]) (by simp)⟩) 0 rfl rfl (gdV wm_337 wm_338 wm_339 wm_2 wm_340) (by decide +kernel) ⟨(Nat.le_of_ble_eq_true rfl), (Nat.le_of_ble_eq_true rfl)⟩ ⟨(Nat.le_of_ble_eq_true rfl), (Nat.le_of_ble_eq_true rfl)⟩ (fun _ _ _ => ⟨rfl, rfl⟩) (Nat.le_of_ble_eq_true rfl) dX5_scoreBy_52 (fun v2 u2 hp2 => ?_)
  obtain ⟨rfl, hF2⟩ := hp2
  have hF9 : Fr [6, 7, 8, 9] [9, 10] u u2 := (((Fr.S (by simp)).tr (Fr.S (by simp))) : Fr [6, 7, 8, 9] [9, 10] u (uS (uS u 6 (w : Int)) 7 (n : Int))).tr (hF2.mono (by simp) (by simp))
  simp only [Option.toList_some, List.cons_append, List.nil_append]
  refine w_istore h (pc := 55) dX5_scoreBy_55 (by decide) ?_
  refine w_aload_n h (pc := 57) dX5_scoreBy_57 rfl ?_
  refine g0_reckoner h (pc := 58) wm_20 dX5_scoreBy_58 ?_
  refine w_iload_n h (pc := 61) dX5_scoreBy_61 rfl ?_
  refine p2_way h (pc := 62) wm_248 dX5_scoreBy_62 ?_
  refine w_aload_n h (pc := 65) dX5_scoreBy_65 rfl ?_
  refine g0_reckoner h (pc := 66) wm_20 dX5_scoreBy_66 ?_
  refine w_iload h (pc := 69) dX5_scoreBy_69 rfl ?_
  refine p2_number h (pc := 71) wm_249 dX5_scoreBy_71 ?_
  refine w_iload h (pc := 74) dX5_scoreBy_74 rfl ?_
  exact w_iret h (pc := 76) (ty := .int) rfl rfl dX5_scoreBy_76 (Nat.le_of_ble_eq_true rfl) (Nat.le_of_ble_eq_true rfl) ⟨rfl, (hF9.tr (Fr.S (by simp))).tr (Fr.S (by simp)), ⟨hV, hN, hway, hnum, hm, hSl, hSV⟩, (hF9.1 4 (by simp)).trans eV, (hF9.1 5 (by simp)).trans eN, rfl, rfl, ⟨(hF9.1 0 (by simp)).trans eS, fun j w hw => by rw [uS_2, uS_2, hF9.2 6 (by simp)]; exact hS j w hw⟩, hT.of ((hF9.tr (Fr.S (by simp))).tr (Fr.S (by simp))) (by simp [tS]) (by simp [tG])⟩

set_option maxHeartbeats 4000000 in
set_option maxRecDepth 100000 in
theorem mX5_scoreLearned (l : Launch) (D : va_G) (κ a : Nat → Nat) (ε : EE) (V N way num m : Nat) (S : List Nat) (T : Nat → List (Nat × Nat)) (u : US) (hA : AB V N way num m S T u) (c : Nat) (hc : 0 < c ∧ c ≤ 4) (hm9 : m ≤ 140) (hS6 : S.length ≤ 6) (hV1 : 1 ≤ V) : Ct (W0 κ a) l D κ ε yX5_scoreLearned cX5_scoreLearned 3 (some .int) 6 154 0 0 u [.ref (a 0), .int (iI (c : Int))] (fun v u' => Fr (8 :: 9 :: tS) (9 :: 10 :: tG) u u' ∧ ∃ T1, v = some (.int (iI (scr V N way num S T1 : Int))) ∧ (∀ i, i < 4 → T1 i = adT V S T c N 0 i) ∧ ∃ T2, AB V N way num (m + 28) S T2 u' ∧ ∀ i, i < 4 → T2 i = lwT V S T1 c N 0 i) := by
  obtain ⟨⟨hV, hN, hway, hnum, hm, hSl, hSV⟩, eV, eN, ew, en, ⟨eS, hS⟩, hT⟩ := id hA
  refine Ct.of (own := RX5) rfl (by decide +kernel) (Nat.le_of_ble_eq_true rfl) rfl (fun Γ h => ?_)
  refine w_iload_n h (pc := 0) dX5_scoreLearned_0 rfl ?_
  refine w_iconst h (pc := 1) dX5_scoreLearned_1 ?_
  refine w_icmp_lt h (pc := 2) (tgt := 11) dX5_scoreLearned_2 (by decide) (by omega) (by omega) (fun c2 => by exfalso; omega) (fun c2 => ?_)
  refine w_iload_n h (pc := 5) dX5_scoreLearned_5 rfl ?_
  refine w_bipush h (pc := 6) dX5_scoreLearned_6 (by decide) ?_
  refine w_icmp_le h (pc := 8) (tgt := 21) dX5_scoreLearned_8 (by decide) (by omega) (by omega) (fun c8 => ?_) (fun c8 => by exfalso; omega)
  refine w_aload_n h (pc := 21) dX5_scoreLearned_21 rfl ?_
  refine g0_ledger h (pc := 22) wm_16 dX5_scoreLearned_22 ?_
  refine g1_words h (pc := 25) eV wm_113 dX5_scoreLearned_25 ?_
  refine w_if_ne h (pc := 28) (tgt := 41) dX5_scoreLearned_28 (by decide) (by omega) (fun c28 => ?_) (fun c28 => by exfalso; omega)
  refine w_aload_n h (pc := 41) dX5_scoreLearned_41 rfl ?_
  refine w_iload_n h (pc := 42) dX5_scoreLearned_42 rfl ?_
  refine w_callV1 h (pc := 43) (mX5_addSentence l D κ a ε V N way num m S T u hA c hc (by omega) hS6) 0 rfl rfl (gdV wm_166 wm_167 wm_168 wm_2 wm_169) (by decide +kernel) ⟨(Nat.le_of_ble_eq_true rfl), (Nat.le_of_ble_eq_true rfl)⟩ ⟨(Nat.le_of_ble_eq_true rfl), (Nat.le_of_ble_eq_true rfl)⟩ (fun _ _ _ => ⟨rfl, rfl⟩) (Nat.le_of_ble_eq_true rfl) dX5_scoreLearned_43 (fun v1 u1 hp1 => ?_)
  obtain ⟨rfl, hF1, T1, hA1, hs1⟩ := hp1
  simp only [Option.toList_none, List.nil_append]
  refine w_aload_n h (pc := 46) dX5_scoreLearned_46 rfl ?_
  refine w_callV0 h (pc := 47) (mX5_sumOfCosts l D κ a ε V N way num (m + 28) S T1 u1 hA1) 0 rfl rfl (gdV wm_337 wm_338 wm_339 wm_2 wm_340) (by decide +kernel) ⟨(Nat.le_of_ble_eq_true rfl), (Nat.le_of_ble_eq_true rfl)⟩ ⟨(Nat.le_of_ble_eq_true rfl), (Nat.le_of_ble_eq_true rfl)⟩ (fun _ _ _ => ⟨rfl, rfl⟩) (Nat.le_of_ble_eq_true rfl) dX5_scoreLearned_47 (fun v2 u2 hp2 => ?_)
  obtain ⟨rfl, hF2⟩ := hp2
  have hA2 := hA1.of hF2 (by simp [tS]) (by simp [tG]) (by simp) (by simp)
  simp only [Option.toList_some, List.cons_append, List.nil_append]
  refine w_istore_n h (pc := 50) dX5_scoreLearned_50 (by decide) ?_
  refine w_aload_n h (pc := 51) dX5_scoreLearned_51 rfl ?_
  refine w_iload_n h (pc := 52) dX5_scoreLearned_52 rfl ?_
  refine w_callV1 h (pc := 53) (mX5_takeSentence l D κ a ε V N way num (m + 28) S T1 u2 hA2 c hc) 0 rfl rfl (gdV wm_204 wm_205 wm_206 wm_2 wm_207) (by decide +kernel) ⟨(Nat.le_of_ble_eq_true rfl), (Nat.le_of_ble_eq_true rfl)⟩ ⟨(Nat.le_of_ble_eq_true rfl), (Nat.le_of_ble_eq_true rfl)⟩ (fun _ _ _ => ⟨rfl, rfl⟩) (Nat.le_of_ble_eq_true rfl) dX5_scoreLearned_53 (fun v3 u3 hp3 => ?_)
  obtain ⟨⟨g, rfl, hg⟩, hF3, hx3⟩ := hp3
  simp only [Option.toList_some, List.cons_append, List.nil_append]
  refine w_pop h (pc := 56) dX5_scoreLearned_56 rfl ?_
  refine w_iload_n h (pc := 57) dX5_scoreLearned_57 rfl ?_
  exact w_iret h (pc := 58) (ty := .int) rfl rfl dX5_scoreLearned_58 (Nat.le_of_ble_eq_true rfl) (Nat.le_of_ble_eq_true rfl) ⟨((hF1.up (by intro k hk; simp_all) (by intro k hk; simp_all)).tr (hF2.up (by simp) (by simp))).tr (hF3.up (by intro k hk; simp_all) (by intro k hk; simp_all)), T1, rfl, hs1, hx3⟩

set_option maxHeartbeats 4000000 in
set_option maxRecDepth 100000 in
theorem mX2_append (l : Launch) (D : va_G) (κ a : Nat → Nat) (ε : EE) (u : US) (e0 : u.1 11 = 0) : Ct (W0 κ a) l D κ ε yX2_append cX2_append 3 (some .int) 0 0 0 0 u [.ref (a 4), .int (iI 3), .int (iI 1)] (fun v u' => v = some (.int (iI 0)) ∧ Fr [11] [15, 16] u u' ∧ u'.1 11 = 1 ∧ u'.2 15 0 = 3 ∧ u'.2 16 0 = 1) := by
  refine Ct.of (own := RX2) rfl (by decide +kernel) (Nat.le_of_ble_eq_true rfl) rfl (fun Γ h => ?_)
  refine w_aload_n h (pc := 0) dX2_append_0 rfl ?_
  refine g4_size h (pc := 1) e0 wm_82 dX2_append_1 ?_
  refine w_bipush h (pc := 4) dX2_append_4 (by decide) ?_
  refine w_icmp_ge h (pc := 6) (tgt := 39) dX2_append_6 (by decide) (by omega) (by omega) (fun c6 => by exfalso; omega) (fun c6 => ?_)
  refine w_aload_n h (pc := 9) dX2_append_9 rfl ?_
  refine g4_codes h (pc := 10) wm_79 dX2_append_10 ?_
  refine w_aload_n h (pc := 13) dX2_append_13 rfl ?_
  refine g4_size h (pc := 14) e0 wm_82 dX2_append_14 ?_
  refine w_iload_n h (pc := 17) dX2_append_17 rfl ?_
  refine st_codes h (pc := 18) (by omega) dX2_append_18 ?_
  refine w_aload_n h (pc := 19) dX2_append_19 rfl ?_
  refine g4_numbers h (pc := 20) wm_80 dX2_append_20 ?_
  refine w_aload_n h (pc := 23) dX2_append_23 rfl ?_
  refine g4_size h (pc := 24) e0 wm_82 dX2_append_24 ?_
  refine w_iload_n h (pc := 27) dX2_append_27 rfl ?_
  refine st_numbers h (pc := 28) (by omega) dX2_append_28 ?_
  refine w_aload_n h (pc := 29) dX2_append_29 rfl ?_
  refine w_dup h (pc := 30) dX2_append_30 rfl ?_
  refine g4_size h (pc := 31) e0 wm_82 dX2_append_31 ?_
  refine w_iconst h (pc := 34) dX2_append_34 ?_
  refine w_iadd h (pc := 35) dX2_append_35 ?_
  refine p4_size h (pc := 36) wm_82 dX2_append_36 ?_
  refine w_aload_n h (pc := 39) dX2_append_39 rfl ?_
  refine g4_size h (pc := 40) rfl wm_82 dX2_append_40 ?_
  refine w_iconst h (pc := 43) dX2_append_43 ?_
  refine w_isub h (pc := 44) dX2_append_44 ?_
  exact w_iret h (pc := 45) (ty := .int) rfl rfl dX2_append_45 (Nat.le_of_ble_eq_true rfl) (Nat.le_of_ble_eq_true rfl) ⟨rfl, ((Fr.A (by simp)).tr (Fr.A (by simp))).tr (Fr.S (by simp)), rfl, rfl, rfl⟩

set_option maxHeartbeats 4000000 in
set_option maxRecDepth 100000 in
theorem mX2_forgetReturns (l : Launch) (D : va_G) (κ a : Nat → Nat) (ε : EE) (u : US) : Ct (W0 κ a) l D κ ε yX2_forgetReturns cX2_forgetReturns 1 none 1 23 0 0 u [.ref (a 4)] (fun v u' => v = none ∧ Fr [] [17] u u') := by
  refine Ct.of (own := RX2) rfl (by decide +kernel) (Nat.le_of_ble_eq_true rfl) rfl (fun Γ h => ?_)
  refine w_aload_n h (pc := 0) dX2_forgetReturns_0 rfl ?_
  refine g4_returns h (pc := 1) wm_81 dX2_forgetReturns_1 ?_
  refine w_iconst h (pc := 4) dX2_forgetReturns_4 ?_
  refine w_callS2 h (pc := 5) (mJ7_fill l D κ a ε u 17 12 0 (by decide) (fun _ => rfl) (fun _ _ => rfl)) (gdS wm_505 wm_289 wm_290 wm_291) (by decide +kernel) ⟨(Nat.le_of_ble_eq_true rfl), (Nat.le_of_ble_eq_true rfl)⟩ ⟨(Nat.le_of_ble_eq_true rfl), (Nat.le_of_ble_eq_true rfl)⟩ (fun _ _ _ => ⟨rfl, rfl⟩) (Nat.le_of_ble_eq_true rfl) dX2_forgetReturns_5 (fun v1 u1 hp1 => ?_)
  obtain ⟨rfl, e1⟩ := hp1
  subst e1
  simp only [Option.toList_none, List.nil_append]
  exact w_vret h (pc := 8) rfl dX2_forgetReturns_8 (Nat.le_of_ble_eq_true rfl) (Nat.le_of_ble_eq_true rfl) ⟨rfl, Fr.A (by simp)⟩

set_option maxHeartbeats 4000000 in
set_option maxRecDepth 100000 in
theorem mX5_addStep (l : Launch) (D : va_G) (κ a : Nat → Nat) (ε : EE) (u : US) (e0 : u.1 11 = 0) : Ct (W0 κ a) l D κ ε yX5_addStep cX5_addStep 3 (some .int) 3 62 0 0 u [.ref (a 0), .int (iI 3), .int (iI 1)] (fun v u' => v = some (.int (iI 0)) ∧ Fr [11] [15, 16] u u' ∧ u'.1 11 = 1 ∧ u'.2 15 0 = 3 ∧ u'.2 16 0 = 1) := by
  refine Ct.of (own := RX5) rfl (by decide +kernel) (Nat.le_of_ble_eq_true rfl) rfl (fun Γ h => ?_)
  refine w_aload_n h (pc := 0) dX5_addStep_0 rfl ?_
  refine w_iload_n h (pc := 1) dX5_addStep_1 rfl ?_
  refine w_iload_n h (pc := 2) dX5_addStep_2 rfl ?_
  refine w_callV2 h (pc := 3) (mX5_isStep l D κ a ε u) 0 rfl rfl (gdV wm_487 wm_488 wm_489 wm_2 wm_490) (by decide +kernel) ⟨(Nat.le_of_ble_eq_true rfl), (Nat.le_of_ble_eq_true rfl)⟩ ⟨(Nat.le_of_ble_eq_true rfl), (Nat.le_of_ble_eq_true rfl)⟩ (fun _ _ _ => ⟨rfl, rfl⟩) (Nat.le_of_ble_eq_true rfl) dX5_addStep_3 (fun v1 u1 hp1 => ?_)
  obtain ⟨rfl, e1⟩ := hp1
  obtain rfl := e1.symm
  simp only [Option.toList_some, List.cons_append, List.nil_append]
  refine w_if_ne h (pc := 6) (tgt := 19) dX5_addStep_6 (by decide) (by omega) (fun c6 => ?_) (fun c6 => by exfalso; omega)
  refine w_aload_n h (pc := 19) dX5_addStep_19 rfl ?_
  refine g0_script h (pc := 20) wm_28 dX5_addStep_20 ?_
  refine g4_size h (pc := 23) e0 wm_486 dX5_addStep_23 ?_
  refine w_bipush h (pc := 26) dX5_addStep_26 (by decide) ?_
  refine w_icmp_lt h (pc := 28) (tgt := 41) dX5_addStep_28 (by decide) (by omega) (by omega) (fun c28 => ?_) (fun c28 => by exfalso; omega)
  refine w_aload_n h (pc := 41) dX5_addStep_41 rfl ?_
  refine g0_script h (pc := 42) wm_28 dX5_addStep_42 ?_
  refine w_iload_n h (pc := 45) dX5_addStep_45 rfl ?_
  refine w_iload_n h (pc := 46) dX5_addStep_46 rfl ?_
  refine w_callV2 h (pc := 47) (mX2_append l D κ a ε u e0) 4 rfl rfl (gdV wm_491 wm_492 wm_493 wm_27 wm_494) (by decide +kernel) ⟨(Nat.le_of_ble_eq_true rfl), (Nat.le_of_ble_eq_true rfl)⟩ ⟨(Nat.le_of_ble_eq_true rfl), (Nat.le_of_ble_eq_true rfl)⟩ (fun _ _ _ => ⟨rfl, rfl⟩) (Nat.le_of_ble_eq_true rfl) dX5_addStep_47 (fun v2 u2 hp2 => ?_)
  obtain ⟨rfl, hx⟩ := hp2
  simp only [Option.toList_some, List.cons_append, List.nil_append]
  exact w_iret h (pc := 50) (ty := .int) rfl rfl dX5_addStep_50 (Nat.le_of_ble_eq_true rfl) (Nat.le_of_ble_eq_true rfl) ⟨rfl, hx⟩

set_option maxHeartbeats 4000000 in
set_option maxRecDepth 100000 in
theorem mX5_hasEnded (l : Launch) (D : va_G) (κ a : Nat → Nat) (ε : EE) (u : US) (z : Int) (hz : z = 0 ∨ z = 1) (e3 : u.1 3 = z) : Ct (W0 κ a) l D κ ε yX5_hasEnded cX5_hasEnded 1 (some .boolean) 0 0 0 0 u [.ref (a 0)] (fun v u' => v = some (.int (iI z)) ∧ u' = u) := by
  refine Ct.of (own := RX5) rfl (by decide +kernel) (Nat.le_of_ble_eq_true rfl) rfl (fun Γ h => ?_)
  refine w_aload_n h (pc := 0) dX5_hasEnded_0 rfl ?_
  refine g0_ended h (pc := 1) e3 wm_36 dX5_hasEnded_1 ?_
  exact w_iret h (pc := 4) (ty := .boolean) rfl (by rcases hz with rfl | rfl <;> rfl) dX5_hasEnded_4 (Nat.le_of_ble_eq_true rfl) (Nat.le_of_ble_eq_true rfl) ⟨rfl, rfl⟩
