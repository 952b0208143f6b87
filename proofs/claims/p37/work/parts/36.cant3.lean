theorem dX5_allOutcomes_0 : decode cX5_allOutcomes 0 = .ok (.iconst 1, 1) := by decide +kernel
theorem dX5_allOutcomes_1 : decode cX5_allOutcomes 1 = .ok (.aload_n 0, 1) := by decide +kernel
theorem dX5_allOutcomes_2 : decode cX5_allOutcomes 2 = .ok (.getfield 10, 3) := by decide +kernel
theorem dX5_allOutcomes_5 : decode cX5_allOutcomes 5 = .ok (.getfield 65, 3) := by decide +kernel
theorem dX5_allOutcomes_8 : decode cX5_allOutcomes 8 = .ok (.iconst 1, 1) := by decide +kernel
theorem dX5_allOutcomes_9 : decode cX5_allOutcomes 9 = .ok (.iadd, 1) := by decide +kernel
theorem dX5_allOutcomes_10 : decode cX5_allOutcomes 10 = .ok (.ishl, 1) := by decide +kernel
theorem dX5_allOutcomes_11 : decode cX5_allOutcomes 11 = .ok (.iconst 1, 1) := by decide +kernel
theorem dX5_allOutcomes_12 : decode cX5_allOutcomes 12 = .ok (.isub, 1) := by decide +kernel
theorem dX5_allOutcomes_13 : decode cX5_allOutcomes 13 = .ok (.ireturn, 1) := by decide +kernel
theorem dX5_draw_0 : decode cX5_draw 0 = .ok (.aload_n 0, 1) := by decide +kernel
theorem dX5_draw_1 : decode cX5_draw 1 = .ok (.aload_n 0, 1) := by decide +kernel
theorem dX5_draw_2 : decode cX5_draw 2 = .ok (.getfield 55, 3) := by decide +kernel
theorem dX5_draw_5 : decode cX5_draw 5 = .ok (.invokestatic 244, 3) := by decide +kernel
theorem dX5_draw_8 : decode cX5_draw 8 = .ok (.putfield 55, 3) := by decide +kernel
theorem dX5_draw_11 : decode cX5_draw 11 = .ok (.aload_n 0, 1) := by decide +kernel
theorem dX5_draw_12 : decode cX5_draw 12 = .ok (.dup, 1) := by decide +kernel
theorem dX5_draw_13 : decode cX5_draw 13 = .ok (.getfield 58, 3) := by decide +kernel
theorem dX5_draw_16 : decode cX5_draw 16 = .ok (.iconst 1, 1) := by decide +kernel
theorem dX5_draw_17 : decode cX5_draw 17 = .ok (.iadd, 1) := by decide +kernel
theorem dX5_draw_18 : decode cX5_draw 18 = .ok (.putfield 58, 3) := by decide +kernel
theorem dX5_draw_21 : decode cX5_draw 21 = .ok (.aload_n 0, 1) := by decide +kernel
theorem dX5_draw_22 : decode cX5_draw 22 = .ok (.getfield 21, 3) := by decide +kernel
theorem dX5_draw_25 : decode cX5_draw 25 = .ok (.aload_n 0, 1) := by decide +kernel
theorem dX5_draw_26 : decode cX5_draw 26 = .ok (.getfield 55, 3) := by decide +kernel
theorem dX5_draw_29 : decode cX5_draw 29 = .ok (.iload_n 1, 1) := by decide +kernel
theorem dX5_draw_30 : decode cX5_draw 30 = .ok (.invokevirtual 250, 3) := by decide +kernel
theorem dX5_draw_33 : decode cX5_draw 33 = .ok (.ireturn, 1) := by decide +kernel
theorem dX5_dropDoomed_0 : decode cX5_dropDoomed 0 = .ok (.iconst 0, 1) := by decide +kernel
theorem dX5_dropDoomed_1 : decode cX5_dropDoomed 1 = .ok (.istore_n 2, 1) := by decide +kernel
theorem dX5_dropDoomed_2 : decode cX5_dropDoomed 2 = .ok (.aload_n 0, 1) := by decide +kernel
theorem dX5_dropDoomed_3 : decode cX5_dropDoomed 3 = .ok (.getfield 10, 3) := by decide +kernel
theorem dX5_dropDoomed_6 : decode cX5_dropDoomed 6 = .ok (.iload_n 1, 1) := by decide +kernel
theorem dX5_dropDoomed_7 : decode cX5_dropDoomed 7 = .ok (.invokevirtual 131, 3) := by decide +kernel
theorem dX5_dropDoomed_10 : decode cX5_dropDoomed 10 = .ok (.getfield 135, 3) := by decide +kernel
theorem dX5_dropDoomed_13 : decode cX5_dropDoomed 13 = .ok (.iconst 1, 1) := by decide +kernel
theorem dX5_dropDoomed_14 : decode cX5_dropDoomed 14 = .ok (.isub, 1) := by decide +kernel
theorem dX5_dropDoomed_15 : decode cX5_dropDoomed 15 = .ok (.istore_n 3, 1) := by decide +kernel
theorem dX5_dropDoomed_16 : decode cX5_dropDoomed 16 = .ok (.iload_n 3, 1) := by decide +kernel
theorem dX5_dropDoomed_17 : decode cX5_dropDoomed 17 = .ok (.ifCond .lt 30, 3) := by decide +kernel
theorem dX5_dropDoomed_20 : decode cX5_dropDoomed 20 = .ok (.aload_n 0, 1) := by decide +kernel
theorem dX5_dropDoomed_21 : decode cX5_dropDoomed 21 = .ok (.getfield 43, 3) := by decide +kernel
theorem dX5_dropDoomed_24 : decode cX5_dropDoomed 24 = .ok (.iload_n 3, 1) := by decide +kernel
theorem dX5_dropDoomed_25 : decode cX5_dropDoomed 25 = .ok (.baload, 1) := by decide +kernel
theorem dX5_dropDoomed_26 : decode cX5_dropDoomed 26 = .ok (.ifCond .eq 15, 3) := by decide +kernel
theorem dX5_dropDoomed_29 : decode cX5_dropDoomed 29 = .ok (.aload_n 0, 1) := by decide +kernel
theorem dX5_dropDoomed_30 : decode cX5_dropDoomed 30 = .ok (.getfield 10, 3) := by decide +kernel
theorem dX5_dropDoomed_33 : decode cX5_dropDoomed 33 = .ok (.iload_n 1, 1) := by decide +kernel
theorem dX5_dropDoomed_34 : decode cX5_dropDoomed 34 = .ok (.iload_n 3, 1) := by decide +kernel
theorem dX5_dropDoomed_35 : decode cX5_dropDoomed 35 = .ok (.invokevirtual 306, 3) := by decide +kernel
theorem dX5_dropDoomed_38 : decode cX5_dropDoomed 38 = .ok (.iinc 2 1, 3) := by decide +kernel
theorem dX5_dropDoomed_41 : decode cX5_dropDoomed 41 = .ok (.iinc 3 (-1), 3) := by decide +kernel
theorem dX5_dropDoomed_44 : decode cX5_dropDoomed 44 = .ok (.goto (-28), 3) := by decide +kernel
theorem dX5_dropDoomed_47 : decode cX5_dropDoomed 47 = .ok (.iload_n 2, 1) := by decide +kernel
theorem dX5_dropDoomed_48 : decode cX5_dropDoomed 48 = .ok (.ireturn, 1) := by decide +kernel
theorem dX5_luckBehind_0 : decode cX5_luckBehind 0 = .ok (.iload_n 0, 1) := by decide +kernel
theorem dX5_luckBehind_1 : decode cX5_luckBehind 1 = .ok (.sipush 4621, 3) := by decide +kernel
theorem dX5_luckBehind_4 : decode cX5_luckBehind 4 = .ok (.imul, 1) := by decide +kernel
theorem dX5_luckBehind_5 : decode cX5_luckBehind 5 = .ok (.sipush 2777, 3) := by decide +kernel
theorem dX5_luckBehind_8 : decode cX5_luckBehind 8 = .ok (.iadd, 1) := by decide +kernel
theorem dX5_luckBehind_9 : decode cX5_luckBehind 9 = .ok (.sipush 10000, 3) := by decide +kernel
theorem dX5_luckBehind_12 : decode cX5_luckBehind 12 = .ok (.irem, 1) := by decide +kernel
theorem dX5_luckBehind_13 : decode cX5_luckBehind 13 = .ok (.ireturn, 1) := by decide +kernel
theorem dX5_mix_0 : decode cX5_mix 0 = .ok (.lload_n 0, 1) := by decide +kernel
theorem dX5_mix_1 : decode cX5_mix 1 = .ok (.ldc2_w 319, 3) := by decide +kernel
theorem dX5_mix_4 : decode cX5_mix 4 = .ok (.lmul, 1) := by decide +kernel
theorem dX5_mix_5 : decode cX5_mix 5 = .ok (.lload_n 2, 1) := by decide +kernel
theorem dX5_mix_6 : decode cX5_mix 6 = .ok (.ladd, 1) := by decide +kernel
theorem dX5_mix_7 : decode cX5_mix 7 = .ok (.lreturn, 1) := by decide +kernel
theorem dX5_mixChances_0 : decode cX5_mixChances 0 = .ok (.lload_n 1, 1) := by decide +kernel
theorem dX5_mixChances_1 : decode cX5_mixChances 1 = .ok (.lstore_n 3, 1) := by decide +kernel
theorem dX5_mixChances_2 : decode cX5_mixChances 2 = .ok (.aload_n 0, 1) := by decide +kernel
theorem dX5_mixChances_3 : decode cX5_mixChances 3 = .ok (.invokevirtual 183, 3) := by decide +kernel
theorem dX5_mixChances_6 : decode cX5_mixChances 6 = .ok (.iconst 0, 1) := by decide +kernel
theorem dX5_mixChances_7 : decode cX5_mixChances 7 = .ok (.istore 5, 2) := by decide +kernel
theorem dX5_mixChances_9 : decode cX5_mixChances 9 = .ok (.iload 5, 2) := by decide +kernel
theorem dX5_mixChances_11 : decode cX5_mixChances 11 = .ok (.aload_n 0, 1) := by decide +kernel
theorem dX5_mixChances_12 : decode cX5_mixChances 12 = .ok (.getfield 10, 3) := by decide +kernel
theorem dX5_mixChances_15 : decode cX5_mixChances 15 = .ok (.getfield 65, 3) := by decide +kernel
theorem dX5_mixChances_18 : decode cX5_mixChances 18 = .ok (.if_icmp .gt 25, 3) := by decide +kernel
theorem dX5_mixChances_21 : decode cX5_mixChances 21 = .ok (.lload_n 3, 1) := by decide +kernel
theorem dX5_mixChances_22 : decode cX5_mixChances 22 = .ok (.aload_n 0, 1) := by decide +kernel
theorem dX5_mixChances_23 : decode cX5_mixChances 23 = .ok (.getfield 21, 3) := by decide +kernel
theorem dX5_mixChances_26 : decode cX5_mixChances 26 = .ok (.getfield 186, 3) := by decide +kernel
theorem dX5_mixChances_29 : decode cX5_mixChances 29 = .ok (.iload 5, 2) := by decide +kernel
theorem dX5_mixChances_31 : decode cX5_mixChances 31 = .ok (.iaload, 1) := by decide +kernel
theorem dX5_mixChances_32 : decode cX5_mixChances 32 = .ok (.i2l, 1) := by decide +kernel
theorem dX5_mixChances_33 : decode cX5_mixChances 33 = .ok (.invokestatic 255, 3) := by decide +kernel
theorem dX5_mixChances_36 : decode cX5_mixChances 36 = .ok (.lstore_n 3, 1) := by decide +kernel
theorem dX5_mixChances_37 : decode cX5_mixChances 37 = .ok (.iinc 5 1, 3) := by decide +kernel
theorem dX5_mixChances_40 : decode cX5_mixChances 40 = .ok (.goto (-31), 3) := by decide +kernel
theorem dX5_mixChances_43 : decode cX5_mixChances 43 = .ok (.iconst 0, 1) := by decide +kernel
theorem dX5_mixChances_44 : decode cX5_mixChances 44 = .ok (.istore 5, 2) := by decide +kernel
theorem dX5_mixChances_46 : decode cX5_mixChances 46 = .ok (.iload 5, 2) := by decide +kernel
theorem dX5_mixChances_48 : decode cX5_mixChances 48 = .ok (.aload_n 0, 1) := by decide +kernel
theorem dX5_mixChances_49 : decode cX5_mixChances 49 = .ok (.getfield 10, 3) := by decide +kernel
theorem dX5_mixChances_52 : decode cX5_mixChances 52 = .ok (.getfield 65, 3) := by decide +kernel
theorem dX5_mixChances_55 : decode cX5_mixChances 55 = .ok (.if_icmp .gt 24, 3) := by decide +kernel
theorem dX5_mixChances_58 : decode cX5_mixChances 58 = .ok (.lload_n 3, 1) := by decide +kernel
theorem dX5_mixChances_59 : decode cX5_mixChances 59 = .ok (.aload_n 0, 1) := by decide +kernel
theorem dX5_mixChances_60 : decode cX5_mixChances 60 = .ok (.getfield 21, 3) := by decide +kernel
theorem dX5_mixChances_63 : decode cX5_mixChances 63 = .ok (.iload 5, 2) := by decide +kernel
theorem dX5_mixChances_65 : decode cX5_mixChances 65 = .ok (.invokevirtual 191, 3) := by decide +kernel
theorem dX5_mixChances_68 : decode cX5_mixChances 68 = .ok (.i2l, 1) := by decide +kernel
theorem dX5_mixChances_69 : decode cX5_mixChances 69 = .ok (.invokestatic 255, 3) := by decide +kernel
theorem dX5_mixChances_72 : decode cX5_mixChances 72 = .ok (.lstore_n 3, 1) := by decide +kernel
theorem dX5_mixChances_73 : decode cX5_mixChances 73 = .ok (.iinc 5 1, 3) := by decide +kernel
theorem dX5_mixChances_76 : decode cX5_mixChances 76 = .ok (.goto (-30), 3) := by decide +kernel
theorem dX5_mixChances_79 : decode cX5_mixChances 79 = .ok (.lload_n 3, 1) := by decide +kernel
theorem dX5_mixChances_80 : decode cX5_mixChances 80 = .ok (.lreturn, 1) := by decide +kernel
theorem dX5_mixEntries_0 : decode cX5_mixEntries 0 = .ok (.aload_n 0, 1) := by decide +kernel
theorem dX5_mixEntries_1 : decode cX5_mixEntries 1 = .ok (.getfield 10, 3) := by decide +kernel
theorem dX5_mixEntries_4 : decode cX5_mixEntries 4 = .ok (.iload_n 3, 1) := by decide +kernel
theorem dX5_mixEntries_5 : decode cX5_mixEntries 5 = .ok (.invokevirtual 131, 3) := by decide +kernel
theorem dX5_mixEntries_8 : decode cX5_mixEntries 8 = .ok (.astore 4, 2) := by decide +kernel
theorem dX5_mixEntries_10 : decode cX5_mixEntries 10 = .ok (.lload_n 1, 1) := by decide +kernel
theorem dX5_mixEntries_11 : decode cX5_mixEntries 11 = .ok (.aload 4, 2) := by decide +kernel
theorem dX5_mixEntries_13 : decode cX5_mixEntries 13 = .ok (.getfield 135, 3) := by decide +kernel
theorem dX5_mixEntries_16 : decode cX5_mixEntries 16 = .ok (.i2l, 1) := by decide +kernel
theorem dX5_mixEntries_17 : decode cX5_mixEntries 17 = .ok (.invokestatic 255, 3) := by decide +kernel
theorem dX5_mixEntries_20 : decode cX5_mixEntries 20 = .ok (.lstore 5, 2) := by decide +kernel
theorem dX5_mixEntries_22 : decode cX5_mixEntries 22 = .ok (.iconst 0, 1) := by decide +kernel
theorem dX5_mixEntries_23 : decode cX5_mixEntries 23 = .ok (.istore 7, 2) := by decide +kernel
theorem dX5_mixEntries_25 : decode cX5_mixEntries 25 = .ok (.iload 7, 2) := by decide +kernel
theorem dX5_mixEntries_27 : decode cX5_mixEntries 27 = .ok (.aload 4, 2) := by decide +kernel
theorem dX5_mixEntries_29 : decode cX5_mixEntries 29 = .ok (.getfield 135, 3) := by decide +kernel
theorem dX5_mixEntries_32 : decode cX5_mixEntries 32 = .ok (.if_icmp .ge 63, 3) := by decide +kernel
theorem dX5_mixEntries_35 : decode cX5_mixEntries 35 = .ok (.iconst 0, 1) := by decide +kernel
theorem dX5_mixEntries_36 : decode cX5_mixEntries 36 = .ok (.istore 8, 2) := by decide +kernel
theorem dX5_mixEntries_38 : decode cX5_mixEntries 38 = .ok (.iload 8, 2) := by decide +kernel
theorem dX5_mixEntries_40 : decode cX5_mixEntries 40 = .ok (.iload_n 3, 1) := by decide +kernel
theorem dX5_mixEntries_41 : decode cX5_mixEntries 41 = .ok (.if_icmp .ge 32, 3) := by decide +kernel
theorem dX5_mixEntries_44 : decode cX5_mixEntries 44 = .ok (.lload 5, 2) := by decide +kernel
theorem dX5_mixEntries_46 : decode cX5_mixEntries 46 = .ok (.aload_n 0, 1) := by decide +kernel
theorem dX5_mixEntries_47 : decode cX5_mixEntries 47 = .ok (.aload 4, 2) := by decide +kernel
theorem dX5_mixEntries_49 : decode cX5_mixEntries 49 = .ok (.getfield 140, 3) := by decide +kernel
theorem dX5_mixEntries_52 : decode cX5_mixEntries 52 = .ok (.iload 7, 2) := by decide +kernel
theorem dX5_mixEntries_54 : decode cX5_mixEntries 54 = .ok (.iaload, 1) := by decide +kernel
theorem dX5_mixEntries_55 : decode cX5_mixEntries 55 = .ok (.iload_n 3, 1) := by decide +kernel
theorem dX5_mixEntries_56 : decode cX5_mixEntries 56 = .ok (.iload 8, 2) := by decide +kernel
theorem dX5_mixEntries_58 : decode cX5_mixEntries 58 = .ok (.invokevirtual 143, 3) := by decide +kernel
theorem dX5_mixEntries_61 : decode cX5_mixEntries 61 = .ok (.i2l, 1) := by decide +kernel
theorem dX5_mixEntries_62 : decode cX5_mixEntries 62 = .ok (.invokestatic 255, 3) := by decide +kernel
theorem dX5_mixEntries_65 : decode cX5_mixEntries 65 = .ok (.lstore 5, 2) := by decide +kernel
theorem dX5_mixEntries_67 : decode cX5_mixEntries 67 = .ok (.iinc 8 1, 3) := by decide +kernel
theorem dX5_mixEntries_70 : decode cX5_mixEntries 70 = .ok (.goto (-32), 3) := by decide +kernel
theorem dX5_mixEntries_73 : decode cX5_mixEntries 73 = .ok (.lload 5, 2) := by decide +kernel
theorem dX5_mixEntries_75 : decode cX5_mixEntries 75 = .ok (.aload 4, 2) := by decide +kernel
theorem dX5_mixEntries_77 : decode cX5_mixEntries 77 = .ok (.getfield 149, 3) := by decide +kernel
theorem dX5_mixEntries_80 : decode cX5_mixEntries 80 = .ok (.iload 7, 2) := by decide +kernel
theorem dX5_mixEntries_82 : decode cX5_mixEntries 82 = .ok (.iaload, 1) := by decide +kernel
theorem dX5_mixEntries_83 : decode cX5_mixEntries 83 = .ok (.i2l, 1) := by decide +kernel
theorem dX5_mixEntries_84 : decode cX5_mixEntries 84 = .ok (.invokestatic 255, 3) := by decide +kernel
theorem dX5_mixEntries_87 : decode cX5_mixEntries 87 = .ok (.lstore 5, 2) := by decide +kernel
theorem dX5_mixEntries_89 : decode cX5_mixEntries 89 = .ok (.iinc 7 1, 3) := by decide +kernel
theorem dX5_mixEntries_92 : decode cX5_mixEntries 92 = .ok (.goto (-67), 3) := by decide +kernel
theorem dX5_mixEntries_95 : decode cX5_mixEntries 95 = .ok (.lload 5, 2) := by decide +kernel
theorem dX5_mixEntries_97 : decode cX5_mixEntries 97 = .ok (.lreturn, 1) := by decide +kernel
theorem dX5_outcomeOf_0 : decode cX5_outcomeOf 0 = .ok (.iload_n 1, 1) := by decide +kernel
theorem dX5_outcomeOf_1 : decode cX5_outcomeOf 1 = .ok (.tableswitch 70 1 4 #[31, 40, 42, 55], 31) := by decide +kernel
theorem dX5_outcomeOf_43 : decode cX5_outcomeOf 43 = .ok (.aload_n 0, 1) := by decide +kernel
theorem dX5_outcomeOf_44 : decode cX5_outcomeOf 44 = .ok (.aload_n 0, 1) := by decide +kernel
theorem dX5_outcomeOf_45 : decode cX5_outcomeOf 45 = .ok (.getfield 21, 3) := by decide +kernel
theorem dX5_outcomeOf_48 : decode cX5_outcomeOf 48 = .ok (.iload_n 2, 1) := by decide +kernel
theorem dX5_outcomeOf_49 : decode cX5_outcomeOf 49 = .ok (.invokevirtual 313, 3) := by decide +kernel
theorem dX5_outcomeOf_52 : decode cX5_outcomeOf 52 = .ok (.invokevirtual 316, 3) := by decide +kernel
theorem dX5_outcomeOf_55 : decode cX5_outcomeOf 55 = .ok (.ireturn, 1) := by decide +kernel
theorem dX5_partOf_0 : decode cX5_partOf 0 = .ok (.iload_n 1, 1) := by decide +kernel
theorem dX5_partOf_1 : decode cX5_partOf 1 = .ok (.getstatic 284, 3) := by decide +kernel
theorem dX5_partOf_4 : decode cX5_partOf 4 = .ok (.iload_n 2, 1) := by decide +kernel
theorem dX5_partOf_5 : decode cX5_partOf 5 = .ok (.iconst 1, 1) := by decide +kernel
theorem dX5_partOf_6 : decode cX5_partOf 6 = .ok (.isub, 1) := by decide +kernel
theorem dX5_partOf_7 : decode cX5_partOf 7 = .ok (.iload_n 3, 1) := by decide +kernel
theorem dX5_partOf_8 : decode cX5_partOf 8 = .ok (.isub, 1) := by decide +kernel
theorem dX5_partOf_9 : decode cX5_partOf 9 = .ok (.iaload, 1) := by decide +kernel
theorem dX5_partOf_10 : decode cX5_partOf 10 = .ok (.idiv, 1) := by decide +kernel
theorem dX5_partOf_11 : decode cX5_partOf 11 = .ok (.bipush 14, 2) := by decide +kernel
theorem dX5_partOf_13 : decode cX5_partOf 13 = .ok (.irem, 1) := by decide +kernel
theorem dX5_partOf_14 : decode cX5_partOf 14 = .ok (.istore 4, 2) := by decide +kernel
theorem dX5_partOf_16 : decode cX5_partOf 16 = .ok (.iload 4, 2) := by decide +kernel
theorem dX5_partOf_18 : decode cX5_partOf 18 = .ok (.iconst 1, 1) := by decide +kernel
theorem dX5_partOf_19 : decode cX5_partOf 19 = .ok (.isub, 1) := by decide +kernel
theorem dX5_partOf_20 : decode cX5_partOf 20 = .ok (.ireturn, 1) := by decide +kernel
theorem dX5_takeByStep_0 : decode cX5_takeByStep 0 = .ok (.aload_n 0, 1) := by decide +kernel
theorem dX5_takeByStep_1 : decode cX5_takeByStep 1 = .ok (.invokevirtual 183, 3) := by decide +kernel
theorem dX5_takeByStep_4 : decode cX5_takeByStep 4 = .ok (.aload_n 0, 1) := by decide +kernel
theorem dX5_takeByStep_5 : decode cX5_takeByStep 5 = .ok (.iload_n 1, 1) := by decide +kernel
theorem dX5_takeByStep_6 : decode cX5_takeByStep 6 = .ok (.iload_n 2, 1) := by decide +kernel
theorem dX5_takeByStep_7 : decode cX5_takeByStep 7 = .ok (.invokevirtual 310, 3) := by decide +kernel
theorem dX5_takeByStep_10 : decode cX5_takeByStep 10 = .ok (.istore_n 3, 1) := by decide +kernel
theorem dX5_takeByStep_11 : decode cX5_takeByStep 11 = .ok (.iload_n 3, 1) := by decide +kernel
theorem dX5_takeByStep_12 : decode cX5_takeByStep 12 = .ok (.aload_n 0, 1) := by decide +kernel
theorem dX5_takeByStep_13 : decode cX5_takeByStep 13 = .ok (.getfield 10, 3) := by decide +kernel
theorem dX5_takeByStep_16 : decode cX5_takeByStep 16 = .ok (.getfield 65, 3) := by decide +kernel
theorem dX5_takeByStep_19 : decode cX5_takeByStep 19 = .ok (.if_icmp .ne 11, 3) := by decide +kernel
theorem dX5_takeByStep_22 : decode cX5_takeByStep 22 = .ok (.aload_n 0, 1) := by decide +kernel
theorem dX5_takeByStep_23 : decode cX5_takeByStep 23 = .ok (.iconst 1, 1) := by decide +kernel
theorem dX5_takeByStep_24 : decode cX5_takeByStep 24 = .ok (.putfield 61, 3) := by decide +kernel
theorem dX5_takeByStep_27 : decode cX5_takeByStep 27 = .ok (.goto 8, 3) := by decide +kernel
theorem dX5_takeByStep_30 : decode cX5_takeByStep 30 = .ok (.aload_n 0, 1) := by decide +kernel
theorem dX5_takeByStep_31 : decode cX5_takeByStep 31 = .ok (.iload_n 3, 1) := by decide +kernel
theorem dX5_takeByStep_32 : decode cX5_takeByStep 32 = .ok (.invokevirtual 97, 3) := by decide +kernel
theorem dX5_takeByStep_35 : decode cX5_takeByStep 35 = .ok (.return_, 1) := by decide +kernel
theorem dX5_totalBehind_0 : decode cX5_totalBehind 0 = .ok (.aload_n 0, 1) := by decide +kernel
theorem dX5_totalBehind_1 : decode cX5_totalBehind 1 = .ok (.getfield 21, 3) := by decide +kernel
theorem dX5_totalBehind_4 : decode cX5_totalBehind 4 = .ok (.aload_n 0, 1) := by decide +kernel
theorem dX5_totalBehind_5 : decode cX5_totalBehind 5 = .ok (.getfield 10, 3) := by decide +kernel
theorem dX5_totalBehind_8 : decode cX5_totalBehind 8 = .ok (.iload_n 1, 1) := by decide +kernel
theorem dX5_totalBehind_9 : decode cX5_totalBehind 9 = .ok (.invokevirtual 131, 3) := by decide +kernel
theorem dX5_totalBehind_12 : decode cX5_totalBehind 12 = .ok (.aload_n 0, 1) := by decide +kernel
theorem dX5_totalBehind_13 : decode cX5_totalBehind 13 = .ok (.aload_n 0, 1) := by decide +kernel
theorem dX5_totalBehind_14 : decode cX5_totalBehind 14 = .ok (.getfield 51, 3) := by decide +kernel
theorem dX5_totalBehind_17 : decode cX5_totalBehind 17 = .ok (.iconst 1, 1) := by decide +kernel
theorem dX5_totalBehind_18 : decode cX5_totalBehind 18 = .ok (.isub, 1) := by decide +kernel
theorem dX5_totalBehind_19 : decode cX5_totalBehind 19 = .ok (.iload_n 1, 1) := by decide +kernel
theorem dX5_totalBehind_20 : decode cX5_totalBehind 20 = .ok (.iconst 1, 1) := by decide +kernel
theorem dX5_totalBehind_21 : decode cX5_totalBehind 21 = .ok (.isub, 1) := by decide +kernel
theorem dX5_totalBehind_22 : decode cX5_totalBehind 22 = .ok (.invokevirtual 202, 3) := by decide +kernel
theorem dX5_totalBehind_25 : decode cX5_totalBehind 25 = .ok (.invokevirtual 287, 3) := by decide +kernel
theorem dX5_totalBehind_28 : decode cX5_totalBehind 28 = .ok (.iload_n 2, 1) := by decide +kernel
theorem dX5_totalBehind_29 : decode cX5_totalBehind 29 = .ok (.ifCond .ne 14, 3) := by decide +kernel
theorem dX5_totalBehind_32 : decode cX5_totalBehind 32 = .ok (.aload_n 0, 1) := by decide +kernel
theorem dX5_totalBehind_33 : decode cX5_totalBehind 33 = .ok (.getfield 21, 3) := by decide +kernel
theorem dX5_totalBehind_36 : decode cX5_totalBehind 36 = .ok (.getfield 291, 3) := by decide +kernel
theorem dX5_totalBehind_39 : decode cX5_totalBehind 39 = .ok (.l2i, 1) := by decide +kernel
theorem dX5_totalBehind_40 : decode cX5_totalBehind 40 = .ok (.goto 10, 3) := by decide +kernel
theorem dX5_totalBehind_43 : decode cX5_totalBehind 43 = .ok (.aload_n 0, 1) := by decide +kernel
theorem dX5_totalBehind_44 : decode cX5_totalBehind 44 = .ok (.getfield 21, 3) := by decide +kernel
theorem dX5_totalBehind_47 : decode cX5_totalBehind 47 = .ok (.getfield 295, 3) := by decide +kernel
theorem dX5_totalBehind_50 : decode cX5_totalBehind 50 = .ok (.ireturn, 1) := by decide +kernel
set_option maxHeartbeats 4000000 in
set_option maxRecDepth 100000 in
theorem mX5_totalBehind0 (l : Launch) (D : va_G) (κ a : Nat → Nat) (ε : EE) (V N way num m : Nat) (S : List Nat) (T : Nat → List (Nat × Nat)) (u : US) (hA : AB V N way num m S T u) (n : Nat) (hn : 1 ≤ n ∧ n ≤ N) : Ct (W0 κ a) l D κ ε yX5_totalBehind cX5_totalBehind 3 (some .int) 2 48 0 0 u [.ref (a 0), .int (iI (n : Int)), .int (iI 0)] (fun v u' => v = some (.int (iI (rfS (T (n - 1)) (ky V S ((S.length : Int) - 1) (n - 1)) V : Int))) ∧ Fr [8, 9] [10] u u') := by
  obtain ⟨⟨hV, hN, hway, hnum, hm, hSl, hSV⟩, eV, eN, ew, en, ⟨eS, hS⟩, hT⟩ := id hA
  refine Ct.of (own := RX5) rfl (by decide +kernel) (Nat.le_of_ble_eq_true rfl) rfl (fun Γ h => ?_)
  refine w_aload_n h (pc := 0) dX5_totalBehind_0 rfl ?_
  refine g0_reckoner h (pc := 1) wm_20 dX5_totalBehind_1 ?_
  refine w_aload_n h (pc := 4) dX5_totalBehind_4 rfl ?_
  refine g0_ledger h (pc := 5) wm_16 dX5_totalBehind_5 ?_
  refine w_iload_n h (pc := 8) dX5_totalBehind_8 rfl ?_
  refine w_callV1 h (pc := 9) (mX0_countsOf l D κ a ε u n (by omega)) 1 rfl rfl (gdV wm_269 wm_120 wm_121 wm_15 wm_122) (by decide +kernel) ⟨(Nat.le_of_ble_eq_true rfl), (Nat.le_of_ble_eq_true rfl)⟩ ⟨(Nat.le_of_ble_eq_true rfl), (Nat.le_of_ble_eq_true rfl)⟩ (fun _ _ _ => ⟨rfl, rfl⟩) (Nat.le_of_ble_eq_true rfl) dX5_totalBehind_9 (fun v1 u1 hp1 => ?_)
  obtain ⟨rfl, e1⟩ := hp1
  obtain rfl := e1.symm
  simp only [Option.toList_some, List.cons_append, List.nil_append]
  refine w_aload_n h (pc := 12) dX5_totalBehind_12 rfl ?_
  refine w_aload_n h (pc := 13) dX5_totalBehind_13 rfl ?_
  refine g0_length h (pc := 14) eS wm_33 dX5_totalBehind_14 ?_
  refine w_iconst h (pc := 17) dX5_totalBehind_17 ?_
  refine w_isub h (pc := 18) dX5_totalBehind_18 ?_
  refine w_iload_n h (pc := 19) dX5_totalBehind_19 rfl ?_
  refine w_iconst h (pc := 20) dX5_totalBehind_20 ?_
  refine w_isub h (pc := 21) dX5_totalBehind_21 ?_
  rw [show ((n : Int) - 1) = ((n - 1 : Nat) : Int) by omega]
  refine w_callV2 h (pc := 22) (mX5_keyUpTo l D κ a ε V N way num m S T u hA ((S.length : Int) - 1) (by omega) (n - 1) (by omega)) 0 rfl rfl (gdV wm_170 wm_171 wm_172 wm_2 wm_173) (by decide +kernel) ⟨(Nat.le_of_ble_eq_true rfl), (Nat.le_of_ble_eq_true rfl)⟩ ⟨(Nat.le_of_ble_eq_true rfl), (Nat.le_of_ble_eq_true rfl)⟩ (fun _ _ _ => ⟨rfl, rfl⟩) (Nat.le_of_ble_eq_true rfl) dX5_totalBehind_22 (fun v2 u2 hp2 => ?_)
  obtain ⟨rfl, e2⟩ := hp2
  obtain rfl := e2.symm
  simp only [Option.toList_some, List.cons_append, List.nil_append]
  refine w_callV2 h (pc := 25) (mX1_gather l D κ a ε V m u hV (by omega) (n - 1) (by omega) (T (n - 1)) (hT (n - 1) (by omega)).1 (hT (n - 1) (by omega)).2 (ky V S ((S.length : Int) - 1) (n - 1)) (ky_3 hV hSV (by omega) _)) 2 rfl rfl (gdV wm_281 wm_282 wm_283 wm_19 wm_284) (by decide +kernel) ⟨(Nat.le_of_ble_eq_true rfl), (Nat.le_of_ble_eq_true rfl)⟩ ⟨(Nat.le_of_ble_eq_true rfl), (Nat.le_of_ble_eq_true rfl)⟩ (fun _ _ _ => ⟨rfl, rfl⟩) (Nat.le_of_ble_eq_true rfl) dX5_totalBehind_25 (fun v3 u3 hp3 => ?_)
  obtain ⟨rfl, hF3, hO3, hS2, hK2⟩ := hp3
  simp only [Option.toList_none, List.nil_append]
  refine w_iload_n h (pc := 28) dX5_totalBehind_28 rfl ?_
  refine w_if_ne h (pc := 29) (tgt := 43) dX5_totalBehind_29 (by decide) (by omega) (fun c29 => by exfalso; omega) (fun c29 => ?_)
  refine w_aload_n h (pc := 32) dX5_totalBehind_32 rfl ?_
  refine g0_reckoner h (pc := 33) wm_20 dX5_totalBehind_33 ?_
  refine g2_sum h (pc := 36) hS2 wm_279 dX5_totalBehind_36 ?_
  refine w_l2i h (pc := 39) dX5_totalBehind_39 ?_
  refine w_goto h (pc := 40) (tgt := 50) dX5_totalBehind_40 (by decide) ?_
  exact w_iret h (pc := 50) (ty := .int) rfl rfl dX5_totalBehind_50 (Nat.le_of_ble_eq_true rfl) (Nat.le_of_ble_eq_true rfl) ⟨rfl, hF3⟩

set_option maxHeartbeats 4000000 in
set_option maxRecDepth 100000 in
theorem mX5_totalBehind1 (l : Launch) (D : va_G) (κ a : Nat → Nat) (ε : EE) (V N way num m : Nat) (S : List Nat) (T : Nat → List (Nat × Nat)) (u : US) (hA : AB V N way num m S T u) (n : Nat) (hn : 1 ≤ n ∧ n ≤ N) : Ct (W0 κ a) l D κ ε yX5_totalBehind cX5_totalBehind 3 (some .int) 2 48 0 0 u [.ref (a 0), .int (iI (n : Int)), .int (iI 1)] (fun v u' => v = some (.int (iI (kd (fun w => gt (T (n - 1)) (ky V S ((S.length : Int) - 1) (n - 1) * 14 + w + 1)) (V + 1) : Int))) ∧ Fr [8, 9] [10] u u') := by
  obtain ⟨⟨hV, hN, hway, hnum, hm, hSl, hSV⟩, eV, eN, ew, en, ⟨eS, hS⟩, hT⟩ := id hA
  refine Ct.of (own := RX5) rfl (by decide +kernel) (Nat.le_of_ble_eq_true rfl) rfl (fun Γ h => ?_)
  refine w_aload_n h (pc := 0) dX5_totalBehind_0 rfl ?_
  refine g0_reckoner h (pc := 1) wm_20 dX5_totalBehind_1 ?_
  refine w_aload_n h (pc := 4) dX5_totalBehind_4 rfl ?_
  refine g0_ledger h (pc := 5) wm_16 dX5_totalBehind_5 ?_
  refine w_iload_n h (pc := 8) dX5_totalBehind_8 rfl ?_
  refine w_callV1 h (pc := 9) (mX0_countsOf l D κ a ε u n (by omega)) 1 rfl rfl (gdV wm_269 wm_120 wm_121 wm_15 wm_122) (by decide +kernel) ⟨(Nat.le_of_ble_eq_true rfl), (Nat.le_of_ble_eq_true rfl)⟩ ⟨(Nat.le_of_ble_eq_true rfl), (Nat.le_of_ble_eq_true rfl)⟩ (fun _ _ _ => ⟨rfl, rfl⟩) (Nat.le_of_ble_eq_true rfl) dX5_totalBehind_9 (fun v1 u1 hp1 => ?_)
  obtain ⟨rfl, e1⟩ := hp1
  obtain rfl := e1.symm
  simp only [Option.toList_some, List.cons_append, List.nil_append]
  refine w_aload_n h (pc := 12) dX5_totalBehind_12 rfl ?_
  refine w_aload_n h (pc := 13) dX5_totalBehind_13 rfl ?_
  refine g0_length h (pc := 14) eS wm_33 dX5_totalBehind_14 ?_
  refine w_iconst h (pc := 17) dX5_totalBehind_17 ?_
  refine w_isub h (pc := 18) dX5_totalBehind_18 ?_
  refine w_iload_n h (pc := 19) dX5_totalBehind_19 rfl ?_
  refine w_iconst h (pc := 20) dX5_totalBehind_20 ?_
  refine w_isub h (pc := 21) dX5_totalBehind_21 ?_
  rw [show ((n : Int) - 1) = ((n - 1 : Nat) : Int) by omega]
  refine w_callV2 h (pc := 22) (mX5_keyUpTo l D κ a ε V N way num m S T u hA ((S.length : Int) - 1) (by omega) (n - 1) (by omega)) 0 rfl rfl (gdV wm_170 wm_171 wm_172 wm_2 wm_173) (by decide +kernel) ⟨(Nat.le_of_ble_eq_true rfl), (Nat.le_of_ble_eq_true rfl)⟩ ⟨(Nat.le_of_ble_eq_true rfl), (Nat.le_of_ble_eq_true rfl)⟩ (fun _ _ _ => ⟨rfl, rfl⟩) (Nat.le_of_ble_eq_true rfl) dX5_totalBehind_22 (fun v2 u2 hp2 => ?_)
  obtain ⟨rfl, e2⟩ := hp2
  obtain rfl := e2.symm
  simp only [Option.toList_some, List.cons_append, List.nil_append]
  refine w_callV2 h (pc := 25) (mX1_gather l D κ a ε V m u hV (by omega) (n - 1) (by omega) (T (n - 1)) (hT (n - 1) (by omega)).1 (hT (n - 1) (by omega)).2 (ky V S ((S.length : Int) - 1) (n - 1)) (ky_3 hV hSV (by omega) _)) 2 rfl rfl (gdV wm_281 wm_282 wm_283 wm_19 wm_284) (by decide +kernel) ⟨(Nat.le_of_ble_eq_true rfl), (Nat.le_of_ble_eq_true rfl)⟩ ⟨(Nat.le_of_ble_eq_true rfl), (Nat.le_of_ble_eq_true rfl)⟩ (fun _ _ _ => ⟨rfl, rfl⟩) (Nat.le_of_ble_eq_true rfl) dX5_totalBehind_25 (fun v3 u3 hp3 => ?_)
  obtain ⟨rfl, hF3, hO3, hS2, hK2⟩ := hp3
  simp only [Option.toList_none, List.nil_append]
  refine w_iload_n h (pc := 28) dX5_totalBehind_28 rfl ?_
  refine w_if_ne h (pc := 29) (tgt := 43) dX5_totalBehind_29 (by decide) (by omega) (fun c29 => ?_) (fun c29 => by exfalso; omega)
  refine w_aload_n h (pc := 43) dX5_totalBehind_43 rfl ?_
  refine g0_reckoner h (pc := 44) wm_20 dX5_totalBehind_44 ?_
  refine g2_kinds h (pc := 47) hK2 wm_280 dX5_totalBehind_47 ?_
  exact w_iret h (pc := 50) (ty := .int) rfl rfl dX5_totalBehind_50 (Nat.le_of_ble_eq_true rfl) (Nat.le_of_ble_eq_true rfl) ⟨rfl, hF3⟩

set_option maxHeartbeats 4000000 in
set_option maxRecDepth 100000 in
theorem mX5_dropDoomed (l : Launch) (D : va_G) (κ a : Nat → Nat) (ε : EE) (V N way num m : Nat) (S : List Nat) (T : Nat → List (Nat × Nat)) (u : US) (hA : AB V N way num m S T u) (n : Nat) (hn : 2 ≤ n ∧ n ≤ N) (dm : Nat) (hdm : dm = 0 ∨ dm = 1) (hd : ∀ e, e < (T (n - 1)).length → u.2 5 e = (dm : Int)) : Ct (W0 κ a) l D κ ε yX5_dropDoomed cX5_dropDoomed 4 (some .int) 5 130 0 0 u [.ref (a 0), .int (iI (n : Int))] (fun v u' => v = some (.int (iI ((dm * (T (n - 1)).length : Nat) : Int))) ∧ Fr tS tG u u' ∧ ∃ T', AB V N way num m S T' u' ∧ (dm = 0 → ∀ i, i < 4 → T' i = T i) ∧ (dm = 1 → T' (n - 1) = [])) := by
  obtain ⟨⟨hV, hN, hway, hnum, hm, hSl, hSV⟩, eV, eN, ew, en, ⟨eS, hS⟩, hT⟩ := id hA
  have hT0 := hT (n - 1) (by omega)
  have hlen := hT0.2.2.2.1
  have hs0 := hT0.2.1
  refine Ct.of (own := RX5) rfl (by decide +kernel) (Nat.le_of_ble_eq_true rfl) rfl (fun Γ h => ?_)
  refine w_iconst h (pc := 0) dX5_dropDoomed_0 ?_
  refine w_istore_n h (pc := 1) dX5_dropDoomed_1 (by decide) ?_
  refine w_aload_n h (pc := 2) dX5_dropDoomed_2 rfl ?_
  refine g0_ledger h (pc := 3) wm_16 dX5_dropDoomed_3 ?_
  refine w_iload_n h (pc := 6) dX5_dropDoomed_6 rfl ?_
  refine w_callV1 h (pc := 7) (mX0_countsOf l D κ a ε u n (by omega)) 1 rfl rfl (gdV wm_269 wm_120 wm_121 wm_15 wm_122) (by decide +kernel) ⟨(Nat.le_of_ble_eq_true rfl), (Nat.le_of_ble_eq_true rfl)⟩ ⟨(Nat.le_of_ble_eq_true rfl), (Nat.le_of_ble_eq_true rfl)⟩ (fun _ _ _ => ⟨rfl, rfl⟩) (Nat.le_of_ble_eq_true rfl) dX5_dropDoomed_7 (fun v1 u1 hp1 => ?_)
  obtain ⟨rfl, e1⟩ := hp1
  obtain rfl := e1.symm
  simp only [Option.toList_some, List.cons_append, List.nil_append]
  refine gT_size h (pc := 10) (by omega) hT0.1.1 wm_266 dX5_dropDoomed_10 ?_
  refine w_iconst h (pc := 13) dX5_dropDoomed_13 ?_
  refine w_isub h (pc := 14) dX5_dropDoomed_14 ?_
  refine w_istore_n h (pc := 15) dX5_dropDoomed_15 (by decide) ?_
  have lp16 : ∀ (n9 j : Nat) (z g : Int) (w : US), z + 1 = (j : Int) → j < n9 → j ≤ (T (n - 1)).length → g = (dm : Int) * ((T (n - 1)).length - j) → Fr tS tG u w → (∃ T9, TA V m w T9 ∧ (∀ i, i < 4 → i ≠ n - 1 → T9 i = T i) ∧ T9 (n - 1) = (if dm = 1 then (T (n - 1)).take j else T (n - 1))) → WW Γ 4 w 16 [(0, .ref (a 0)), (1, .int (iI (n : Int))), (2, .int (iI g)), (3, .int (iI z))] [] := by
    intro n9
    induction n9 with
    | zero => intro j z g w hz hn9 hj hg hF hT9; exfalso; omega
    | succ n9 ih =>
      intro j z g w hz hn9 hj hg hF hT9
      obtain ⟨T9, hT9, hs9, ht9⟩ := hT9
      refine w_iload_n h (pc := 16) dX5_dropDoomed_16 rfl ?_
      refine w_if_lt h (pc := 17) (tgt := 47) dX5_dropDoomed_17 (by decide) (by omega) (fun c17 => ?_) (fun c17 => ?_)
      · have ej : j = 0 := by omega
        subst ej
        have hgz : g = ((dm * (T (n - 1)).length : Nat) : Int) := by rw [hg]; rcases hdm with e | e <;> rw [e] <;> omega
        refine w_iload_n h (pc := 47) dX5_dropDoomed_47 rfl ?_
        exact w_iret h (pc := 48) (ty := .int) rfl rfl dX5_dropDoomed_48 (Nat.le_of_ble_eq_true rfl) (Nat.le_of_ble_eq_true rfl) ⟨by rw [hgz], hF, T9, hA.setT hF hT9 (by omega), fun e i hi => by by_cases q : i = n - 1; rw [q, ht9, if_neg (by omega)]; exact hs9 i hi q, fun e => by rw [ht9, if_pos e]; rfl⟩
      · obtain ⟨y, hy⟩ : ∃ y : Nat, y + 1 = j := ⟨j - 1, by omega⟩
        have hdz : w.2 5 z.toNat = (dm : Int) := by rw [hF.2 5 (by simp [tG])]; exact hd _ (by omega)
        refine w_aload_n h (pc := 20) dX5_dropDoomed_20 rfl ?_
        refine g0_doomed h (pc := 21) wm_30 dX5_dropDoomed_21 ?_
        refine w_iload_n h (pc := 24) dX5_dropDoomed_24 rfl ?_
        refine ld_doomed h (pc := 25) (by omega) hdz dX5_dropDoomed_25 ?_
        refine w_if_eq h (pc := 26) (tgt := 41) dX5_dropDoomed_26 (by decide) (by omega) (fun c26 => ?_) (fun c26 => ?_)
        · refine w_iinc h (pc := 41) dX5_dropDoomed_41 rfl (by decide) ?_
          refine w_goto h (pc := 44) (tgt := 16) dX5_dropDoomed_44 (by decide) ?_
          first
          | exact WW.sub (by rfl) (ih y (z + (-1)) g _ (by omega) (by omega) (by omega) (by rw [hg, show dm = 0 by omega]; omega) hF ⟨T9, hT9, hs9, by rw [ht9, if_neg (by omega), if_neg (by omega)]⟩)
          | exact WW.sub (by rfl) (ih y _ (g + 1) _ (by omega) (by omega) (by omega) (by rw [hg, show dm = 1 by omega]; omega) (hF.tr hF2) ⟨T2, hT2, fun i hi hne => by rw [hs2 i hi, if_neg (by omega)]; exact hs9 i hi hne, by rw [hs2 (n - 1) (by omega), if_pos (by omega), if_pos (by omega), ht9, if_pos (by omega), ← hy]; exact del_take hs0 hb⟩)
        · obtain ⟨b, hb⟩ := getN (t := T (n - 1)) (j := y) (by omega)
          have ht8 : T9 (n - 1) = (T (n - 1)).take j := by rw [ht9, if_pos (by omega)]
          have hb9 : (T9 (n - 1))[y]? = some b := by rw [ht8, List.getElem?_take, if_pos (by omega)]; exact hb
          have hbw := (hT9 (n - 1) (by omega)).2.1.idx hb9
          obtain rfl : z = ((bw (T9 (n - 1)) b.1 : Nat) : Int) := by omega
          refine w_aload_n h (pc := 29) dX5_dropDoomed_29 rfl ?_
          refine g0_ledger h (pc := 30) wm_16 dX5_dropDoomed_30 ?_
          refine w_iload_n h (pc := 33) dX5_dropDoomed_33 rfl ?_
          refine w_iload_n h (pc := 34) dX5_dropDoomed_34 rfl ?_
          refine w_callV2 h (pc := 35) (mX0_drop l D κ a ε V m w T9 hT9 n (by omega) (by omega) b (List.mem_of_getElem? hb9)) 1 rfl rfl (gdV wm_472 wm_473 wm_474 wm_15 wm_475) (by decide +kernel) ⟨(Nat.le_of_ble_eq_true rfl), (Nat.le_of_ble_eq_true rfl)⟩ ⟨(Nat.le_of_ble_eq_true rfl), (Nat.le_of_ble_eq_true rfl)⟩ (fun _ _ _ => ⟨rfl, rfl⟩) (Nat.le_of_ble_eq_true rfl) dX5_dropDoomed_35 (fun v2 u2 hp2 => ?_)
          obtain ⟨rfl, hF2, T2, hT2, hs2⟩ := hp2
          simp only [Option.toList_none, List.nil_append]
          refine w_iinc h (pc := 38) dX5_dropDoomed_38 rfl (by decide) ?_
          refine w_iinc h (pc := 41) dX5_dropDoomed_41 rfl (by decide) ?_
          refine w_goto h (pc := 44) (tgt := 16) dX5_dropDoomed_44 (by decide) ?_
          first
          | exact WW.sub (by rfl) (ih y (z + (-1)) g _ (by omega) (by omega) (by omega) (by rw [hg, show dm = 0 by omega]; omega) hF ⟨T9, hT9, hs9, by rw [ht9, if_neg (by omega), if_neg (by omega)]⟩)
          | exact WW.sub (by rfl) (ih y _ (g + 1) _ (by omega) (by omega) (by omega) (by rw [hg, show dm = 1 by omega]; omega) (hF.tr hF2) ⟨T2, hT2, fun i hi hne => by rw [hs2 i hi, if_neg (by omega)]; exact hs9 i hi hne, by rw [hs2 (n - 1) (by omega), if_pos (by omega), if_pos (by omega), ht9, if_pos (by omega), ← hy]; exact del_take hs0 hb⟩)
  exact WW.sub (by rfl) (lp16 ((T (n - 1)).length + 1) (T (n - 1)).length _ 0 u (by omega) (by omega) (by omega) (by rw [Int.sub_self, Int.mul_zero]) Fr.rfl ⟨T, hT, fun _ _ _ => rfl, by rw [List.take_length]; split <;> rfl⟩)

set_option maxHeartbeats 4000000 in
set_option maxRecDepth 100000 in
theorem mX5_luckBehind (l : Launch) (D : va_G) (κ a : Nat → Nat) (ε : EE) (u : US) (k : Nat) (hk : k < 10000) : Ct (W0 κ a) l D κ ε yX5_luckBehind cX5_luckBehind 1 (some .int) 0 0 0 0 u [.int (iI (k : Int))] (fun v u' => v = some (.int (iI (((k * 4621 + 2777) % 10000 : Nat) : Int))) ∧ u' = u) := by
  refine Ct.of (own := RX5) rfl (by decide +kernel) (Nat.le_of_ble_eq_true rfl) rfl (fun Γ h => ?_)
  refine w_iload_n h (pc := 0) dX5_luckBehind_0 rfl ?_
  refine w_sipush h (pc := 1) dX5_luckBehind_1 (by decide) ?_
  refine w_imul h (pc := 4) dX5_luckBehind_4 ?_
  refine w_sipush h (pc := 5) dX5_luckBehind_5 (by decide) ?_
  refine w_iadd h (pc := 8) dX5_luckBehind_8 ?_
  refine w_sipush h (pc := 9) dX5_luckBehind_9 (by decide) ?_
  refine w_irem h (pc := 12) dX5_luckBehind_12 (by omega) (by omega) ?_
  exact w_iret h (pc := 13) (ty := .int) rfl rfl dX5_luckBehind_13 (Nat.le_of_ble_eq_true rfl) (Nat.le_of_ble_eq_true rfl) ⟨rfl, rfl⟩

set_option maxHeartbeats 4000000 in
set_option maxRecDepth 100000 in
theorem mX5_allOutcomes (l : Launch) (D : va_G) (κ a : Nat → Nat) (ε : EE) (V : Nat) (u : US) (hV : V ≤ 12) (eV : u.1 4 = (V : Int)) : Ct (W0 κ a) l D κ ε yX5_allOutcomes cX5_allOutcomes 1 (some .int) 0 0 0 0 u [.ref (a 0)] (fun v u' => v = some (.int (iI ((2 ^ (V + 1) - 1 : Nat) : Int))) ∧ u' = u) := by
  refine Ct.of (own := RX5) rfl (by decide +kernel) (Nat.le_of_ble_eq_true rfl) rfl (fun Γ h => ?_)
  refine w_iconst h (pc := 0) dX5_allOutcomes_0 ?_
  refine w_aload_n h (pc := 1) dX5_allOutcomes_1 rfl ?_
  refine g0_ledger h (pc := 2) wm_16 dX5_allOutcomes_2 ?_
  refine g1_words h (pc := 5) eV wm_113 dX5_allOutcomes_5 ?_
  refine w_iconst h (pc := 8) dX5_allOutcomes_8 ?_
  refine w_iadd h (pc := 9) dX5_allOutcomes_9 ?_
  refine w_ishl h (pc := 10) (z := ((2 ^ (V + 1) : Nat) : Int)) dX5_allOutcomes_10 (shl_1 (j := V + 1) (by omega)) ?_
  refine w_iconst h (pc := 11) dX5_allOutcomes_11 ?_
  refine w_isub h (pc := 12) dX5_allOutcomes_12 ?_
  have h2 := two_pos (V + 1)
  rw [show ((2 ^ (V + 1) : Nat) : Int) - 1 = ((2 ^ (V + 1) - 1 : Nat) : Int) by omega]
  exact w_iret h (pc := 13) (ty := .int) rfl rfl dX5_allOutcomes_13 (Nat.le_of_ble_eq_true rfl) (Nat.le_of_ble_eq_true rfl) ⟨rfl, rfl⟩

set_option maxHeartbeats 4000000 in
set_option maxRecDepth 100000 in
theorem mX5_draw (l : Launch) (D : va_G) (κ a : Nat → Nat) (ε : EE) (V : Nat) (u : US) (hV : V ≤ 12) (eV : u.1 4 = (V : Int)) (p : Nat → Nat) (hc : ∀ x, x ≤ V → u.2 9 x = (p x : Int) ∧ p x ≤ 1000000) (lk9 dr : Nat) (hlk : lk9 < 10000) (elk : u.1 1 = (lk9 : Int)) (edr : u.1 2 = (dr : Int)) (w0 : Nat) (hw0 : w0 ≤ V) : Ct (W0 κ a) l D κ ε yX5_draw cX5_draw 2 (some .int) 1 30 0 0 u [.ref (a 0), .int (iI ((2 ^ w0 : Nat) : Int))] (fun v u' => v = some (.int (iI (w0 : Int))) ∧ Fr [1, 2] [] u u') := by
  refine Ct.of (own := RX5) rfl (by decide +kernel) (Nat.le_of_ble_eq_true rfl) rfl (fun Γ h => ?_)
  refine w_aload_n h (pc := 0) dX5_draw_0 rfl ?_
  refine w_aload_n h (pc := 1) dX5_draw_1 rfl ?_
  refine g0_luck h (pc := 2) elk wm_34 dX5_draw_2 ?_
  refine w_callS1 h (pc := 5) (mX5_luckBehind l D κ a ε u lk9 hlk) (gdS wm_358 wm_359 wm_2 wm_360) (by decide +kernel) ⟨(Nat.le_of_ble_eq_true rfl), (Nat.le_of_ble_eq_true rfl)⟩ ⟨(Nat.le_of_ble_eq_true rfl), (Nat.le_of_ble_eq_true rfl)⟩ (fun _ _ _ => ⟨rfl, rfl⟩) (Nat.le_of_ble_eq_true rfl) dX5_draw_5 (fun v1 u1 hp1 => ?_)
  obtain ⟨rfl, e1⟩ := hp1
  obtain rfl := e1.symm
  simp only [Option.toList_some, List.cons_append, List.nil_append]
  refine p0_luck h (pc := 8) wm_34 dX5_draw_8 ?_
  refine w_aload_n h (pc := 11) dX5_draw_11 rfl ?_
  refine w_dup h (pc := 12) dX5_draw_12 rfl ?_
  refine g0_draws h (pc := 13) edr wm_35 dX5_draw_13 ?_
  refine w_iconst h (pc := 16) dX5_draw_16 ?_
  refine w_iadd h (pc := 17) dX5_draw_17 ?_
  refine p0_draws h (pc := 18) wm_35 dX5_draw_18 ?_
  refine w_aload_n h (pc := 21) dX5_draw_21 rfl ?_
  refine g0_reckoner h (pc := 22) wm_20 dX5_draw_22 ?_
  refine w_aload_n h (pc := 25) dX5_draw_25 rfl ?_
  refine g0_luck h (pc := 26) rfl wm_34 dX5_draw_26 ?_
  refine w_iload_n h (pc := 29) dX5_draw_29 rfl ?_
  refine w_callV2 h (pc := 30) (mX1_pick l D κ a ε V (uS (uS u 1 (((lk9 * 4621 + 2777) % 10000 : Nat) : Int)) 2 ((dr : Int) + 1)) hV eV p hc ((lk9 * 4621 + 2777) % 10000) (by omega) ((2 ^ w0 : Nat) : Int) (fun i => if i = w0 then 1 else 0) (fun w hw => ⟨by rw [bit_one (by omega) (by omega)]; split <;> rfl, by split <;> omega⟩) ⟨w0, hw0, if_pos rfl⟩) 2 rfl rfl (gdV wm_365 wm_366 wm_367 wm_19 wm_368) (by decide +kernel) ⟨(Nat.le_of_ble_eq_true rfl), (Nat.le_of_ble_eq_true rfl)⟩ ⟨(Nat.le_of_ble_eq_true rfl), (Nat.le_of_ble_eq_true rfl)⟩ (fun _ _ _ => ⟨rfl, rfl⟩) (Nat.le_of_ble_eq_true rfl) dX5_draw_30 (fun v2 u2 hp2 => ?_)
  obtain ⟨rfl, r, rfl, hr, hr1, -⟩ := hp2
  obtain rfl : r = w0 := by
    by_cases q : r = w0
    · exact q
    · rw [if_neg q] at hr1; omega
  simp only [Option.toList_some, List.cons_append, List.nil_append]
  exact w_iret h (pc := 33) (ty := .int) rfl rfl dX5_draw_33 (Nat.le_of_ble_eq_true rfl) (Nat.le_of_ble_eq_true rfl) ⟨rfl, (Fr.S (by simp)).tr (Fr.S (by simp))⟩

set_option maxHeartbeats 4000000 in
set_option maxRecDepth 100000 in
theorem mX5_outcomeOf (l : Launch) (D : va_G) (κ a : Nat → Nat) (ε : EE) (V : Nat) (u : US) (hV : V ≤ 12) (eV : u.1 4 = (V : Int)) (p : Nat → Nat) (hc : ∀ x, x ≤ V → u.2 9 x = (p x : Int) ∧ p x ≤ 1000000) (lk9 dr : Nat) (hlk : lk9 < 10000) (elk : u.1 1 = (lk9 : Int)) (edr : u.1 2 = (dr : Int)) (w0 : Nat) (hw0 : w0 ≤ V) (hr0 : rk p (V + 1) w0 = 0) : Ct (W0 κ a) l D κ ε yX5_outcomeOf cX5_outcomeOf 3 (some .int) 3 68 0 0 u [.ref (a 0), .int (iI 3), .int (iI 1)] (fun v u' => v = some (.int (iI (w0 : Int))) ∧ Fr [1, 2] [] u u') := by
  refine Ct.of (own := RX5) rfl (by decide +kernel) (Nat.le_of_ble_eq_true rfl) rfl (fun Γ h => ?_)
  refine w_iload_n h (pc := 0) dX5_outcomeOf_0 rfl ?_
  refine w_tabIn h (pc := 1) (tgt := 43) (off := 42) dX5_outcomeOf_1 (by omega) (by decide) (by decide) rfl (by decide) ?_
  refine w_aload_n h (pc := 43) dX5_outcomeOf_43 rfl ?_
  refine w_aload_n h (pc := 44) dX5_outcomeOf_44 rfl ?_
  refine g0_reckoner h (pc := 45) wm_20 dX5_outcomeOf_45 ?_
  refine w_iload_n h (pc := 48) dX5_outcomeOf_48 rfl ?_
  refine w_callV1 h (pc := 49) (mX1_likeliest l D κ a ε V u hV eV p hc w0 hw0 hr0) 2 rfl rfl (gdV wm_518 wm_519 wm_520 wm_19 wm_521) (by decide +kernel) ⟨(Nat.le_of_ble_eq_true rfl), (Nat.le_of_ble_eq_true rfl)⟩ ⟨(Nat.le_of_ble_eq_true rfl), (Nat.le_of_ble_eq_true rfl)⟩ (fun _ _ _ => ⟨rfl, rfl⟩) (Nat.le_of_ble_eq_true rfl) dX5_outcomeOf_49 (fun v1 u1 hp1 => ?_)
  obtain ⟨rfl, e1⟩ := hp1
  obtain rfl := e1.symm
  simp only [Option.toList_some, List.cons_append, List.nil_append]
  refine w_callV1 h (pc := 52) (mX5_draw l D κ a ε V u hV eV p hc lk9 dr hlk elk edr w0 hw0) 0 rfl rfl (gdV wm_522 wm_523 wm_524 wm_2 wm_525) (by decide +kernel) ⟨(Nat.le_of_ble_eq_true rfl), (Nat.le_of_ble_eq_true rfl)⟩ ⟨(Nat.le_of_ble_eq_true rfl), (Nat.le_of_ble_eq_true rfl)⟩ (fun _ _ _ => ⟨rfl, rfl⟩) (Nat.le_of_ble_eq_true rfl) dX5_outcomeOf_52 (fun v2 u2 hp2 => ?_)
  obtain ⟨rfl, hF2⟩ := hp2
  simp only [Option.toList_some, List.cons_append, List.nil_append]
  exact w_iret h (pc := 55) (ty := .int) rfl rfl dX5_outcomeOf_55 (Nat.le_of_ble_eq_true rfl) (Nat.le_of_ble_eq_true rfl) ⟨rfl, hF2⟩

set_option maxHeartbeats 4000000 in
set_option maxRecDepth 100000 in
theorem mX5_takeByStep (l : Launch) (D : va_G) (κ a : Nat → Nat) (ε : EE) (V N way num m : Nat) (S : List Nat) (T : Nat → List (Nat × Nat)) (u : US) (hA : AB V N way num m S T u) (lk9 dr ed : Nat) (hlk : lk9 < 10000) (elk : u.1 1 = (lk9 : Int)) (edr : u.1 2 = (dr : Int)) (een : u.1 3 = (ed : Int)) (hl9 : S.length < 12) : Ct (W0 κ a) l D κ ε yX5_takeByStep cX5_takeByStep 4 none 5 116 0 0 u [.ref (a 0), .int (iI 3), .int (iI 1)] (fun v u' => v = none ∧ (∀ k, 11 ≤ k → u'.1 k = u.1 k) ∧ ((fw (chz V N way num S T (S.length : Int)) V 0 = V ∧ u'.1 3 = 1 ∧ AB V N way num m S T u') ∨ (fw (chz V N way num S T (S.length : Int)) V 0 < V ∧ u'.1 3 = (ed : Int) ∧ AB V N way num m (S ++ [fw (chz V N way num S T (S.length : Int)) V 0]) T u'))) := by
  obtain ⟨⟨hV, hN, hway, hnum, hm, hSl, hSV⟩, eV, eN, ew, en, ⟨eS, hS⟩, hT⟩ := id hA
  refine Ct.of (own := RX5) rfl (by decide +kernel) (Nat.le_of_ble_eq_true rfl) rfl (fun Γ h => ?_)
  refine w_aload_n h (pc := 0) dX5_takeByStep_0 rfl ?_
  refine w_callV0 h (pc := 1) (mX5_reckonBehindSentence l D κ a ε V N way num m S T u hA) 0 rfl rfl (gdV wm_298 wm_299 wm_300 wm_2 wm_301) (by decide +kernel) ⟨(Nat.le_of_ble_eq_true rfl), (Nat.le_of_ble_eq_true rfl)⟩ ⟨(Nat.le_of_ble_eq_true rfl), (Nat.le_of_ble_eq_true rfl)⟩ (fun _ _ _ => ⟨rfl, rfl⟩) (Nat.le_of_ble_eq_true rfl) dX5_takeByStep_1 (fun v1 u1 hp1 => ?_)
  obtain ⟨rfl, hF1, hc1⟩ := hp1
  have hfw := fw_ok (p := (chz V N way num S T (S.length : Int))) (V := V) (r := 0) (by omega)
  have hA1 := hA.of hF1 (by simp [tS]) (by simp [tG]) (by simp) (by simp)
  simp only [Option.toList_none, List.nil_append]
  refine w_aload_n h (pc := 4) dX5_takeByStep_4 rfl ?_
  refine w_iload_n h (pc := 5) dX5_takeByStep_5 rfl ?_
  refine w_iload_n h (pc := 6) dX5_takeByStep_6 rfl ?_
  refine w_callV2 h (pc := 7) (mX5_outcomeOf l D κ a ε V u1 hV ((hF1.1 4 (by simp)).trans eV) (chz V N way num S T (S.length : Int)) (fun x hx => ⟨hc1 x hx, chz_le hnum hN.1 _ hx⟩) lk9 dr hlk ((hF1.1 1 (by simp)).trans elk) ((hF1.1 2 (by simp)).trans edr) (fw (chz V N way num S T (S.length : Int)) V 0) hfw.1 hfw.2) 0 rfl rfl (gdV wm_514 wm_515 wm_516 wm_2 wm_517) (by decide +kernel) ⟨(Nat.le_of_ble_eq_true rfl), (Nat.le_of_ble_eq_true rfl)⟩ ⟨(Nat.le_of_ble_eq_true rfl), (Nat.le_of_ble_eq_true rfl)⟩ (fun _ _ _ => ⟨rfl, rfl⟩) (Nat.le_of_ble_eq_true rfl) dX5_takeByStep_7 (fun v2 u2 hp2 => ?_)
  obtain ⟨rfl, hF2⟩ := hp2
  have hA2 := hA1.of hF2 (by simp [tS]) (by simp [tG]) (by simp) (by simp)
  have eV3 := hA2.2.1
  have hk2 : ∀ k, 11 ≤ k → u2.1 k = u.1 k := fun k hk => (hF2.1 k (by simp; omega)).trans (hF1.1 k (by simp; omega))
  have e32 : u2.1 3 = (ed : Int) := ((hF2.1 3 (by simp)).trans (hF1.1 3 (by simp))).trans een
  simp only [Option.toList_some, List.cons_append, List.nil_append]
  refine w_istore_n h (pc := 10) dX5_takeByStep_10 (by decide) ?_
  refine w_iload_n h (pc := 11) dX5_takeByStep_11 rfl ?_
  refine w_aload_n h (pc := 12) dX5_takeByStep_12 rfl ?_
  refine g0_ledger h (pc := 13) wm_16 dX5_takeByStep_13 ?_
  refine g1_words h (pc := 16) eV3 wm_113 dX5_takeByStep_16 ?_
  refine w_icmp_ne h (pc := 19) (tgt := 30) dX5_takeByStep_19 (by decide) (by omega) (by omega) (fun c19 => ?_) (fun c19 => ?_)
  · refine w_aload_n h (pc := 30) dX5_takeByStep_30 rfl ?_
    refine w_iload_n h (pc := 31) dX5_takeByStep_31 rfl ?_
    refine w_callV1 h (pc := 32) (mX5_append l D κ a ε V N way num m S T u2 hA2 (fw (chz V N way num S T (S.length : Int)) V 0) (by omega) hl9) 0 rfl rfl (gdV wm_158 wm_159 wm_160 wm_2 wm_161) (by decide +kernel) ⟨(Nat.le_of_ble_eq_true rfl), (Nat.le_of_ble_eq_true rfl)⟩ ⟨(Nat.le_of_ble_eq_true rfl), (Nat.le_of_ble_eq_true rfl)⟩ (fun _ _ _ => ⟨rfl, rfl⟩) (Nat.le_of_ble_eq_true rfl) dX5_takeByStep_32 (fun v3 u3 hp3 => ?_)
    obtain ⟨rfl, hF3, hA3⟩ := hp3
    simp only [Option.toList_none, List.nil_append]
    exact w_vret h (pc := 35) rfl dX5_takeByStep_35 (Nat.le_of_ble_eq_true rfl) (Nat.le_of_ble_eq_true rfl) ⟨rfl, by first | exact fun k hk => (hF3.1 k (by simp; omega)).trans (hk2 k hk) | exact fun k hk => (uS_ne _ _ (by omega)).trans (hk2 k hk), by first | exact Or.inr ⟨by omega, (hF3.1 3 (by simp)).trans e32, hA3⟩ | exact Or.inl ⟨by omega, uS_at _ _ _, hA2.of (Fr.S (ls := [3]) (gs := []) (by simp)) (by simp [tS]) (by simp [tG]) (by simp) (by simp)⟩⟩
  · refine w_aload_n h (pc := 22) dX5_takeByStep_22 rfl ?_
    refine w_iconst h (pc := 23) dX5_takeByStep_23 ?_
    refine p0_ended h (pc := 24) (by omega) wm_36 dX5_takeByStep_24 ?_
    refine w_goto h (pc := 27) (tgt := 35) dX5_takeByStep_27 (by decide) ?_
    exact w_vret h (pc := 35) rfl dX5_takeByStep_35 (Nat.le_of_ble_eq_true rfl) (Nat.le_of_ble_eq_true rfl) ⟨rfl, by first | exact fun k hk => (hF3.1 k (by simp; omega)).trans (hk2 k hk) | exact fun k hk => (uS_ne _ _ (by omega)).trans (hk2 k hk), by first | exact Or.inr ⟨by omega, (hF3.1 3 (by simp)).trans e32, hA3⟩ | exact Or.inl ⟨by omega, uS_at _ _ _, hA2.of (Fr.S (ls := [3]) (gs := []) (by simp)) (by simp [tS]) (by simp [tG]) (by simp) (by simp)⟩⟩

set_option maxHeartbeats 4000000 in
set_option maxRecDepth 100000 in
theorem mX5_partOf (l : Launch) (D : va_G) (κ a : Nat → Nat) (ε : EE) (u : US) (k n p : Nat) (hk : k < 38416) (hn : 1 ≤ n ∧ n ≤ 4) (hp : p < n) : Ct (W0 κ a) l D κ ε yX5_partOf cX5_partOf 5 (some .int) 0 0 0 0 u [.ref (a 0), .int (iI (k : Int)), .int (iI (n : Int)), .int (iI (p : Int))] (fun v u' => v = some (.int (iI (prt k n p))) ∧ u' = u) := by
  have hix : ((n : Int) - 1 - (p : Int)).toNat = n - 1 - p := by omega
  have hpw := pw_p14 (n := n - 1 - p) (by omega)
  have hp14 := p14_cs (n := n - 1 - p) (by omega)
  obtain ⟨q, hq⟩ : ∃ q, q = p14 (n - 1 - p) := ⟨_, rfl⟩
  rw [← hq] at hpw hp14
  obtain ⟨r, hr⟩ : ∃ r, r = k / q := ⟨_, rfl⟩
  have hrl : r ≤ k := by rw [hr]; exact Nat.div_le_self k q
  refine Ct.of (own := RX5) rfl (by decide +kernel) (Nat.le_of_ble_eq_true rfl) rfl (fun Γ h => ?_)
  refine w_iload_n h (pc := 0) dX5_partOf_0 rfl ?_
  refine w_pows h (pc := 1) wm_274 dX5_partOf_1 ?_
  refine w_iload_n h (pc := 4) dX5_partOf_4 rfl ?_
  refine w_iconst h (pc := 5) dX5_partOf_5 ?_
  refine w_isub h (pc := 6) dX5_partOf_6 ?_
  refine w_iload_n h (pc := 7) dX5_partOf_7 rfl ?_
  refine w_isub h (pc := 8) dX5_partOf_8 ?_
  refine w_pow h (pc := 9) (by omega) ((congrArg pw hix).trans hpw) dX5_partOf_9 ?_
  refine w_idiv h (pc := 10) dX5_partOf_10 (by omega) (by omega) ?_
  refine w_bipush h (pc := 11) dX5_partOf_11 (by decide) ?_
  refine w_irem h (pc := 13) dX5_partOf_13 (by rw [show ((k : Int) / (q : Int)) = (r : Int) by rw [hr]; rfl]; omega) (by omega) ?_
  refine w_istore h (pc := 14) dX5_partOf_14 (by decide) ?_
  refine w_iload h (pc := 16) dX5_partOf_16 rfl ?_
  refine w_iconst h (pc := 18) dX5_partOf_18 ?_
  refine w_isub h (pc := 19) dX5_partOf_19 ?_
  exact w_iret h (pc := 20) (ty := .int) rfl rfl dX5_partOf_20 (Nat.le_of_ble_eq_true rfl) (Nat.le_of_ble_eq_true rfl) ⟨by unfold prt; rw [← hq]; rfl, rfl⟩

set_option maxHeartbeats 4000000 in
set_option maxRecDepth 100000 in
theorem mX5_mix (l : Launch) (D : va_G) (κ a : Nat → Nat) (ε : EE) (u : US) (d x : Int) : Ct (W0 κ a) l D κ ε yX5_mix cX5_mix 4 (some .long) 0 0 0 0 u [.long (lI d), .long (lI x)] (fun v u' => v = some (.long (lI (d * 31 + x))) ∧ u' = u) := by
  refine Ct.of (own := RX5) rfl (by decide +kernel) (Nat.le_of_ble_eq_true rfl) rfl (fun Γ h => ?_)
  refine w_lload_n h (pc := 0) dX5_mix_0 rfl ?_
  refine w_ldc2 h (pc := 1) (z := 31) dX5_mix_1 wm_261 (by decide) ?_
  refine w_lmul h (pc := 4) dX5_mix_4 ?_
  refine w_lload_n h (pc := 5) dX5_mix_5 rfl ?_
  refine w_ladd h (pc := 6) dX5_mix_6 ?_
  exact w_lret h (pc := 7) rfl dX5_mix_7 (Nat.le_of_ble_eq_true rfl) (Nat.le_of_ble_eq_true rfl) ⟨rfl, rfl⟩

set_option maxHeartbeats 4000000 in
set_option maxRecDepth 100000 in
theorem mX5_mixEntries (l : Launch) (D : va_G) (κ a : Nat → Nat) (ε : EE) (V N way num m : Nat) (S : List Nat) (T : Nat → List (Nat × Nat)) (u : US) (hA : AB V N way num m S T u) (n : Nat) (hn : 1 ≤ n ∧ n ≤ N) (d0 : Int) : Ct (W0 κ a) l D κ ε yX5_mixEntries cX5_mixEntries 9 (some .long) 2 42 0 0 u [.ref (a 0), .long (lI d0), .int (iI (n : Int))] (fun v u' => v = some (.long (lI (mxE (T (n - 1)) n d0))) ∧ u' = u) := by
  obtain ⟨⟨hV, hN, hway, hnum, hm, hSl, hSV⟩, eV, eN, ew, en, ⟨eS, hS⟩, hT⟩ := id hA
  have hT0 := hT (n - 1) (by omega)
  have hlen := hT0.2.2.2.1
  refine Ct.of (own := RX5) rfl (by decide +kernel) (Nat.le_of_ble_eq_true rfl) rfl (fun Γ h => ?_)
  refine w_aload_n h (pc := 0) dX5_mixEntries_0 rfl ?_
  refine g0_ledger h (pc := 1) wm_16 dX5_mixEntries_1 ?_
  refine w_iload_n h (pc := 4) dX5_mixEntries_4 rfl ?_
  refine w_callV1 h (pc := 5) (mX0_countsOf l D κ a ε u n (by omega)) 1 rfl rfl (gdV wm_269 wm_120 wm_121 wm_15 wm_122) (by decide +kernel) ⟨(Nat.le_of_ble_eq_true rfl), (Nat.le_of_ble_eq_true rfl)⟩ ⟨(Nat.le_of_ble_eq_true rfl), (Nat.le_of_ble_eq_true rfl)⟩ (fun _ _ _ => ⟨rfl, rfl⟩) (Nat.le_of_ble_eq_true rfl) dX5_mixEntries_5 (fun v1 u1 hp1 => ?_)
  obtain ⟨rfl, e1⟩ := hp1
  obtain rfl := e1.symm
  simp only [Option.toList_some, List.cons_append, List.nil_append]
  refine w_astore h (pc := 8) dX5_mixEntries_8 (by decide) ?_
  refine w_lload_n h (pc := 10) dX5_mixEntries_10 rfl ?_
  refine w_aload h (pc := 11) dX5_mixEntries_11 rfl ?_
  refine gT_size h (pc := 13) (by omega) hT0.1.1 wm_266 dX5_mixEntries_13 ?_
  refine w_i2l h (pc := 16) dX5_mixEntries_16 (by omega) ?_
  refine w_callS2 h (pc := 17) (mX5_mix l D κ a ε u d0 ((T (n - 1)).length : Int)) (gdS wm_258 wm_259 wm_2 wm_260) (by decide +kernel) ⟨(Nat.le_of_ble_eq_true rfl), (Nat.le_of_ble_eq_true rfl)⟩ ⟨(Nat.le_of_ble_eq_true rfl), (Nat.le_of_ble_eq_true rfl)⟩ (fun _ _ _ => ⟨rfl, rfl⟩) (Nat.le_of_ble_eq_true rfl) dX5_mixEntries_17 (fun v2 u2 hp2 => ?_)
  obtain ⟨rfl, e2⟩ := hp2
  obtain rfl := e2.symm
  simp only [Option.toList_some, List.cons_append, List.nil_append]
  refine w_lstore h (pc := 20) dX5_mixEntries_20 (by decide) ?_
  refine w_iconst h (pc := 22) dX5_mixEntries_22 ?_
  refine w_istore h (pc := 23) dX5_mixEntries_23 (by decide) ?_
  have lp25 : ∀ (n9 e : Nat) (d : Int), (T (n - 1)).length < e + n9 → e ≤ (T (n - 1)).length → d = fl (enF (T (n - 1)) n) e (d0 * 31 + ((T (n - 1)).length : Int)) → WW Γ 9 u 25 [(0, .ref (a 0)), (3, .int (iI (n : Int))), (4, .ref (a (30 + 3 * (n - 1)))), (5, .long (lI d)), (7, .int (iI (e : Int)))] [] := by
    intro n9
    induction n9 with
    | zero => intro e d hn9 he hd; exfalso; omega
    | succ n9 ih =>
      intro e d hn9 he hd
      refine w_iload h (pc := 25) dX5_mixEntries_25 rfl ?_
      refine w_aload h (pc := 27) dX5_mixEntries_27 rfl ?_
      refine gT_size h (pc := 29) (by omega) hT0.1.1 wm_266 dX5_mixEntries_29 ?_
      refine w_icmp_ge h (pc := 32) (tgt := 95) dX5_mixEntries_32 (by decide) (by omega) (by omega) (fun c32 => ?_) (fun c32 => ?_)
      · obtain rfl : e = (T (n - 1)).length := by omega
        refine w_lload h (pc := 95) dX5_mixEntries_95 rfl ?_
        exact w_lret h (pc := 97) rfl dX5_mixEntries_97 (Nat.le_of_ble_eq_true rfl) (Nat.le_of_ble_eq_true rfl) ⟨by rw [hd]; rfl, rfl⟩
      · have ih_2 := ih
        obtain ⟨b, hb⟩ := getN (t := T (n - 1)) (j := e) (by omega)
        have hkv := (hT0.1.2 _ b hb).1
        have hcv := (hT0.1.2 _ b hb).2
        have hbb := hT0.2.2.2.2 b (List.mem_of_getElem? hb)
        refine w_iconst h (pc := 35) dX5_mixEntries_35 ?_
        refine w_istore h (pc := 36) dX5_mixEntries_36 (by decide) ?_
        have lp38 : ∀ (n9 p : Nat) (d9 : Int), n < p + n9 → p ≤ n → d9 = fl (fun p d => d * 31 + prt b.1 n p) p d → WW Γ 9 u 38 [(0, .ref (a 0)), (3, .int (iI (n : Int))), (4, .ref (a (30 + 3 * (n - 1)))), (5, .long (lI d9)), (7, .int (iI (e : Int))), (8, .int (iI (p : Int)))] [] := by
          intro n9
          induction n9 with
          | zero => intro p d9 hn8 hp hd8; exfalso; omega
          | succ n9 ih =>
            intro p d9 hn8 hp hd8
            refine w_iload h (pc := 38) dX5_mixEntries_38 rfl ?_
            refine w_iload_n h (pc := 40) dX5_mixEntries_40 rfl ?_
            refine w_icmp_ge h (pc := 41) (tgt := 73) dX5_mixEntries_41 (by decide) (by omega) (by omega) (fun c41 => ?_) (fun c41 => ?_)
            · refine w_lload h (pc := 73) dX5_mixEntries_73 rfl ?_
              refine w_aload h (pc := 75) dX5_mixEntries_75 rfl ?_
              refine gT_counts h (pc := 77) (by omega) wm_268 dX5_mixEntries_77 ?_
              refine w_iload h (pc := 80) dX5_mixEntries_80 rfl ?_
              refine ld_counts h (pc := 82) (by omega) (by omega) hcv dX5_mixEntries_82 ?_
              refine w_i2l h (pc := 83) dX5_mixEntries_83 (by omega) ?_
              refine w_callS2 h (pc := 84) (mX5_mix l D κ a ε u d9 (b.2 : Int)) (gdS wm_258 wm_259 wm_2 wm_260) (by decide +kernel) ⟨(Nat.le_of_ble_eq_true rfl), (Nat.le_of_ble_eq_true rfl)⟩ ⟨(Nat.le_of_ble_eq_true rfl), (Nat.le_of_ble_eq_true rfl)⟩ (fun _ _ _ => ⟨rfl, rfl⟩) (Nat.le_of_ble_eq_true rfl) dX5_mixEntries_84 (fun v5 u5 hp5 => ?_)
              obtain ⟨rfl, e5⟩ := hp5
              obtain rfl := e5.symm
              simp only [Option.toList_some, List.cons_append, List.nil_append]
              refine w_lstore h (pc := 87) dX5_mixEntries_87 (by decide) ?_
              refine w_iinc h (pc := 89) dX5_mixEntries_89 rfl (by decide) ?_
              refine w_goto h (pc := 92) (tgt := 25) dX5_mixEntries_92 (by decide) ?_
              exact WW.sub (by rfl) (ih_2 (e + 1) _ (by omega) (by omega) (by show _ = enF (T (n - 1)) n e _; rw [← hd]; unfold enF; rw [getD_at hb, hd8, show p = n by omega]))
            · refine w_lload h (pc := 44) dX5_mixEntries_44 rfl ?_
              refine w_aload_n h (pc := 46) dX5_mixEntries_46 rfl ?_
              refine w_aload h (pc := 47) dX5_mixEntries_47 rfl ?_
              refine gT_keys h (pc := 49) (by omega) wm_267 dX5_mixEntries_49 ?_
              refine w_iload h (pc := 52) dX5_mixEntries_52 rfl ?_
              refine ld_keys h (pc := 54) (by omega) (by omega) hkv dX5_mixEntries_54 ?_
              refine w_iload_n h (pc := 55) dX5_mixEntries_55 rfl ?_
              refine w_iload h (pc := 56) dX5_mixEntries_56 rfl ?_
              refine w_callV3 h (pc := 58) (mX5_partOf l D κ a ε u b.1 n p (by omega) (by omega) (by omega)) 0 rfl rfl (gdV wm_270 wm_271 wm_272 wm_2 wm_273) (by decide +kernel) ⟨(Nat.le_of_ble_eq_true rfl), (Nat.le_of_ble_eq_true rfl)⟩ ⟨(Nat.le_of_ble_eq_true rfl), (Nat.le_of_ble_eq_true rfl)⟩ (fun _ _ _ => ⟨rfl, rfl⟩) (Nat.le_of_ble_eq_true rfl) dX5_mixEntries_58 (fun v3 u3 hp3 => ?_)
              obtain ⟨rfl, e3⟩ := hp3
              obtain rfl := e3.symm
              simp only [Option.toList_some, List.cons_append, List.nil_append]
              have hprt : -1 ≤ prt b.1 n p ∧ prt b.1 n p ≤ 13 := by unfold prt; omega
              refine w_i2l h (pc := 61) dX5_mixEntries_61 (by omega) ?_
              refine w_callS2 h (pc := 62) (mX5_mix l D κ a ε u d9 (prt b.1 n p)) (gdS wm_258 wm_259 wm_2 wm_260) (by decide +kernel) ⟨(Nat.le_of_ble_eq_true rfl), (Nat.le_of_ble_eq_true rfl)⟩ ⟨(Nat.le_of_ble_eq_true rfl), (Nat.le_of_ble_eq_true rfl)⟩ (fun _ _ _ => ⟨rfl, rfl⟩) (Nat.le_of_ble_eq_true rfl) dX5_mixEntries_62 (fun v4 u4 hp4 => ?_)
              obtain ⟨rfl, e4⟩ := hp4
              obtain rfl := e4.symm
              simp only [Option.toList_some, List.cons_append, List.nil_append]
              refine w_lstore h (pc := 65) dX5_mixEntries_65 (by decide) ?_
              refine w_iinc h (pc := 67) dX5_mixEntries_67 rfl (by decide) ?_
              refine w_goto h (pc := 70) (tgt := 38) dX5_mixEntries_70 (by decide) ?_
              exact WW.sub (by rfl) (ih (p + 1) _ (by omega) (by omega) (by show _ = fl _ p d * 31 + _; rw [← hd8]))
        exact WW.sub (by rfl) (lp38 (n + 1) 0 d (by omega) (by omega) rfl)
  exact WW.sub (by rfl) (lp25 ((T (n - 1)).length + 1) 0 _ (by omega) (by omega) rfl)

set_option maxHeartbeats 4000000 in
set_option maxRecDepth 100000 in
theorem mX5_mixChances (l : Launch) (D : va_G) (κ a : Nat → Nat) (ε : EE) (V N way num m : Nat) (S : List Nat) (T : Nat → List (Nat × Nat)) (u : US) (hA : AB V N way num m S T u) (d0 : Int) : Ct (W0 κ a) l D κ ε yX5_mixChances cX5_mixChances 6 (some .long) 5 116 0 0 u [.ref (a 0), .long (lI d0)] (fun v u' => v = some (.long (lI (mcF V (chz V N way num S T (S.length : Int)) d0))) ∧ Fr [8, 9] [9, 10] u u') := by
  obtain ⟨⟨hV, hN, hway, hnum, hm, hSl, hSV⟩, eV, eN, ew, en, ⟨eS, hS⟩, hT⟩ := id hA
  refine Ct.of (own := RX5) rfl (by decide +kernel) (Nat.le_of_ble_eq_true rfl) rfl (fun Γ h => ?_)
  refine w_lload_n h (pc := 0) dX5_mixChances_0 rfl ?_
  refine w_lstore_n h (pc := 1) dX5_mixChances_1 (by decide) ?_
  refine w_aload_n h (pc := 2) dX5_mixChances_2 rfl ?_
  refine w_callV0 h (pc := 3) (mX5_reckonBehindSentence l D κ a ε V N way num m S T u hA) 0 rfl rfl (gdV wm_298 wm_299 wm_300 wm_2 wm_301) (by decide +kernel) ⟨(Nat.le_of_ble_eq_true rfl), (Nat.le_of_ble_eq_true rfl)⟩ ⟨(Nat.le_of_ble_eq_true rfl), (Nat.le_of_ble_eq_true rfl)⟩ (fun _ _ _ => ⟨rfl, rfl⟩) (Nat.le_of_ble_eq_true rfl) dX5_mixChances_3 (fun v1 u1 hp1 => ?_)
  obtain ⟨rfl, hF1, hc1⟩ := hp1
  have eV1 : u1.1 4 = (V : Int) := (hF1.1 4 (by simp)).trans eV
  have hcl : ∀ x, x ≤ V → (chz V N way num S T (S.length : Int)) x ≤ 1000000 := fun x hx => chz_le hnum hN.1 _ hx
  simp only [Option.toList_none, List.nil_append]
  refine w_iconst h (pc := 6) dX5_mixChances_6 ?_
  refine w_istore h (pc := 7) dX5_mixChances_7 (by decide) ?_
  have lp9 : ∀ (n9 j : Nat) (d : Int), V + 1 < j + n9 → j ≤ V + 1 → d = fl (fun w d => d * 31 + ((chz V N way num S T (S.length : Int)) w : Int)) j d0 → WW Γ 6 u1 9 [(0, .ref (a 0)), (3, .long (lI d)), (5, .int (iI (j : Int)))] [] := by
    intro n9
    induction n9 with
    | zero => intro j d hn9 hj hd; exfalso; omega
    | succ n9 ih =>
      intro j d hn9 hj hd
      refine w_iload h (pc := 9) dX5_mixChances_9 rfl ?_
      refine w_aload_n h (pc := 11) dX5_mixChances_11 rfl ?_
      refine g0_ledger h (pc := 12) wm_16 dX5_mixChances_12 ?_
      refine g1_words h (pc := 15) eV1 wm_113 dX5_mixChances_15 ?_
      refine w_icmp_gt h (pc := 18) (tgt := 43) dX5_mixChances_18 (by decide) (by omega) (by omega) (fun c18 => ?_) (fun c18 => ?_)
      · obtain rfl : j = V + 1 := by omega
        refine w_iconst h (pc := 43) dX5_mixChances_43 ?_
        refine w_istore h (pc := 44) dX5_mixChances_44 (by decide) ?_
        have lp46 : ∀ (n9 j : Nat) (d : Int), V + 1 < j + n9 → j ≤ V + 1 → d = fl (fun r d => d * 31 + (fw (chz V N way num S T (S.length : Int)) V r : Int)) j (fl (fun w d => d * 31 + ((chz V N way num S T (S.length : Int)) w : Int)) (V + 1) d0) → WW Γ 6 u1 46 [(0, .ref (a 0)), (3, .long (lI d)), (5, .int (iI (j : Int)))] [] := by
          intro n9
          induction n9 with
          | zero => intro j d hn9 hj hd; exfalso; omega
          | succ n9 ih =>
            intro j d hn9 hj hd
            refine w_iload h (pc := 46) dX5_mixChances_46 rfl ?_
            refine w_aload_n h (pc := 48) dX5_mixChances_48 rfl ?_
            refine g0_ledger h (pc := 49) wm_16 dX5_mixChances_49 ?_
            refine g1_words h (pc := 52) eV1 wm_113 dX5_mixChances_52 ?_
            refine w_icmp_gt h (pc := 55) (tgt := 79) dX5_mixChances_55 (by decide) (by omega) (by omega) (fun c55 => ?_) (fun c55 => ?_)
            · obtain rfl : j = V + 1 := by omega
              refine w_lload_n h (pc := 79) dX5_mixChances_79 rfl ?_
              exact w_lret h (pc := 80) rfl dX5_mixChances_80 (Nat.le_of_ble_eq_true rfl) (Nat.le_of_ble_eq_true rfl) ⟨by rw [hd]; rfl, hF1⟩
            · refine w_lload_n h (pc := 58) dX5_mixChances_58 rfl ?_
              refine w_aload_n h (pc := 59) dX5_mixChances_59 rfl ?_
              refine g0_reckoner h (pc := 60) wm_20 dX5_mixChances_60 ?_
              refine w_iload h (pc := 63) dX5_mixChances_63 rfl ?_
              refine w_callV1 h (pc := 65) (mX1_withRank l D κ a ε V u1 hV eV1 (chz V N way num S T (S.length : Int)) (fun x hx => ⟨hc1 x hx, hcl x hx⟩) j (by omega)) 2 rfl rfl (gdV wm_325 wm_326 wm_327 wm_19 wm_328) (by decide +kernel) ⟨(Nat.le_of_ble_eq_true rfl), (Nat.le_of_ble_eq_true rfl)⟩ ⟨(Nat.le_of_ble_eq_true rfl), (Nat.le_of_ble_eq_true rfl)⟩ (fun _ _ _ => ⟨rfl, rfl⟩) (Nat.le_of_ble_eq_true rfl) dX5_mixChances_65 (fun v3 u3 hp3 => ?_)
              obtain ⟨rfl, e3⟩ := hp3
              obtain rfl := e3.symm
              have hfw := (fw_ok (p := (chz V N way num S T (S.length : Int))) (V := V) (r := j) (by omega)).1
              simp only [Option.toList_some, List.cons_append, List.nil_append]
              refine w_i2l h (pc := 68) dX5_mixChances_68 (by omega) ?_
              refine w_callS2 h (pc := 69) (mX5_mix l D κ a ε u1 d (fw (chz V N way num S T (S.length : Int)) V j : Int)) (gdS wm_258 wm_259 wm_2 wm_260) (by decide +kernel) ⟨(Nat.le_of_ble_eq_true rfl), (Nat.le_of_ble_eq_true rfl)⟩ ⟨(Nat.le_of_ble_eq_true rfl), (Nat.le_of_ble_eq_true rfl)⟩ (fun _ _ _ => ⟨rfl, rfl⟩) (Nat.le_of_ble_eq_true rfl) dX5_mixChances_69 (fun v4 u4 hp4 => ?_)
              obtain ⟨rfl, e4⟩ := hp4
              obtain rfl := e4.symm
              simp only [Option.toList_some, List.cons_append, List.nil_append]
              refine w_lstore_n h (pc := 72) dX5_mixChances_72 (by decide) ?_
              refine w_iinc h (pc := 73) dX5_mixChances_73 rfl (by decide) ?_
              refine w_goto h (pc := 76) (tgt := 46) dX5_mixChances_76 (by decide) ?_
              exact WW.sub (by rfl) (ih (j + 1) _ (by omega) (by omega) (by show _ = fl _ j _ * 31 + _; rw [← hd]))
        exact WW.sub (by rfl) (lp46 (V + 2) 0 d (by omega) (by omega) hd)
      · have hcj := hcl j (by omega)
        refine w_lload_n h (pc := 21) dX5_mixChances_21 rfl ?_
        refine w_aload_n h (pc := 22) dX5_mixChances_22 rfl ?_
        refine g0_reckoner h (pc := 23) wm_20 dX5_mixChances_23 ?_
        refine g2_chances h (pc := 26) wm_297 dX5_mixChances_26 ?_
        refine w_iload h (pc := 29) dX5_mixChances_29 rfl ?_
        refine ld_chances h (pc := 31) (by omega) (hc1 j (by omega)) dX5_mixChances_31 ?_
        refine w_i2l h (pc := 32) dX5_mixChances_32 (by omega) ?_
        refine w_callS2 h (pc := 33) (mX5_mix l D κ a ε u1 d ((chz V N way num S T (S.length : Int)) j : Int)) (gdS wm_258 wm_259 wm_2 wm_260) (by decide +kernel) ⟨(Nat.le_of_ble_eq_true rfl), (Nat.le_of_ble_eq_true rfl)⟩ ⟨(Nat.le_of_ble_eq_true rfl), (Nat.le_of_ble_eq_true rfl)⟩ (fun _ _ _ => ⟨rfl, rfl⟩) (Nat.le_of_ble_eq_true rfl) dX5_mixChances_33 (fun v2 u2 hp2 => ?_)
        obtain ⟨rfl, e2⟩ := hp2
        obtain rfl := e2.symm
        simp only [Option.toList_some, List.cons_append, List.nil_append]
        refine w_lstore_n h (pc := 36) dX5_mixChances_36 (by decide) ?_
        refine w_iinc h (pc := 37) dX5_mixChances_37 rfl (by decide) ?_
        refine w_goto h (pc := 40) (tgt := 9) dX5_mixChances_40 (by decide) ?_
        exact WW.sub (by rfl) (ih (j + 1) _ (by omega) (by omega) (by show _ = fl _ j d0 * 31 + _; rw [← hd]))
  exact WW.sub (by rfl) (lp9 (V + 2) 0 d0 (by omega) (by omega) rfl)
