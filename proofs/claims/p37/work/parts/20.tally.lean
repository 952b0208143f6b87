theorem dX4_keysBelow_0 : decode cX4_keysBelow 0 = .ok (.iconst 0, 1) := by decide +kernel
theorem dX4_keysBelow_1 : decode cX4_keysBelow 1 = .ok (.istore_n 2, 1) := by decide +kernel
theorem dX4_keysBelow_2 : decode cX4_keysBelow 2 = .ok (.sipush 512, 3) := by decide +kernel
theorem dX4_keysBelow_5 : decode cX4_keysBelow 5 = .ok (.istore_n 3, 1) := by decide +kernel
theorem dX4_keysBelow_6 : decode cX4_keysBelow 6 = .ok (.iload_n 3, 1) := by decide +kernel
theorem dX4_keysBelow_7 : decode cX4_keysBelow 7 = .ok (.ifCond .le 38, 3) := by decide +kernel
theorem dX4_keysBelow_10 : decode cX4_keysBelow 10 = .ok (.iload_n 2, 1) := by decide +kernel
theorem dX4_keysBelow_11 : decode cX4_keysBelow 11 = .ok (.iload_n 3, 1) := by decide +kernel
theorem dX4_keysBelow_12 : decode cX4_keysBelow 12 = .ok (.iadd, 1) := by decide +kernel
theorem dX4_keysBelow_13 : decode cX4_keysBelow 13 = .ok (.aload_n 0, 1) := by decide +kernel
theorem dX4_keysBelow_14 : decode cX4_keysBelow 14 = .ok (.getfield 16, 3) := by decide +kernel
theorem dX4_keysBelow_17 : decode cX4_keysBelow 17 = .ok (.if_icmp .gt 21, 3) := by decide +kernel
theorem dX4_keysBelow_20 : decode cX4_keysBelow 20 = .ok (.aload_n 0, 1) := by decide +kernel
theorem dX4_keysBelow_21 : decode cX4_keysBelow 21 = .ok (.getfield 9, 3) := by decide +kernel
theorem dX4_keysBelow_24 : decode cX4_keysBelow 24 = .ok (.iload_n 2, 1) := by decide +kernel
theorem dX4_keysBelow_25 : decode cX4_keysBelow 25 = .ok (.iload_n 3, 1) := by decide +kernel
theorem dX4_keysBelow_26 : decode cX4_keysBelow 26 = .ok (.iadd, 1) := by decide +kernel
theorem dX4_keysBelow_27 : decode cX4_keysBelow 27 = .ok (.iconst 1, 1) := by decide +kernel
theorem dX4_keysBelow_28 : decode cX4_keysBelow 28 = .ok (.isub, 1) := by decide +kernel
theorem dX4_keysBelow_29 : decode cX4_keysBelow 29 = .ok (.iaload, 1) := by decide +kernel
theorem dX4_keysBelow_30 : decode cX4_keysBelow 30 = .ok (.iload_n 1, 1) := by decide +kernel
theorem dX4_keysBelow_31 : decode cX4_keysBelow 31 = .ok (.if_icmp .ge 7, 3) := by decide +kernel
theorem dX4_keysBelow_34 : decode cX4_keysBelow 34 = .ok (.iload_n 2, 1) := by decide +kernel
theorem dX4_keysBelow_35 : decode cX4_keysBelow 35 = .ok (.iload_n 3, 1) := by decide +kernel
theorem dX4_keysBelow_36 : decode cX4_keysBelow 36 = .ok (.iadd, 1) := by decide +kernel
theorem dX4_keysBelow_37 : decode cX4_keysBelow 37 = .ok (.istore_n 2, 1) := by decide +kernel
theorem dX4_keysBelow_38 : decode cX4_keysBelow 38 = .ok (.iload_n 3, 1) := by decide +kernel
theorem dX4_keysBelow_39 : decode cX4_keysBelow 39 = .ok (.iconst 2, 1) := by decide +kernel
theorem dX4_keysBelow_40 : decode cX4_keysBelow 40 = .ok (.idiv, 1) := by decide +kernel
theorem dX4_keysBelow_41 : decode cX4_keysBelow 41 = .ok (.istore_n 3, 1) := by decide +kernel
theorem dX4_keysBelow_42 : decode cX4_keysBelow 42 = .ok (.goto (-36), 3) := by decide +kernel
theorem dX4_keysBelow_45 : decode cX4_keysBelow 45 = .ok (.iload_n 2, 1) := by decide +kernel
theorem dX4_keysBelow_46 : decode cX4_keysBelow 46 = .ok (.ireturn, 1) := by decide +kernel
theorem dX4_lower_0 : decode cX4_lower 0 = .ok (.aload_n 0, 1) := by decide +kernel
theorem dX4_lower_1 : decode cX4_lower 1 = .ok (.iload_n 1, 1) := by decide +kernel
theorem dX4_lower_2 : decode cX4_lower 2 = .ok (.invokevirtual 20, 3) := by decide +kernel
theorem dX4_lower_5 : decode cX4_lower 5 = .ok (.istore_n 3, 1) := by decide +kernel
theorem dX4_lower_6 : decode cX4_lower 6 = .ok (.aload_n 0, 1) := by decide +kernel
theorem dX4_lower_7 : decode cX4_lower 7 = .ok (.iload_n 3, 1) := by decide +kernel
theorem dX4_lower_8 : decode cX4_lower 8 = .ok (.iload_n 1, 1) := by decide +kernel
theorem dX4_lower_9 : decode cX4_lower 9 = .ok (.invokevirtual 24, 3) := by decide +kernel
theorem dX4_lower_12 : decode cX4_lower 12 = .ok (.ifCond .ne 5, 3) := by decide +kernel
theorem dX4_lower_15 : decode cX4_lower 15 = .ok (.iconst 0, 1) := by decide +kernel
theorem dX4_lower_16 : decode cX4_lower 16 = .ok (.ireturn, 1) := by decide +kernel
theorem dX4_lower_17 : decode cX4_lower 17 = .ok (.aload_n 0, 1) := by decide +kernel
theorem dX4_lower_18 : decode cX4_lower 18 = .ok (.getfield 13, 3) := by decide +kernel
theorem dX4_lower_21 : decode cX4_lower 21 = .ok (.iload_n 3, 1) := by decide +kernel
theorem dX4_lower_22 : decode cX4_lower 22 = .ok (.dup2, 1) := by decide +kernel
theorem dX4_lower_23 : decode cX4_lower 23 = .ok (.iaload, 1) := by decide +kernel
theorem dX4_lower_24 : decode cX4_lower 24 = .ok (.iload_n 2, 1) := by decide +kernel
theorem dX4_lower_25 : decode cX4_lower 25 = .ok (.isub, 1) := by decide +kernel
theorem dX4_lower_26 : decode cX4_lower 26 = .ok (.iastore, 1) := by decide +kernel
theorem dX4_lower_27 : decode cX4_lower 27 = .ok (.aload_n 0, 1) := by decide +kernel
theorem dX4_lower_28 : decode cX4_lower 28 = .ok (.getfield 13, 3) := by decide +kernel
theorem dX4_lower_31 : decode cX4_lower 31 = .ok (.iload_n 3, 1) := by decide +kernel
theorem dX4_lower_32 : decode cX4_lower 32 = .ok (.iaload, 1) := by decide +kernel
theorem dX4_lower_33 : decode cX4_lower 33 = .ok (.ifCond .le 5, 3) := by decide +kernel
theorem dX4_lower_36 : decode cX4_lower 36 = .ok (.iconst 0, 1) := by decide +kernel
theorem dX4_lower_37 : decode cX4_lower 37 = .ok (.ireturn, 1) := by decide +kernel
theorem dX4_lower_38 : decode cX4_lower 38 = .ok (.aload_n 0, 1) := by decide +kernel
theorem dX4_lower_39 : decode cX4_lower 39 = .ok (.iload_n 3, 1) := by decide +kernel
theorem dX4_lower_40 : decode cX4_lower 40 = .ok (.invokevirtual 41, 3) := by decide +kernel
theorem dX4_lower_43 : decode cX4_lower 43 = .ok (.iconst 1, 1) := by decide +kernel
theorem dX4_lower_44 : decode cX4_lower 44 = .ok (.ireturn, 1) := by decide +kernel
theorem dX4_numberOf_0 : decode cX4_numberOf 0 = .ok (.aload_n 0, 1) := by decide +kernel
theorem dX4_numberOf_1 : decode cX4_numberOf 1 = .ok (.iload_n 1, 1) := by decide +kernel
theorem dX4_numberOf_2 : decode cX4_numberOf 2 = .ok (.invokevirtual 20, 3) := by decide +kernel
theorem dX4_numberOf_5 : decode cX4_numberOf 5 = .ok (.istore_n 2, 1) := by decide +kernel
theorem dX4_numberOf_6 : decode cX4_numberOf 6 = .ok (.aload_n 0, 1) := by decide +kernel
theorem dX4_numberOf_7 : decode cX4_numberOf 7 = .ok (.iload_n 2, 1) := by decide +kernel
theorem dX4_numberOf_8 : decode cX4_numberOf 8 = .ok (.iload_n 1, 1) := by decide +kernel
theorem dX4_numberOf_9 : decode cX4_numberOf 9 = .ok (.invokevirtual 24, 3) := by decide +kernel
theorem dX4_numberOf_12 : decode cX4_numberOf 12 = .ok (.ifCond .eq 12, 3) := by decide +kernel
theorem dX4_numberOf_15 : decode cX4_numberOf 15 = .ok (.aload_n 0, 1) := by decide +kernel
theorem dX4_numberOf_16 : decode cX4_numberOf 16 = .ok (.getfield 13, 3) := by decide +kernel
theorem dX4_numberOf_19 : decode cX4_numberOf 19 = .ok (.iload_n 2, 1) := by decide +kernel
theorem dX4_numberOf_20 : decode cX4_numberOf 20 = .ok (.iaload, 1) := by decide +kernel
theorem dX4_numberOf_21 : decode cX4_numberOf 21 = .ok (.goto 4, 3) := by decide +kernel
theorem dX4_numberOf_24 : decode cX4_numberOf 24 = .ok (.iconst 0, 1) := by decide +kernel
theorem dX4_numberOf_25 : decode cX4_numberOf 25 = .ok (.ireturn, 1) := by decide +kernel
theorem dX4_raise_0 : decode cX4_raise 0 = .ok (.aload_n 0, 1) := by decide +kernel
theorem dX4_raise_1 : decode cX4_raise 1 = .ok (.iload_n 1, 1) := by decide +kernel
theorem dX4_raise_2 : decode cX4_raise 2 = .ok (.invokevirtual 20, 3) := by decide +kernel
theorem dX4_raise_5 : decode cX4_raise 5 = .ok (.istore_n 3, 1) := by decide +kernel
theorem dX4_raise_6 : decode cX4_raise 6 = .ok (.aload_n 0, 1) := by decide +kernel
theorem dX4_raise_7 : decode cX4_raise 7 = .ok (.iload_n 3, 1) := by decide +kernel
theorem dX4_raise_8 : decode cX4_raise 8 = .ok (.iload_n 1, 1) := by decide +kernel
theorem dX4_raise_9 : decode cX4_raise 9 = .ok (.invokevirtual 24, 3) := by decide +kernel
theorem dX4_raise_12 : decode cX4_raise 12 = .ok (.ifCond .eq 24, 3) := by decide +kernel
theorem dX4_raise_15 : decode cX4_raise 15 = .ok (.aload_n 0, 1) := by decide +kernel
theorem dX4_raise_16 : decode cX4_raise 16 = .ok (.getfield 13, 3) := by decide +kernel
theorem dX4_raise_19 : decode cX4_raise 19 = .ok (.iload_n 3, 1) := by decide +kernel
theorem dX4_raise_20 : decode cX4_raise 20 = .ok (.ldc 28, 2) := by decide +kernel
theorem dX4_raise_22 : decode cX4_raise 22 = .ok (.aload_n 0, 1) := by decide +kernel
theorem dX4_raise_23 : decode cX4_raise 23 = .ok (.getfield 13, 3) := by decide +kernel
theorem dX4_raise_26 : decode cX4_raise 26 = .ok (.iload_n 3, 1) := by decide +kernel
theorem dX4_raise_27 : decode cX4_raise 27 = .ok (.iaload, 1) := by decide +kernel
theorem dX4_raise_28 : decode cX4_raise 28 = .ok (.iload_n 2, 1) := by decide +kernel
theorem dX4_raise_29 : decode cX4_raise 29 = .ok (.iadd, 1) := by decide +kernel
theorem dX4_raise_30 : decode cX4_raise 30 = .ok (.invokestatic 29, 3) := by decide +kernel
theorem dX4_raise_33 : decode cX4_raise 33 = .ok (.iastore, 1) := by decide +kernel
theorem dX4_raise_34 : decode cX4_raise 34 = .ok (.iconst 0, 1) := by decide +kernel
theorem dX4_raise_35 : decode cX4_raise 35 = .ok (.ireturn, 1) := by decide +kernel
theorem dX4_raise_36 : decode cX4_raise 36 = .ok (.aload_n 0, 1) := by decide +kernel
theorem dX4_raise_37 : decode cX4_raise 37 = .ok (.getfield 16, 3) := by decide +kernel
theorem dX4_raise_40 : decode cX4_raise 40 = .ok (.sipush 852, 3) := by decide +kernel
theorem dX4_raise_43 : decode cX4_raise 43 = .ok (.if_icmp .lt 5, 3) := by decide +kernel
theorem dX4_raise_48 : decode cX4_raise 48 = .ok (.aload_n 0, 1) := by decide +kernel
theorem dX4_raise_49 : decode cX4_raise 49 = .ok (.getfield 9, 3) := by decide +kernel
theorem dX4_raise_52 : decode cX4_raise 52 = .ok (.iload_n 3, 1) := by decide +kernel
theorem dX4_raise_53 : decode cX4_raise 53 = .ok (.aload_n 0, 1) := by decide +kernel
theorem dX4_raise_54 : decode cX4_raise 54 = .ok (.getfield 9, 3) := by decide +kernel
theorem dX4_raise_57 : decode cX4_raise 57 = .ok (.iload_n 3, 1) := by decide +kernel
theorem dX4_raise_58 : decode cX4_raise 58 = .ok (.iconst 1, 1) := by decide +kernel
theorem dX4_raise_59 : decode cX4_raise 59 = .ok (.iadd, 1) := by decide +kernel
theorem dX4_raise_60 : decode cX4_raise 60 = .ok (.aload_n 0, 1) := by decide +kernel
theorem dX4_raise_61 : decode cX4_raise 61 = .ok (.getfield 16, 3) := by decide +kernel
theorem dX4_raise_64 : decode cX4_raise 64 = .ok (.iload_n 3, 1) := by decide +kernel
theorem dX4_raise_65 : decode cX4_raise 65 = .ok (.isub, 1) := by decide +kernel
theorem dX4_raise_66 : decode cX4_raise 66 = .ok (.invokestatic 35, 3) := by decide +kernel
theorem dX4_raise_69 : decode cX4_raise 69 = .ok (.aload_n 0, 1) := by decide +kernel
theorem dX4_raise_70 : decode cX4_raise 70 = .ok (.getfield 13, 3) := by decide +kernel
theorem dX4_raise_73 : decode cX4_raise 73 = .ok (.iload_n 3, 1) := by decide +kernel
theorem dX4_raise_74 : decode cX4_raise 74 = .ok (.aload_n 0, 1) := by decide +kernel
theorem dX4_raise_75 : decode cX4_raise 75 = .ok (.getfield 13, 3) := by decide +kernel
theorem dX4_raise_78 : decode cX4_raise 78 = .ok (.iload_n 3, 1) := by decide +kernel
theorem dX4_raise_79 : decode cX4_raise 79 = .ok (.iconst 1, 1) := by decide +kernel
theorem dX4_raise_80 : decode cX4_raise 80 = .ok (.iadd, 1) := by decide +kernel
theorem dX4_raise_81 : decode cX4_raise 81 = .ok (.aload_n 0, 1) := by decide +kernel
theorem dX4_raise_82 : decode cX4_raise 82 = .ok (.getfield 16, 3) := by decide +kernel
theorem dX4_raise_85 : decode cX4_raise 85 = .ok (.iload_n 3, 1) := by decide +kernel
theorem dX4_raise_86 : decode cX4_raise 86 = .ok (.isub, 1) := by decide +kernel
theorem dX4_raise_87 : decode cX4_raise 87 = .ok (.invokestatic 35, 3) := by decide +kernel
theorem dX4_raise_90 : decode cX4_raise 90 = .ok (.aload_n 0, 1) := by decide +kernel
theorem dX4_raise_91 : decode cX4_raise 91 = .ok (.getfield 9, 3) := by decide +kernel
theorem dX4_raise_94 : decode cX4_raise 94 = .ok (.iload_n 3, 1) := by decide +kernel
theorem dX4_raise_95 : decode cX4_raise 95 = .ok (.iload_n 1, 1) := by decide +kernel
theorem dX4_raise_96 : decode cX4_raise 96 = .ok (.iastore, 1) := by decide +kernel
theorem dX4_raise_97 : decode cX4_raise 97 = .ok (.aload_n 0, 1) := by decide +kernel
theorem dX4_raise_98 : decode cX4_raise 98 = .ok (.getfield 13, 3) := by decide +kernel
theorem dX4_raise_101 : decode cX4_raise 101 = .ok (.iload_n 3, 1) := by decide +kernel
theorem dX4_raise_102 : decode cX4_raise 102 = .ok (.iload_n 2, 1) := by decide +kernel
theorem dX4_raise_103 : decode cX4_raise 103 = .ok (.iastore, 1) := by decide +kernel
theorem dX4_raise_104 : decode cX4_raise 104 = .ok (.aload_n 0, 1) := by decide +kernel
theorem dX4_raise_105 : decode cX4_raise 105 = .ok (.dup, 1) := by decide +kernel
theorem dX4_raise_106 : decode cX4_raise 106 = .ok (.getfield 16, 3) := by decide +kernel
theorem dX4_raise_109 : decode cX4_raise 109 = .ok (.iconst 1, 1) := by decide +kernel
theorem dX4_raise_110 : decode cX4_raise 110 = .ok (.iadd, 1) := by decide +kernel
theorem dX4_raise_111 : decode cX4_raise 111 = .ok (.putfield 16, 3) := by decide +kernel
theorem dX4_raise_114 : decode cX4_raise 114 = .ok (.iconst 1, 1) := by decide +kernel
theorem dX4_raise_115 : decode cX4_raise 115 = .ok (.ireturn, 1) := by decide +kernel
theorem dX4_removeAt_0 : decode cX4_removeAt 0 = .ok (.iload_n 1, 1) := by decide +kernel
theorem dX4_removeAt_1 : decode cX4_removeAt 1 = .ok (.ifCond .lt 11, 3) := by decide +kernel
theorem dX4_removeAt_4 : decode cX4_removeAt 4 = .ok (.iload_n 1, 1) := by decide +kernel
theorem dX4_removeAt_5 : decode cX4_removeAt 5 = .ok (.aload_n 0, 1) := by decide +kernel
theorem dX4_removeAt_6 : decode cX4_removeAt 6 = .ok (.getfield 16, 3) := by decide +kernel
theorem dX4_removeAt_9 : decode cX4_removeAt 9 = .ok (.if_icmp .lt 4, 3) := by decide +kernel
theorem dX4_removeAt_13 : decode cX4_removeAt 13 = .ok (.aload_n 0, 1) := by decide +kernel
theorem dX4_removeAt_14 : decode cX4_removeAt 14 = .ok (.getfield 9, 3) := by decide +kernel
theorem dX4_removeAt_17 : decode cX4_removeAt 17 = .ok (.iload_n 1, 1) := by decide +kernel
theorem dX4_removeAt_18 : decode cX4_removeAt 18 = .ok (.iconst 1, 1) := by decide +kernel
theorem dX4_removeAt_19 : decode cX4_removeAt 19 = .ok (.iadd, 1) := by decide +kernel
theorem dX4_removeAt_20 : decode cX4_removeAt 20 = .ok (.aload_n 0, 1) := by decide +kernel
theorem dX4_removeAt_21 : decode cX4_removeAt 21 = .ok (.getfield 9, 3) := by decide +kernel
theorem dX4_removeAt_24 : decode cX4_removeAt 24 = .ok (.iload_n 1, 1) := by decide +kernel
theorem dX4_removeAt_25 : decode cX4_removeAt 25 = .ok (.aload_n 0, 1) := by decide +kernel
theorem dX4_removeAt_26 : decode cX4_removeAt 26 = .ok (.getfield 16, 3) := by decide +kernel
theorem dX4_removeAt_29 : decode cX4_removeAt 29 = .ok (.iload_n 1, 1) := by decide +kernel
theorem dX4_removeAt_30 : decode cX4_removeAt 30 = .ok (.isub, 1) := by decide +kernel
theorem dX4_removeAt_31 : decode cX4_removeAt 31 = .ok (.iconst 1, 1) := by decide +kernel
theorem dX4_removeAt_32 : decode cX4_removeAt 32 = .ok (.isub, 1) := by decide +kernel
theorem dX4_removeAt_33 : decode cX4_removeAt 33 = .ok (.invokestatic 35, 3) := by decide +kernel
theorem dX4_removeAt_36 : decode cX4_removeAt 36 = .ok (.aload_n 0, 1) := by decide +kernel
theorem dX4_removeAt_37 : decode cX4_removeAt 37 = .ok (.getfield 13, 3) := by decide +kernel
theorem dX4_removeAt_40 : decode cX4_removeAt 40 = .ok (.iload_n 1, 1) := by decide +kernel
theorem dX4_removeAt_41 : decode cX4_removeAt 41 = .ok (.iconst 1, 1) := by decide +kernel
theorem dX4_removeAt_42 : decode cX4_removeAt 42 = .ok (.iadd, 1) := by decide +kernel
theorem dX4_removeAt_43 : decode cX4_removeAt 43 = .ok (.aload_n 0, 1) := by decide +kernel
theorem dX4_removeAt_44 : decode cX4_removeAt 44 = .ok (.getfield 13, 3) := by decide +kernel
theorem dX4_removeAt_47 : decode cX4_removeAt 47 = .ok (.iload_n 1, 1) := by decide +kernel
theorem dX4_removeAt_48 : decode cX4_removeAt 48 = .ok (.aload_n 0, 1) := by decide +kernel
theorem dX4_removeAt_49 : decode cX4_removeAt 49 = .ok (.getfield 16, 3) := by decide +kernel
theorem dX4_removeAt_52 : decode cX4_removeAt 52 = .ok (.iload_n 1, 1) := by decide +kernel
theorem dX4_removeAt_53 : decode cX4_removeAt 53 = .ok (.isub, 1) := by decide +kernel
theorem dX4_removeAt_54 : decode cX4_removeAt 54 = .ok (.iconst 1, 1) := by decide +kernel
theorem dX4_removeAt_55 : decode cX4_removeAt 55 = .ok (.isub, 1) := by decide +kernel
theorem dX4_removeAt_56 : decode cX4_removeAt 56 = .ok (.invokestatic 35, 3) := by decide +kernel
theorem dX4_removeAt_59 : decode cX4_removeAt 59 = .ok (.aload_n 0, 1) := by decide +kernel
theorem dX4_removeAt_60 : decode cX4_removeAt 60 = .ok (.dup, 1) := by decide +kernel
theorem dX4_removeAt_61 : decode cX4_removeAt 61 = .ok (.getfield 16, 3) := by decide +kernel
theorem dX4_removeAt_64 : decode cX4_removeAt 64 = .ok (.iconst 1, 1) := by decide +kernel
theorem dX4_removeAt_65 : decode cX4_removeAt 65 = .ok (.isub, 1) := by decide +kernel
theorem dX4_removeAt_66 : decode cX4_removeAt 66 = .ok (.putfield 16, 3) := by decide +kernel
theorem dX4_removeAt_69 : decode cX4_removeAt 69 = .ok (.return_, 1) := by decide +kernel
theorem dX4_standsAt_0 : decode cX4_standsAt 0 = .ok (.iload_n 1, 1) := by decide +kernel
theorem dX4_standsAt_1 : decode cX4_standsAt 1 = .ok (.aload_n 0, 1) := by decide +kernel
theorem dX4_standsAt_2 : decode cX4_standsAt 2 = .ok (.getfield 16, 3) := by decide +kernel
theorem dX4_standsAt_5 : decode cX4_standsAt 5 = .ok (.if_icmp .ge 17, 3) := by decide +kernel
theorem dX4_standsAt_8 : decode cX4_standsAt 8 = .ok (.aload_n 0, 1) := by decide +kernel
theorem dX4_standsAt_9 : decode cX4_standsAt 9 = .ok (.getfield 9, 3) := by decide +kernel
theorem dX4_standsAt_12 : decode cX4_standsAt 12 = .ok (.iload_n 1, 1) := by decide +kernel
theorem dX4_standsAt_13 : decode cX4_standsAt 13 = .ok (.iaload, 1) := by decide +kernel
theorem dX4_standsAt_14 : decode cX4_standsAt 14 = .ok (.iload_n 2, 1) := by decide +kernel
theorem dX4_standsAt_15 : decode cX4_standsAt 15 = .ok (.if_icmp .ne 7, 3) := by decide +kernel
theorem dX4_standsAt_18 : decode cX4_standsAt 18 = .ok (.iconst 1, 1) := by decide +kernel
theorem dX4_standsAt_19 : decode cX4_standsAt 19 = .ok (.goto 4, 3) := by decide +kernel
theorem dX4_standsAt_22 : decode cX4_standsAt 22 = .ok (.iconst 0, 1) := by decide +kernel
theorem dX4_standsAt_23 : decode cX4_standsAt 23 = .ok (.ireturn, 1) := by decide +kernel
set_option maxHeartbeats 4000000 in
set_option maxRecDepth 100000 in
theorem mX4_keysBelow (l : Launch) (D : va_G) (κ a : Nat → Nat) (ε : EE) (u : US) (i : Nat) (hi : i < 8) (t : List (Nat × Nat)) (hT : TR u i t) (hO : TO t) (k : Nat) (hk : k < 1000000) : Ct (W0 κ a) l D κ ε yX4_keysBelow cX4_keysBelow 4 (some .int) 0 0 0 0 u [.ref (a (30 + 3 * i)), .int (iI (k : Int))] (fun v u' => v = some (.int (iI (bw t k : Int))) ∧ u' = u) := by
  obtain ⟨hs, hp, hlen, hsm⟩ := id hO
  have hbl := bw_le t k
  refine Ct.of (own := RX4) rfl (by decide +kernel) (Nat.le_of_ble_eq_true rfl) rfl (fun Γ h => ?_)
  refine w_iconst h (pc := 0) dX4_keysBelow_0 ?_
  refine w_istore_n h (pc := 1) dX4_keysBelow_1 (by decide) ?_
  refine w_sipush h (pc := 2) dX4_keysBelow_2 (by decide) ?_
  refine w_istore_n h (pc := 5) dX4_keysBelow_5 (by decide) ?_
  have lp6 : ∀ (n s at' : Nat), s < n → ((s = 0 ∧ at' = bw t k) ∨ ((s = 512 ∨ s = 256 ∨ s = 128 ∨ s = 64 ∨ s = 32 ∨ s = 16 ∨ s = 8 ∨ s = 4 ∨ s = 2 ∨ s = 1) ∧ at' ≤ bw t k ∧ bw t k < at' + 2 * s)) → WW Γ 4 u 6 [(0, .ref (a (30 + 3 * i))), (1, .int (iI (k : Int))), (2, .int (iI (at' : Int))), (3, .int (iI (s : Int)))] [] := by
    intro n9
    induction n9 with
    | zero => intro s at' hn hI; exfalso; omega
    | succ n9 ih =>
      intro s at' hn hI
      refine w_iload_n h (pc := 6) dX4_keysBelow_6 rfl ?_
      refine w_if_le h (pc := 7) (tgt := 45) dX4_keysBelow_7 (by decide) (by omega) (fun c7 => ?_) (fun c7 => ?_)
      · refine w_iload_n h (pc := 45) dX4_keysBelow_45 rfl ?_
        exact w_iret h (pc := 46) (ty := .int) rfl rfl dX4_keysBelow_46 (Nat.le_of_ble_eq_true rfl) (Nat.le_of_ble_eq_true rfl) ⟨by have e : at' = bw t k := (by omega); rw [e], rfl⟩
      · refine w_iload_n h (pc := 10) dX4_keysBelow_10 rfl ?_
        refine w_iload_n h (pc := 11) dX4_keysBelow_11 rfl ?_
        refine w_iadd h (pc := 12) dX4_keysBelow_12 ?_
        refine w_aload_n h (pc := 13) dX4_keysBelow_13 rfl ?_
        refine gT_size h (pc := 14) (by omega) hT.1 wm_53 dX4_keysBelow_14 ?_
        refine w_icmp_gt h (pc := 17) (tgt := 38) dX4_keysBelow_17 (by decide) (by omega) (by omega) (fun c17 => ?_) (fun c17 => ?_)
        · refine w_iload_n h (pc := 38) dX4_keysBelow_38 rfl ?_
          refine w_iconst h (pc := 39) dX4_keysBelow_39 ?_
          refine w_idiv h (pc := 40) dX4_keysBelow_40 (by omega) (by omega) ?_
          refine w_istore_n h (pc := 41) dX4_keysBelow_41 (by decide) ?_
          refine w_goto h (pc := 42) (tgt := 6) dX4_keysBelow_42 (by decide) ?_
          first | exact WW.sub (by rfl) (ih (s / 2) at' (by omega) (by omega)) | exact WW.sub (by rfl) (ih (s / 2) (at' + s) (by omega) (by omega))
        · refine w_aload_n h (pc := 20) dX4_keysBelow_20 rfl ?_
          refine gT_keys h (pc := 21) (by omega) wm_51 dX4_keysBelow_21 ?_
          have hlt : at' + s - 1 < t.length := by omega
          obtain ⟨b, hb⟩ := getN hlt
          have hbk := bw_at (k := k) hs hb
          have hv := (hT.2 _ b hb).1
          have hbb := (TO.at hO hb).1
          have hix : ((at' : Int) + (s : Int) - 1).toNat = at' + s - 1 := by omega
          refine w_iload_n h (pc := 24) dX4_keysBelow_24 rfl ?_
          refine w_iload_n h (pc := 25) dX4_keysBelow_25 rfl ?_
          refine w_iadd h (pc := 26) dX4_keysBelow_26 ?_
          refine w_iconst h (pc := 27) dX4_keysBelow_27 ?_
          refine w_isub h (pc := 28) dX4_keysBelow_28 ?_
          refine ld_keys h (pc := 29) (by omega) (by omega) ((congrArg _ hix).trans hv) dX4_keysBelow_29 ?_
          refine w_iload_n h (pc := 30) dX4_keysBelow_30 rfl ?_
          refine w_icmp_ge h (pc := 31) (tgt := 38) dX4_keysBelow_31 (by decide) (by omega) (by omega) (fun c31 => ?_) (fun c31 => ?_)
          · refine w_iload_n h (pc := 38) dX4_keysBelow_38 rfl ?_
            refine w_iconst h (pc := 39) dX4_keysBelow_39 ?_
            refine w_idiv h (pc := 40) dX4_keysBelow_40 (by omega) (by omega) ?_
            refine w_istore_n h (pc := 41) dX4_keysBelow_41 (by decide) ?_
            refine w_goto h (pc := 42) (tgt := 6) dX4_keysBelow_42 (by decide) ?_
            first | exact WW.sub (by rfl) (ih (s / 2) at' (by omega) (by omega)) | exact WW.sub (by rfl) (ih (s / 2) (at' + s) (by omega) (by omega))
          · refine w_iload_n h (pc := 34) dX4_keysBelow_34 rfl ?_
            refine w_iload_n h (pc := 35) dX4_keysBelow_35 rfl ?_
            refine w_iadd h (pc := 36) dX4_keysBelow_36 ?_
            refine w_istore_n h (pc := 37) dX4_keysBelow_37 (by decide) ?_
            refine w_iload_n h (pc := 38) dX4_keysBelow_38 rfl ?_
            refine w_iconst h (pc := 39) dX4_keysBelow_39 ?_
            refine w_idiv h (pc := 40) dX4_keysBelow_40 (by omega) (by omega) ?_
            refine w_istore_n h (pc := 41) dX4_keysBelow_41 (by decide) ?_
            refine w_goto h (pc := 42) (tgt := 6) dX4_keysBelow_42 (by decide) ?_
            first | exact WW.sub (by rfl) (ih (s / 2) at' (by omega) (by omega)) | exact WW.sub (by rfl) (ih (s / 2) (at' + s) (by omega) (by omega))
  exact WW.sub (by rfl) (lp6 513 512 0 (by omega) (Or.inr ⟨Or.inl rfl, by omega, by omega⟩))

set_option maxHeartbeats 4000000 in
set_option maxRecDepth 100000 in
theorem mX4_standsAt (l : Launch) (D : va_G) (κ a : Nat → Nat) (ε : EE) (u : US) (i : Nat) (hi : i < 8) (t : List (Nat × Nat)) (hT : TR u i t) (hO : TO t) (k : Nat) (hk : k < 1000000) : Ct (W0 κ a) l D κ ε yX4_standsAt cX4_standsAt 3 (some .boolean) 0 0 0 0 u [.ref (a (30 + 3 * i)), .int (iI (bw t k : Int)), .int (iI (k : Int))] (fun v u' => v = some (.int (iI (if 0 < gt t k then 1 else 0))) ∧ u' = u) := by
  obtain ⟨hs, hp, hlen, hsm⟩ := id hO
  have hbl := bw_le t k
  obtain ⟨hg1, hg2⟩ := gt_at (k := k) hs hp
  refine Ct.of (own := RX4) rfl (by decide +kernel) (Nat.le_of_ble_eq_true rfl) rfl (fun Γ h => ?_)
  refine w_iload_n h (pc := 0) dX4_standsAt_0 rfl ?_
  refine w_aload_n h (pc := 1) dX4_standsAt_1 rfl ?_
  refine gT_size h (pc := 2) (by omega) hT.1 wm_53 dX4_standsAt_2 ?_
  refine w_icmp_ge h (pc := 5) (tgt := 22) dX4_standsAt_5 (by decide) (by omega) (by omega) (fun c5 => ?_) (fun c5 => ?_)
  · have hg : ¬ 0 < gt t k := by
      intro q
      have h1 := hg1 q
      have h2 := (List.getElem?_eq_some_iff.mp h1).1
      first
      | omega
      | (rw [hb] at h1; cases h1; omega)
    refine w_iconst h (pc := 22) dX4_standsAt_22 ?_
    exact w_iret h (pc := 23) (ty := .boolean) rfl rfl dX4_standsAt_23 (Nat.le_of_ble_eq_true rfl) (Nat.le_of_ble_eq_true rfl) ⟨by first | rw [if_pos hg] | rw [if_neg hg], rfl⟩
  · have hlt : bw t k < t.length := by omega
    obtain ⟨b, hb⟩ := getN hlt
    have hv := (hT.2 _ b hb).1
    have hbb := (TO.at hO hb).1
    refine w_aload_n h (pc := 8) dX4_standsAt_8 rfl ?_
    refine gT_keys h (pc := 9) (by omega) wm_51 dX4_standsAt_9 ?_
    refine w_iload_n h (pc := 12) dX4_standsAt_12 rfl ?_
    refine ld_keys h (pc := 13) (by omega) (by omega) hv dX4_standsAt_13 ?_
    refine w_iload_n h (pc := 14) dX4_standsAt_14 rfl ?_
    refine w_icmp_ne h (pc := 15) (tgt := 22) dX4_standsAt_15 (by decide) (by omega) (by omega) (fun c15 => ?_) (fun c15 => ?_)
    · have hg : ¬ 0 < gt t k := by
        intro q
        have h1 := hg1 q
        have h2 := (List.getElem?_eq_some_iff.mp h1).1
        first
        | omega
        | (rw [hb] at h1; cases h1; omega)
      refine w_iconst h (pc := 22) dX4_standsAt_22 ?_
      exact w_iret h (pc := 23) (ty := .boolean) rfl rfl dX4_standsAt_23 (Nat.le_of_ble_eq_true rfl) (Nat.le_of_ble_eq_true rfl) ⟨by first | rw [if_pos hg] | rw [if_neg hg], rfl⟩
    · have hg : 0 < gt t k := by
        rcases Nat.lt_or_ge 0 (gt t k) with q | q
        · exact q
        · exact absurd (show b.1 = k by omega) (hg2 (by omega) b hb)
      refine w_iconst h (pc := 18) dX4_standsAt_18 ?_
      refine w_goto h (pc := 19) (tgt := 23) dX4_standsAt_19 (by decide) ?_
      exact w_iret h (pc := 23) (ty := .boolean) rfl rfl dX4_standsAt_23 (Nat.le_of_ble_eq_true rfl) (Nat.le_of_ble_eq_true rfl) ⟨by first | rw [if_pos hg] | rw [if_neg hg], rfl⟩

set_option maxHeartbeats 4000000 in
set_option maxRecDepth 100000 in
theorem mX4_numberOf (l : Launch) (D : va_G) (κ a : Nat → Nat) (ε : EE) (u : US) (i : Nat) (hi : i < 8) (t : List (Nat × Nat)) (hT : TR u i t) (hO : TO t) (k : Nat) (hk : k < 1000000) : Ct (W0 κ a) l D κ ε yX4_numberOf cX4_numberOf 3 (some .int) 1 23 0 0 u [.ref (a (30 + 3 * i)), .int (iI (k : Int))] (fun v u' => v = some (.int (iI (gt t k : Int))) ∧ u' = u) := by
  obtain ⟨hs, hp, hlen, hsm⟩ := id hO
  have hbl := bw_le t k
  obtain ⟨hg1, hg2⟩ := gt_at (k := k) hs hp
  refine Ct.of (own := RX4) rfl (by decide +kernel) (Nat.le_of_ble_eq_true rfl) rfl (fun Γ h => ?_)
  refine w_aload_n h (pc := 0) dX4_numberOf_0 rfl ?_
  refine w_iload_n h (pc := 1) dX4_numberOf_1 rfl ?_
  refine w_callV1 h (pc := 2) (mX4_keysBelow l D κ a ε u i hi t hT hO k hk) _ (ws_T (by omega)) rfl (gdV wm_192 wm_193 wm_194 wm_47 wm_195) (by decide +kernel) ⟨(Nat.le_of_ble_eq_true rfl), (Nat.le_of_ble_eq_true rfl)⟩ ⟨(Nat.le_of_ble_eq_true rfl), (Nat.le_of_ble_eq_true rfl)⟩ (fun _ _ _ => ⟨rfl, rfl⟩) (Nat.le_of_ble_eq_true rfl) dX4_numberOf_2 (fun v u1 hp1 => ?_)
  obtain ⟨rfl, rfl⟩ := hp1
  simp only [Option.toList_some, List.cons_append, List.nil_append]
  refine w_istore_n h (pc := 5) dX4_numberOf_5 (by decide) ?_
  refine w_aload_n h (pc := 6) dX4_numberOf_6 rfl ?_
  refine w_iload_n h (pc := 7) dX4_numberOf_7 rfl ?_
  refine w_iload_n h (pc := 8) dX4_numberOf_8 rfl ?_
  refine w_callV2 h (pc := 9) (mX4_standsAt l D κ a ε u1 i hi t hT hO k hk) _ (ws_T (by omega)) rfl (gdV wm_196 wm_197 wm_198 wm_47 wm_199) (by decide +kernel) ⟨(Nat.le_of_ble_eq_true rfl), (Nat.le_of_ble_eq_true rfl)⟩ ⟨(Nat.le_of_ble_eq_true rfl), (Nat.le_of_ble_eq_true rfl)⟩ (fun _ _ _ => ⟨rfl, rfl⟩) (Nat.le_of_ble_eq_true rfl) dX4_numberOf_9 (fun v u2 hp2 => ?_)
  obtain ⟨rfl, rfl⟩ := hp2
  simp only [Option.toList_some, List.cons_append, List.nil_append]
  refine w_if_eq h (pc := 12) (tgt := 24) dX4_numberOf_12 (by decide) (by split <;> omega) (fun c12 => ?_) (fun c12 => ?_)
  · have hg : ¬ 0 < gt t k := by
      intro q
      rw [if_pos q] at c12
      omega
    have hz : gt t k = 0 := by omega
    refine w_iconst h (pc := 24) dX4_numberOf_24 ?_
    exact w_iret h (pc := 25) (ty := .int) rfl rfl dX4_numberOf_25 (Nat.le_of_ble_eq_true rfl) (Nat.le_of_ble_eq_true rfl) ⟨by first | rfl | (rw [hz]; rfl), rfl⟩
  · have hg : 0 < gt t k := by
      rcases Nat.lt_or_ge 0 (gt t k) with q | q
      · exact q
      · rw [if_neg (by omega)] at c12; omega
    have hb := hg1 hg
    have hlt := (List.getElem?_eq_some_iff.mp hb).1
    have hv := (hT.2 _ _ hb).2
    refine w_aload_n h (pc := 15) dX4_numberOf_15 rfl ?_
    refine gT_counts h (pc := 16) (by omega) wm_52 dX4_numberOf_16 ?_
    refine w_iload_n h (pc := 19) dX4_numberOf_19 rfl ?_
    refine ld_counts h (pc := 20) (by omega) (by omega) hv dX4_numberOf_20 ?_
    refine w_goto h (pc := 21) (tgt := 25) dX4_numberOf_21 (by decide) ?_
    exact w_iret h (pc := 25) (ty := .int) rfl rfl dX4_numberOf_25 (Nat.le_of_ble_eq_true rfl) (Nat.le_of_ble_eq_true rfl) ⟨by first | rfl | (rw [hz]; rfl), rfl⟩

set_option maxHeartbeats 4000000 in
set_option maxRecDepth 100000 in
theorem mX4_raise (l : Launch) (D : va_G) (κ a : Nat → Nat) (ε : EE) (u : US) (i : Nat) (hi : i < 8) (t : List (Nat × Nat)) (hT : TR u i t) (hO : TO t) (k : Nat) (hk : k < 1000000) (c : Nat) (hc : 0 < c ∧ c ≤ 1000000) (hroom : t.length < 852) : Ct (W0 κ a) l D κ ε yX4_raise cX4_raise 4 (some .boolean) 1 40 0 0 u [.ref (a (30 + 3 * i)), .int (iI (k : Int)), .int (iI (c : Int))] (fun v u' => v = some (.int (iI (if 0 < gt t k then 0 else 1))) ∧ Fr [12 + i] [31 + 3 * i, 32 + 3 * i] u u' ∧ TR u' i (rs t k c)) := by
  obtain ⟨hs, hp, hlen, hsm⟩ := id hO
  have hbl := bw_le t k
  obtain ⟨hg1, hg2⟩ := gt_at (k := k) hs hp
  refine Ct.of (own := RX4) rfl (by decide +kernel) (Nat.le_of_ble_eq_true rfl) rfl (fun Γ h => ?_)
  refine w_aload_n h (pc := 0) dX4_raise_0 rfl ?_
  refine w_iload_n h (pc := 1) dX4_raise_1 rfl ?_
  refine w_callV1 h (pc := 2) (mX4_keysBelow l D κ a ε u i hi t hT hO k hk) _ (ws_T (by omega)) rfl (gdV wm_192 wm_193 wm_194 wm_47 wm_195) (by decide +kernel) ⟨(Nat.le_of_ble_eq_true rfl), (Nat.le_of_ble_eq_true rfl)⟩ ⟨(Nat.le_of_ble_eq_true rfl), (Nat.le_of_ble_eq_true rfl)⟩ (fun _ _ _ => ⟨rfl, rfl⟩) (Nat.le_of_ble_eq_true rfl) dX4_raise_2 (fun v u1 hp1 => ?_)
  obtain ⟨rfl, rfl⟩ := hp1
  simp only [Option.toList_some, List.cons_append, List.nil_append]
  refine w_istore_n h (pc := 5) dX4_raise_5 (by decide) ?_
  refine w_aload_n h (pc := 6) dX4_raise_6 rfl ?_
  refine w_iload_n h (pc := 7) dX4_raise_7 rfl ?_
  refine w_iload_n h (pc := 8) dX4_raise_8 rfl ?_
  refine w_callV2 h (pc := 9) (mX4_standsAt l D κ a ε u1 i hi t hT hO k hk) _ (ws_T (by omega)) rfl (gdV wm_196 wm_197 wm_198 wm_47 wm_199) (by decide +kernel) ⟨(Nat.le_of_ble_eq_true rfl), (Nat.le_of_ble_eq_true rfl)⟩ ⟨(Nat.le_of_ble_eq_true rfl), (Nat.le_of_ble_eq_true rfl)⟩ (fun _ _ _ => ⟨rfl, rfl⟩) (Nat.le_of_ble_eq_true rfl) dX4_raise_9 (fun v u2 hp2 => ?_)
  obtain ⟨rfl, rfl⟩ := hp2
  simp only [Option.toList_some, List.cons_append, List.nil_append]
  refine w_if_eq h (pc := 12) (tgt := 36) dX4_raise_12 (by decide) (by split <;> omega) (fun c12 => ?_) (fun c12 => ?_)
  · have hg : ¬ 0 < gt t k := by
      intro q
      rw [if_pos q] at c12
      omega
    have hz : gt t k = 0 := by omega
    refine w_aload_n h (pc := 36) dX4_raise_36 rfl ?_
    refine gT_size h (pc := 37) (by omega) hT.1 wm_53 dX4_raise_37 ?_
    refine w_sipush h (pc := 40) dX4_raise_40 (by decide) ?_
    refine w_icmp_lt h (pc := 43) (tgt := 48) dX4_raise_43 (by decide) (by omega) (by omega) (fun c43 => ?_) (fun c43 => by exfalso; omega)
    refine w_aload_n h (pc := 48) dX4_raise_48 rfl ?_
    refine gT_keys h (pc := 49) (by omega) wm_51 dX4_raise_49 ?_
    refine w_iload_n h (pc := 52) dX4_raise_52 rfl ?_
    refine w_aload_n h (pc := 53) dX4_raise_53 rfl ?_
    refine gT_keys h (pc := 54) (by omega) wm_51 dX4_raise_54 ?_
    refine w_iload_n h (pc := 57) dX4_raise_57 rfl ?_
    refine w_iconst h (pc := 58) dX4_raise_58 ?_
    refine w_iadd h (pc := 59) dX4_raise_59 ?_
    refine w_aload_n h (pc := 60) dX4_raise_60 rfl ?_
    refine gT_size h (pc := 61) (by omega) hT.1 wm_53 dX4_raise_61 ?_
    refine w_iload_n h (pc := 64) dX4_raise_64 rfl ?_
    refine w_isub h (pc := 65) dX4_raise_65 ?_
    refine cp_keys h (pc := 66) (by omega) wm_188 (by omega) (by omega) (by omega) (by omega) (by omega) (Nat.le_of_ble_eq_true rfl) (Nat.le_of_ble_eq_true rfl) dX4_raise_66 ?_
    refine w_aload_n h (pc := 69) dX4_raise_69 rfl ?_
    refine gT_counts h (pc := 70) (by omega) wm_52 dX4_raise_70 ?_
    refine w_iload_n h (pc := 73) dX4_raise_73 rfl ?_
    refine w_aload_n h (pc := 74) dX4_raise_74 rfl ?_
    refine gT_counts h (pc := 75) (by omega) wm_52 dX4_raise_75 ?_
    refine w_iload_n h (pc := 78) dX4_raise_78 rfl ?_
    refine w_iconst h (pc := 79) dX4_raise_79 ?_
    refine w_iadd h (pc := 80) dX4_raise_80 ?_
    refine w_aload_n h (pc := 81) dX4_raise_81 rfl ?_
    refine gT_size h (pc := 82) (by omega) hT.1 wm_53 dX4_raise_82 ?_
    refine w_iload_n h (pc := 85) dX4_raise_85 rfl ?_
    refine w_isub h (pc := 86) dX4_raise_86 ?_
    refine cp_counts h (pc := 87) (by omega) wm_188 (by omega) (by omega) (by omega) (by omega) (by omega) (Nat.le_of_ble_eq_true rfl) (Nat.le_of_ble_eq_true rfl) dX4_raise_87 ?_
    refine w_aload_n h (pc := 90) dX4_raise_90 rfl ?_
    refine gT_keys h (pc := 91) (by omega) wm_51 dX4_raise_91 ?_
    refine w_iload_n h (pc := 94) dX4_raise_94 rfl ?_
    refine w_iload_n h (pc := 95) dX4_raise_95 rfl ?_
    refine st_keys h (pc := 96) (by omega) (by omega) dX4_raise_96 ?_
    refine w_aload_n h (pc := 97) dX4_raise_97 rfl ?_
    refine gT_counts h (pc := 98) (by omega) wm_52 dX4_raise_98 ?_
    refine w_iload_n h (pc := 101) dX4_raise_101 rfl ?_
    refine w_iload_n h (pc := 102) dX4_raise_102 rfl ?_
    refine st_counts h (pc := 103) (by omega) (by omega) dX4_raise_103 ?_
    refine w_aload_n h (pc := 104) dX4_raise_104 rfl ?_
    refine w_dup h (pc := 105) dX4_raise_105 rfl ?_
    refine gT_size h (pc := 106) (by omega) hT.1 wm_53 dX4_raise_106 ?_
    refine w_iconst h (pc := 109) dX4_raise_109 ?_
    refine w_iadd h (pc := 110) dX4_raise_110 ?_
    refine pT_size h (pc := 111) (by omega) wm_53 dX4_raise_111 ?_
    refine w_iconst h (pc := 114) dX4_raise_114 ?_
    exact w_iret h (pc := 115) (ty := .boolean) rfl rfl dX4_raise_115 (Nat.le_of_ble_eq_true rfl) (Nat.le_of_ble_eq_true rfl) ⟨by rw [if_neg hg], (((Fr.A (by simp)).tr (Fr.A (by simp))).tr (Fr.A (by simp))).tr ((Fr.A (by simp)).tr (Fr.S (by simp))), by unfold rs; rw [if_neg hg]; exact TR_ins hT (uS_at _ _ _) (by show (uA _ _ _).2 _ = _; rw [uA_ne _ _ (by omega), uA_at, uA_ne _ _ (by omega), uA_at]) (by show (uA _ _ _).2 _ = _; rw [uA_at, uA_ne _ _ (by omega), uA_at, uA_ne _ _ (by omega)]) (by omega) (by omega) (by omega) (by omega) (by omega) (by omega) (by omega) (by omega) rfl rfl⟩
  · have hg : 0 < gt t k := by
      rcases Nat.lt_or_ge 0 (gt t k) with q | q
      · exact q
      · rw [if_neg (by omega)] at c12; omega
    have hb := hg1 hg
    have hlt := (List.getElem?_eq_some_iff.mp hb).1
    have hv := (hT.2 _ _ hb).2
    have hcs := (TO.at hO hb).2.1
    refine w_aload_n h (pc := 15) dX4_raise_15 rfl ?_
    refine gT_counts h (pc := 16) (by omega) wm_52 dX4_raise_16 ?_
    refine w_iload_n h (pc := 19) dX4_raise_19 rfl ?_
    refine w_ldc h (pc := 20) (z := 100000000) dX4_raise_20 wm_186 (by decide) ?_
    refine w_aload_n h (pc := 22) dX4_raise_22 rfl ?_
    refine gT_counts h (pc := 23) (by omega) wm_52 dX4_raise_23 ?_
    refine w_iload_n h (pc := 26) dX4_raise_26 rfl ?_
    refine ld_counts h (pc := 27) (by omega) (by omega) hv dX4_raise_27 ?_
    refine w_iload_n h (pc := 28) dX4_raise_28 rfl ?_
    refine w_iadd h (pc := 29) dX4_raise_29 ?_
    refine w_imin h (pc := 30) wm_187 wm_124 wm_125 wm_126 (Nat.le_of_ble_eq_true rfl) (Nat.le_of_ble_eq_true rfl) (Nat.le_of_ble_eq_true rfl) (Nat.le_of_ble_eq_true rfl) (by omega) (by omega) (z := ((min 100000000 (gt t k + c) : Nat) : Int)) (by split <;> omega) dX4_raise_30 ?_
    refine st_counts h (pc := 33) (by omega) (by omega) dX4_raise_33 ?_
    refine w_iconst h (pc := 34) dX4_raise_34 ?_
    exact w_iret h (pc := 35) (ty := .boolean) rfl rfl dX4_raise_35 (Nat.le_of_ble_eq_true rfl) (Nat.le_of_ble_eq_true rfl) ⟨by rw [if_pos hg], Fr.A (by simp), by unfold rs; rw [if_pos hg]; exact TR_cst hs hT hb rfl (uA_ne _ _ (by omega)) (uA_at _ _ _) (by omega) rfl⟩

set_option maxHeartbeats 4000000 in
set_option maxRecDepth 100000 in
theorem mX4_removeAt (l : Launch) (D : va_G) (κ a : Nat → Nat) (ε : EE) (u : US) (i : Nat) (hi : i < 8) (t : List (Nat × Nat)) (k d : Nat) (hO : TO t) (hT : TRx u i t (bw t k)) (hb : t[bw t k]? = some (k, d)) : Ct (W0 κ a) l D κ ε yX4_removeAt cX4_removeAt 2 none 1 40 0 0 u [.ref (a (30 + 3 * i)), .int (iI (bw t k : Int))] (fun v u' => v = none ∧ Fr [12 + i] [31 + 3 * i, 32 + 3 * i] u u' ∧ TR u' i (del t k)) := by
  obtain ⟨hs, hp, hlen, hsm⟩ := id hO
  have hbl := bw_le t k
  have hlt := (List.getElem?_eq_some_iff.mp hb).1
  refine Ct.of (own := RX4) rfl (by decide +kernel) (Nat.le_of_ble_eq_true rfl) rfl (fun Γ h => ?_)
  refine w_iload_n h (pc := 0) dX4_removeAt_0 rfl ?_
  refine w_if_lt h (pc := 1) (tgt := 12) dX4_removeAt_1 (by decide) (by omega) (fun c1 => by exfalso; omega) (fun c1 => ?_)
  refine w_iload_n h (pc := 4) dX4_removeAt_4 rfl ?_
  refine w_aload_n h (pc := 5) dX4_removeAt_5 rfl ?_
  refine gT_size h (pc := 6) (by omega) hT.1 wm_53 dX4_removeAt_6 ?_
  refine w_icmp_lt h (pc := 9) (tgt := 13) dX4_removeAt_9 (by decide) (by omega) (by omega) (fun c9 => ?_) (fun c9 => by exfalso; omega)
  refine w_aload_n h (pc := 13) dX4_removeAt_13 rfl ?_
  refine gT_keys h (pc := 14) (by omega) wm_51 dX4_removeAt_14 ?_
  refine w_iload_n h (pc := 17) dX4_removeAt_17 rfl ?_
  refine w_iconst h (pc := 18) dX4_removeAt_18 ?_
  refine w_iadd h (pc := 19) dX4_removeAt_19 ?_
  refine w_aload_n h (pc := 20) dX4_removeAt_20 rfl ?_
  refine gT_keys h (pc := 21) (by omega) wm_51 dX4_removeAt_21 ?_
  refine w_iload_n h (pc := 24) dX4_removeAt_24 rfl ?_
  refine w_aload_n h (pc := 25) dX4_removeAt_25 rfl ?_
  refine gT_size h (pc := 26) (by omega) hT.1 wm_53 dX4_removeAt_26 ?_
  refine w_iload_n h (pc := 29) dX4_removeAt_29 rfl ?_
  refine w_isub h (pc := 30) dX4_removeAt_30 ?_
  refine w_iconst h (pc := 31) dX4_removeAt_31 ?_
  refine w_isub h (pc := 32) dX4_removeAt_32 ?_
  refine cp_keys h (pc := 33) (by omega) wm_188 (by omega) (by omega) (by omega) (by omega) (by omega) (Nat.le_of_ble_eq_true rfl) (Nat.le_of_ble_eq_true rfl) dX4_removeAt_33 ?_
  refine w_aload_n h (pc := 36) dX4_removeAt_36 rfl ?_
  refine gT_counts h (pc := 37) (by omega) wm_52 dX4_removeAt_37 ?_
  refine w_iload_n h (pc := 40) dX4_removeAt_40 rfl ?_
  refine w_iconst h (pc := 41) dX4_removeAt_41 ?_
  refine w_iadd h (pc := 42) dX4_removeAt_42 ?_
  refine w_aload_n h (pc := 43) dX4_removeAt_43 rfl ?_
  refine gT_counts h (pc := 44) (by omega) wm_52 dX4_removeAt_44 ?_
  refine w_iload_n h (pc := 47) dX4_removeAt_47 rfl ?_
  refine w_aload_n h (pc := 48) dX4_removeAt_48 rfl ?_
  refine gT_size h (pc := 49) (by omega) hT.1 wm_53 dX4_removeAt_49 ?_
  refine w_iload_n h (pc := 52) dX4_removeAt_52 rfl ?_
  refine w_isub h (pc := 53) dX4_removeAt_53 ?_
  refine w_iconst h (pc := 54) dX4_removeAt_54 ?_
  refine w_isub h (pc := 55) dX4_removeAt_55 ?_
  refine cp_counts h (pc := 56) (by omega) wm_188 (by omega) (by omega) (by omega) (by omega) (by omega) (Nat.le_of_ble_eq_true rfl) (Nat.le_of_ble_eq_true rfl) dX4_removeAt_56 ?_
  refine w_aload_n h (pc := 59) dX4_removeAt_59 rfl ?_
  refine w_dup h (pc := 60) dX4_removeAt_60 rfl ?_
  refine gT_size h (pc := 61) (by omega) hT.1 wm_53 dX4_removeAt_61 ?_
  refine w_iconst h (pc := 64) dX4_removeAt_64 ?_
  refine w_isub h (pc := 65) dX4_removeAt_65 ?_
  refine pT_size h (pc := 66) (by omega) wm_53 dX4_removeAt_66 ?_
  exact w_vret h (pc := 69) rfl dX4_removeAt_69 (Nat.le_of_ble_eq_true rfl) (Nat.le_of_ble_eq_true rfl) ⟨rfl, ((Fr.A (by simp)).tr (Fr.A (by simp))).tr (Fr.S (by simp)), TR_del hs hT hb (uS_at _ _ _) (by show (uA _ _ _).2 _ = _; rw [uA_ne _ _ (by omega), uA_at]) (by show (uA _ _ _).2 _ = _; rw [uA_at, uA_ne _ _ (by omega)]) (by omega) (by omega) (by omega) (by omega) (by omega) (by omega)⟩

set_option maxHeartbeats 4000000 in
set_option maxRecDepth 100000 in
theorem mX4_lower (l : Launch) (D : va_G) (κ a : Nat → Nat) (ε : EE) (u : US) (i : Nat) (hi : i < 8) (t : List (Nat × Nat)) (hT : TR u i t) (hO : TO t) (k : Nat) (hk : k < 1000000) (c : Nat) (hc : 0 < c ∧ c ≤ 1000000) : Ct (W0 κ a) l D κ ε yX4_lower cX4_lower 4 (some .boolean) 2 61 0 0 u [.ref (a (30 + 3 * i)), .int (iI (k : Int)), .int (iI (c : Int))] (fun v u' => v = some (.int (iI (if 0 < gt t k ∧ gt t k ≤ c then 1 else 0))) ∧ Fr [12 + i] [31 + 3 * i, 32 + 3 * i] u u' ∧ TR u' i (lw t k c)) := by
  obtain ⟨hs, hp, hlen, hsm⟩ := id hO
  have hbl := bw_le t k
  obtain ⟨hg1, hg2⟩ := gt_at (k := k) hs hp
  refine Ct.of (own := RX4) rfl (by decide +kernel) (Nat.le_of_ble_eq_true rfl) rfl (fun Γ h => ?_)
  refine w_aload_n h (pc := 0) dX4_lower_0 rfl ?_
  refine w_iload_n h (pc := 1) dX4_lower_1 rfl ?_
  refine w_callV1 h (pc := 2) (mX4_keysBelow l D κ a ε u i hi t hT hO k hk) _ (ws_T (by omega)) rfl (gdV wm_192 wm_193 wm_194 wm_47 wm_195) (by decide +kernel) ⟨(Nat.le_of_ble_eq_true rfl), (Nat.le_of_ble_eq_true rfl)⟩ ⟨(Nat.le_of_ble_eq_true rfl), (Nat.le_of_ble_eq_true rfl)⟩ (fun _ _ _ => ⟨rfl, rfl⟩) (Nat.le_of_ble_eq_true rfl) dX4_lower_2 (fun v u1 hp1 => ?_)
  obtain ⟨rfl, rfl⟩ := hp1
  simp only [Option.toList_some, List.cons_append, List.nil_append]
  refine w_istore_n h (pc := 5) dX4_lower_5 (by decide) ?_
  refine w_aload_n h (pc := 6) dX4_lower_6 rfl ?_
  refine w_iload_n h (pc := 7) dX4_lower_7 rfl ?_
  refine w_iload_n h (pc := 8) dX4_lower_8 rfl ?_
  refine w_callV2 h (pc := 9) (mX4_standsAt l D κ a ε u1 i hi t hT hO k hk) _ (ws_T (by omega)) rfl (gdV wm_196 wm_197 wm_198 wm_47 wm_199) (by decide +kernel) ⟨(Nat.le_of_ble_eq_true rfl), (Nat.le_of_ble_eq_true rfl)⟩ ⟨(Nat.le_of_ble_eq_true rfl), (Nat.le_of_ble_eq_true rfl)⟩ (fun _ _ _ => ⟨rfl, rfl⟩) (Nat.le_of_ble_eq_true rfl) dX4_lower_9 (fun v u2 hp2 => ?_)
  obtain ⟨rfl, rfl⟩ := hp2
  simp only [Option.toList_some, List.cons_append, List.nil_append]
  refine w_if_ne h (pc := 12) (tgt := 17) dX4_lower_12 (by decide) (by split <;> omega) (fun c12 => ?_) (fun c12 => ?_)
  · have hg : 0 < gt t k := by
      rcases Nat.lt_or_ge 0 (gt t k) with q | q
      · exact q
      · rw [if_neg (by omega)] at c12; omega
    have hb := hg1 hg
    have hlt := (List.getElem?_eq_some_iff.mp hb).1
    have hv := (hT.2 _ _ hb).2
    have hcs := (TO.at hO hb).2.1
    refine w_aload_n h (pc := 17) dX4_lower_17 rfl ?_
    refine gT_counts h (pc := 18) (by omega) wm_52 dX4_lower_18 ?_
    refine w_iload_n h (pc := 21) dX4_lower_21 rfl ?_
    refine w_dup2 h (pc := 22) dX4_lower_22 rfl rfl ?_
    refine ld_counts h (pc := 23) (by omega) (by omega) hv dX4_lower_23 ?_
    refine w_iload_n h (pc := 24) dX4_lower_24 rfl ?_
    refine w_isub h (pc := 25) dX4_lower_25 ?_
    refine st_counts h (pc := 26) (by omega) (by omega) dX4_lower_26 ?_
    refine w_aload_n h (pc := 27) dX4_lower_27 rfl ?_
    have hv2 : (uA u2 (32 + 3 * i) (upI (u2.2 (32 + 3 * i)) (bw t k : Int).toNat ((gt t k : Int) - (c : Int)))).2 (32 + 3 * i) (bw t k : Int).toNat = (gt t k : Int) - (c : Int) := by rw [uA_at]; exact if_pos rfl
    refine gT_counts h (pc := 28) (by omega) wm_52 dX4_lower_28 ?_
    refine w_iload_n h (pc := 31) dX4_lower_31 rfl ?_
    refine ld_counts h (pc := 32) (by omega) (by omega) hv2 dX4_lower_32 ?_
    refine w_if_le h (pc := 33) (tgt := 38) dX4_lower_33 (by decide) (by omega) (fun c33 => ?_) (fun c33 => ?_)
    · refine w_aload_n h (pc := 38) dX4_lower_38 rfl ?_
      refine w_iload_n h (pc := 39) dX4_lower_39 rfl ?_
      refine w_callV1 h (pc := 40) (mX4_removeAt l D κ a ε _ i hi t k (gt t k) hO (TRx_up hT rfl (uA_ne _ _ (by omega)) (uA_at _ _ _) (by omega)) hb) _ (ws_T (by omega)) rfl (gdV wm_216 wm_217 wm_218 wm_47 wm_219) (by decide +kernel) ⟨(Nat.le_of_ble_eq_true rfl), (Nat.le_of_ble_eq_true rfl)⟩ ⟨(Nat.le_of_ble_eq_true rfl), (Nat.le_of_ble_eq_true rfl)⟩ (fun _ _ _ => ⟨rfl, rfl⟩) (Nat.le_of_ble_eq_true rfl) dX4_lower_40 (fun v u3 hp3 => ?_)
      obtain ⟨rfl, hF3, hT3⟩ := hp3
      simp only [Option.toList_none, List.nil_append]
      refine w_iconst h (pc := 43) dX4_lower_43 ?_
      exact w_iret h (pc := 44) (ty := .boolean) rfl rfl dX4_lower_44 (Nat.le_of_ble_eq_true rfl) (Nat.le_of_ble_eq_true rfl) ⟨by rw [if_pos (by omega)], (Fr.A (by simp)).tr hF3, by unfold lw; rw [if_neg (by omega)]; exact hT3⟩
    · refine w_iconst h (pc := 36) dX4_lower_36 ?_
      exact w_iret h (pc := 37) (ty := .boolean) rfl rfl dX4_lower_37 (Nat.le_of_ble_eq_true rfl) (Nat.le_of_ble_eq_true rfl) ⟨by rw [if_neg (by omega)], Fr.A (by simp), by unfold lw; rw [if_pos (by omega)]; exact TR_cst hs hT hb rfl (uA_ne _ _ (by omega)) (uA_at _ _ _) (by omega) (by omega)⟩
  · have hg : ¬ 0 < gt t k := by
      intro q
      rw [if_pos q] at c12
      omega
    have hz : gt t k = 0 := by omega
    refine w_iconst h (pc := 15) dX4_lower_15 ?_
    exact w_iret h (pc := 16) (ty := .boolean) rfl rfl dX4_lower_16 (Nat.le_of_ble_eq_true rfl) (Nat.le_of_ble_eq_true rfl) ⟨by rw [if_neg (by omega)], Fr.rfl, by unfold lw; rw [if_neg (by omega), del_none (gt_none hs hp hg)]; exact hT⟩
