theorem dX3_chooseAt_0 : decode cX3_chooseAt 0 = .ok (.aload_n 0, 1) := by decide +kernel
theorem dX3_chooseAt_1 : decode cX3_chooseAt 1 = .ok (.getfield 26, 3) := by decide +kernel
theorem dX3_chooseAt_4 : decode cX3_chooseAt 4 = .ok (.getfield 42, 3) := by decide +kernel
theorem dX3_chooseAt_7 : decode cX3_chooseAt 7 = .ok (.istore_n 2, 1) := by decide +kernel
theorem dX3_chooseAt_8 : decode cX3_chooseAt 8 = .ok (.aload_n 0, 1) := by decide +kernel
theorem dX3_chooseAt_9 : decode cX3_chooseAt 9 = .ok (.iload_n 1, 1) := by decide +kernel
theorem dX3_chooseAt_10 : decode cX3_chooseAt 10 = .ok (.invokevirtual 38, 3) := by decide +kernel
theorem dX3_chooseAt_13 : decode cX3_chooseAt 13 = .ok (.istore_n 3, 1) := by decide +kernel
theorem dX3_chooseAt_14 : decode cX3_chooseAt 14 = .ok (.aload_n 0, 1) := by decide +kernel
theorem dX3_chooseAt_15 : decode cX3_chooseAt 15 = .ok (.iload_n 1, 1) := by decide +kernel
theorem dX3_chooseAt_16 : decode cX3_chooseAt 16 = .ok (.iconst 1, 1) := by decide +kernel
theorem dX3_chooseAt_17 : decode cX3_chooseAt 17 = .ok (.iadd, 1) := by decide +kernel
theorem dX3_chooseAt_18 : decode cX3_chooseAt 18 = .ok (.invokevirtual 38, 3) := by decide +kernel
theorem dX3_chooseAt_21 : decode cX3_chooseAt 21 = .ok (.istore 4, 2) := by decide +kernel
theorem dX3_chooseAt_23 : decode cX3_chooseAt 23 = .ok (.iconst 0, 1) := by decide +kernel
theorem dX3_chooseAt_24 : decode cX3_chooseAt 24 = .ok (.istore 5, 2) := by decide +kernel
theorem dX3_chooseAt_26 : decode cX3_chooseAt 26 = .ok (.iload 5, 2) := by decide +kernel
theorem dX3_chooseAt_28 : decode cX3_chooseAt 28 = .ok (.iload_n 3, 1) := by decide +kernel
theorem dX3_chooseAt_29 : decode cX3_chooseAt 29 = .ok (.if_icmp .ge 105, 3) := by decide +kernel
theorem dX3_chooseAt_32 : decode cX3_chooseAt 32 = .ok (.iconst 0, 1) := by decide +kernel
theorem dX3_chooseAt_33 : decode cX3_chooseAt 33 = .ok (.istore 6, 2) := by decide +kernel
theorem dX3_chooseAt_35 : decode cX3_chooseAt 35 = .ok (.iconst 0, 1) := by decide +kernel
theorem dX3_chooseAt_36 : decode cX3_chooseAt 36 = .ok (.istore 7, 2) := by decide +kernel
theorem dX3_chooseAt_38 : decode cX3_chooseAt 38 = .ok (.iconst 0, 1) := by decide +kernel
theorem dX3_chooseAt_39 : decode cX3_chooseAt 39 = .ok (.istore 8, 2) := by decide +kernel
theorem dX3_chooseAt_41 : decode cX3_chooseAt 41 = .ok (.iload 8, 2) := by decide +kernel
theorem dX3_chooseAt_43 : decode cX3_chooseAt 43 = .ok (.iload_n 2, 1) := by decide +kernel
theorem dX3_chooseAt_44 : decode cX3_chooseAt 44 = .ok (.if_icmp .ge 64, 3) := by decide +kernel
theorem dX3_chooseAt_47 : decode cX3_chooseAt 47 = .ok (.aload_n 0, 1) := by decide +kernel
theorem dX3_chooseAt_48 : decode cX3_chooseAt 48 = .ok (.getfield 23, 3) := by decide +kernel
theorem dX3_chooseAt_51 : decode cX3_chooseAt 51 = .ok (.iload 5, 2) := by decide +kernel
theorem dX3_chooseAt_53 : decode cX3_chooseAt 53 = .ok (.iload_n 2, 1) := by decide +kernel
theorem dX3_chooseAt_54 : decode cX3_chooseAt 54 = .ok (.imul, 1) := by decide +kernel
theorem dX3_chooseAt_55 : decode cX3_chooseAt 55 = .ok (.iload 8, 2) := by decide +kernel
theorem dX3_chooseAt_57 : decode cX3_chooseAt 57 = .ok (.iadd, 1) := by decide +kernel
theorem dX3_chooseAt_58 : decode cX3_chooseAt 58 = .ok (.iload 4, 2) := by decide +kernel
theorem dX3_chooseAt_60 : decode cX3_chooseAt 60 = .ok (.irem, 1) := by decide +kernel
theorem dX3_chooseAt_61 : decode cX3_chooseAt 61 = .ok (.iaload, 1) := by decide +kernel
theorem dX3_chooseAt_62 : decode cX3_chooseAt 62 = .ok (.istore 9, 2) := by decide +kernel
theorem dX3_chooseAt_64 : decode cX3_chooseAt 64 = .ok (.aload_n 0, 1) := by decide +kernel
theorem dX3_chooseAt_65 : decode cX3_chooseAt 65 = .ok (.getfield 11, 3) := by decide +kernel
theorem dX3_chooseAt_68 : decode cX3_chooseAt 68 = .ok (.iload 5, 2) := by decide +kernel
theorem dX3_chooseAt_70 : decode cX3_chooseAt 70 = .ok (.bipush 13, 2) := by decide +kernel
theorem dX3_chooseAt_72 : decode cX3_chooseAt 72 = .ok (.imul, 1) := by decide +kernel
theorem dX3_chooseAt_73 : decode cX3_chooseAt 73 = .ok (.iload 8, 2) := by decide +kernel
theorem dX3_chooseAt_75 : decode cX3_chooseAt 75 = .ok (.iadd, 1) := by decide +kernel
theorem dX3_chooseAt_76 : decode cX3_chooseAt 76 = .ok (.iaload, 1) := by decide +kernel
theorem dX3_chooseAt_77 : decode cX3_chooseAt 77 = .ok (.iload 9, 2) := by decide +kernel
theorem dX3_chooseAt_79 : decode cX3_chooseAt 79 = .ok (.iadd, 1) := by decide +kernel
theorem dX3_chooseAt_80 : decode cX3_chooseAt 80 = .ok (.istore 10, 2) := by decide +kernel
theorem dX3_chooseAt_82 : decode cX3_chooseAt 82 = .ok (.iload 8, 2) := by decide +kernel
theorem dX3_chooseAt_84 : decode cX3_chooseAt 84 = .ok (.ifCond .eq 10, 3) := by decide +kernel
theorem dX3_chooseAt_87 : decode cX3_chooseAt 87 = .ok (.iload 10, 2) := by decide +kernel
theorem dX3_chooseAt_89 : decode cX3_chooseAt 89 = .ok (.iload 7, 2) := by decide +kernel
theorem dX3_chooseAt_91 : decode cX3_chooseAt 91 = .ok (.if_icmp .ge 11, 3) := by decide +kernel
theorem dX3_chooseAt_94 : decode cX3_chooseAt 94 = .ok (.iload 8, 2) := by decide +kernel
theorem dX3_chooseAt_96 : decode cX3_chooseAt 96 = .ok (.istore 6, 2) := by decide +kernel
theorem dX3_chooseAt_98 : decode cX3_chooseAt 98 = .ok (.iload 10, 2) := by decide +kernel
theorem dX3_chooseAt_100 : decode cX3_chooseAt 100 = .ok (.istore 7, 2) := by decide +kernel
theorem dX3_chooseAt_102 : decode cX3_chooseAt 102 = .ok (.iinc 8 1, 3) := by decide +kernel
theorem dX3_chooseAt_105 : decode cX3_chooseAt 105 = .ok (.goto (-64), 3) := by decide +kernel
theorem dX3_chooseAt_108 : decode cX3_chooseAt 108 = .ok (.aload_n 0, 1) := by decide +kernel
theorem dX3_chooseAt_109 : decode cX3_chooseAt 109 = .ok (.getfield 20, 3) := by decide +kernel
theorem dX3_chooseAt_112 : decode cX3_chooseAt 112 = .ok (.iload 5, 2) := by decide +kernel
theorem dX3_chooseAt_114 : decode cX3_chooseAt 114 = .ok (.iload 7, 2) := by decide +kernel
theorem dX3_chooseAt_116 : decode cX3_chooseAt 116 = .ok (.iastore, 1) := by decide +kernel
theorem dX3_chooseAt_117 : decode cX3_chooseAt 117 = .ok (.aload_n 0, 1) := by decide +kernel
theorem dX3_chooseAt_118 : decode cX3_chooseAt 118 = .ok (.getfield 17, 3) := by decide +kernel
theorem dX3_chooseAt_121 : decode cX3_chooseAt 121 = .ok (.iload_n 1, 1) := by decide +kernel
theorem dX3_chooseAt_122 : decode cX3_chooseAt 122 = .ok (.aaload, 1) := by decide +kernel
theorem dX3_chooseAt_123 : decode cX3_chooseAt 123 = .ok (.iload 5, 2) := by decide +kernel
theorem dX3_chooseAt_125 : decode cX3_chooseAt 125 = .ok (.iload 6, 2) := by decide +kernel
theorem dX3_chooseAt_127 : decode cX3_chooseAt 127 = .ok (.iastore, 1) := by decide +kernel
theorem dX3_chooseAt_128 : decode cX3_chooseAt 128 = .ok (.iinc 5 1, 3) := by decide +kernel
theorem dX3_chooseAt_131 : decode cX3_chooseAt 131 = .ok (.goto (-105), 3) := by decide +kernel
theorem dX3_chooseAt_134 : decode cX3_chooseAt 134 = .ok (.return_, 1) := by decide +kernel
theorem dX3_fillCosts_0 : decode cX3_fillCosts 0 = .ok (.aload_n 0, 1) := by decide +kernel
theorem dX3_fillCosts_1 : decode cX3_fillCosts 1 = .ok (.iload_n 2, 1) := by decide +kernel
theorem dX3_fillCosts_2 : decode cX3_fillCosts 2 = .ok (.invokevirtual 61, 3) := by decide +kernel
theorem dX3_fillCosts_5 : decode cX3_fillCosts 5 = .ok (.istore_n 3, 1) := by decide +kernel
theorem dX3_fillCosts_6 : decode cX3_fillCosts 6 = .ok (.iload_n 1, 1) := by decide +kernel
theorem dX3_fillCosts_7 : decode cX3_fillCosts 7 = .ok (.getstatic 67, 3) := by decide +kernel
theorem dX3_fillCosts_10 : decode cX3_fillCosts 10 = .ok (.aload_n 0, 1) := by decide +kernel
theorem dX3_fillCosts_11 : decode cX3_fillCosts 11 = .ok (.getfield 26, 3) := by decide +kernel
theorem dX3_fillCosts_14 : decode cX3_fillCosts 14 = .ok (.getfield 48, 3) := by decide +kernel
theorem dX3_fillCosts_17 : decode cX3_fillCosts 17 = .ok (.iconst 1, 1) := by decide +kernel
theorem dX3_fillCosts_18 : decode cX3_fillCosts 18 = .ok (.isub, 1) := by decide +kernel
theorem dX3_fillCosts_19 : decode cX3_fillCosts 19 = .ok (.iload_n 3, 1) := by decide +kernel
theorem dX3_fillCosts_20 : decode cX3_fillCosts 20 = .ok (.isub, 1) := by decide +kernel
theorem dX3_fillCosts_21 : decode cX3_fillCosts 21 = .ok (.iaload, 1) := by decide +kernel
theorem dX3_fillCosts_22 : decode cX3_fillCosts 22 = .ok (.irem, 1) := by decide +kernel
theorem dX3_fillCosts_23 : decode cX3_fillCosts 23 = .ok (.istore 4, 2) := by decide +kernel
theorem dX3_fillCosts_25 : decode cX3_fillCosts 25 = .ok (.aload_n 0, 1) := by decide +kernel
theorem dX3_fillCosts_26 : decode cX3_fillCosts 26 = .ok (.iload_n 2, 1) := by decide +kernel
theorem dX3_fillCosts_27 : decode cX3_fillCosts 27 = .ok (.invokevirtual 38, 3) := by decide +kernel
theorem dX3_fillCosts_30 : decode cX3_fillCosts 30 = .ok (.istore 5, 2) := by decide +kernel
theorem dX3_fillCosts_32 : decode cX3_fillCosts 32 = .ok (.iconst 0, 1) := by decide +kernel
theorem dX3_fillCosts_33 : decode cX3_fillCosts 33 = .ok (.istore 6, 2) := by decide +kernel
theorem dX3_fillCosts_35 : decode cX3_fillCosts 35 = .ok (.iload 6, 2) := by decide +kernel
theorem dX3_fillCosts_37 : decode cX3_fillCosts 37 = .ok (.iload 5, 2) := by decide +kernel
theorem dX3_fillCosts_39 : decode cX3_fillCosts 39 = .ok (.if_icmp .ge 86, 3) := by decide +kernel
theorem dX3_fillCosts_42 : decode cX3_fillCosts 42 = .ok (.aload_n 0, 1) := by decide +kernel
theorem dX3_fillCosts_43 : decode cX3_fillCosts 43 = .ok (.getfield 30, 3) := by decide +kernel
theorem dX3_fillCosts_46 : decode cX3_fillCosts 46 = .ok (.aload_n 0, 1) := by decide +kernel
theorem dX3_fillCosts_47 : decode cX3_fillCosts 47 = .ok (.getfield 26, 3) := by decide +kernel
theorem dX3_fillCosts_50 : decode cX3_fillCosts 50 = .ok (.getfield 48, 3) := by decide +kernel
theorem dX3_fillCosts_53 : decode cX3_fillCosts 53 = .ok (.iload 4, 2) := by decide +kernel
theorem dX3_fillCosts_55 : decode cX3_fillCosts 55 = .ok (.getstatic 67, 3) := by decide +kernel
theorem dX3_fillCosts_58 : decode cX3_fillCosts 58 = .ok (.iload_n 3, 1) := by decide +kernel
theorem dX3_fillCosts_59 : decode cX3_fillCosts 59 = .ok (.iaload, 1) := by decide +kernel
theorem dX3_fillCosts_60 : decode cX3_fillCosts 60 = .ok (.imul, 1) := by decide +kernel
theorem dX3_fillCosts_61 : decode cX3_fillCosts 61 = .ok (.aload_n 0, 1) := by decide +kernel
theorem dX3_fillCosts_62 : decode cX3_fillCosts 62 = .ok (.iload 6, 2) := by decide +kernel
theorem dX3_fillCosts_64 : decode cX3_fillCosts 64 = .ok (.iload_n 3, 1) := by decide +kernel
theorem dX3_fillCosts_65 : decode cX3_fillCosts 65 = .ok (.invokevirtual 70, 3) := by decide +kernel
theorem dX3_fillCosts_68 : decode cX3_fillCosts 68 = .ok (.iadd, 1) := by decide +kernel
theorem dX3_fillCosts_69 : decode cX3_fillCosts 69 = .ok (.invokevirtual 73, 3) := by decide +kernel
theorem dX3_fillCosts_72 : decode cX3_fillCosts 72 = .ok (.iconst 0, 1) := by decide +kernel
theorem dX3_fillCosts_73 : decode cX3_fillCosts 73 = .ok (.istore 7, 2) := by decide +kernel
theorem dX3_fillCosts_75 : decode cX3_fillCosts 75 = .ok (.iload 7, 2) := by decide +kernel
theorem dX3_fillCosts_77 : decode cX3_fillCosts 77 = .ok (.aload_n 0, 1) := by decide +kernel
theorem dX3_fillCosts_78 : decode cX3_fillCosts 78 = .ok (.getfield 26, 3) := by decide +kernel
theorem dX3_fillCosts_81 : decode cX3_fillCosts 81 = .ok (.getfield 42, 3) := by decide +kernel
theorem dX3_fillCosts_84 : decode cX3_fillCosts 84 = .ok (.if_icmp .gt 35, 3) := by decide +kernel
theorem dX3_fillCosts_87 : decode cX3_fillCosts 87 = .ok (.aload_n 0, 1) := by decide +kernel
theorem dX3_fillCosts_88 : decode cX3_fillCosts 88 = .ok (.getfield 11, 3) := by decide +kernel
theorem dX3_fillCosts_91 : decode cX3_fillCosts 91 = .ok (.iload 6, 2) := by decide +kernel
theorem dX3_fillCosts_93 : decode cX3_fillCosts 93 = .ok (.bipush 13, 2) := by decide +kernel
theorem dX3_fillCosts_95 : decode cX3_fillCosts 95 = .ok (.imul, 1) := by decide +kernel
theorem dX3_fillCosts_96 : decode cX3_fillCosts 96 = .ok (.iload 7, 2) := by decide +kernel
theorem dX3_fillCosts_98 : decode cX3_fillCosts 98 = .ok (.iadd, 1) := by decide +kernel
theorem dX3_fillCosts_99 : decode cX3_fillCosts 99 = .ok (.aload_n 0, 1) := by decide +kernel
theorem dX3_fillCosts_100 : decode cX3_fillCosts 100 = .ok (.getfield 30, 3) := by decide +kernel
theorem dX3_fillCosts_103 : decode cX3_fillCosts 103 = .ok (.getfield 78, 3) := by decide +kernel
theorem dX3_fillCosts_106 : decode cX3_fillCosts 106 = .ok (.iload 7, 2) := by decide +kernel
theorem dX3_fillCosts_108 : decode cX3_fillCosts 108 = .ok (.iaload, 1) := by decide +kernel
theorem dX3_fillCosts_109 : decode cX3_fillCosts 109 = .ok (.invokestatic 81, 3) := by decide +kernel
theorem dX3_fillCosts_112 : decode cX3_fillCosts 112 = .ok (.iastore, 1) := by decide +kernel
theorem dX3_fillCosts_113 : decode cX3_fillCosts 113 = .ok (.iinc 7 1, 3) := by decide +kernel
theorem dX3_fillCosts_116 : decode cX3_fillCosts 116 = .ok (.goto (-41), 3) := by decide +kernel
theorem dX3_fillCosts_119 : decode cX3_fillCosts 119 = .ok (.iinc 6 1, 3) := by decide +kernel
theorem dX3_fillCosts_122 : decode cX3_fillCosts 122 = .ok (.goto (-87), 3) := by decide +kernel
theorem dX3_fillCosts_125 : decode cX3_fillCosts 125 = .ok (.return_, 1) := by decide +kernel
theorem dX3_keyOf_0 : decode cX3_keyOf 0 = .ok (.iconst 1, 1) := by decide +kernel
theorem dX3_keyOf_1 : decode cX3_keyOf 1 = .ok (.aload_n 0, 1) := by decide +kernel
theorem dX3_keyOf_2 : decode cX3_keyOf 2 = .ok (.getfield 26, 3) := by decide +kernel
theorem dX3_keyOf_5 : decode cX3_keyOf 5 = .ok (.getfield 42, 3) := by decide +kernel
theorem dX3_keyOf_8 : decode cX3_keyOf 8 = .ok (.invokestatic 64, 3) := by decide +kernel
theorem dX3_keyOf_11 : decode cX3_keyOf 11 = .ok (.istore_n 3, 1) := by decide +kernel
theorem dX3_keyOf_12 : decode cX3_keyOf 12 = .ok (.iload_n 1, 1) := by decide +kernel
theorem dX3_keyOf_13 : decode cX3_keyOf 13 = .ok (.istore 4, 2) := by decide +kernel
theorem dX3_keyOf_15 : decode cX3_keyOf 15 = .ok (.iconst 0, 1) := by decide +kernel
theorem dX3_keyOf_16 : decode cX3_keyOf 16 = .ok (.istore 5, 2) := by decide +kernel
theorem dX3_keyOf_18 : decode cX3_keyOf 18 = .ok (.iconst 0, 1) := by decide +kernel
theorem dX3_keyOf_19 : decode cX3_keyOf 19 = .ok (.istore 6, 2) := by decide +kernel
theorem dX3_keyOf_21 : decode cX3_keyOf 21 = .ok (.iload 6, 2) := by decide +kernel
theorem dX3_keyOf_23 : decode cX3_keyOf 23 = .ok (.iload_n 2, 1) := by decide +kernel
theorem dX3_keyOf_24 : decode cX3_keyOf 24 = .ok (.if_icmp .ge 33, 3) := by decide +kernel
theorem dX3_keyOf_27 : decode cX3_keyOf 27 = .ok (.iload 5, 2) := by decide +kernel
theorem dX3_keyOf_29 : decode cX3_keyOf 29 = .ok (.iload 4, 2) := by decide +kernel
theorem dX3_keyOf_31 : decode cX3_keyOf 31 = .ok (.iload_n 3, 1) := by decide +kernel
theorem dX3_keyOf_32 : decode cX3_keyOf 32 = .ok (.irem, 1) := by decide +kernel
theorem dX3_keyOf_33 : decode cX3_keyOf 33 = .ok (.iconst 1, 1) := by decide +kernel
theorem dX3_keyOf_34 : decode cX3_keyOf 34 = .ok (.iadd, 1) := by decide +kernel
theorem dX3_keyOf_35 : decode cX3_keyOf 35 = .ok (.getstatic 67, 3) := by decide +kernel
theorem dX3_keyOf_38 : decode cX3_keyOf 38 = .ok (.iload 6, 2) := by decide +kernel
theorem dX3_keyOf_40 : decode cX3_keyOf 40 = .ok (.iaload, 1) := by decide +kernel
theorem dX3_keyOf_41 : decode cX3_keyOf 41 = .ok (.imul, 1) := by decide +kernel
theorem dX3_keyOf_42 : decode cX3_keyOf 42 = .ok (.iadd, 1) := by decide +kernel
theorem dX3_keyOf_43 : decode cX3_keyOf 43 = .ok (.istore 5, 2) := by decide +kernel
theorem dX3_keyOf_45 : decode cX3_keyOf 45 = .ok (.iload 4, 2) := by decide +kernel
theorem dX3_keyOf_47 : decode cX3_keyOf 47 = .ok (.iload_n 3, 1) := by decide +kernel
theorem dX3_keyOf_48 : decode cX3_keyOf 48 = .ok (.idiv, 1) := by decide +kernel
theorem dX3_keyOf_49 : decode cX3_keyOf 49 = .ok (.istore 4, 2) := by decide +kernel
theorem dX3_keyOf_51 : decode cX3_keyOf 51 = .ok (.iinc 6 1, 3) := by decide +kernel
theorem dX3_keyOf_54 : decode cX3_keyOf 54 = .ok (.goto (-33), 3) := by decide +kernel
theorem dX3_keyOf_57 : decode cX3_keyOf 57 = .ok (.iload 5, 2) := by decide +kernel
theorem dX3_keyOf_59 : decode cX3_keyOf 59 = .ok (.ireturn, 1) := by decide +kernel
theorem dX3_placesAt_0 : decode cX3_placesAt 0 = .ok (.iload_n 1, 1) := by decide +kernel
theorem dX3_placesAt_1 : decode cX3_placesAt 1 = .ok (.aload_n 0, 1) := by decide +kernel
theorem dX3_placesAt_2 : decode cX3_placesAt 2 = .ok (.getfield 26, 3) := by decide +kernel
theorem dX3_placesAt_5 : decode cX3_placesAt 5 = .ok (.getfield 48, 3) := by decide +kernel
theorem dX3_placesAt_8 : decode cX3_placesAt 8 = .ok (.iconst 1, 1) := by decide +kernel
theorem dX3_placesAt_9 : decode cX3_placesAt 9 = .ok (.isub, 1) := by decide +kernel
theorem dX3_placesAt_10 : decode cX3_placesAt 10 = .ok (.invokestatic 55, 3) := by decide +kernel
theorem dX3_placesAt_13 : decode cX3_placesAt 13 = .ok (.ireturn, 1) := by decide +kernel
theorem dX3_statesAt_0 : decode cX3_statesAt 0 = .ok (.iconst 1, 1) := by decide +kernel
theorem dX3_statesAt_1 : decode cX3_statesAt 1 = .ok (.istore_n 2, 1) := by decide +kernel
theorem dX3_statesAt_2 : decode cX3_statesAt 2 = .ok (.iconst 0, 1) := by decide +kernel
theorem dX3_statesAt_3 : decode cX3_statesAt 3 = .ok (.istore_n 3, 1) := by decide +kernel
theorem dX3_statesAt_4 : decode cX3_statesAt 4 = .ok (.iload_n 3, 1) := by decide +kernel
theorem dX3_statesAt_5 : decode cX3_statesAt 5 = .ok (.aload_n 0, 1) := by decide +kernel
theorem dX3_statesAt_6 : decode cX3_statesAt 6 = .ok (.iload_n 1, 1) := by decide +kernel
theorem dX3_statesAt_7 : decode cX3_statesAt 7 = .ok (.invokevirtual 61, 3) := by decide +kernel
theorem dX3_statesAt_10 : decode cX3_statesAt 10 = .ok (.if_icmp .ge 23, 3) := by decide +kernel
theorem dX3_statesAt_13 : decode cX3_statesAt 13 = .ok (.iload_n 2, 1) := by decide +kernel
theorem dX3_statesAt_14 : decode cX3_statesAt 14 = .ok (.iconst 1, 1) := by decide +kernel
theorem dX3_statesAt_15 : decode cX3_statesAt 15 = .ok (.aload_n 0, 1) := by decide +kernel
theorem dX3_statesAt_16 : decode cX3_statesAt 16 = .ok (.getfield 26, 3) := by decide +kernel
theorem dX3_statesAt_19 : decode cX3_statesAt 19 = .ok (.getfield 42, 3) := by decide +kernel
theorem dX3_statesAt_22 : decode cX3_statesAt 22 = .ok (.invokestatic 64, 3) := by decide +kernel
theorem dX3_statesAt_25 : decode cX3_statesAt 25 = .ok (.imul, 1) := by decide +kernel
theorem dX3_statesAt_26 : decode cX3_statesAt 26 = .ok (.istore_n 2, 1) := by decide +kernel
theorem dX3_statesAt_27 : decode cX3_statesAt 27 = .ok (.iinc 3 1, 3) := by decide +kernel
theorem dX3_statesAt_30 : decode cX3_statesAt 30 = .ok (.goto (-26), 3) := by decide +kernel
theorem dX3_statesAt_33 : decode cX3_statesAt 33 = .ok (.iload_n 2, 1) := by decide +kernel
theorem dX3_statesAt_34 : decode cX3_statesAt 34 = .ok (.ireturn, 1) := by decide +kernel
set_option maxHeartbeats 4000000 in
set_option maxRecDepth 100000 in
theorem mX3_placesAt (l : Launch) (D : va_G) (κ a : Nat → Nat) (ε : EE) (V N : Nat) (u : US) (hV : 1 ≤ V ∧ V ≤ 12) (hN : 1 ≤ N ∧ N ≤ 4) (eV : u.1 4 = (V : Int)) (eN : u.1 5 = (N : Int)) (d : Nat) (hd : d ≤ 12) : Ct (W0 κ a) l D κ ε yX3_placesAt cX3_placesAt 2 (some .int) 1 21 0 0 u [.ref (a 3), .int (iI (d : Int))] (fun v u' => v = some (.int (iI ((min d (N - 1) : Nat) : Int))) ∧ u' = u) := by
  refine Ct.of (own := RX3) rfl (by decide +kernel) (Nat.le_of_ble_eq_true rfl) rfl (fun Γ h => ?_)
  refine w_iload_n h (pc := 0) dX3_placesAt_0 rfl ?_
  refine w_aload_n h (pc := 1) dX3_placesAt_1 rfl ?_
  refine g3_ledger h (pc := 2) wm_74 dX3_placesAt_2 ?_
  refine g1_order h (pc := 5) eN wm_415 dX3_placesAt_5 ?_
  refine w_iconst h (pc := 8) dX3_placesAt_8 ?_
  refine w_isub h (pc := 9) dX3_placesAt_9 ?_
  refine w_imin h (pc := 10) wm_425 wm_124 wm_125 wm_126 (Nat.le_of_ble_eq_true rfl) (Nat.le_of_ble_eq_true rfl) (Nat.le_of_ble_eq_true rfl) (Nat.le_of_ble_eq_true rfl) (by omega) (by omega) (z := ((min d (N - 1) : Nat) : Int)) (by split <;> omega) dX3_placesAt_10 ?_
  exact w_iret h (pc := 13) (ty := .int) rfl rfl dX3_placesAt_13 (Nat.le_of_ble_eq_true rfl) (Nat.le_of_ble_eq_true rfl) ⟨rfl, rfl⟩

set_option maxHeartbeats 4000000 in
set_option maxRecDepth 100000 in
theorem mX3_statesAt (l : Launch) (D : va_G) (κ a : Nat → Nat) (ε : EE) (V N : Nat) (u : US) (hV : 1 ≤ V ∧ V ≤ 12) (hN : 1 ≤ N ∧ N ≤ 4) (eV : u.1 4 = (V : Int)) (eN : u.1 5 = (N : Int)) (d : Nat) (hd : d ≤ 2) : Ct (W0 κ a) l D κ ε yX3_statesAt cX3_statesAt 4 (some .int) 2 42 0 0 u [.ref (a 3), .int (iI (d : Int))] (fun v u' => v = some (.int (iI (stN V N d : Int))) ∧ u' = u) := by
  obtain ⟨ch, hch⟩ : ∃ ch, ch = min d (N - 1) := ⟨_, rfl⟩
  refine Ct.of (own := RX3) rfl (by decide +kernel) (Nat.le_of_ble_eq_true rfl) rfl (fun Γ h => ?_)
  refine w_iconst h (pc := 0) dX3_statesAt_0 ?_
  refine w_istore_n h (pc := 1) dX3_statesAt_1 (by decide) ?_
  refine w_iconst h (pc := 2) dX3_statesAt_2 ?_
  refine w_istore_n h (pc := 3) dX3_statesAt_3 (by decide) ?_
  have lp4 : ∀ (n9 p : Nat), ch < p + n9 → p ≤ ch → WW Γ 4 u 4 [(0, .ref (a 3)), (1, .int (iI (d : Int))), (2, .int (iI ((V ^ p : Nat) : Int))), (3, .int (iI (p : Int)))] [] := by
    intro n9
    induction n9 with
    | zero => intro p hn9 hp; exfalso; omega
    | succ n9 ih =>
      intro p hn9 hp
      refine w_iload_n h (pc := 4) dX3_statesAt_4 rfl ?_
      refine w_aload_n h (pc := 5) dX3_statesAt_5 rfl ?_
      refine w_iload_n h (pc := 6) dX3_statesAt_6 rfl ?_
      refine w_callV1 h (pc := 7) (mX3_placesAt l D κ a ε V N u hV hN eV eN d (by omega)) 3 rfl rfl (gdV wm_421 wm_422 wm_423 wm_23 wm_424) (by decide +kernel) ⟨(Nat.le_of_ble_eq_true rfl), (Nat.le_of_ble_eq_true rfl)⟩ ⟨(Nat.le_of_ble_eq_true rfl), (Nat.le_of_ble_eq_true rfl)⟩ (fun _ _ _ => ⟨rfl, rfl⟩) (Nat.le_of_ble_eq_true rfl) dX3_statesAt_7 (fun v1 u1 hp1 => ?_)
      obtain ⟨rfl, e1⟩ := hp1
      obtain rfl := e1.symm
      rw [← hch]
      simp only [Option.toList_some, List.cons_append, List.nil_append]
      refine w_icmp_ge h (pc := 10) (tgt := 33) dX3_statesAt_10 (by decide) (by omega) (by omega) (fun c10 => ?_) (fun c10 => ?_)
      · obtain rfl : p = min d (N - 1) := by omega
        refine w_iload_n h (pc := 33) dX3_statesAt_33 rfl ?_
        exact w_iret h (pc := 34) (ty := .int) rfl rfl dX3_statesAt_34 (Nat.le_of_ble_eq_true rfl) (Nat.le_of_ble_eq_true rfl) ⟨rfl, rfl⟩
      · refine w_iload_n h (pc := 13) dX3_statesAt_13 rfl ?_
        refine w_iconst h (pc := 14) dX3_statesAt_14 ?_
        refine w_aload_n h (pc := 15) dX3_statesAt_15 rfl ?_
        refine g3_ledger h (pc := 16) wm_74 dX3_statesAt_16 ?_
        refine g1_words h (pc := 19) eV wm_414 dX3_statesAt_19 ?_
        refine w_imax h (pc := 22) wm_430 wm_128 wm_125 wm_129 (Nat.le_of_ble_eq_true rfl) (Nat.le_of_ble_eq_true rfl) (Nat.le_of_ble_eq_true rfl) (Nat.le_of_ble_eq_true rfl) (by omega) (by omega) (z := (V : Int)) (by split <;> omega) dX3_statesAt_22 ?_
        refine w_imul h (pc := 25) dX3_statesAt_25 ?_
        refine w_istore_n h (pc := 26) dX3_statesAt_26 (by decide) ?_
        refine w_iinc h (pc := 27) dX3_statesAt_27 rfl (by decide) ?_
        refine w_goto h (pc := 30) (tgt := 4) dX3_statesAt_30 (by decide) ?_
        exact WW.sub (by rfl) (ih (p + 1) (by omega) (by omega))
  exact WW.sub (by rfl) (lp4 (ch + 1) 0 (by omega) (by omega))

set_option maxHeartbeats 4000000 in
set_option maxRecDepth 100000 in
theorem mX3_keyOf (l : Launch) (D : va_G) (κ a : Nat → Nat) (ε : EE) (V N : Nat) (u : US) (hV : 1 ≤ V ∧ V ≤ 12) (hN : 1 ≤ N ∧ N ≤ 4) (eV : u.1 4 = (V : Int)) (eN : u.1 5 = (N : Int)) (s ch : Nat) (hs : s ≤ 1000) (hch : ch ≤ 2) : Ct (W0 κ a) l D κ ε yX3_keyOf cX3_keyOf 7 (some .int) 1 21 0 0 u [.ref (a 3), .int (iI (s : Int)), .int (iI (ch : Int))] (fun v u' => v = some (.int (iI (kof V s ch : Int))) ∧ u' = u) := by
  refine Ct.of (own := RX3) rfl (by decide +kernel) (Nat.le_of_ble_eq_true rfl) rfl (fun Γ h => ?_)
  refine w_iconst h (pc := 0) dX3_keyOf_0 ?_
  refine w_aload_n h (pc := 1) dX3_keyOf_1 rfl ?_
  refine g3_ledger h (pc := 2) wm_74 dX3_keyOf_2 ?_
  refine g1_words h (pc := 5) eV wm_414 dX3_keyOf_5 ?_
  refine w_imax h (pc := 8) wm_430 wm_128 wm_125 wm_129 (Nat.le_of_ble_eq_true rfl) (Nat.le_of_ble_eq_true rfl) (Nat.le_of_ble_eq_true rfl) (Nat.le_of_ble_eq_true rfl) (by omega) (by omega) (z := (V : Int)) (by split <;> omega) dX3_keyOf_8 ?_
  refine w_istore_n h (pc := 11) dX3_keyOf_11 (by decide) ?_
  refine w_iload_n h (pc := 12) dX3_keyOf_12 rfl ?_
  refine w_istore h (pc := 13) dX3_keyOf_13 (by decide) ?_
  refine w_iconst h (pc := 15) dX3_keyOf_15 ?_
  refine w_istore h (pc := 16) dX3_keyOf_16 (by decide) ?_
  refine w_iconst h (pc := 18) dX3_keyOf_18 ?_
  refine w_istore h (pc := 19) dX3_keyOf_19 (by decide) ?_
  have lp21 : ∀ (n9 p r : Nat), r = s / V ^ p → ch < p + n9 → p ≤ ch → WW Γ 7 u 21 [(0, .ref (a 3)), (2, .int (iI (ch : Int))), (3, .int (iI (V : Int))), (4, .int (iI (r : Int))), (5, .int (iI (kof V s p : Int))), (6, .int (iI (p : Int)))] [] := by
    intro n9
    induction n9 with
    | zero => intro p r hr hn9 hp; exfalso; omega
    | succ n9 ih =>
      intro p r hr hn9 hp
      have hrs : r ≤ s := by rw [hr]; exact Nat.div_le_self _ _
      refine w_iload h (pc := 21) dX3_keyOf_21 rfl ?_
      refine w_iload_n h (pc := 23) dX3_keyOf_23 rfl ?_
      refine w_icmp_ge h (pc := 24) (tgt := 57) dX3_keyOf_24 (by decide) (by omega) (by omega) (fun c24 => ?_) (fun c24 => ?_)
      · obtain rfl : p = ch := by omega
        refine w_iload h (pc := 57) dX3_keyOf_57 rfl ?_
        exact w_iret h (pc := 59) (ty := .int) rfl rfl dX3_keyOf_59 (Nat.le_of_ble_eq_true rfl) (Nat.le_of_ble_eq_true rfl) ⟨rfl, rfl⟩
      · have hpw := pw_p14 (n := p) (by omega)
        refine w_iload h (pc := 27) dX3_keyOf_27 rfl ?_
        refine w_iload h (pc := 29) dX3_keyOf_29 rfl ?_
        refine w_iload_n h (pc := 31) dX3_keyOf_31 rfl ?_
        refine w_irem h (pc := 32) dX3_keyOf_32 (by omega) (by omega) ?_
        refine w_iconst h (pc := 33) dX3_keyOf_33 ?_
        refine w_iadd h (pc := 34) dX3_keyOf_34 ?_
        refine w_powsN h (pc := 35) (fun _ z => z.2.2.1) dX3_keyOf_35 ?_
        refine w_iload h (pc := 38) dX3_keyOf_38 rfl ?_
        refine w_pow h (pc := 40) (by omega) hpw dX3_keyOf_40 ?_
        refine w_imul h (pc := 41) dX3_keyOf_41 ?_
        refine w_iadd h (pc := 42) dX3_keyOf_42 ?_
        refine w_istore h (pc := 43) dX3_keyOf_43 (by decide) ?_
        refine w_iload h (pc := 45) dX3_keyOf_45 rfl ?_
        refine w_iload_n h (pc := 47) dX3_keyOf_47 rfl ?_
        refine w_idiv h (pc := 48) dX3_keyOf_48 (by omega) (by omega) ?_
        refine w_istore h (pc := 49) dX3_keyOf_49 (by decide) ?_
        have hrV : ((r : Int) / (V : Int)) = ((r / V : Nat) : Int) := rfl
        have hkk : (kof V s (p + 1) : Int) = (kof V s p : Int) + ((r : Int) % (V : Int) + 1) * (p14 p : Int) := by rw [hr]; rfl
        refine w_iinc h (pc := 51) dX3_keyOf_51 rfl (by decide) ?_
        refine w_goto h (pc := 54) (tgt := 21) dX3_keyOf_54 (by decide) ?_
        exact WW.sub (by first | rfl | (rw [← hkk]; rfl)) (ih (p + 1) (r / V) (by rw [hr, Nat.div_div_eq_div_mul]; rfl) (by omega) (by omega))
  exact WW.sub (by rfl) (lp21 (ch + 1) 0 s (by rw [Nat.pow_zero, Nat.div_one]) (by omega) (by omega))

set_option maxHeartbeats 4000000 in
set_option maxRecDepth 100000 in
theorem mX3_fillCosts (l : Launch) (D : va_G) (κ a : Nat → Nat) (ε : EE) (V N way num m : Nat) (S : List Nat) (T : Nat → List (Nat × Nat)) (u : US) (hA : AB V N way num m S T u) (hV1 : 1 ≤ V) (c d ch : Nat) (hc : c < 2744) (hd : d ≤ 2) (hch : ch = min d (N - 1)) : Ct (W0 κ a) l D κ ε yX3_fillCosts cX3_fillCosts 8 none 4 96 0 0 u [.ref (a 3), .int (iI (c : Int)), .int (iI (d : Int))] (fun v u' => v = none ∧ Fr [8, 9] [9, 10, 11] u u' ∧ ∀ s, s < V ^ ch → ∀ x, x ≤ V → u'.2 11 (s * 13 + x) = (CcF V N way num T c ch s x : Int)) := by
  obtain ⟨⟨hV, hN, hway, hnum, hm, hSl, hSV⟩, eV, eN, ew, en, ⟨eS, hS⟩, hT⟩ := id hA
  have hlim := pow_lim (V := V) (ch := ch) ⟨hV1, hV⟩ (by omega)
  have hpw1 := pw_p14 (n := N - 1 - ch) (by omega)
  have hpc1 := p14_cs (n := N - 1 - ch) (by omega)
  have hpw2 := pw_p14 (n := ch) (by omega)
  have hix : ((N : Int) - 1 - (ch : Int)).toNat = N - 1 - ch := by omega
  refine Ct.of (own := RX3) rfl (by decide +kernel) (Nat.le_of_ble_eq_true rfl) rfl (fun Γ h => ?_)
  refine w_aload_n h (pc := 0) dX3_fillCosts_0 rfl ?_
  refine w_iload_n h (pc := 1) dX3_fillCosts_1 rfl ?_
  refine w_callV1 h (pc := 2) (mX3_placesAt l D κ a ε V N u ⟨hV1, hV⟩ hN eV eN d (by omega)) 3 rfl rfl (gdV wm_421 wm_422 wm_423 wm_23 wm_424) (by decide +kernel) ⟨(Nat.le_of_ble_eq_true rfl), (Nat.le_of_ble_eq_true rfl)⟩ ⟨(Nat.le_of_ble_eq_true rfl), (Nat.le_of_ble_eq_true rfl)⟩ (fun _ _ _ => ⟨rfl, rfl⟩) (Nat.le_of_ble_eq_true rfl) dX3_fillCosts_2 (fun v1 u1 hp1 => ?_)
  obtain ⟨rfl, e1⟩ := hp1
  obtain rfl := e1.symm
  rw [← hch]
  simp only [Option.toList_some, List.cons_append, List.nil_append]
  refine w_istore_n h (pc := 5) dX3_fillCosts_5 (by decide) ?_
  refine w_iload_n h (pc := 6) dX3_fillCosts_6 rfl ?_
  refine w_powsN h (pc := 7) (fun _ z => z.2.2.1) dX3_fillCosts_7 ?_
  refine w_aload_n h (pc := 10) dX3_fillCosts_10 rfl ?_
  refine g3_ledger h (pc := 11) wm_74 dX3_fillCosts_11 ?_
  refine g1_order h (pc := 14) eN wm_415 dX3_fillCosts_14 ?_
  refine w_iconst h (pc := 17) dX3_fillCosts_17 ?_
  refine w_isub h (pc := 18) dX3_fillCosts_18 ?_
  refine w_iload_n h (pc := 19) dX3_fillCosts_19 rfl ?_
  refine w_isub h (pc := 20) dX3_fillCosts_20 ?_
  refine w_pow h (pc := 21) (by omega) ((congrArg pw hix).trans hpw1) dX3_fillCosts_21 ?_
  refine w_irem h (pc := 22) dX3_fillCosts_22 (by omega) (by omega) ?_
  refine w_istore h (pc := 23) dX3_fillCosts_23 (by decide) ?_
  refine w_aload_n h (pc := 25) dX3_fillCosts_25 rfl ?_
  refine w_iload_n h (pc := 26) dX3_fillCosts_26 rfl ?_
  refine w_callV1 h (pc := 27) (mX3_statesAt l D κ a ε V N u ⟨hV1, hV⟩ hN eV eN d hd) 3 rfl rfl (gdV wm_426 wm_427 wm_428 wm_23 wm_429) (by decide +kernel) ⟨(Nat.le_of_ble_eq_true rfl), (Nat.le_of_ble_eq_true rfl)⟩ ⟨(Nat.le_of_ble_eq_true rfl), (Nat.le_of_ble_eq_true rfl)⟩ (fun _ _ _ => ⟨rfl, rfl⟩) (Nat.le_of_ble_eq_true rfl) dX3_fillCosts_27 (fun v2 u2 hp2 => ?_)
  obtain ⟨rfl, e2⟩ := hp2
  obtain rfl := e2.symm
  unfold stN
  rw [← hch]
  simp only [Option.toList_some, List.cons_append, List.nil_append]
  refine w_istore h (pc := 30) dX3_fillCosts_30 (by decide) ?_
  refine w_iconst h (pc := 32) dX3_fillCosts_32 ?_
  refine w_istore h (pc := 33) dX3_fillCosts_33 (by decide) ?_
  have lp35 : ∀ (n9 s : Nat) (w : US), V ^ ch < s + n9 → s ≤ V ^ ch → Fr [8, 9] [9, 10, 11] u w → (∀ s9, s9 < s → ∀ x, x ≤ V → w.2 11 (s9 * 13 + x) = (CcF V N way num T c ch s9 x : Int)) → WW Γ 8 w 35 [(0, .ref (a 3)), (3, .int (iI (ch : Int))), (4, .int (iI ((c % p14 (N - 1 - ch) : Nat) : Int))), (5, .int (iI ((V ^ ch : Nat) : Int))), (6, .int (iI (s : Int)))] [] := by
    intro n9
    induction n9 with
    | zero => intro s w hn9 hs hF ht; exfalso; omega
    | succ n9 ih =>
      intro s w hn9 hs hF ht
      have hAw := hA.of hF (by simp [tS]) (by simp [tG]) (by simp) (by simp)
      have eVw := hAw.2.1
      have eNw := hAw.2.2.1
      have hky := kyAt_lt (V := V) (N := N) (c := c) (ch := ch) (s := s) ⟨hV1, hV⟩ hN (by omega)
      refine w_iload h (pc := 35) dX3_fillCosts_35 rfl ?_
      refine w_iload h (pc := 37) dX3_fillCosts_37 rfl ?_
      refine w_icmp_ge h (pc := 39) (tgt := 125) dX3_fillCosts_39 (by decide) (by omega) (by omega) (fun c39 => ?_) (fun c39 => ?_)
      · obtain rfl : s = V ^ ch := by omega
        exact w_vret h (pc := 125) rfl dX3_fillCosts_125 (Nat.le_of_ble_eq_true rfl) (Nat.le_of_ble_eq_true rfl) ⟨rfl, hF, ht⟩
      · have ih_2 := ih
        refine w_aload_n h (pc := 42) dX3_fillCosts_42 rfl ?_
        refine g3_reckoner h (pc := 43) wm_75 dX3_fillCosts_43 ?_
        refine w_aload_n h (pc := 46) dX3_fillCosts_46 rfl ?_
        refine g3_ledger h (pc := 47) wm_74 dX3_fillCosts_47 ?_
        refine g1_order h (pc := 50) eNw wm_415 dX3_fillCosts_50 ?_
        refine w_iload h (pc := 53) dX3_fillCosts_53 rfl ?_
        refine w_powsN h (pc := 55) (fun _ z => z.2.2.1) dX3_fillCosts_55 ?_
        refine w_iload_n h (pc := 58) dX3_fillCosts_58 rfl ?_
        refine w_pow h (pc := 59) (by omega) hpw2 dX3_fillCosts_59 ?_
        refine w_imul h (pc := 60) dX3_fillCosts_60 ?_
        refine w_aload_n h (pc := 61) dX3_fillCosts_61 rfl ?_
        refine w_iload h (pc := 62) dX3_fillCosts_62 rfl ?_
        refine w_iload_n h (pc := 64) dX3_fillCosts_64 rfl ?_
        refine w_callV2 h (pc := 65) (mX3_keyOf l D κ a ε V N w ⟨hV1, hV⟩ hN eVw eNw s ch (by omega) (by omega)) 3 rfl rfl (gdV wm_431 wm_432 wm_433 wm_23 wm_434) (by decide +kernel) ⟨(Nat.le_of_ble_eq_true rfl), (Nat.le_of_ble_eq_true rfl)⟩ ⟨(Nat.le_of_ble_eq_true rfl), (Nat.le_of_ble_eq_true rfl)⟩ (fun _ _ _ => ⟨rfl, rfl⟩) (Nat.le_of_ble_eq_true rfl) dX3_fillCosts_65 (fun v3 u3 hp3 => ?_)
        obtain ⟨rfl, e3⟩ := hp3
        obtain rfl := e3.symm
        simp only [Option.toList_some, List.cons_append, List.nil_append]
        refine w_iadd h (pc := 68) dX3_fillCosts_68 ?_
        rw [show ((c % p14 (N - 1 - ch) : Nat) : Int) * (p14 ch : Int) + (kof V s ch : Int) = (kyAt V N c ch s : Int) from rfl]
        refine w_callV2 h (pc := 69) (mX1_reckon l D κ a ε V m N way num w T hV (by omega) hN hway hnum hAw.2.2.2.2.2.2 eVw eNw hAw.2.2.2.1 hAw.2.2.2.2.1 N (by omega) (kyAt V N c ch s) (by omega)) 2 rfl rfl (gdV wm_435 wm_303 wm_304 wm_19 wm_305) (by decide +kernel) ⟨(Nat.le_of_ble_eq_true rfl), (Nat.le_of_ble_eq_true rfl)⟩ ⟨(Nat.le_of_ble_eq_true rfl), (Nat.le_of_ble_eq_true rfl)⟩ (fun _ _ _ => ⟨rfl, rfl⟩) (Nat.le_of_ble_eq_true rfl) dX3_fillCosts_69 (fun v4 w1 hp4 => ?_)
        obtain ⟨rfl, hF4, hc4⟩ := hp4
        simp only [Option.toList_none, List.nil_append]
        refine w_iconst h (pc := 72) dX3_fillCosts_72 ?_
        refine w_istore h (pc := 73) dX3_fillCosts_73 (by decide) ?_
        have lp75 : ∀ (n9 x : Nat) (w2 : US), V + 1 < x + n9 → x ≤ V + 1 → Fr [] [11] w1 w2 → (∀ s9, s9 < s → ∀ x, x ≤ V → w2.2 11 (s9 * 13 + x) = (CcF V N way num T c ch s9 x : Int)) → (∀ x9, x9 < x → w2.2 11 (s * 13 + x9) = (CcF V N way num T c ch s x9 : Int)) → WW Γ 8 w2 75 [(0, .ref (a 3)), (3, .int (iI (ch : Int))), (4, .int (iI ((c % p14 (N - 1 - ch) : Nat) : Int))), (5, .int (iI ((V ^ ch : Nat) : Int))), (6, .int (iI (s : Int))), (7, .int (iI (x : Int)))] [] := by
          intro n9
          induction n9 with
          | zero => intro x w2 hn8 hx hF2 ht2 hr2; exfalso; omega
          | succ n9 ih =>
            intro x w2 hn8 hx hF2 ht2 hr2
            have eV2 : w2.1 4 = (V : Int) := ((hF2.1 4 (by simp)).trans (hF4.1 4 (by simp))).trans eVw
            refine w_iload h (pc := 75) dX3_fillCosts_75 rfl ?_
            refine w_aload_n h (pc := 77) dX3_fillCosts_77 rfl ?_
            refine g3_ledger h (pc := 78) wm_74 dX3_fillCosts_78 ?_
            refine g1_words h (pc := 81) eV2 wm_414 dX3_fillCosts_81 ?_
            refine w_icmp_gt h (pc := 84) (tgt := 119) dX3_fillCosts_84 (by decide) (by omega) (by omega) (fun c84 => ?_) (fun c84 => ?_)
            · refine w_iinc h (pc := 119) dX3_fillCosts_119 rfl (by decide) ?_
              refine w_goto h (pc := 122) (tgt := 35) dX3_fillCosts_122 (by decide) ?_
              exact WW.sub (by rfl) (ih_2 (s + 1) w2 (by omega) (by omega) ((hF.tr (hF4.up (by simp) (by simp))).tr (hF2.up (by simp) (by simp))) (fun s9 h9 x9 hx9 => by rcases Nat.lt_or_ge s9 s with z | z; exact ht2 s9 z x9 hx9; obtain rfl : s9 = s := (by omega); exact hr2 x9 (by omega)))
            · refine w_aload_n h (pc := 87) dX3_fillCosts_87 rfl ?_
              refine g3_costs h (pc := 88) wm_69 dX3_fillCosts_88 ?_
              refine w_iload h (pc := 91) dX3_fillCosts_91 rfl ?_
              refine w_bipush h (pc := 93) dX3_fillCosts_93 (by decide) ?_
              refine w_imul h (pc := 95) dX3_fillCosts_95 ?_
              refine w_iload h (pc := 96) dX3_fillCosts_96 rfl ?_
              refine w_iadd h (pc := 98) dX3_fillCosts_98 ?_
              refine w_aload_n h (pc := 99) dX3_fillCosts_99 rfl ?_
              refine g3_reckoner h (pc := 100) wm_75 dX3_fillCosts_100 ?_
              have hcx : chs way num V N (fun n => T (n - 1)) (fun n => T (n + 3)) N (kyAt V N c ch s) x ≤ 1000000 := (chs_Ch hnum hN.1).each x (by omega)
              refine g2_chances h (pc := 103) wm_420 dX3_fillCosts_103 ?_
              refine w_iload h (pc := 106) dX3_fillCosts_106 rfl ?_
              refine ld_chances h (pc := 108) (by omega) (((congrFun (hF2.2 9 (by simp)) _).trans (hc4 x (by omega)))) dX3_fillCosts_108 ?_
              refine w_callSN1 h (pc := 109) (mX5_cost l D κ a ε w2 (chs way num V N (fun n => T (n - 1)) (fun n => T (n + 3)) N (kyAt V N c ch s) x) hcx) (host := "Canticle") (gdN wm_343) (fun _ z => z.2.2.2.2.2.1) wm_2 wm_342 (by decide +kernel) ⟨(Nat.le_of_ble_eq_true rfl), (Nat.le_of_ble_eq_true rfl)⟩ ⟨(Nat.le_of_ble_eq_true rfl), (Nat.le_of_ble_eq_true rfl)⟩ (fun _ _ _ => ⟨rfl, rfl⟩) (Nat.le_of_ble_eq_true rfl) dX3_fillCosts_109 (fun v5 u5 hp5 => ?_)
              obtain ⟨rfl, e5⟩ := hp5
              obtain rfl := e5.symm
              simp only [Option.toList_some, List.cons_append, List.nil_append]
              refine st_costs h (pc := 112) (by omega) dX3_fillCosts_112 ?_
              refine w_iinc h (pc := 113) dX3_fillCosts_113 rfl (by decide) ?_
              refine w_goto h (pc := 116) (tgt := 75) dX3_fillCosts_116 (by decide) ?_
              refine WW.sub (by rfl) (ih (x + 1) _ (by omega) (by omega) (hF2.tr (Fr.A (by simp))) (fun s9 h9 x9 hx9 => ?_) (fun x9 hx9 => ?_))
              · rw [uA_at]
                unfold upI
                rw [if_neg (by omega)]
                exact ht2 s9 h9 x9 hx9
              · rw [uA_at]
                unfold upI
                by_cases e : x9 = x
                · rw [if_pos (by omega), e]; rfl
                · rw [if_neg (by omega)]; exact hr2 x9 (by omega)
        exact WW.sub (by rfl) (lp75 (V + 2) 0 w1 (by omega) (by omega) Fr.rfl (fun s9 h9 x9 hx9 => by rw [hF4.2 11 (by simp)]; exact ht s9 h9 x9 hx9) (fun x9 h9 => absurd h9 (Nat.not_lt_zero x9)))
  exact WW.sub (by rfl) (lp35 (V ^ ch + 1) 0 u (by omega) (by omega) Fr.rfl (fun s9 h9 => absurd h9 (Nat.not_lt_zero s9)))

set_option maxHeartbeats 4000000 in
set_option maxRecDepth 100000 in
theorem mX3_chooseAt (l : Launch) (D : va_G) (κ a : Nat → Nat) (ε : EE) (V N : Nat) (u : US) (hV : 1 ≤ V ∧ V ≤ 12) (hN : 1 ≤ N ∧ N ≤ 4) (eV : u.1 4 = (V : Int)) (eN : u.1 5 = (N : Int)) (d : Nat) (hd : d ≤ 1) (Cf : Nat → Nat → Nat) (Bf : Nat → Nat) (hC : ∀ s, s < stN V N d → ∀ x, x ≤ V → u.2 11 (s * 13 + x) = (Cf s x : Int) ∧ Cf s x ≤ 40000) (zl zb : Int) (e10 : u.1 10 = zl) (e20 : u.1 20 = zb) (hne : lb zb ≠ lb zl) (hB : ∀ s, s < stN V N (d + 1) → u.2 (lb zb) s = (Bf s : Int) ∧ Bf s ≤ 200000) : Ct (W0 κ a) l D κ ε yX3_chooseAt cX3_chooseAt 11 none 3 65 0 0 u [.ref (a 3), .int (iI (d : Int))] (fun v u' => v = none ∧ Fr [] [lb zl, 18 + d] u u' ∧ ∀ s, s < stN V N d → u'.2 (18 + d) s = (am (fun w => Cf s w + Bf ((s * V + w) % stN V N (d + 1))) V : Int) ∧ u'.2 (lb zl) s = ((fun w => Cf s w + Bf ((s * V + w) % stN V N (d + 1))) (am (fun w => Cf s w + Bf ((s * V + w) % stN V N (d + 1))) V) : Int)) := by
  have hl1 := pow_lim (V := V) (ch := min d (N - 1)) hV (by omega)
  have hl2 := pow_lim (V := V) (ch := min (d + 1) (N - 1)) hV (by omega)
  have hst1 : stN V N d ≤ 144 := hl1.2
  have hst2 : 1 ≤ stN V N (d + 1) ∧ stN V N (d + 1) ≤ 144 := hl2
  have hlb1 := lb_cs zl
  have hlb2 := lb_cs zb
  refine Ct.of (own := RX3) rfl (by decide +kernel) (Nat.le_of_ble_eq_true rfl) rfl (fun Γ h => ?_)
  refine w_aload_n h (pc := 0) dX3_chooseAt_0 rfl ?_
  refine g3_ledger h (pc := 1) wm_74 dX3_chooseAt_1 ?_
  refine g1_words h (pc := 4) eV wm_414 dX3_chooseAt_4 ?_
  refine w_istore_n h (pc := 7) dX3_chooseAt_7 (by decide) ?_
  refine w_aload_n h (pc := 8) dX3_chooseAt_8 rfl ?_
  refine w_iload_n h (pc := 9) dX3_chooseAt_9 rfl ?_
  refine w_callV1 h (pc := 10) (mX3_statesAt l D κ a ε V N u hV hN eV eN d (by omega)) 3 rfl rfl (gdV wm_426 wm_427 wm_428 wm_23 wm_429) (by decide +kernel) ⟨(Nat.le_of_ble_eq_true rfl), (Nat.le_of_ble_eq_true rfl)⟩ ⟨(Nat.le_of_ble_eq_true rfl), (Nat.le_of_ble_eq_true rfl)⟩ (fun _ _ _ => ⟨rfl, rfl⟩) (Nat.le_of_ble_eq_true rfl) dX3_chooseAt_10 (fun v1 u1 hp1 => ?_)
  obtain ⟨rfl, e1⟩ := hp1
  obtain rfl := e1.symm
  simp only [Option.toList_some, List.cons_append, List.nil_append]
  refine w_istore_n h (pc := 13) dX3_chooseAt_13 (by decide) ?_
  refine w_aload_n h (pc := 14) dX3_chooseAt_14 rfl ?_
  refine w_iload_n h (pc := 15) dX3_chooseAt_15 rfl ?_
  refine w_iconst h (pc := 16) dX3_chooseAt_16 ?_
  refine w_iadd h (pc := 17) dX3_chooseAt_17 ?_
  refine w_callV1 h (pc := 18) (mX3_statesAt l D κ a ε V N u hV hN eV eN (d + 1) (by omega)) 3 rfl rfl (gdV wm_426 wm_427 wm_428 wm_23 wm_429) (by decide +kernel) ⟨(Nat.le_of_ble_eq_true rfl), (Nat.le_of_ble_eq_true rfl)⟩ ⟨(Nat.le_of_ble_eq_true rfl), (Nat.le_of_ble_eq_true rfl)⟩ (fun _ _ _ => ⟨rfl, rfl⟩) (Nat.le_of_ble_eq_true rfl) dX3_chooseAt_18 (fun v2 u2 hp2 => ?_)
  obtain ⟨rfl, e2⟩ := hp2
  obtain rfl := e2.symm
  simp only [Option.toList_some, List.cons_append, List.nil_append]
  refine w_istore h (pc := 21) dX3_chooseAt_21 (by decide) ?_
  refine w_iconst h (pc := 23) dX3_chooseAt_23 ?_
  refine w_istore h (pc := 24) dX3_chooseAt_24 (by decide) ?_
  have lp26 : ∀ (n9 s : Nat) (w : US), stN V N d < s + n9 → s ≤ stN V N d → Fr [] [lb zl, 18 + d] u w → (∀ s9, s9 < s → w.2 (18 + d) s9 = (am (fun w => Cf s9 w + Bf ((s9 * V + w) % stN V N (d + 1))) V : Int) ∧ w.2 (lb zl) s9 = ((fun w => Cf s9 w + Bf ((s9 * V + w) % stN V N (d + 1))) (am (fun w => Cf s9 w + Bf ((s9 * V + w) % stN V N (d + 1))) V) : Int)) → WW Γ 11 w 26 [(0, .ref (a 3)), (1, .int (iI (d : Int))), (2, .int (iI (V : Int))), (3, .int (iI (stN V N d : Int))), (4, .int (iI (stN V N (d + 1) : Int))), (5, .int (iI (s : Int)))] [] := by
    intro n9
    induction n9 with
    | zero => intro s w hn9 hs hF ht; exfalso; omega
    | succ n9 ih =>
      intro s w hn9 hs hF ht
      refine w_iload h (pc := 26) dX3_chooseAt_26 rfl ?_
      refine w_iload_n h (pc := 28) dX3_chooseAt_28 rfl ?_
      refine w_icmp_ge h (pc := 29) (tgt := 134) dX3_chooseAt_29 (by decide) (by omega) (by omega) (fun c29 => ?_) (fun c29 => ?_)
      · obtain rfl : s = stN V N d := by omega
        exact w_vret h (pc := 134) rfl dX3_chooseAt_134 (Nat.le_of_ble_eq_true rfl) (Nat.le_of_ble_eq_true rfl) ⟨rfl, hF, ht⟩
      · have ih_2 := ih
        have hfl : ∀ x, x < V → (fun w => Cf s w + Bf ((s * V + w) % stN V N (d + 1))) x ≤ 240000 := fun x hx => by
          have h1 := (hC s (by omega) x (by omega)).2
          have h2 := (hB ((s * V + x) % stN V N (d + 1)) (Nat.mod_lt _ (by omega))).2
          show Cf s x + _ ≤ _
          omega
        refine w_iconst h (pc := 32) dX3_chooseAt_32 ?_
        refine w_istore h (pc := 33) dX3_chooseAt_33 (by decide) ?_
        refine w_iconst h (pc := 35) dX3_chooseAt_35 ?_
        refine w_istore h (pc := 36) dX3_chooseAt_36 (by decide) ?_
        refine w_iconst h (pc := 38) dX3_chooseAt_38 ?_
        refine w_istore h (pc := 39) dX3_chooseAt_39 (by decide) ?_
        have lp41 : ∀ (n9 x : Nat) (b bc : Int), V < x + n9 → x ≤ V → b = (am (fun w => Cf s w + Bf ((s * V + w) % stN V N (d + 1))) x : Int) → bc = (if x = 0 then 0 else ((fun w => Cf s w + Bf ((s * V + w) % stN V N (d + 1))) (am (fun w => Cf s w + Bf ((s * V + w) % stN V N (d + 1))) x) : Int)) → WW Γ 11 w 41 [(0, .ref (a 3)), (1, .int (iI (d : Int))), (2, .int (iI (V : Int))), (3, .int (iI (stN V N d : Int))), (4, .int (iI (stN V N (d + 1) : Int))), (5, .int (iI (s : Int))), (6, .int (iI b)), (7, .int (iI bc)), (8, .int (iI (x : Int)))] [] := by
          intro n9
          induction n9 with
          | zero => intro x b bc hn8 hx hb hbc; exfalso; omega
          | succ n9 ih =>
            intro x b bc hn8 hx hb hbc
            refine w_iload h (pc := 41) dX3_chooseAt_41 rfl ?_
            refine w_iload_n h (pc := 43) dX3_chooseAt_43 rfl ?_
            refine w_icmp_ge h (pc := 44) (tgt := 108) dX3_chooseAt_44 (by decide) (by omega) (by omega) (fun c44 => ?_) (fun c44 => ?_)
            · obtain rfl : V = x := by omega
              have hamV := am_lt (f := (fun w => Cf s w + Bf ((s * V + w) % stN V N (d + 1)))) (n := V) (by omega)
              refine w_aload_n h (pc := 108) dX3_chooseAt_108 rfl ?_
              refine g3_least h (pc := 109) ((hF.1 10 (by simp)).trans e10) wm_72 dX3_chooseAt_109 ?_
              refine w_iload h (pc := 112) dX3_chooseAt_112 rfl ?_
              refine w_iload h (pc := 114) dX3_chooseAt_114 rfl ?_
              refine st_lb h (pc := 116) (by omega) dX3_chooseAt_116 ?_
              refine w_aload_n h (pc := 117) dX3_chooseAt_117 rfl ?_
              refine g3_choices h (pc := 118) wm_71 dX3_chooseAt_118 ?_
              refine w_iload_n h (pc := 121) dX3_chooseAt_121 rfl ?_
              refine ld_choices h (pc := 122) (by omega) (q := 18 + d) (by omega) dX3_chooseAt_122 ?_
              refine w_iload h (pc := 123) dX3_chooseAt_123 rfl ?_
              refine w_iload h (pc := 125) dX3_chooseAt_125 rfl ?_
              refine st_ch h (pc := 127) (by omega) (by omega) dX3_chooseAt_127 ?_
              refine w_iinc h (pc := 128) dX3_chooseAt_128 rfl (by decide) ?_
              refine w_goto h (pc := 131) (tgt := 26) dX3_chooseAt_131 (by decide) ?_
              refine WW.sub (by rfl) (ih_2 (s + 1) _ (by omega) (by omega) ((hF.tr (Fr.A (by simp))).tr (Fr.A (by simp))) (fun s9 h9 => ?_))
              by_cases e : s9 = s
              · subst e
                rw [uA_at, uA_ne _ _ (by omega), uA_ne _ _ (by omega), uA_at]
                unfold upI
                rw [Int.toNat_natCast, if_pos rfl, if_pos rfl, hb, hbc, if_neg (by omega)]
                exact ⟨rfl, rfl⟩
              · rw [uA_at, uA_ne _ _ (by omega), uA_ne _ _ (by omega), uA_at]
                unfold upI
                rw [Int.toNat_natCast, if_neg e, if_neg e]
                exact ht s9 (by omega)
            · obtain ⟨q, hq⟩ : ∃ q, q = s * V := ⟨_, rfl⟩
              have hql : q ≤ 144 * 12 := by rw [hq]; exact Nat.mul_le_mul (by omega) hV.2
              obtain ⟨r, hr⟩ : ∃ r, r = (q + x) % stN V N (d + 1) := ⟨_, rfl⟩
              have hrl : r < stN V N (d + 1) := by rw [hr]; exact Nat.mod_lt _ (by omega)
              have hBr := hB r hrl
              have hBw : w.2 (lb zb) r = (Bf r : Int) := by rw [hF.2 (lb zb) (by simp; omega)]; exact hBr.1
              have hCr := hC s (by omega) x (by omega)
              have hCw : w.2 11 (s * 13 + x) = (Cf s x : Int) := by rw [hF.2 11 (by simp; omega)]; exact hCr.1
              have hfx : (fun w => Cf s w + Bf ((s * V + w) % stN V N (d + 1))) x = Cf s x + Bf r := by rw [hr, hq]
              have hci : ((s : Int) * 13 + (x : Int)).toNat = s * 13 + x := by omega
              refine w_aload_n h (pc := 47) dX3_chooseAt_47 rfl ?_
              refine g3_leastBehind h (pc := 48) ((hF.1 20 (by simp)).trans e20) wm_73 dX3_chooseAt_48 ?_
              refine w_iload h (pc := 51) dX3_chooseAt_51 rfl ?_
              refine w_iload_n h (pc := 53) dX3_chooseAt_53 rfl ?_
              refine w_imul h (pc := 54) dX3_chooseAt_54 ?_
              refine w_iload h (pc := 55) dX3_chooseAt_55 rfl ?_
              rw [show ((s : Int) * (V : Int)) = (q : Int) by rw [hq]; rfl]
              refine w_iadd h (pc := 57) dX3_chooseAt_57 ?_
              refine w_iload h (pc := 58) dX3_chooseAt_58 rfl ?_
              refine w_irem h (pc := 60) dX3_chooseAt_60 (by omega) (by omega) ?_
              rw [show ((q : Int) + (x : Int)) % (stN V N (d + 1) : Int) = (r : Int) by rw [hr]; rfl]
              refine ld_lb h (pc := 61) (by omega) hBw dX3_chooseAt_61 ?_
              refine w_istore h (pc := 62) dX3_chooseAt_62 (by decide) ?_
              refine w_aload_n h (pc := 64) dX3_chooseAt_64 rfl ?_
              refine g3_costs h (pc := 65) wm_69 dX3_chooseAt_65 ?_
              refine w_iload h (pc := 68) dX3_chooseAt_68 rfl ?_
              refine w_bipush h (pc := 70) dX3_chooseAt_70 (by decide) ?_
              refine w_imul h (pc := 72) dX3_chooseAt_72 ?_
              refine w_iload h (pc := 73) dX3_chooseAt_73 rfl ?_
              refine w_iadd h (pc := 75) dX3_chooseAt_75 ?_
              refine ld_costs h (pc := 76) (by omega) ((congrArg (w.2 11) hci).trans hCw) dX3_chooseAt_76 ?_
              refine w_iload h (pc := 77) dX3_chooseAt_77 rfl ?_
              refine w_iadd h (pc := 79) dX3_chooseAt_79 ?_
              refine w_istore h (pc := 80) dX3_chooseAt_80 (by decide) ?_
              have hamx : am (fun w => Cf s w + Bf ((s * V + w) % stN V N (d + 1))) (x + 1) = if x = 0 ∨ (fun w => Cf s w + Bf ((s * V + w) % stN V N (d + 1))) x < (fun w => Cf s w + Bf ((s * V + w) % stN V N (d + 1))) (am (fun w => Cf s w + Bf ((s * V + w) % stN V N (d + 1))) x) then x else am (fun w => Cf s w + Bf ((s * V + w) % stN V N (d + 1))) x := rfl
              have hbx : x ≠ 0 → bc = ((fun w => Cf s w + Bf ((s * V + w) % stN V N (d + 1))) (am (fun w => Cf s w + Bf ((s * V + w) % stN V N (d + 1))) x) : Int) := fun z => by rw [hbc, if_neg z]
              have hbl : -1 ≤ bc ∧ bc ≤ 300000 := by
                by_cases z : x = 0
                · rw [hbc, if_pos z]; omega
                · have h1 := hfl (am (fun w => Cf s w + Bf ((s * V + w) % stN V N (d + 1))) x) (by have := am_lt (f := (fun w => Cf s w + Bf ((s * V + w) % stN V N (d + 1)))) (n := x) (by omega); omega)
                  rw [hbx z]; omega
              refine w_iload h (pc := 82) dX3_chooseAt_82 rfl ?_
              refine w_if_eq h (pc := 84) (tgt := 94) dX3_chooseAt_84 (by decide) (by omega) (fun c84 => ?_) (fun c84 => ?_)
              · refine w_iload h (pc := 94) dX3_chooseAt_94 rfl ?_
                refine w_istore h (pc := 96) dX3_chooseAt_96 (by decide) ?_
                refine w_iload h (pc := 98) dX3_chooseAt_98 rfl ?_
                refine w_istore h (pc := 100) dX3_chooseAt_100 (by decide) ?_
                refine w_iinc h (pc := 102) dX3_chooseAt_102 rfl (by decide) ?_
                refine w_goto h (pc := 105) (tgt := 41) dX3_chooseAt_105 (by decide) ?_
                first
                | exact WW.sub (by rfl) (ih (x + 1) (x : Int) ((Cf s x : Int) + (Bf r : Int)) (by omega) (by omega) (by rw [hamx, if_pos (by rw [hfx]; omega)]) (by rw [if_neg (by omega), hamx, if_pos (by rw [hfx]; omega), hfx]; rfl))
                | exact WW.sub (by rfl) (ih (x + 1) b bc (by omega) (by omega) (by rw [hamx, if_neg (by rw [hfx]; omega)]; exact hb) (by rw [if_neg (by omega), hamx, if_neg (by rw [hfx]; omega), hbc, if_neg (by omega)]))
              · refine w_iload h (pc := 87) dX3_chooseAt_87 rfl ?_
                refine w_iload h (pc := 89) dX3_chooseAt_89 rfl ?_
                refine w_icmp_ge h (pc := 91) (tgt := 102) dX3_chooseAt_91 (by decide) (by omega) (by omega) (fun c91 => ?_) (fun c91 => ?_)
                · refine w_iinc h (pc := 102) dX3_chooseAt_102 rfl (by decide) ?_
                  refine w_goto h (pc := 105) (tgt := 41) dX3_chooseAt_105 (by decide) ?_
                  first
                  | exact WW.sub (by rfl) (ih (x + 1) (x : Int) ((Cf s x : Int) + (Bf r : Int)) (by omega) (by omega) (by rw [hamx, if_pos (by rw [hfx]; omega)]) (by rw [if_neg (by omega), hamx, if_pos (by rw [hfx]; omega), hfx]; rfl))
                  | exact WW.sub (by rfl) (ih (x + 1) b bc (by omega) (by omega) (by rw [hamx, if_neg (by rw [hfx]; omega)]; exact hb) (by rw [if_neg (by omega), hamx, if_neg (by rw [hfx]; omega), hbc, if_neg (by omega)]))
                · refine w_iload h (pc := 94) dX3_chooseAt_94 rfl ?_
                  refine w_istore h (pc := 96) dX3_chooseAt_96 (by decide) ?_
                  refine w_iload h (pc := 98) dX3_chooseAt_98 rfl ?_
                  refine w_istore h (pc := 100) dX3_chooseAt_100 (by decide) ?_
                  refine w_iinc h (pc := 102) dX3_chooseAt_102 rfl (by decide) ?_
                  refine w_goto h (pc := 105) (tgt := 41) dX3_chooseAt_105 (by decide) ?_
                  first
                  | exact WW.sub (by rfl) (ih (x + 1) (x : Int) ((Cf s x : Int) + (Bf r : Int)) (by omega) (by omega) (by rw [hamx, if_pos (by rw [hfx]; omega)]) (by rw [if_neg (by omega), hamx, if_pos (by rw [hfx]; omega), hfx]; rfl))
                  | exact WW.sub (by rfl) (ih (x + 1) b bc (by omega) (by omega) (by rw [hamx, if_neg (by rw [hfx]; omega)]; exact hb) (by rw [if_neg (by omega), hamx, if_neg (by rw [hfx]; omega), hbc, if_neg (by omega)]))
        exact WW.sub (by rfl) (lp41 (V + 1) 0 0 0 (by omega) (by omega) rfl rfl)
  exact WW.sub (by rfl) (lp26 (stN V N d + 1) 0 u (by omega) (by omega) Fr.rfl (fun s9 h9 => absurd h9 (Nat.not_lt_zero s9)))
