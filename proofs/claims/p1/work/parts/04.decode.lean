theorem dX0_init_0 : decode cX0_init 0 = .ok (.aload_n 0, 1) := by decide +kernel
theorem dX0_init_1 : decode cX0_init 1 = .ok (.invokespecial 3, 3) := by decide +kernel
theorem dX0_init_4 : decode cX0_init 4 = .ok (.aload_n 0, 1) := by decide +kernel
theorem dX0_init_5 : decode cX0_init 5 = .ok (.iconst 0, 1) := by decide +kernel
theorem dX0_init_6 : decode cX0_init 6 = .ok (.putfield 9, 3) := by decide +kernel
theorem dX0_init_9 : decode cX0_init 9 = .ok (.aload_n 0, 1) := by decide +kernel
theorem dX0_init_10 : decode cX0_init 10 = .ok (.iconst 2, 1) := by decide +kernel
theorem dX0_init_11 : decode cX0_init 11 = .ok (.putfield 15, 3) := by decide +kernel
theorem dX0_init_14 : decode cX0_init 14 = .ok (.aload_n 0, 1) := by decide +kernel
theorem dX0_init_15 : decode cX0_init 15 = .ok (.iconst 4, 1) := by decide +kernel
theorem dX0_init_16 : decode cX0_init 16 = .ok (.anewarray 18, 3) := by decide +kernel
theorem dX0_init_19 : decode cX0_init 19 = .ok (.putfield 20, 3) := by decide +kernel
theorem dX0_init_22 : decode cX0_init 22 = .ok (.aload_n 0, 1) := by decide +kernel
theorem dX0_init_23 : decode cX0_init 23 = .ok (.iconst 4, 1) := by decide +kernel
theorem dX0_init_24 : decode cX0_init 24 = .ok (.anewarray 18, 3) := by decide +kernel
theorem dX0_init_27 : decode cX0_init 27 = .ok (.putfield 24, 3) := by decide +kernel
theorem dX0_init_30 : decode cX0_init 30 = .ok (.iconst 0, 1) := by decide +kernel
theorem dX0_init_31 : decode cX0_init 31 = .ok (.istore_n 1, 1) := by decide +kernel
theorem dX0_init_32 : decode cX0_init 32 = .ok (.iload_n 1, 1) := by decide +kernel
theorem dX0_init_33 : decode cX0_init 33 = .ok (.iconst 4, 1) := by decide +kernel
theorem dX0_init_34 : decode cX0_init 34 = .ok (.if_icmp .ge 35, 3) := by decide +kernel
theorem dX0_init_37 : decode cX0_init 37 = .ok (.aload_n 0, 1) := by decide +kernel
theorem dX0_init_38 : decode cX0_init 38 = .ok (.getfield 20, 3) := by decide +kernel
theorem dX0_init_41 : decode cX0_init 41 = .ok (.iload_n 1, 1) := by decide +kernel
theorem dX0_init_42 : decode cX0_init 42 = .ok (.new 18, 3) := by decide +kernel
theorem dX0_init_45 : decode cX0_init 45 = .ok (.dup, 1) := by decide +kernel
theorem dX0_init_46 : decode cX0_init 46 = .ok (.invokespecial 27, 3) := by decide +kernel
theorem dX0_init_49 : decode cX0_init 49 = .ok (.aastore, 1) := by decide +kernel
theorem dX0_init_50 : decode cX0_init 50 = .ok (.aload_n 0, 1) := by decide +kernel
theorem dX0_init_51 : decode cX0_init 51 = .ok (.getfield 24, 3) := by decide +kernel
theorem dX0_init_54 : decode cX0_init 54 = .ok (.iload_n 1, 1) := by decide +kernel
theorem dX0_init_55 : decode cX0_init 55 = .ok (.new 18, 3) := by decide +kernel
theorem dX0_init_58 : decode cX0_init 58 = .ok (.dup, 1) := by decide +kernel
theorem dX0_init_59 : decode cX0_init 59 = .ok (.invokespecial 27, 3) := by decide +kernel
theorem dX0_init_62 : decode cX0_init 62 = .ok (.aastore, 1) := by decide +kernel
theorem dX0_init_63 : decode cX0_init 63 = .ok (.iinc 1 1, 3) := by decide +kernel
theorem dX0_init_66 : decode cX0_init 66 = .ok (.goto (-34), 3) := by decide +kernel
theorem dX0_init_69 : decode cX0_init 69 = .ok (.return_, 1) := by decide +kernel
theorem dX0_countsOf_0 : decode cX0_countsOf 0 = .ok (.aload_n 0, 1) := by decide +kernel
theorem dX0_countsOf_1 : decode cX0_countsOf 1 = .ok (.getfield 20, 3) := by decide +kernel
theorem dX0_countsOf_4 : decode cX0_countsOf 4 = .ok (.iconst 1, 1) := by decide +kernel
theorem dX0_countsOf_5 : decode cX0_countsOf 5 = .ok (.iload_n 1, 1) := by decide +kernel
theorem dX0_countsOf_6 : decode cX0_countsOf 6 = .ok (.iconst 4, 1) := by decide +kernel
theorem dX0_countsOf_7 : decode cX0_countsOf 7 = .ok (.invokestatic 28, 3) := by decide +kernel
theorem dX0_countsOf_10 : decode cX0_countsOf 10 = .ok (.invokestatic 34, 3) := by decide +kernel
theorem dX0_countsOf_13 : decode cX0_countsOf 13 = .ok (.iconst 1, 1) := by decide +kernel
theorem dX0_countsOf_14 : decode cX0_countsOf 14 = .ok (.isub, 1) := by decide +kernel
theorem dX0_countsOf_15 : decode cX0_countsOf 15 = .ok (.aaload, 1) := by decide +kernel
theorem dX0_countsOf_16 : decode cX0_countsOf 16 = .ok (.areturn, 1) := by decide +kernel
theorem dX0_varietyOf_0 : decode cX0_varietyOf 0 = .ok (.aload_n 0, 1) := by decide +kernel
theorem dX0_varietyOf_1 : decode cX0_varietyOf 1 = .ok (.getfield 24, 3) := by decide +kernel
theorem dX0_varietyOf_4 : decode cX0_varietyOf 4 = .ok (.iconst 1, 1) := by decide +kernel
theorem dX0_varietyOf_5 : decode cX0_varietyOf 5 = .ok (.iload_n 1, 1) := by decide +kernel
theorem dX0_varietyOf_6 : decode cX0_varietyOf 6 = .ok (.iconst 4, 1) := by decide +kernel
theorem dX0_varietyOf_7 : decode cX0_varietyOf 7 = .ok (.invokestatic 28, 3) := by decide +kernel
theorem dX0_varietyOf_10 : decode cX0_varietyOf 10 = .ok (.invokestatic 34, 3) := by decide +kernel
theorem dX0_varietyOf_13 : decode cX0_varietyOf 13 = .ok (.iconst 1, 1) := by decide +kernel
theorem dX0_varietyOf_14 : decode cX0_varietyOf 14 = .ok (.isub, 1) := by decide +kernel
theorem dX0_varietyOf_15 : decode cX0_varietyOf 15 = .ok (.aaload, 1) := by decide +kernel
theorem dX0_varietyOf_16 : decode cX0_varietyOf 16 = .ok (.areturn, 1) := by decide +kernel
theorem dX0_forgetAll_0 : decode cX0_forgetAll 0 = .ok (.iconst 1, 1) := by decide +kernel
theorem dX0_forgetAll_1 : decode cX0_forgetAll 1 = .ok (.istore_n 1, 1) := by decide +kernel
theorem dX0_forgetAll_2 : decode cX0_forgetAll 2 = .ok (.iload_n 1, 1) := by decide +kernel
theorem dX0_forgetAll_3 : decode cX0_forgetAll 3 = .ok (.iconst 4, 1) := by decide +kernel
theorem dX0_forgetAll_4 : decode cX0_forgetAll 4 = .ok (.if_icmp .gt 27, 3) := by decide +kernel
theorem dX0_forgetAll_7 : decode cX0_forgetAll 7 = .ok (.aload_n 0, 1) := by decide +kernel
theorem dX0_forgetAll_8 : decode cX0_forgetAll 8 = .ok (.iload_n 1, 1) := by decide +kernel
theorem dX0_forgetAll_9 : decode cX0_forgetAll 9 = .ok (.invokevirtual 37, 3) := by decide +kernel
theorem dX0_forgetAll_12 : decode cX0_forgetAll 12 = .ok (.iconst 0, 1) := by decide +kernel
theorem dX0_forgetAll_13 : decode cX0_forgetAll 13 = .ok (.putfield 59, 3) := by decide +kernel
theorem dX0_forgetAll_16 : decode cX0_forgetAll 16 = .ok (.aload_n 0, 1) := by decide +kernel
theorem dX0_forgetAll_17 : decode cX0_forgetAll 17 = .ok (.iload_n 1, 1) := by decide +kernel
theorem dX0_forgetAll_18 : decode cX0_forgetAll 18 = .ok (.invokevirtual 45, 3) := by decide +kernel
theorem dX0_forgetAll_21 : decode cX0_forgetAll 21 = .ok (.iconst 0, 1) := by decide +kernel
theorem dX0_forgetAll_22 : decode cX0_forgetAll 22 = .ok (.putfield 59, 3) := by decide +kernel
theorem dX0_forgetAll_25 : decode cX0_forgetAll 25 = .ok (.iinc 1 1, 3) := by decide +kernel
theorem dX0_forgetAll_28 : decode cX0_forgetAll 28 = .ok (.goto (-26), 3) := by decide +kernel
theorem dX0_forgetAll_31 : decode cX0_forgetAll 31 = .ok (.return_, 1) := by decide +kernel
theorem dX1_init_0 : decode cX1_init 0 = .ok (.aload_n 0, 1) := by decide +kernel
theorem dX1_init_1 : decode cX1_init 1 = .ok (.invokespecial 3, 3) := by decide +kernel
theorem dX1_init_4 : decode cX1_init 4 = .ok (.aload_n 0, 1) := by decide +kernel
theorem dX1_init_5 : decode cX1_init 5 = .ok (.iconst 0, 1) := by decide +kernel
theorem dX1_init_6 : decode cX1_init 6 = .ok (.putfield 9, 3) := by decide +kernel
theorem dX1_init_9 : decode cX1_init 9 = .ok (.aload_n 0, 1) := by decide +kernel
theorem dX1_init_10 : decode cX1_init 10 = .ok (.sipush 500, 3) := by decide +kernel
theorem dX1_init_13 : decode cX1_init 13 = .ok (.putfield 15, 3) := by decide +kernel
theorem dX1_init_16 : decode cX1_init 16 = .ok (.aload_n 0, 1) := by decide +kernel
theorem dX1_init_17 : decode cX1_init 17 = .ok (.bipush 13, 2) := by decide +kernel
theorem dX1_init_19 : decode cX1_init 19 = .ok (.newarray .int, 2) := by decide +kernel
theorem dX1_init_21 : decode cX1_init 21 = .ok (.putfield 18, 3) := by decide +kernel
theorem dX1_init_24 : decode cX1_init 24 = .ok (.aload_n 0, 1) := by decide +kernel
theorem dX1_init_25 : decode cX1_init 25 = .ok (.bipush 13, 2) := by decide +kernel
theorem dX1_init_27 : decode cX1_init 27 = .ok (.newarray .int, 2) := by decide +kernel
theorem dX1_init_29 : decode cX1_init 29 = .ok (.putfield 22, 3) := by decide +kernel
theorem dX1_init_32 : decode cX1_init 32 = .ok (.aload_n 0, 1) := by decide +kernel
theorem dX1_init_33 : decode cX1_init 33 = .ok (.lconst 0, 1) := by decide +kernel
theorem dX1_init_34 : decode cX1_init 34 = .ok (.putfield 25, 3) := by decide +kernel
theorem dX1_init_37 : decode cX1_init 37 = .ok (.aload_n 0, 1) := by decide +kernel
theorem dX1_init_38 : decode cX1_init 38 = .ok (.iconst 0, 1) := by decide +kernel
theorem dX1_init_39 : decode cX1_init 39 = .ok (.putfield 29, 3) := by decide +kernel
theorem dX1_init_42 : decode cX1_init 42 = .ok (.aload_n 0, 1) := by decide +kernel
theorem dX1_init_43 : decode cX1_init 43 = .ok (.aload_n 1, 1) := by decide +kernel
theorem dX1_init_44 : decode cX1_init 44 = .ok (.putfield 32, 3) := by decide +kernel
theorem dX1_init_47 : decode cX1_init 47 = .ok (.return_, 1) := by decide +kernel
theorem dX1_reckon_0 : decode cX1_reckon 0 = .ok (.aload_n 0, 1) := by decide +kernel
theorem dX1_reckon_1 : decode cX1_reckon 1 = .ok (.getfield 18, 3) := by decide +kernel
theorem dX1_reckon_4 : decode cX1_reckon 4 = .ok (.ldc 36, 2) := by decide +kernel
theorem dX1_reckon_6 : decode cX1_reckon 6 = .ok (.aload_n 0, 1) := by decide +kernel
theorem dX1_reckon_7 : decode cX1_reckon 7 = .ok (.getfield 32, 3) := by decide +kernel
theorem dX1_reckon_10 : decode cX1_reckon 10 = .ok (.getfield 37, 3) := by decide +kernel
theorem dX1_reckon_13 : decode cX1_reckon 13 = .ok (.iconst 1, 1) := by decide +kernel
theorem dX1_reckon_14 : decode cX1_reckon 14 = .ok (.iadd, 1) := by decide +kernel
theorem dX1_reckon_15 : decode cX1_reckon 15 = .ok (.idiv, 1) := by decide +kernel
theorem dX1_reckon_16 : decode cX1_reckon 16 = .ok (.invokestatic 42, 3) := by decide +kernel
theorem dX1_reckon_19 : decode cX1_reckon 19 = .ok (.aload_n 0, 1) := by decide +kernel
theorem dX1_reckon_20 : decode cX1_reckon 20 = .ok (.getfield 9, 3) := by decide +kernel
theorem dX1_reckon_23 : decode cX1_reckon 23 = .ok (.ifCond .ne 7, 3) := by decide +kernel
theorem dX1_reckon_26 : decode cX1_reckon 26 = .ok (.iload_n 1, 1) := by decide +kernel
theorem dX1_reckon_27 : decode cX1_reckon 27 = .ok (.goto 4, 3) := by decide +kernel
theorem dX1_reckon_30 : decode cX1_reckon 30 = .ok (.iconst 1, 1) := by decide +kernel
theorem dX1_reckon_31 : decode cX1_reckon 31 = .ok (.istore_n 3, 1) := by decide +kernel
theorem dX1_reckon_32 : decode cX1_reckon 32 = .ok (.iload_n 3, 1) := by decide +kernel
theorem dX1_reckon_33 : decode cX1_reckon 33 = .ok (.iload_n 1, 1) := by decide +kernel
theorem dX1_reckon_34 : decode cX1_reckon 34 = .ok (.if_icmp .gt 23, 3) := by decide +kernel
theorem dX1_reckon_37 : decode cX1_reckon 37 = .ok (.aload_n 0, 1) := by decide +kernel
theorem dX1_reckon_38 : decode cX1_reckon 38 = .ok (.iload_n 3, 1) := by decide +kernel
theorem dX1_reckon_39 : decode cX1_reckon 39 = .ok (.iload_n 2, 1) := by decide +kernel
theorem dX1_reckon_40 : decode cX1_reckon 40 = .ok (.getstatic 48, 3) := by decide +kernel
theorem dX1_reckon_43 : decode cX1_reckon 43 = .ok (.iload_n 3, 1) := by decide +kernel
theorem dX1_reckon_44 : decode cX1_reckon 44 = .ok (.iconst 1, 1) := by decide +kernel
theorem dX1_reckon_45 : decode cX1_reckon 45 = .ok (.isub, 1) := by decide +kernel
theorem dX1_reckon_46 : decode cX1_reckon 46 = .ok (.iaload, 1) := by decide +kernel
theorem dX1_reckon_47 : decode cX1_reckon 47 = .ok (.irem, 1) := by decide +kernel
theorem dX1_reckon_48 : decode cX1_reckon 48 = .ok (.invokevirtual 51, 3) := by decide +kernel
theorem dX1_reckon_51 : decode cX1_reckon 51 = .ok (.iinc 3 1, 3) := by decide +kernel
theorem dX1_reckon_54 : decode cX1_reckon 54 = .ok (.goto (-22), 3) := by decide +kernel
theorem dX1_reckon_57 : decode cX1_reckon 57 = .ok (.return_, 1) := by decide +kernel
theorem dX1_refine_0 : decode cX1_refine 0 = .ok (.aload_n 0, 1) := by decide +kernel
theorem dX1_refine_1 : decode cX1_refine 1 = .ok (.getfield 9, 3) := by decide +kernel
theorem dX1_refine_4 : decode cX1_refine 4 = .ok (.iconst 4, 1) := by decide +kernel
theorem dX1_refine_5 : decode cX1_refine 5 = .ok (.if_icmp .ne 18, 3) := by decide +kernel
theorem dX1_refine_8 : decode cX1_refine 8 = .ok (.iload_n 1, 1) := by decide +kernel
theorem dX1_refine_9 : decode cX1_refine 9 = .ok (.aload_n 0, 1) := by decide +kernel
theorem dX1_refine_10 : decode cX1_refine 10 = .ok (.getfield 32, 3) := by decide +kernel
theorem dX1_refine_13 : decode cX1_refine 13 = .ok (.getfield 55, 3) := by decide +kernel
theorem dX1_refine_16 : decode cX1_refine 16 = .ok (.if_icmp .ge 7, 3) := by decide +kernel
theorem dX1_refine_19 : decode cX1_refine 19 = .ok (.iconst 1, 1) := by decide +kernel
theorem dX1_refine_20 : decode cX1_refine 20 = .ok (.goto 4, 3) := by decide +kernel
theorem dX1_refine_23 : decode cX1_refine 23 = .ok (.iconst 0, 1) := by decide +kernel
theorem dX1_refine_24 : decode cX1_refine 24 = .ok (.istore_n 3, 1) := by decide +kernel
theorem dX1_refine_25 : decode cX1_refine 25 = .ok (.aload_n 0, 1) := by decide +kernel
theorem dX1_refine_26 : decode cX1_refine 26 = .ok (.iload_n 3, 1) := by decide +kernel
theorem dX1_refine_27 : decode cX1_refine 27 = .ok (.ifCond .eq 14, 3) := by decide +kernel
theorem dX1_refine_30 : decode cX1_refine 30 = .ok (.aload_n 0, 1) := by decide +kernel
theorem dX1_refine_31 : decode cX1_refine 31 = .ok (.getfield 32, 3) := by decide +kernel
theorem dX1_refine_34 : decode cX1_refine 34 = .ok (.iload_n 1, 1) := by decide +kernel
theorem dX1_refine_35 : decode cX1_refine 35 = .ok (.invokevirtual 58, 3) := by decide +kernel
theorem dX1_refine_38 : decode cX1_refine 38 = .ok (.goto 11, 3) := by decide +kernel
theorem dX1_refine_41 : decode cX1_refine 41 = .ok (.aload_n 0, 1) := by decide +kernel
theorem dX1_refine_42 : decode cX1_refine 42 = .ok (.getfield 32, 3) := by decide +kernel
theorem dX1_refine_45 : decode cX1_refine 45 = .ok (.iload_n 1, 1) := by decide +kernel
theorem dX1_refine_46 : decode cX1_refine 46 = .ok (.invokevirtual 62, 3) := by decide +kernel
theorem dX1_refine_49 : decode cX1_refine 49 = .ok (.iload_n 2, 1) := by decide +kernel
theorem dX1_refine_50 : decode cX1_refine 50 = .ok (.invokevirtual 65, 3) := by decide +kernel
theorem dX1_refine_53 : decode cX1_refine 53 = .ok (.aload_n 0, 1) := by decide +kernel
theorem dX1_refine_54 : decode cX1_refine 54 = .ok (.getfield 9, 3) := by decide +kernel
theorem dX1_refine_57 : decode cX1_refine 57 = .ok (.ifCond .eq 13, 3) := by decide +kernel
theorem dX1_refine_60 : decode cX1_refine 60 = .ok (.aload_n 0, 1) := by decide +kernel
theorem dX1_refine_61 : decode cX1_refine 61 = .ok (.getfield 25, 3) := by decide +kernel
theorem dX1_refine_64 : decode cX1_refine 64 = .ok (.lconst 0, 1) := by decide +kernel
theorem dX1_refine_65 : decode cX1_refine 65 = .ok (.lcmp, 1) := by decide +kernel
theorem dX1_refine_66 : decode cX1_refine 66 = .ok (.ifCond .gt 4, 3) := by decide +kernel
theorem dX1_refine_69 : decode cX1_refine 69 = .ok (.return_, 1) := by decide +kernel
theorem dX1_refine_70 : decode cX1_refine 70 = .ok (.iconst 0, 1) := by decide +kernel
theorem dX1_refine_71 : decode cX1_refine 71 = .ok (.istore 4, 2) := by decide +kernel
theorem dX1_refine_73 : decode cX1_refine 73 = .ok (.iload 4, 2) := by decide +kernel
theorem dX1_refine_75 : decode cX1_refine 75 = .ok (.aload_n 0, 1) := by decide +kernel
theorem dX1_refine_76 : decode cX1_refine 76 = .ok (.getfield 32, 3) := by decide +kernel
theorem dX1_refine_79 : decode cX1_refine 79 = .ok (.getfield 37, 3) := by decide +kernel
theorem dX1_refine_82 : decode cX1_refine 82 = .ok (.if_icmp .gt 37, 3) := by decide +kernel
theorem dX1_refine_85 : decode cX1_refine 85 = .ok (.aload_n 0, 1) := by decide +kernel
theorem dX1_refine_86 : decode cX1_refine 86 = .ok (.getfield 18, 3) := by decide +kernel
theorem dX1_refine_89 : decode cX1_refine 89 = .ok (.iload 4, 2) := by decide +kernel
theorem dX1_refine_91 : decode cX1_refine 91 = .ok (.aload_n 0, 1) := by decide +kernel
theorem dX1_refine_92 : decode cX1_refine 92 = .ok (.aload_n 0, 1) := by decide +kernel
theorem dX1_refine_93 : decode cX1_refine 93 = .ok (.getfield 22, 3) := by decide +kernel
theorem dX1_refine_96 : decode cX1_refine 96 = .ok (.iload 4, 2) := by decide +kernel
theorem dX1_refine_98 : decode cX1_refine 98 = .ok (.iaload, 1) := by decide +kernel
theorem dX1_refine_99 : decode cX1_refine 99 = .ok (.i2l, 1) := by decide +kernel
theorem dX1_refine_100 : decode cX1_refine 100 = .ok (.aload_n 0, 1) := by decide +kernel
theorem dX1_refine_101 : decode cX1_refine 101 = .ok (.getfield 18, 3) := by decide +kernel
theorem dX1_refine_104 : decode cX1_refine 104 = .ok (.iload 4, 2) := by decide +kernel
theorem dX1_refine_106 : decode cX1_refine 106 = .ok (.iaload, 1) := by decide +kernel
theorem dX1_refine_107 : decode cX1_refine 107 = .ok (.i2l, 1) := by decide +kernel
theorem dX1_refine_108 : decode cX1_refine 108 = .ok (.invokevirtual 69, 3) := by decide +kernel
theorem dX1_refine_111 : decode cX1_refine 111 = .ok (.l2i, 1) := by decide +kernel
theorem dX1_refine_112 : decode cX1_refine 112 = .ok (.iastore, 1) := by decide +kernel
theorem dX1_refine_113 : decode cX1_refine 113 = .ok (.iinc 4 1, 3) := by decide +kernel
theorem dX1_refine_116 : decode cX1_refine 116 = .ok (.goto (-43), 3) := by decide +kernel
theorem dX1_refine_119 : decode cX1_refine 119 = .ok (.return_, 1) := by decide +kernel
theorem dX1_gather_0 : decode cX1_gather 0 = .ok (.aload_n 0, 1) := by decide +kernel
theorem dX1_gather_1 : decode cX1_gather 1 = .ok (.getfield 22, 3) := by decide +kernel
theorem dX1_gather_4 : decode cX1_gather 4 = .ok (.iconst 0, 1) := by decide +kernel
theorem dX1_gather_5 : decode cX1_gather 5 = .ok (.invokestatic 42, 3) := by decide +kernel
theorem dX1_gather_8 : decode cX1_gather 8 = .ok (.aload_n 0, 1) := by decide +kernel
theorem dX1_gather_9 : decode cX1_gather 9 = .ok (.lconst 0, 1) := by decide +kernel
theorem dX1_gather_10 : decode cX1_gather 10 = .ok (.putfield 25, 3) := by decide +kernel
theorem dX1_gather_13 : decode cX1_gather 13 = .ok (.aload_n 0, 1) := by decide +kernel
theorem dX1_gather_14 : decode cX1_gather 14 = .ok (.iconst 0, 1) := by decide +kernel
theorem dX1_gather_15 : decode cX1_gather 15 = .ok (.putfield 29, 3) := by decide +kernel
theorem dX1_gather_18 : decode cX1_gather 18 = .ok (.iload_n 2, 1) := by decide +kernel
theorem dX1_gather_19 : decode cX1_gather 19 = .ok (.bipush 14, 2) := by decide +kernel
theorem dX1_gather_21 : decode cX1_gather 21 = .ok (.imul, 1) := by decide +kernel
theorem dX1_gather_22 : decode cX1_gather 22 = .ok (.istore_n 3, 1) := by decide +kernel
theorem dX1_gather_23 : decode cX1_gather 23 = .ok (.aload_n 1, 1) := by decide +kernel
theorem dX1_gather_24 : decode cX1_gather 24 = .ok (.iload_n 3, 1) := by decide +kernel
theorem dX1_gather_25 : decode cX1_gather 25 = .ok (.invokevirtual 73, 3) := by decide +kernel
theorem dX1_gather_28 : decode cX1_gather 28 = .ok (.istore 4, 2) := by decide +kernel
theorem dX1_gather_30 : decode cX1_gather 30 = .ok (.iload 4, 2) := by decide +kernel
theorem dX1_gather_32 : decode cX1_gather 32 = .ok (.aload_n 1, 1) := by decide +kernel
theorem dX1_gather_33 : decode cX1_gather 33 = .ok (.getfield 79, 3) := by decide +kernel
theorem dX1_gather_36 : decode cX1_gather 36 = .ok (.if_icmp .ge 89, 3) := by decide +kernel
theorem dX1_gather_125 : decode cX1_gather 125 = .ok (.return_, 1) := by decide +kernel
theorem dX1_blend_0 : decode cX1_blend 0 = .ok (.aload_n 0, 1) := by decide +kernel
theorem dX1_blend_1 : decode cX1_blend 1 = .ok (.getfield 9, 3) := by decide +kernel
theorem dX1_blend_4 : decode cX1_blend 4 = .ok (.tableswitch 127 0 2 #[28, 69, 102], 28) := by decide +kernel
theorem dX1_blend_32 : decode cX1_blend 32 = .ok (.lload_n 1, 1) := by decide +kernel
theorem dX1_blend_33 : decode cX1_blend 33 = .ok (.ldc2_w 88, 3) := by decide +kernel
theorem dX1_blend_36 : decode cX1_blend 36 = .ok (.lmul, 1) := by decide +kernel
theorem dX1_blend_37 : decode cX1_blend 37 = .ok (.aload_n 0, 1) := by decide +kernel
theorem dX1_blend_38 : decode cX1_blend 38 = .ok (.getfield 15, 3) := by decide +kernel
theorem dX1_blend_41 : decode cX1_blend 41 = .ok (.i2l, 1) := by decide +kernel
theorem dX1_blend_42 : decode cX1_blend 42 = .ok (.ladd, 1) := by decide +kernel
theorem dX1_blend_43 : decode cX1_blend 43 = .ok (.ldc2_w 90, 3) := by decide +kernel
theorem dX1_blend_46 : decode cX1_blend 46 = .ok (.lmul, 1) := by decide +kernel
theorem dX1_blend_47 : decode cX1_blend 47 = .ok (.aload_n 0, 1) := by decide +kernel
theorem dX1_blend_48 : decode cX1_blend 48 = .ok (.getfield 25, 3) := by decide +kernel
theorem dX1_blend_51 : decode cX1_blend 51 = .ok (.ldc2_w 88, 3) := by decide +kernel
theorem dX1_blend_54 : decode cX1_blend 54 = .ok (.lmul, 1) := by decide +kernel
theorem dX1_blend_55 : decode cX1_blend 55 = .ok (.aload_n 0, 1) := by decide +kernel
theorem dX1_blend_56 : decode cX1_blend 56 = .ok (.getfield 15, 3) := by decide +kernel
theorem dX1_blend_59 : decode cX1_blend 59 = .ok (.aload_n 0, 1) := by decide +kernel
theorem dX1_blend_60 : decode cX1_blend 60 = .ok (.getfield 32, 3) := by decide +kernel
theorem dX1_blend_63 : decode cX1_blend 63 = .ok (.getfield 37, 3) := by decide +kernel
theorem dX1_blend_66 : decode cX1_blend 66 = .ok (.iconst 1, 1) := by decide +kernel
theorem dX1_blend_67 : decode cX1_blend 67 = .ok (.iadd, 1) := by decide +kernel
theorem dX1_blend_68 : decode cX1_blend 68 = .ok (.imul, 1) := by decide +kernel
theorem dX1_blend_69 : decode cX1_blend 69 = .ok (.i2l, 1) := by decide +kernel
theorem dX1_blend_70 : decode cX1_blend 70 = .ok (.ladd, 1) := by decide +kernel
theorem dX1_blend_71 : decode cX1_blend 71 = .ok (.ldiv, 1) := by decide +kernel
theorem dX1_blend_72 : decode cX1_blend 72 = .ok (.lreturn, 1) := by decide +kernel
theorem dX1_withRank_0 : decode cX1_withRank 0 = .ok (.iconst 0, 1) := by decide +kernel
theorem dX1_withRank_1 : decode cX1_withRank 1 = .ok (.istore_n 2, 1) := by decide +kernel
theorem dX1_withRank_2 : decode cX1_withRank 2 = .ok (.iload_n 2, 1) := by decide +kernel
theorem dX1_withRank_3 : decode cX1_withRank 3 = .ok (.aload_n 0, 1) := by decide +kernel
theorem dX1_withRank_4 : decode cX1_withRank 4 = .ok (.getfield 32, 3) := by decide +kernel
theorem dX1_withRank_7 : decode cX1_withRank 7 = .ok (.getfield 37, 3) := by decide +kernel
theorem dX1_withRank_10 : decode cX1_withRank 10 = .ok (.if_icmp .ge 20, 3) := by decide +kernel
theorem dX1_withRank_30 : decode cX1_withRank 30 = .ok (.aload_n 0, 1) := by decide +kernel
theorem dX1_withRank_31 : decode cX1_withRank 31 = .ok (.getfield 32, 3) := by decide +kernel
theorem dX1_withRank_34 : decode cX1_withRank 34 = .ok (.getfield 37, 3) := by decide +kernel
theorem dX1_withRank_37 : decode cX1_withRank 37 = .ok (.ireturn, 1) := by decide +kernel
theorem dX2_init_0 : decode cX2_init 0 = .ok (.aload_n 0, 1) := by decide +kernel
theorem dX2_init_1 : decode cX2_init 1 = .ok (.invokespecial 3, 3) := by decide +kernel
theorem dX2_init_4 : decode cX2_init 4 = .ok (.aload_n 0, 1) := by decide +kernel
theorem dX2_init_5 : decode cX2_init 5 = .ok (.bipush 12, 2) := by decide +kernel
theorem dX2_init_7 : decode cX2_init 7 = .ok (.newarray .int, 2) := by decide +kernel
theorem dX2_init_9 : decode cX2_init 9 = .ok (.putfield 9, 3) := by decide +kernel
theorem dX2_init_12 : decode cX2_init 12 = .ok (.aload_n 0, 1) := by decide +kernel
theorem dX2_init_13 : decode cX2_init 13 = .ok (.bipush 12, 2) := by decide +kernel
theorem dX2_init_15 : decode cX2_init 15 = .ok (.newarray .int, 2) := by decide +kernel
theorem dX2_init_17 : decode cX2_init 17 = .ok (.putfield 15, 3) := by decide +kernel
theorem dX2_init_20 : decode cX2_init 20 = .ok (.aload_n 0, 1) := by decide +kernel
theorem dX2_init_21 : decode cX2_init 21 = .ok (.bipush 12, 2) := by decide +kernel
theorem dX2_init_23 : decode cX2_init 23 = .ok (.newarray .int, 2) := by decide +kernel
theorem dX2_init_25 : decode cX2_init 25 = .ok (.putfield 18, 3) := by decide +kernel
theorem dX2_init_28 : decode cX2_init 28 = .ok (.aload_n 0, 1) := by decide +kernel
theorem dX2_init_29 : decode cX2_init 29 = .ok (.iconst 0, 1) := by decide +kernel
theorem dX2_init_30 : decode cX2_init 30 = .ok (.putfield 21, 3) := by decide +kernel
theorem dX2_init_33 : decode cX2_init 33 = .ok (.return_, 1) := by decide +kernel
theorem dX2_append_0 : decode cX2_append 0 = .ok (.aload_n 0, 1) := by decide +kernel
theorem dX2_append_1 : decode cX2_append 1 = .ok (.getfield 21, 3) := by decide +kernel
theorem dX2_append_4 : decode cX2_append 4 = .ok (.bipush 12, 2) := by decide +kernel
theorem dX2_append_6 : decode cX2_append 6 = .ok (.if_icmp .ge 33, 3) := by decide +kernel
theorem dX2_append_9 : decode cX2_append 9 = .ok (.aload_n 0, 1) := by decide +kernel
theorem dX2_append_10 : decode cX2_append 10 = .ok (.getfield 9, 3) := by decide +kernel
theorem dX2_append_13 : decode cX2_append 13 = .ok (.aload_n 0, 1) := by decide +kernel
theorem dX2_append_14 : decode cX2_append 14 = .ok (.getfield 21, 3) := by decide +kernel
theorem dX2_append_17 : decode cX2_append 17 = .ok (.iload_n 1, 1) := by decide +kernel
theorem dX2_append_18 : decode cX2_append 18 = .ok (.iastore, 1) := by decide +kernel
theorem dX2_append_19 : decode cX2_append 19 = .ok (.aload_n 0, 1) := by decide +kernel
theorem dX2_append_20 : decode cX2_append 20 = .ok (.getfield 15, 3) := by decide +kernel
theorem dX2_append_23 : decode cX2_append 23 = .ok (.aload_n 0, 1) := by decide +kernel
theorem dX2_append_24 : decode cX2_append 24 = .ok (.getfield 21, 3) := by decide +kernel
theorem dX2_append_27 : decode cX2_append 27 = .ok (.iload_n 2, 1) := by decide +kernel
theorem dX2_append_28 : decode cX2_append 28 = .ok (.iastore, 1) := by decide +kernel
theorem dX2_append_29 : decode cX2_append 29 = .ok (.aload_n 0, 1) := by decide +kernel
theorem dX2_append_30 : decode cX2_append 30 = .ok (.dup, 1) := by decide +kernel
theorem dX2_append_31 : decode cX2_append 31 = .ok (.getfield 21, 3) := by decide +kernel
theorem dX2_append_34 : decode cX2_append 34 = .ok (.iconst 1, 1) := by decide +kernel
theorem dX2_append_35 : decode cX2_append 35 = .ok (.iadd, 1) := by decide +kernel
theorem dX2_append_36 : decode cX2_append 36 = .ok (.putfield 21, 3) := by decide +kernel
theorem dX2_append_39 : decode cX2_append 39 = .ok (.aload_n 0, 1) := by decide +kernel
theorem dX2_append_40 : decode cX2_append 40 = .ok (.getfield 21, 3) := by decide +kernel
theorem dX2_append_43 : decode cX2_append 43 = .ok (.iconst 1, 1) := by decide +kernel
theorem dX2_append_44 : decode cX2_append 44 = .ok (.isub, 1) := by decide +kernel
theorem dX2_append_45 : decode cX2_append 45 = .ok (.ireturn, 1) := by decide +kernel
theorem dX3_init_0 : decode cX3_init 0 = .ok (.aload_n 0, 1) := by decide +kernel
theorem dX3_init_1 : decode cX3_init 1 = .ok (.invokespecial 3, 3) := by decide +kernel
theorem dX3_init_4 : decode cX3_init 4 = .ok (.aload_n 0, 1) := by decide +kernel
theorem dX3_init_5 : decode cX3_init 5 = .ok (.sipush 22464, 3) := by decide +kernel
theorem dX3_init_8 : decode cX3_init 8 = .ok (.newarray .int, 2) := by decide +kernel
theorem dX3_init_10 : decode cX3_init 10 = .ok (.putfield 11, 3) := by decide +kernel
theorem dX3_init_13 : decode cX3_init 13 = .ok (.aload_n 0, 1) := by decide +kernel
theorem dX3_init_14 : decode cX3_init 14 = .ok (.bipush 12, 2) := by decide +kernel
theorem dX3_init_16 : decode cX3_init 16 = .ok (.sipush 1728, 3) := by decide +kernel
theorem dX3_init_19 : decode cX3_init 19 = .ok (.multianewarray 15 2, 4) := by decide +kernel
theorem dX3_init_23 : decode cX3_init 23 = .ok (.putfield 17, 3) := by decide +kernel
theorem dX3_init_26 : decode cX3_init 26 = .ok (.aload_n 0, 1) := by decide +kernel
theorem dX3_init_27 : decode cX3_init 27 = .ok (.sipush 1728, 3) := by decide +kernel
theorem dX3_init_30 : decode cX3_init 30 = .ok (.newarray .int, 2) := by decide +kernel
theorem dX3_init_32 : decode cX3_init 32 = .ok (.putfield 20, 3) := by decide +kernel
theorem dX3_init_35 : decode cX3_init 35 = .ok (.aload_n 0, 1) := by decide +kernel
theorem dX3_init_36 : decode cX3_init 36 = .ok (.sipush 1728, 3) := by decide +kernel
theorem dX3_init_39 : decode cX3_init 39 = .ok (.newarray .int, 2) := by decide +kernel
theorem dX3_init_41 : decode cX3_init 41 = .ok (.putfield 23, 3) := by decide +kernel
theorem dX3_init_44 : decode cX3_init 44 = .ok (.aload_n 0, 1) := by decide +kernel
theorem dX3_init_45 : decode cX3_init 45 = .ok (.aload_n 1, 1) := by decide +kernel
theorem dX3_init_46 : decode cX3_init 46 = .ok (.putfield 26, 3) := by decide +kernel
theorem dX3_init_49 : decode cX3_init 49 = .ok (.aload_n 0, 1) := by decide +kernel
theorem dX3_init_50 : decode cX3_init 50 = .ok (.aload_n 2, 1) := by decide +kernel
theorem dX3_init_51 : decode cX3_init 51 = .ok (.putfield 30, 3) := by decide +kernel
theorem dX3_init_54 : decode cX3_init 54 = .ok (.return_, 1) := by decide +kernel
theorem dX4_init_0 : decode cX4_init 0 = .ok (.aload_n 0, 1) := by decide +kernel
theorem dX4_init_1 : decode cX4_init 1 = .ok (.invokespecial 1, 3) := by decide +kernel
theorem dX4_init_4 : decode cX4_init 4 = .ok (.aload_n 0, 1) := by decide +kernel
theorem dX4_init_5 : decode cX4_init 5 = .ok (.sipush 852, 3) := by decide +kernel
theorem dX4_init_8 : decode cX4_init 8 = .ok (.newarray .int, 2) := by decide +kernel
theorem dX4_init_10 : decode cX4_init 10 = .ok (.putfield 9, 3) := by decide +kernel
theorem dX4_init_13 : decode cX4_init 13 = .ok (.aload_n 0, 1) := by decide +kernel
theorem dX4_init_14 : decode cX4_init 14 = .ok (.sipush 852, 3) := by decide +kernel
theorem dX4_init_17 : decode cX4_init 17 = .ok (.newarray .int, 2) := by decide +kernel
theorem dX4_init_19 : decode cX4_init 19 = .ok (.putfield 13, 3) := by decide +kernel
theorem dX4_init_22 : decode cX4_init 22 = .ok (.aload_n 0, 1) := by decide +kernel
theorem dX4_init_23 : decode cX4_init 23 = .ok (.iconst 0, 1) := by decide +kernel
theorem dX4_init_24 : decode cX4_init 24 = .ok (.putfield 16, 3) := by decide +kernel
theorem dX4_init_27 : decode cX4_init 27 = .ok (.return_, 1) := by decide +kernel
theorem dX4_keysBelow_0 : decode cX4_keysBelow 0 = .ok (.iconst 0, 1) := by decide +kernel
theorem dX4_keysBelow_1 : decode cX4_keysBelow 1 = .ok (.istore_n 2, 1) := by decide +kernel
theorem dX4_keysBelow_2 : decode cX4_keysBelow 2 = .ok (.sipush 512, 3) := by decide +kernel
theorem dX4_keysBelow_5 : decode cX4_keysBelow 5 = .ok (.istore_n 3, 1) := by decide +kernel
theorem dX4_keysBelow_6 : decode cX4_keysBelow 6 = .ok (.iload_n 3, 1) := by decide +kernel
theorem dX4_keysBelow_7 : decode cX4_keysBelow 7 = .ok (.ifCond .le 38, 3) := by decide +kernel
theorem dX4_keysBelow_10 : decode cX4_keysBelow 10 = .ok (.iload_n 2, 1) := by decide +kernel
theorem dX4_keysBelow_11 : decode cX4_keysBelow 11 = .ok (.iload_n 3, 1) := by decide +kernel
theorem dX4_keysBelow_12 : decode cX4_keysBelow 12 = .ok (.iadd, 1) := by decide +kernel
theorem dX4_keysBelow_13 : decode cX4_keysBelow 13 = .ok (.aload_n 0, 1) := by decide +kernel
theorem dX4_keysBelow_14 : decode cX4_keysBelow 14 = .ok (.getfield 16, 3) := by decide +kernel
theorem dX4_keysBelow_17 : decode cX4_keysBelow 17 = .ok (.if_icmp .gt 21, 3) := by decide +kernel
theorem dX4_keysBelow_38 : decode cX4_keysBelow 38 = .ok (.iload_n 3, 1) := by decide +kernel
theorem dX4_keysBelow_39 : decode cX4_keysBelow 39 = .ok (.iconst 2, 1) := by decide +kernel
theorem dX4_keysBelow_40 : decode cX4_keysBelow 40 = .ok (.idiv, 1) := by decide +kernel
theorem dX4_keysBelow_41 : decode cX4_keysBelow 41 = .ok (.istore_n 3, 1) := by decide +kernel
theorem dX4_keysBelow_42 : decode cX4_keysBelow 42 = .ok (.goto (-36), 3) := by decide +kernel
theorem dX4_keysBelow_45 : decode cX4_keysBelow 45 = .ok (.iload_n 2, 1) := by decide +kernel
theorem dX4_keysBelow_46 : decode cX4_keysBelow 46 = .ok (.ireturn, 1) := by decide +kernel
theorem dX4_standsAt_0 : decode cX4_standsAt 0 = .ok (.iload_n 1, 1) := by decide +kernel
theorem dX4_standsAt_1 : decode cX4_standsAt 1 = .ok (.aload_n 0, 1) := by decide +kernel
theorem dX4_standsAt_2 : decode cX4_standsAt 2 = .ok (.getfield 16, 3) := by decide +kernel
theorem dX4_standsAt_5 : decode cX4_standsAt 5 = .ok (.if_icmp .ge 17, 3) := by decide +kernel
theorem dX4_standsAt_22 : decode cX4_standsAt 22 = .ok (.iconst 0, 1) := by decide +kernel
theorem dX4_standsAt_23 : decode cX4_standsAt 23 = .ok (.ireturn, 1) := by decide +kernel
theorem dX4_numberOf_0 : decode cX4_numberOf 0 = .ok (.aload_n 0, 1) := by decide +kernel
theorem dX4_numberOf_1 : decode cX4_numberOf 1 = .ok (.iload_n 1, 1) := by decide +kernel
theorem dX4_numberOf_2 : decode cX4_numberOf 2 = .ok (.invokevirtual 20, 3) := by decide +kernel
theorem dX4_numberOf_5 : decode cX4_numberOf 5 = .ok (.istore_n 2, 1) := by decide +kernel
theorem dX4_numberOf_6 : decode cX4_numberOf 6 = .ok (.aload_n 0, 1) := by decide +kernel
theorem dX4_numberOf_7 : decode cX4_numberOf 7 = .ok (.iload_n 2, 1) := by decide +kernel
theorem dX4_numberOf_8 : decode cX4_numberOf 8 = .ok (.iload_n 1, 1) := by decide +kernel
theorem dX4_numberOf_9 : decode cX4_numberOf 9 = .ok (.invokevirtual 24, 3) := by decide +kernel
theorem dX4_numberOf_12 : decode cX4_numberOf 12 = .ok (.ifCond .eq 12, 3) := by decide +kernel
theorem dX4_numberOf_24 : decode cX4_numberOf 24 = .ok (.iconst 0, 1) := by decide +kernel
theorem dX4_numberOf_25 : decode cX4_numberOf 25 = .ok (.ireturn, 1) := by decide +kernel
theorem dX5_init_0 : decode cX5_init 0 = .ok (.aload_n 0, 1) := by decide +kernel
theorem dX5_init_1 : decode cX5_init 1 = .ok (.invokespecial 1, 3) := by decide +kernel
theorem dX5_init_4 : decode cX5_init 4 = .ok (.aload_n 0, 1) := by decide +kernel
theorem dX5_init_5 : decode cX5_init 5 = .ok (.new 7, 3) := by decide +kernel
theorem dX5_init_8 : decode cX5_init 8 = .ok (.dup, 1) := by decide +kernel
theorem dX5_init_9 : decode cX5_init 9 = .ok (.invokespecial 9, 3) := by decide +kernel
theorem dX5_init_12 : decode cX5_init 12 = .ok (.putfield 10, 3) := by decide +kernel
theorem dX5_init_15 : decode cX5_init 15 = .ok (.aload_n 0, 1) := by decide +kernel
theorem dX5_init_16 : decode cX5_init 16 = .ok (.new 16, 3) := by decide +kernel
theorem dX5_init_19 : decode cX5_init 19 = .ok (.dup, 1) := by decide +kernel
theorem dX5_init_20 : decode cX5_init 20 = .ok (.aload_n 0, 1) := by decide +kernel
theorem dX5_init_21 : decode cX5_init 21 = .ok (.getfield 10, 3) := by decide +kernel
theorem dX5_init_24 : decode cX5_init 24 = .ok (.invokespecial 18, 3) := by decide +kernel
theorem dX5_init_27 : decode cX5_init 27 = .ok (.putfield 21, 3) := by decide +kernel
theorem dX5_init_30 : decode cX5_init 30 = .ok (.aload_n 0, 1) := by decide +kernel
theorem dX5_init_31 : decode cX5_init 31 = .ok (.new 25, 3) := by decide +kernel
theorem dX5_init_34 : decode cX5_init 34 = .ok (.dup, 1) := by decide +kernel
theorem dX5_init_35 : decode cX5_init 35 = .ok (.aload_n 0, 1) := by decide +kernel
theorem dX5_init_36 : decode cX5_init 36 = .ok (.getfield 10, 3) := by decide +kernel
theorem dX5_init_39 : decode cX5_init 39 = .ok (.aload_n 0, 1) := by decide +kernel
theorem dX5_init_40 : decode cX5_init 40 = .ok (.getfield 21, 3) := by decide +kernel
theorem dX5_init_43 : decode cX5_init 43 = .ok (.invokespecial 27, 3) := by decide +kernel
theorem dX5_init_46 : decode cX5_init 46 = .ok (.putfield 30, 3) := by decide +kernel
theorem dX5_init_49 : decode cX5_init 49 = .ok (.aload_n 0, 1) := by decide +kernel
theorem dX5_init_50 : decode cX5_init 50 = .ok (.new 34, 3) := by decide +kernel
theorem dX5_init_53 : decode cX5_init 53 = .ok (.dup, 1) := by decide +kernel
theorem dX5_init_54 : decode cX5_init 54 = .ok (.invokespecial 36, 3) := by decide +kernel
theorem dX5_init_57 : decode cX5_init 57 = .ok (.putfield 37, 3) := by decide +kernel
theorem dX5_init_60 : decode cX5_init 60 = .ok (.aload_n 0, 1) := by decide +kernel
theorem dX5_init_61 : decode cX5_init 61 = .ok (.sipush 852, 3) := by decide +kernel
theorem dX5_init_64 : decode cX5_init 64 = .ok (.newarray .boolean, 2) := by decide +kernel
theorem dX5_init_66 : decode cX5_init 66 = .ok (.putfield 43, 3) := by decide +kernel
theorem dX5_init_69 : decode cX5_init 69 = .ok (.aload_n 0, 1) := by decide +kernel
theorem dX5_init_70 : decode cX5_init 70 = .ok (.bipush 12, 2) := by decide +kernel
theorem dX5_init_72 : decode cX5_init 72 = .ok (.newarray .int, 2) := by decide +kernel
theorem dX5_init_74 : decode cX5_init 74 = .ok (.putfield 47, 3) := by decide +kernel
theorem dX5_init_77 : decode cX5_init 77 = .ok (.aload_n 0, 1) := by decide +kernel
theorem dX5_init_78 : decode cX5_init 78 = .ok (.iconst 0, 1) := by decide +kernel
theorem dX5_init_79 : decode cX5_init 79 = .ok (.putfield 51, 3) := by decide +kernel
theorem dX5_init_82 : decode cX5_init 82 = .ok (.aload_n 0, 1) := by decide +kernel
theorem dX5_init_83 : decode cX5_init 83 = .ok (.iconst 0, 1) := by decide +kernel
theorem dX5_init_84 : decode cX5_init 84 = .ok (.putfield 55, 3) := by decide +kernel
theorem dX5_init_87 : decode cX5_init 87 = .ok (.aload_n 0, 1) := by decide +kernel
theorem dX5_init_88 : decode cX5_init 88 = .ok (.iconst 0, 1) := by decide +kernel
theorem dX5_init_89 : decode cX5_init 89 = .ok (.putfield 58, 3) := by decide +kernel
theorem dX5_init_92 : decode cX5_init 92 = .ok (.aload_n 0, 1) := by decide +kernel
theorem dX5_init_93 : decode cX5_init 93 = .ok (.iconst 0, 1) := by decide +kernel
theorem dX5_init_94 : decode cX5_init 94 = .ok (.putfield 61, 3) := by decide +kernel
theorem dX5_init_97 : decode cX5_init 97 = .ok (.return_, 1) := by decide +kernel
theorem dX5_addWord_0 : decode cX5_addWord 0 = .ok (.aload_n 0, 1) := by decide +kernel
theorem dX5_addWord_1 : decode cX5_addWord 1 = .ok (.getfield 10, 3) := by decide +kernel
theorem dX5_addWord_4 : decode cX5_addWord 4 = .ok (.getfield 65, 3) := by decide +kernel
theorem dX5_addWord_7 : decode cX5_addWord 7 = .ok (.bipush 12, 2) := by decide +kernel
theorem dX5_addWord_9 : decode cX5_addWord 9 = .ok (.if_icmp .lt 13, 3) := by decide +kernel
theorem dX5_addWord_22 : decode cX5_addWord 22 = .ok (.aload_n 0, 1) := by decide +kernel
theorem dX5_addWord_23 : decode cX5_addWord 23 = .ok (.getfield 10, 3) := by decide +kernel
theorem dX5_addWord_26 : decode cX5_addWord 26 = .ok (.invokevirtual 75, 3) := by decide +kernel
theorem dX5_addWord_29 : decode cX5_addWord 29 = .ok (.aload_n 0, 1) := by decide +kernel
theorem dX5_addWord_30 : decode cX5_addWord 30 = .ok (.iconst 0, 1) := by decide +kernel
theorem dX5_addWord_31 : decode cX5_addWord 31 = .ok (.putfield 51, 3) := by decide +kernel
theorem dX5_addWord_34 : decode cX5_addWord 34 = .ok (.aload_n 0, 1) := by decide +kernel
theorem dX5_addWord_35 : decode cX5_addWord 35 = .ok (.getfield 10, 3) := by decide +kernel
theorem dX5_addWord_38 : decode cX5_addWord 38 = .ok (.dup, 1) := by decide +kernel
theorem dX5_addWord_39 : decode cX5_addWord 39 = .ok (.getfield 65, 3) := by decide +kernel
theorem dX5_addWord_42 : decode cX5_addWord 42 = .ok (.iconst 1, 1) := by decide +kernel
theorem dX5_addWord_43 : decode cX5_addWord 43 = .ok (.iadd, 1) := by decide +kernel
theorem dX5_addWord_44 : decode cX5_addWord 44 = .ok (.putfield 65, 3) := by decide +kernel
theorem dX5_addWord_47 : decode cX5_addWord 47 = .ok (.aload_n 0, 1) := by decide +kernel
theorem dX5_addWord_48 : decode cX5_addWord 48 = .ok (.getfield 10, 3) := by decide +kernel
theorem dX5_addWord_51 : decode cX5_addWord 51 = .ok (.getfield 65, 3) := by decide +kernel
theorem dX5_addWord_54 : decode cX5_addWord 54 = .ok (.iconst 1, 1) := by decide +kernel
theorem dX5_addWord_55 : decode cX5_addWord 55 = .ok (.isub, 1) := by decide +kernel
theorem dX5_addWord_56 : decode cX5_addWord 56 = .ok (.ireturn, 1) := by decide +kernel
theorem dX5_setOrder_0 : decode cX5_setOrder 0 = .ok (.iload_n 1, 1) := by decide +kernel
theorem dX5_setOrder_1 : decode cX5_setOrder 1 = .ok (.iconst 1, 1) := by decide +kernel
theorem dX5_setOrder_2 : decode cX5_setOrder 2 = .ok (.if_icmp .lt 8, 3) := by decide +kernel
theorem dX5_setOrder_5 : decode cX5_setOrder 5 = .ok (.iload_n 1, 1) := by decide +kernel
theorem dX5_setOrder_6 : decode cX5_setOrder 6 = .ok (.iconst 4, 1) := by decide +kernel
theorem dX5_setOrder_7 : decode cX5_setOrder 7 = .ok (.if_icmp .le 13, 3) := by decide +kernel
theorem dX5_setOrder_10 : decode cX5_setOrder 10 = .ok (.new 78, 3) := by decide +kernel
theorem dX5_setOrder_13 : decode cX5_setOrder 13 = .ok (.dup, 1) := by decide +kernel
theorem dX5_setOrder_14 : decode cX5_setOrder 14 = .ok (.ldc 80, 2) := by decide +kernel
theorem dX5_setOrder_16 : decode cX5_setOrder 16 = .ok (.invokespecial 82, 3) := by decide +kernel
theorem dX5_setOrder_19 : decode cX5_setOrder 19 = .ok (.athrow, 1) := by decide +kernel
theorem dX5_setOrder_20 : decode cX5_setOrder 20 = .ok (.aload_n 0, 1) := by decide +kernel
theorem dX5_setOrder_21 : decode cX5_setOrder 21 = .ok (.getfield 10, 3) := by decide +kernel
theorem dX5_setOrder_24 : decode cX5_setOrder 24 = .ok (.getfield 83, 3) := by decide +kernel
theorem dX5_setOrder_27 : decode cX5_setOrder 27 = .ok (.istore_n 2, 1) := by decide +kernel
theorem dX5_setOrder_28 : decode cX5_setOrder 28 = .ok (.aload_n 0, 1) := by decide +kernel
theorem dX5_setOrder_29 : decode cX5_setOrder 29 = .ok (.getfield 10, 3) := by decide +kernel
theorem dX5_setOrder_32 : decode cX5_setOrder 32 = .ok (.invokevirtual 75, 3) := by decide +kernel
theorem dX5_setOrder_35 : decode cX5_setOrder 35 = .ok (.aload_n 0, 1) := by decide +kernel
theorem dX5_setOrder_36 : decode cX5_setOrder 36 = .ok (.getfield 10, 3) := by decide +kernel
theorem dX5_setOrder_39 : decode cX5_setOrder 39 = .ok (.iload_n 1, 1) := by decide +kernel
theorem dX5_setOrder_40 : decode cX5_setOrder 40 = .ok (.putfield 83, 3) := by decide +kernel
theorem dX5_setOrder_43 : decode cX5_setOrder 43 = .ok (.iload_n 2, 1) := by decide +kernel
theorem dX5_setOrder_44 : decode cX5_setOrder 44 = .ok (.ireturn, 1) := by decide +kernel
theorem dX5_say_0 : decode cX5_say 0 = .ok (.aload_n 0, 1) := by decide +kernel
theorem dX5_say_1 : decode cX5_say 1 = .ok (.iload_n 1, 1) := by decide +kernel
theorem dX5_say_2 : decode cX5_say 2 = .ok (.invokevirtual 86, 3) := by decide +kernel
theorem dX5_say_5 : decode cX5_say 5 = .ok (.ifCond .ne 13, 3) := by decide +kernel
theorem dX5_say_8 : decode cX5_say 8 = .ok (.new 90, 3) := by decide +kernel
theorem dX5_say_11 : decode cX5_say 11 = .ok (.dup, 1) := by decide +kernel
theorem dX5_say_12 : decode cX5_say 12 = .ok (.ldc 92, 2) := by decide +kernel
theorem dX5_say_14 : decode cX5_say 14 = .ok (.invokespecial 94, 3) := by decide +kernel
theorem dX5_say_17 : decode cX5_say 17 = .ok (.athrow, 1) := by decide +kernel
theorem dX5_hush_0 : decode cX5_hush 0 = .ok (.aload_n 0, 1) := by decide +kernel
theorem dX5_hush_1 : decode cX5_hush 1 = .ok (.getfield 51, 3) := by decide +kernel
theorem dX5_hush_4 : decode cX5_hush 4 = .ok (.istore_n 1, 1) := by decide +kernel
theorem dX5_hush_5 : decode cX5_hush 5 = .ok (.aload_n 0, 1) := by decide +kernel
theorem dX5_hush_6 : decode cX5_hush 6 = .ok (.iconst 0, 1) := by decide +kernel
theorem dX5_hush_7 : decode cX5_hush 7 = .ok (.putfield 51, 3) := by decide +kernel
theorem dX5_hush_10 : decode cX5_hush 10 = .ok (.iload_n 1, 1) := by decide +kernel
theorem dX5_hush_11 : decode cX5_hush 11 = .ok (.ireturn, 1) := by decide +kernel
theorem dX5_learn_0 : decode cX5_learn 0 = .ok (.iload_n 1, 1) := by decide +kernel
theorem dX5_learn_1 : decode cX5_learn 1 = .ok (.iconst 1, 1) := by decide +kernel
theorem dX5_learn_2 : decode cX5_learn 2 = .ok (.if_icmp .lt 9, 3) := by decide +kernel
theorem dX5_learn_5 : decode cX5_learn 5 = .ok (.iload_n 1, 1) := by decide +kernel
theorem dX5_learn_6 : decode cX5_learn 6 = .ok (.bipush 100, 2) := by decide +kernel
theorem dX5_learn_8 : decode cX5_learn 8 = .ok (.if_icmp .le 13, 3) := by decide +kernel
theorem dX5_learn_11 : decode cX5_learn 11 = .ok (.new 78, 3) := by decide +kernel
theorem dX5_learn_14 : decode cX5_learn 14 = .ok (.dup, 1) := by decide +kernel
theorem dX5_learn_15 : decode cX5_learn 15 = .ok (.ldc 101, 2) := by decide +kernel
theorem dX5_learn_17 : decode cX5_learn 17 = .ok (.invokespecial 82, 3) := by decide +kernel
theorem dX5_learn_20 : decode cX5_learn 20 = .ok (.athrow, 1) := by decide +kernel
theorem dX5_learn_21 : decode cX5_learn 21 = .ok (.aload_n 0, 1) := by decide +kernel
theorem dX5_learn_22 : decode cX5_learn 22 = .ok (.getfield 10, 3) := by decide +kernel
theorem dX5_learn_25 : decode cX5_learn 25 = .ok (.getfield 65, 3) := by decide +kernel
theorem dX5_learn_28 : decode cX5_learn 28 = .ok (.ifCond .ne 13, 3) := by decide +kernel
theorem dX5_learn_31 : decode cX5_learn 31 = .ok (.new 68, 3) := by decide +kernel
theorem dX5_learn_34 : decode cX5_learn 34 = .ok (.dup, 1) := by decide +kernel
theorem dX5_learn_35 : decode cX5_learn 35 = .ok (.ldc 103, 2) := by decide +kernel
theorem dX5_learn_37 : decode cX5_learn 37 = .ok (.invokespecial 72, 3) := by decide +kernel
theorem dX5_learn_40 : decode cX5_learn 40 = .ok (.athrow, 1) := by decide +kernel
theorem dX5_unlearn_0 : decode cX5_unlearn 0 = .ok (.aload_n 0, 1) := by decide +kernel
theorem dX5_unlearn_1 : decode cX5_unlearn 1 = .ok (.invokevirtual 118, 3) := by decide +kernel
theorem dX5_unlearn_4 : decode cX5_unlearn 4 = .ok (.ifCond .ne 13, 3) := by decide +kernel
theorem dX5_unlearn_7 : decode cX5_unlearn 7 = .ok (.new 68, 3) := by decide +kernel
theorem dX5_unlearn_10 : decode cX5_unlearn 10 = .ok (.dup, 1) := by decide +kernel
theorem dX5_unlearn_11 : decode cX5_unlearn 11 = .ok (.ldc 122, 2) := by decide +kernel
theorem dX5_unlearn_13 : decode cX5_unlearn 13 = .ok (.invokespecial 72, 3) := by decide +kernel
theorem dX5_unlearn_16 : decode cX5_unlearn 16 = .ok (.athrow, 1) := by decide +kernel
theorem dX5_words_0 : decode cX5_words 0 = .ok (.aload_n 0, 1) := by decide +kernel
theorem dX5_words_1 : decode cX5_words 1 = .ok (.getfield 10, 3) := by decide +kernel
theorem dX5_words_4 : decode cX5_words 4 = .ok (.getfield 65, 3) := by decide +kernel
theorem dX5_words_7 : decode cX5_words 7 = .ok (.ireturn, 1) := by decide +kernel
theorem dX5_order_0 : decode cX5_order 0 = .ok (.aload_n 0, 1) := by decide +kernel
theorem dX5_order_1 : decode cX5_order 1 = .ok (.getfield 10, 3) := by decide +kernel
theorem dX5_order_4 : decode cX5_order 4 = .ok (.getfield 83, 3) := by decide +kernel
theorem dX5_order_7 : decode cX5_order 7 = .ok (.ireturn, 1) := by decide +kernel
theorem dX5_length_0 : decode cX5_length 0 = .ok (.aload_n 0, 1) := by decide +kernel
theorem dX5_length_1 : decode cX5_length 1 = .ok (.getfield 51, 3) := by decide +kernel
theorem dX5_length_4 : decode cX5_length 4 = .ok (.ireturn, 1) := by decide +kernel
theorem dX5_wordAt_0 : decode cX5_wordAt 0 = .ok (.iload_n 1, 1) := by decide +kernel
theorem dX5_wordAt_1 : decode cX5_wordAt 1 = .ok (.ifCond .lt 11, 3) := by decide +kernel
theorem dX5_wordAt_4 : decode cX5_wordAt 4 = .ok (.iload_n 1, 1) := by decide +kernel
theorem dX5_wordAt_5 : decode cX5_wordAt 5 = .ok (.aload_n 0, 1) := by decide +kernel
theorem dX5_wordAt_6 : decode cX5_wordAt 6 = .ok (.getfield 51, 3) := by decide +kernel
theorem dX5_wordAt_9 : decode cX5_wordAt 9 = .ok (.if_icmp .lt 13, 3) := by decide +kernel
theorem dX5_wordAt_12 : decode cX5_wordAt 12 = .ok (.new 90, 3) := by decide +kernel
theorem dX5_wordAt_15 : decode cX5_wordAt 15 = .ok (.dup, 1) := by decide +kernel
theorem dX5_wordAt_16 : decode cX5_wordAt 16 = .ok (.ldc 124, 2) := by decide +kernel
theorem dX5_wordAt_18 : decode cX5_wordAt 18 = .ok (.invokespecial 94, 3) := by decide +kernel
theorem dX5_wordAt_21 : decode cX5_wordAt 21 = .ok (.athrow, 1) := by decide +kernel
theorem dX5_entries_0 : decode cX5_entries 0 = .ok (.aload_n 0, 1) := by decide +kernel
theorem dX5_entries_1 : decode cX5_entries 1 = .ok (.iload_n 1, 1) := by decide +kernel
theorem dX5_entries_2 : decode cX5_entries 2 = .ok (.invokevirtual 126, 3) := by decide +kernel
theorem dX5_entries_5 : decode cX5_entries 5 = .ok (.ifCond .ne 13, 3) := by decide +kernel
theorem dX5_entries_8 : decode cX5_entries 8 = .ok (.new 78, 3) := by decide +kernel
theorem dX5_entries_11 : decode cX5_entries 11 = .ok (.dup, 1) := by decide +kernel
theorem dX5_entries_12 : decode cX5_entries 12 = .ok (.ldc 129, 2) := by decide +kernel
theorem dX5_entries_14 : decode cX5_entries 14 = .ok (.invokespecial 82, 3) := by decide +kernel
theorem dX5_entries_17 : decode cX5_entries 17 = .ok (.athrow, 1) := by decide +kernel
theorem dX5_entries_18 : decode cX5_entries 18 = .ok (.aload_n 0, 1) := by decide +kernel
theorem dX5_entries_19 : decode cX5_entries 19 = .ok (.getfield 10, 3) := by decide +kernel
theorem dX5_entries_22 : decode cX5_entries 22 = .ok (.iload_n 1, 1) := by decide +kernel
theorem dX5_entries_23 : decode cX5_entries 23 = .ok (.invokevirtual 131, 3) := by decide +kernel
theorem dX5_entries_26 : decode cX5_entries 26 = .ok (.getfield 135, 3) := by decide +kernel
theorem dX5_entries_29 : decode cX5_entries 29 = .ok (.ireturn, 1) := by decide +kernel
theorem dX5_entryAt_0 : decode cX5_entryAt 0 = .ok (.aload_n 0, 1) := by decide +kernel
theorem dX5_entryAt_1 : decode cX5_entryAt 1 = .ok (.iload_n 1, 1) := by decide +kernel
theorem dX5_entryAt_2 : decode cX5_entryAt 2 = .ok (.invokevirtual 126, 3) := by decide +kernel
theorem dX5_entryAt_5 : decode cX5_entryAt 5 = .ok (.ifCond .ne 13, 3) := by decide +kernel
theorem dX5_entryAt_8 : decode cX5_entryAt 8 = .ok (.new 78, 3) := by decide +kernel
theorem dX5_entryAt_11 : decode cX5_entryAt 11 = .ok (.dup, 1) := by decide +kernel
theorem dX5_entryAt_12 : decode cX5_entryAt 12 = .ok (.ldc 129, 2) := by decide +kernel
theorem dX5_entryAt_14 : decode cX5_entryAt 14 = .ok (.invokespecial 82, 3) := by decide +kernel
theorem dX5_entryAt_17 : decode cX5_entryAt 17 = .ok (.athrow, 1) := by decide +kernel
theorem dX5_entryAt_18 : decode cX5_entryAt 18 = .ok (.aload_n 0, 1) := by decide +kernel
theorem dX5_entryAt_19 : decode cX5_entryAt 19 = .ok (.getfield 10, 3) := by decide +kernel
theorem dX5_entryAt_22 : decode cX5_entryAt 22 = .ok (.iload_n 1, 1) := by decide +kernel
theorem dX5_entryAt_23 : decode cX5_entryAt 23 = .ok (.invokevirtual 131, 3) := by decide +kernel
theorem dX5_entryAt_26 : decode cX5_entryAt 26 = .ok (.astore 4, 2) := by decide +kernel
theorem dX5_entryAt_28 : decode cX5_entryAt 28 = .ok (.iload_n 2, 1) := by decide +kernel
theorem dX5_entryAt_29 : decode cX5_entryAt 29 = .ok (.ifCond .lt 21, 3) := by decide +kernel
theorem dX5_entryAt_32 : decode cX5_entryAt 32 = .ok (.iload_n 2, 1) := by decide +kernel
theorem dX5_entryAt_33 : decode cX5_entryAt 33 = .ok (.aload 4, 2) := by decide +kernel
theorem dX5_entryAt_35 : decode cX5_entryAt 35 = .ok (.getfield 135, 3) := by decide +kernel
theorem dX5_entryAt_38 : decode cX5_entryAt 38 = .ok (.if_icmp .ge 12, 3) := by decide +kernel
theorem dX5_entryAt_50 : decode cX5_entryAt 50 = .ok (.new 90, 3) := by decide +kernel
theorem dX5_entryAt_53 : decode cX5_entryAt 53 = .ok (.dup, 1) := by decide +kernel
theorem dX5_entryAt_54 : decode cX5_entryAt 54 = .ok (.ldc 138, 2) := by decide +kernel
theorem dX5_entryAt_56 : decode cX5_entryAt 56 = .ok (.invokespecial 94, 3) := by decide +kernel
theorem dX5_entryAt_59 : decode cX5_entryAt 59 = .ok (.athrow, 1) := by decide +kernel
theorem dX5_countOf_0 : decode cX5_countOf 0 = .ok (.aload_n 0, 1) := by decide +kernel
theorem dX5_countOf_1 : decode cX5_countOf 1 = .ok (.iload_n 1, 1) := by decide +kernel
theorem dX5_countOf_2 : decode cX5_countOf 2 = .ok (.invokevirtual 126, 3) := by decide +kernel
theorem dX5_countOf_5 : decode cX5_countOf 5 = .ok (.ifCond .ne 13, 3) := by decide +kernel
theorem dX5_countOf_8 : decode cX5_countOf 8 = .ok (.new 78, 3) := by decide +kernel
theorem dX5_countOf_11 : decode cX5_countOf 11 = .ok (.dup, 1) := by decide +kernel
theorem dX5_countOf_12 : decode cX5_countOf 12 = .ok (.ldc 129, 2) := by decide +kernel
theorem dX5_countOf_14 : decode cX5_countOf 14 = .ok (.invokespecial 82, 3) := by decide +kernel
theorem dX5_countOf_17 : decode cX5_countOf 17 = .ok (.athrow, 1) := by decide +kernel
theorem dX5_countOf_18 : decode cX5_countOf 18 = .ok (.aload_n 0, 1) := by decide +kernel
theorem dX5_countOf_19 : decode cX5_countOf 19 = .ok (.getfield 10, 3) := by decide +kernel
theorem dX5_countOf_22 : decode cX5_countOf 22 = .ok (.iload_n 1, 1) := by decide +kernel
theorem dX5_countOf_23 : decode cX5_countOf 23 = .ok (.invokevirtual 131, 3) := by decide +kernel
theorem dX5_countOf_26 : decode cX5_countOf 26 = .ok (.astore_n 3, 1) := by decide +kernel
theorem dX5_countOf_27 : decode cX5_countOf 27 = .ok (.iload_n 2, 1) := by decide +kernel
theorem dX5_countOf_28 : decode cX5_countOf 28 = .ok (.ifCond .lt 11, 3) := by decide +kernel
theorem dX5_countOf_31 : decode cX5_countOf 31 = .ok (.iload_n 2, 1) := by decide +kernel
theorem dX5_countOf_32 : decode cX5_countOf 32 = .ok (.aload_n 3, 1) := by decide +kernel
theorem dX5_countOf_33 : decode cX5_countOf 33 = .ok (.getfield 135, 3) := by decide +kernel
theorem dX5_countOf_36 : decode cX5_countOf 36 = .ok (.if_icmp .lt 13, 3) := by decide +kernel
theorem dX5_countOf_39 : decode cX5_countOf 39 = .ok (.new 90, 3) := by decide +kernel
theorem dX5_countOf_42 : decode cX5_countOf 42 = .ok (.dup, 1) := by decide +kernel
theorem dX5_countOf_43 : decode cX5_countOf 43 = .ok (.ldc 147, 2) := by decide +kernel
theorem dX5_countOf_45 : decode cX5_countOf 45 = .ok (.invokespecial 94, 3) := by decide +kernel
theorem dX5_countOf_48 : decode cX5_countOf 48 = .ok (.athrow, 1) := by decide +kernel
theorem dX5_ofContext_0 : decode cX5_ofContext 0 = .ok (.aload_n 0, 1) := by decide +kernel
theorem dX5_ofContext_1 : decode cX5_ofContext 1 = .ok (.iload_n 1, 1) := by decide +kernel
theorem dX5_ofContext_2 : decode cX5_ofContext 2 = .ok (.invokevirtual 126, 3) := by decide +kernel
theorem dX5_ofContext_5 : decode cX5_ofContext 5 = .ok (.ifCond .eq 12, 3) := by decide +kernel
theorem dX5_ofContext_8 : decode cX5_ofContext 8 = .ok (.iload_n 2, 1) := by decide +kernel
theorem dX5_ofContext_9 : decode cX5_ofContext 9 = .ok (.ifCond .lt 8, 3) := by decide +kernel
theorem dX5_ofContext_12 : decode cX5_ofContext 12 = .ok (.iload_n 2, 1) := by decide +kernel
theorem dX5_ofContext_13 : decode cX5_ofContext 13 = .ok (.iconst 1, 1) := by decide +kernel
theorem dX5_ofContext_14 : decode cX5_ofContext 14 = .ok (.if_icmp .le 13, 3) := by decide +kernel
theorem dX5_ofContext_17 : decode cX5_ofContext 17 = .ok (.new 78, 3) := by decide +kernel
theorem dX5_ofContext_20 : decode cX5_ofContext 20 = .ok (.dup, 1) := by decide +kernel
theorem dX5_ofContext_21 : decode cX5_ofContext 21 = .ok (.ldc 152, 2) := by decide +kernel
theorem dX5_ofContext_23 : decode cX5_ofContext 23 = .ok (.invokespecial 82, 3) := by decide +kernel
theorem dX5_ofContext_26 : decode cX5_ofContext 26 = .ok (.athrow, 1) := by decide +kernel
theorem dX5_ofContext_27 : decode cX5_ofContext 27 = .ok (.aload_n 0, 1) := by decide +kernel
theorem dX5_ofContext_28 : decode cX5_ofContext 28 = .ok (.iload_n 1, 1) := by decide +kernel
theorem dX5_ofContext_29 : decode cX5_ofContext 29 = .ok (.iload_n 2, 1) := by decide +kernel
theorem dX5_ofContext_30 : decode cX5_ofContext 30 = .ok (.invokevirtual 154, 3) := by decide +kernel
theorem dX5_ofContext_33 : decode cX5_ofContext 33 = .ok (.ireturn, 1) := by decide +kernel
theorem dX5_prune_0 : decode cX5_prune 0 = .ok (.iload_n 1, 1) := by decide +kernel
theorem dX5_prune_1 : decode cX5_prune 1 = .ok (.iconst 2, 1) := by decide +kernel
theorem dX5_prune_2 : decode cX5_prune 2 = .ok (.if_icmp .lt 26, 3) := by decide +kernel
theorem dX5_prune_5 : decode cX5_prune 5 = .ok (.iload_n 1, 1) := by decide +kernel
theorem dX5_prune_6 : decode cX5_prune 6 = .ok (.aload_n 0, 1) := by decide +kernel
theorem dX5_prune_7 : decode cX5_prune 7 = .ok (.getfield 10, 3) := by decide +kernel
theorem dX5_prune_10 : decode cX5_prune 10 = .ok (.getfield 83, 3) := by decide +kernel
theorem dX5_prune_13 : decode cX5_prune 13 = .ok (.if_icmp .gt 15, 3) := by decide +kernel
theorem dX5_prune_16 : decode cX5_prune 16 = .ok (.iload_n 2, 1) := by decide +kernel
theorem dX5_prune_17 : decode cX5_prune 17 = .ok (.iconst 1, 1) := by decide +kernel
theorem dX5_prune_18 : decode cX5_prune 18 = .ok (.if_icmp .lt 10, 3) := by decide +kernel
theorem dX5_prune_21 : decode cX5_prune 21 = .ok (.iload_n 2, 1) := by decide +kernel
theorem dX5_prune_22 : decode cX5_prune 22 = .ok (.sipush 1000, 3) := by decide +kernel
theorem dX5_prune_25 : decode cX5_prune 25 = .ok (.if_icmp .le 13, 3) := by decide +kernel
theorem dX5_prune_28 : decode cX5_prune 28 = .ok (.new 78, 3) := by decide +kernel
theorem dX5_prune_31 : decode cX5_prune 31 = .ok (.dup, 1) := by decide +kernel
theorem dX5_prune_32 : decode cX5_prune 32 = .ok (.ldc 158, 2) := by decide +kernel
theorem dX5_prune_34 : decode cX5_prune 34 = .ok (.invokespecial 82, 3) := by decide +kernel
theorem dX5_prune_37 : decode cX5_prune 37 = .ok (.athrow, 1) := by decide +kernel
theorem dX5_prune_38 : decode cX5_prune 38 = .ok (.aload_n 0, 1) := by decide +kernel
theorem dX5_prune_39 : decode cX5_prune 39 = .ok (.getfield 10, 3) := by decide +kernel
theorem dX5_prune_42 : decode cX5_prune 42 = .ok (.iload_n 1, 1) := by decide +kernel
theorem dX5_prune_43 : decode cX5_prune 43 = .ok (.invokevirtual 131, 3) := by decide +kernel
theorem dX5_prune_46 : decode cX5_prune 46 = .ok (.astore_n 3, 1) := by decide +kernel
theorem dX5_prune_47 : decode cX5_prune 47 = .ok (.iconst 0, 1) := by decide +kernel
theorem dX5_prune_48 : decode cX5_prune 48 = .ok (.istore 4, 2) := by decide +kernel
theorem dX5_prune_50 : decode cX5_prune 50 = .ok (.iload 4, 2) := by decide +kernel
theorem dX5_prune_52 : decode cX5_prune 52 = .ok (.aload_n 3, 1) := by decide +kernel
theorem dX5_prune_53 : decode cX5_prune 53 = .ok (.getfield 135, 3) := by decide +kernel
theorem dX5_prune_56 : decode cX5_prune 56 = .ok (.if_icmp .ge 32, 3) := by decide +kernel
theorem dX5_prune_88 : decode cX5_prune 88 = .ok (.aload_n 0, 1) := by decide +kernel
theorem dX5_prune_89 : decode cX5_prune 89 = .ok (.iload_n 1, 1) := by decide +kernel
theorem dX5_prune_90 : decode cX5_prune 90 = .ok (.invokevirtual 160, 3) := by decide +kernel
theorem dX5_prune_93 : decode cX5_prune 93 = .ok (.ireturn, 1) := by decide +kernel
theorem dX5_pruneBy_0 : decode cX5_pruneBy 0 = .ok (.iload_n 1, 1) := by decide +kernel
theorem dX5_pruneBy_1 : decode cX5_pruneBy 1 = .ok (.iconst 2, 1) := by decide +kernel
theorem dX5_pruneBy_2 : decode cX5_pruneBy 2 = .ok (.if_icmp .lt 25, 3) := by decide +kernel
theorem dX5_pruneBy_5 : decode cX5_pruneBy 5 = .ok (.iload_n 1, 1) := by decide +kernel
theorem dX5_pruneBy_6 : decode cX5_pruneBy 6 = .ok (.aload_n 0, 1) := by decide +kernel
theorem dX5_pruneBy_7 : decode cX5_pruneBy 7 = .ok (.getfield 10, 3) := by decide +kernel
theorem dX5_pruneBy_10 : decode cX5_pruneBy 10 = .ok (.getfield 83, 3) := by decide +kernel
theorem dX5_pruneBy_13 : decode cX5_pruneBy 13 = .ok (.if_icmp .gt 14, 3) := by decide +kernel
theorem dX5_pruneBy_16 : decode cX5_pruneBy 16 = .ok (.iload_n 2, 1) := by decide +kernel
theorem dX5_pruneBy_17 : decode cX5_pruneBy 17 = .ok (.iconst 1, 1) := by decide +kernel
theorem dX5_pruneBy_18 : decode cX5_pruneBy 18 = .ok (.if_icmp .lt 9, 3) := by decide +kernel
theorem dX5_pruneBy_21 : decode cX5_pruneBy 21 = .ok (.iload_n 2, 1) := by decide +kernel
theorem dX5_pruneBy_22 : decode cX5_pruneBy 22 = .ok (.ldc 163, 2) := by decide +kernel
theorem dX5_pruneBy_24 : decode cX5_pruneBy 24 = .ok (.if_icmp .le 13, 3) := by decide +kernel
theorem dX5_pruneBy_27 : decode cX5_pruneBy 27 = .ok (.new 78, 3) := by decide +kernel
theorem dX5_pruneBy_30 : decode cX5_pruneBy 30 = .ok (.dup, 1) := by decide +kernel
theorem dX5_pruneBy_31 : decode cX5_pruneBy 31 = .ok (.ldc 164, 2) := by decide +kernel
theorem dX5_pruneBy_33 : decode cX5_pruneBy 33 = .ok (.invokespecial 82, 3) := by decide +kernel
theorem dX5_pruneBy_36 : decode cX5_pruneBy 36 = .ok (.athrow, 1) := by decide +kernel
theorem dX5_pruneBy_37 : decode cX5_pruneBy 37 = .ok (.aload_n 0, 1) := by decide +kernel
theorem dX5_pruneBy_38 : decode cX5_pruneBy 38 = .ok (.getfield 10, 3) := by decide +kernel
theorem dX5_pruneBy_41 : decode cX5_pruneBy 41 = .ok (.iload_n 1, 1) := by decide +kernel
theorem dX5_pruneBy_42 : decode cX5_pruneBy 42 = .ok (.invokevirtual 131, 3) := by decide +kernel
theorem dX5_pruneBy_45 : decode cX5_pruneBy 45 = .ok (.astore_n 3, 1) := by decide +kernel
theorem dX5_pruneBy_46 : decode cX5_pruneBy 46 = .ok (.iconst 0, 1) := by decide +kernel
theorem dX5_pruneBy_47 : decode cX5_pruneBy 47 = .ok (.istore 4, 2) := by decide +kernel
theorem dX5_pruneBy_49 : decode cX5_pruneBy 49 = .ok (.iload 4, 2) := by decide +kernel
theorem dX5_pruneBy_51 : decode cX5_pruneBy 51 = .ok (.aload_n 3, 1) := by decide +kernel
theorem dX5_pruneBy_52 : decode cX5_pruneBy 52 = .ok (.getfield 135, 3) := by decide +kernel
theorem dX5_pruneBy_55 : decode cX5_pruneBy 55 = .ok (.if_icmp .ge 37, 3) := by decide +kernel
theorem dX5_pruneBy_92 : decode cX5_pruneBy 92 = .ok (.aload_n 0, 1) := by decide +kernel
theorem dX5_pruneBy_93 : decode cX5_pruneBy 93 = .ok (.iload_n 1, 1) := by decide +kernel
theorem dX5_pruneBy_94 : decode cX5_pruneBy 94 = .ok (.invokevirtual 160, 3) := by decide +kernel
theorem dX5_pruneBy_97 : decode cX5_pruneBy 97 = .ok (.ireturn, 1) := by decide +kernel
theorem dX5_setWay_0 : decode cX5_setWay 0 = .ok (.iload_n 1, 1) := by decide +kernel
theorem dX5_setWay_1 : decode cX5_setWay 1 = .ok (.iload_n 2, 1) := by decide +kernel
theorem dX5_setWay_2 : decode cX5_setWay 2 = .ok (.invokestatic 169, 3) := by decide +kernel
theorem dX5_setWay_5 : decode cX5_setWay 5 = .ok (.ifCond .ne 13, 3) := by decide +kernel
theorem dX5_setWay_8 : decode cX5_setWay 8 = .ok (.new 78, 3) := by decide +kernel
theorem dX5_setWay_11 : decode cX5_setWay 11 = .ok (.dup, 1) := by decide +kernel
theorem dX5_setWay_12 : decode cX5_setWay 12 = .ok (.ldc 173, 2) := by decide +kernel
theorem dX5_setWay_14 : decode cX5_setWay 14 = .ok (.invokespecial 82, 3) := by decide +kernel
theorem dX5_setWay_17 : decode cX5_setWay 17 = .ok (.athrow, 1) := by decide +kernel
theorem dX5_setWay_18 : decode cX5_setWay 18 = .ok (.aload_n 0, 1) := by decide +kernel
theorem dX5_setWay_19 : decode cX5_setWay 19 = .ok (.getfield 21, 3) := by decide +kernel
theorem dX5_setWay_22 : decode cX5_setWay 22 = .ok (.getfield 175, 3) := by decide +kernel
theorem dX5_setWay_25 : decode cX5_setWay 25 = .ok (.istore_n 3, 1) := by decide +kernel
theorem dX5_setWay_26 : decode cX5_setWay 26 = .ok (.aload_n 0, 1) := by decide +kernel
theorem dX5_setWay_27 : decode cX5_setWay 27 = .ok (.getfield 21, 3) := by decide +kernel
theorem dX5_setWay_30 : decode cX5_setWay 30 = .ok (.iload_n 1, 1) := by decide +kernel
theorem dX5_setWay_31 : decode cX5_setWay 31 = .ok (.putfield 175, 3) := by decide +kernel
theorem dX5_setWay_34 : decode cX5_setWay 34 = .ok (.aload_n 0, 1) := by decide +kernel
theorem dX5_setWay_35 : decode cX5_setWay 35 = .ok (.getfield 21, 3) := by decide +kernel
theorem dX5_setWay_38 : decode cX5_setWay 38 = .ok (.iload_n 2, 1) := by decide +kernel
theorem dX5_setWay_39 : decode cX5_setWay 39 = .ok (.putfield 178, 3) := by decide +kernel
theorem dX5_setWay_42 : decode cX5_setWay 42 = .ok (.iload_n 3, 1) := by decide +kernel
theorem dX5_setWay_43 : decode cX5_setWay 43 = .ok (.ireturn, 1) := by decide +kernel
theorem dX5_chance_0 : decode cX5_chance 0 = .ok (.iload_n 1, 1) := by decide +kernel
theorem dX5_chance_1 : decode cX5_chance 1 = .ok (.ifCond .lt 14, 3) := by decide +kernel
theorem dX5_chance_4 : decode cX5_chance 4 = .ok (.iload_n 1, 1) := by decide +kernel
theorem dX5_chance_5 : decode cX5_chance 5 = .ok (.aload_n 0, 1) := by decide +kernel
theorem dX5_chance_6 : decode cX5_chance 6 = .ok (.getfield 10, 3) := by decide +kernel
theorem dX5_chance_9 : decode cX5_chance 9 = .ok (.getfield 65, 3) := by decide +kernel
theorem dX5_chance_12 : decode cX5_chance 12 = .ok (.if_icmp .le 13, 3) := by decide +kernel
theorem dX5_chance_15 : decode cX5_chance 15 = .ok (.new 90, 3) := by decide +kernel
theorem dX5_chance_18 : decode cX5_chance 18 = .ok (.dup, 1) := by decide +kernel
theorem dX5_chance_19 : decode cX5_chance 19 = .ok (.ldc 181, 2) := by decide +kernel
theorem dX5_chance_21 : decode cX5_chance 21 = .ok (.invokespecial 94, 3) := by decide +kernel
theorem dX5_chance_24 : decode cX5_chance 24 = .ok (.athrow, 1) := by decide +kernel
theorem dX5_chance_25 : decode cX5_chance 25 = .ok (.aload_n 0, 1) := by decide +kernel
theorem dX5_chance_26 : decode cX5_chance 26 = .ok (.invokevirtual 183, 3) := by decide +kernel
theorem dX5_chance_29 : decode cX5_chance 29 = .ok (.aload_n 0, 1) := by decide +kernel
theorem dX5_chance_30 : decode cX5_chance 30 = .ok (.getfield 21, 3) := by decide +kernel
theorem dX5_chance_33 : decode cX5_chance 33 = .ok (.getfield 186, 3) := by decide +kernel
theorem dX5_chance_36 : decode cX5_chance 36 = .ok (.iload_n 1, 1) := by decide +kernel
theorem dX5_chance_37 : decode cX5_chance 37 = .ok (.iaload, 1) := by decide +kernel
theorem dX5_chance_38 : decode cX5_chance 38 = .ok (.ireturn, 1) := by decide +kernel
theorem dX5_ranked_0 : decode cX5_ranked 0 = .ok (.iload_n 1, 1) := by decide +kernel
theorem dX5_ranked_1 : decode cX5_ranked 1 = .ok (.ifCond .lt 14, 3) := by decide +kernel
theorem dX5_ranked_4 : decode cX5_ranked 4 = .ok (.iload_n 1, 1) := by decide +kernel
theorem dX5_ranked_5 : decode cX5_ranked 5 = .ok (.aload_n 0, 1) := by decide +kernel
theorem dX5_ranked_6 : decode cX5_ranked 6 = .ok (.getfield 10, 3) := by decide +kernel
theorem dX5_ranked_9 : decode cX5_ranked 9 = .ok (.getfield 65, 3) := by decide +kernel
theorem dX5_ranked_12 : decode cX5_ranked 12 = .ok (.if_icmp .le 13, 3) := by decide +kernel
theorem dX5_ranked_15 : decode cX5_ranked 15 = .ok (.new 90, 3) := by decide +kernel
theorem dX5_ranked_18 : decode cX5_ranked 18 = .ok (.dup, 1) := by decide +kernel
theorem dX5_ranked_19 : decode cX5_ranked 19 = .ok (.ldc 189, 2) := by decide +kernel
theorem dX5_ranked_21 : decode cX5_ranked 21 = .ok (.invokespecial 94, 3) := by decide +kernel
theorem dX5_ranked_24 : decode cX5_ranked 24 = .ok (.athrow, 1) := by decide +kernel
theorem dX5_ranked_25 : decode cX5_ranked 25 = .ok (.aload_n 0, 1) := by decide +kernel
theorem dX5_ranked_26 : decode cX5_ranked 26 = .ok (.invokevirtual 183, 3) := by decide +kernel
theorem dX5_ranked_29 : decode cX5_ranked 29 = .ok (.aload_n 0, 1) := by decide +kernel
theorem dX5_ranked_30 : decode cX5_ranked 30 = .ok (.getfield 21, 3) := by decide +kernel
theorem dX5_ranked_33 : decode cX5_ranked 33 = .ok (.iload_n 1, 1) := by decide +kernel
theorem dX5_ranked_34 : decode cX5_ranked 34 = .ok (.invokevirtual 191, 3) := by decide +kernel
theorem dX5_ranked_37 : decode cX5_ranked 37 = .ok (.ireturn, 1) := by decide +kernel
theorem dX5_costOf_0 : decode cX5_costOf 0 = .ok (.iload_n 1, 1) := by decide +kernel
theorem dX5_costOf_1 : decode cX5_costOf 1 = .ok (.invokestatic 194, 3) := by decide +kernel
theorem dX5_costOf_4 : decode cX5_costOf 4 = .ok (.ireturn, 1) := by decide +kernel
theorem dX5_score_0 : decode cX5_score 0 = .ok (.aload_n 0, 1) := by decide +kernel
theorem dX5_score_1 : decode cX5_score 1 = .ok (.invokevirtual 197, 3) := by decide +kernel
theorem dX5_score_4 : decode cX5_score 4 = .ok (.ireturn, 1) := by decide +kernel
theorem dX5_meanCost_0 : decode cX5_meanCost 0 = .ok (.aload_n 0, 1) := by decide +kernel
theorem dX5_meanCost_1 : decode cX5_meanCost 1 = .ok (.invokevirtual 197, 3) := by decide +kernel
theorem dX5_meanCost_4 : decode cX5_meanCost 4 = .ok (.i2d, 1) := by decide +kernel
theorem dX5_meanCost_5 : decode cX5_meanCost 5 = .ok (.aload_n 0, 1) := by decide +kernel
theorem dX5_meanCost_6 : decode cX5_meanCost 6 = .ok (.getfield 51, 3) := by decide +kernel
theorem dX5_meanCost_9 : decode cX5_meanCost 9 = .ok (.iconst 1, 1) := by decide +kernel
theorem dX5_meanCost_10 : decode cX5_meanCost 10 = .ok (.iadd, 1) := by decide +kernel
theorem dX5_meanCost_11 : decode cX5_meanCost 11 = .ok (.i2d, 1) := by decide +kernel
theorem dX5_meanCost_12 : decode cX5_meanCost 12 = .ok (.ddiv, 1) := by decide +kernel
theorem dX5_meanCost_13 : decode cX5_meanCost 13 = .ok (.dreturn, 1) := by decide +kernel
theorem dX5_complete_0 : decode cX5_complete 0 = .ok (.iload_n 1, 1) := by decide +kernel
theorem dX5_complete_1 : decode cX5_complete 1 = .ok (.aload_n 0, 1) := by decide +kernel
theorem dX5_complete_2 : decode cX5_complete 2 = .ok (.getfield 51, 3) := by decide +kernel
theorem dX5_complete_5 : decode cX5_complete 5 = .ok (.if_icmp .lt 9, 3) := by decide +kernel
theorem dX5_complete_8 : decode cX5_complete 8 = .ok (.iload_n 1, 1) := by decide +kernel
theorem dX5_complete_9 : decode cX5_complete 9 = .ok (.bipush 12, 2) := by decide +kernel
theorem dX5_complete_11 : decode cX5_complete 11 = .ok (.if_icmp .le 13, 3) := by decide +kernel
theorem dX5_complete_14 : decode cX5_complete 14 = .ok (.new 78, 3) := by decide +kernel
theorem dX5_complete_17 : decode cX5_complete 17 = .ok (.dup, 1) := by decide +kernel
theorem dX5_complete_18 : decode cX5_complete 18 = .ok (.ldc 200, 2) := by decide +kernel
theorem dX5_complete_20 : decode cX5_complete 20 = .ok (.invokespecial 82, 3) := by decide +kernel
theorem dX5_complete_23 : decode cX5_complete 23 = .ok (.athrow, 1) := by decide +kernel
theorem dX5_complete_24 : decode cX5_complete 24 = .ok (.aload_n 0, 1) := by decide +kernel
theorem dX5_complete_25 : decode cX5_complete 25 = .ok (.getfield 10, 3) := by decide +kernel
theorem dX5_complete_28 : decode cX5_complete 28 = .ok (.getfield 65, 3) := by decide +kernel
theorem dX5_complete_31 : decode cX5_complete 31 = .ok (.ifCond .ne 13, 3) := by decide +kernel
theorem dX5_complete_34 : decode cX5_complete 34 = .ok (.new 68, 3) := by decide +kernel
theorem dX5_complete_37 : decode cX5_complete 37 = .ok (.dup, 1) := by decide +kernel
theorem dX5_complete_38 : decode cX5_complete 38 = .ok (.ldc 103, 2) := by decide +kernel
theorem dX5_complete_40 : decode cX5_complete 40 = .ok (.invokespecial 72, 3) := by decide +kernel
theorem dX5_complete_43 : decode cX5_complete 43 = .ok (.athrow, 1) := by decide +kernel
theorem dX5_setLuck_0 : decode cX5_setLuck 0 = .ok (.iload_n 1, 1) := by decide +kernel
theorem dX5_setLuck_1 : decode cX5_setLuck 1 = .ok (.ifCond .lt 10, 3) := by decide +kernel
theorem dX5_setLuck_4 : decode cX5_setLuck 4 = .ok (.iload_n 1, 1) := by decide +kernel
theorem dX5_setLuck_5 : decode cX5_setLuck 5 = .ok (.sipush 10000, 3) := by decide +kernel
theorem dX5_setLuck_8 : decode cX5_setLuck 8 = .ok (.if_icmp .lt 13, 3) := by decide +kernel
theorem dX5_setLuck_11 : decode cX5_setLuck 11 = .ok (.new 78, 3) := by decide +kernel
theorem dX5_setLuck_14 : decode cX5_setLuck 14 = .ok (.dup, 1) := by decide +kernel
theorem dX5_setLuck_15 : decode cX5_setLuck 15 = .ok (.ldc 215, 2) := by decide +kernel
theorem dX5_setLuck_17 : decode cX5_setLuck 17 = .ok (.invokespecial 82, 3) := by decide +kernel
theorem dX5_setLuck_20 : decode cX5_setLuck 20 = .ok (.athrow, 1) := by decide +kernel
theorem dX5_setLuck_21 : decode cX5_setLuck 21 = .ok (.aload_n 0, 1) := by decide +kernel
theorem dX5_setLuck_22 : decode cX5_setLuck 22 = .ok (.getfield 55, 3) := by decide +kernel
theorem dX5_setLuck_25 : decode cX5_setLuck 25 = .ok (.istore_n 2, 1) := by decide +kernel
theorem dX5_setLuck_26 : decode cX5_setLuck 26 = .ok (.aload_n 0, 1) := by decide +kernel
theorem dX5_setLuck_27 : decode cX5_setLuck 27 = .ok (.iload_n 1, 1) := by decide +kernel
theorem dX5_setLuck_28 : decode cX5_setLuck 28 = .ok (.putfield 55, 3) := by decide +kernel
theorem dX5_setLuck_31 : decode cX5_setLuck 31 = .ok (.iload_n 2, 1) := by decide +kernel
theorem dX5_setLuck_32 : decode cX5_setLuck 32 = .ok (.ireturn, 1) := by decide +kernel
theorem dX5_addStep_0 : decode cX5_addStep 0 = .ok (.aload_n 0, 1) := by decide +kernel
theorem dX5_addStep_1 : decode cX5_addStep 1 = .ok (.iload_n 1, 1) := by decide +kernel
theorem dX5_addStep_2 : decode cX5_addStep 2 = .ok (.iload_n 2, 1) := by decide +kernel
theorem dX5_addStep_3 : decode cX5_addStep 3 = .ok (.invokevirtual 217, 3) := by decide +kernel
theorem dX5_addStep_6 : decode cX5_addStep 6 = .ok (.ifCond .ne 13, 3) := by decide +kernel
theorem dX5_addStep_9 : decode cX5_addStep 9 = .ok (.new 78, 3) := by decide +kernel
theorem dX5_addStep_12 : decode cX5_addStep 12 = .ok (.dup, 1) := by decide +kernel
theorem dX5_addStep_13 : decode cX5_addStep 13 = .ok (.ldc 220, 2) := by decide +kernel
theorem dX5_addStep_15 : decode cX5_addStep 15 = .ok (.invokespecial 82, 3) := by decide +kernel
theorem dX5_addStep_18 : decode cX5_addStep 18 = .ok (.athrow, 1) := by decide +kernel
theorem dX5_addStep_19 : decode cX5_addStep 19 = .ok (.aload_n 0, 1) := by decide +kernel
theorem dX5_addStep_20 : decode cX5_addStep 20 = .ok (.getfield 37, 3) := by decide +kernel
theorem dX5_addStep_23 : decode cX5_addStep 23 = .ok (.getfield 222, 3) := by decide +kernel
theorem dX5_addStep_26 : decode cX5_addStep 26 = .ok (.bipush 12, 2) := by decide +kernel
theorem dX5_addStep_28 : decode cX5_addStep 28 = .ok (.if_icmp .lt 13, 3) := by decide +kernel
theorem dX5_addStep_41 : decode cX5_addStep 41 = .ok (.aload_n 0, 1) := by decide +kernel
theorem dX5_addStep_42 : decode cX5_addStep 42 = .ok (.getfield 37, 3) := by decide +kernel
theorem dX5_addStep_45 : decode cX5_addStep 45 = .ok (.iload_n 1, 1) := by decide +kernel
theorem dX5_addStep_46 : decode cX5_addStep 46 = .ok (.iload_n 2, 1) := by decide +kernel
theorem dX5_addStep_47 : decode cX5_addStep 47 = .ok (.invokevirtual 225, 3) := by decide +kernel
theorem dX5_addStep_50 : decode cX5_addStep 50 = .ok (.ireturn, 1) := by decide +kernel
theorem dX5_clearScript_0 : decode cX5_clearScript 0 = .ok (.aload_n 0, 1) := by decide +kernel
theorem dX5_clearScript_1 : decode cX5_clearScript 1 = .ok (.getfield 37, 3) := by decide +kernel
theorem dX5_clearScript_4 : decode cX5_clearScript 4 = .ok (.getfield 222, 3) := by decide +kernel
theorem dX5_clearScript_7 : decode cX5_clearScript 7 = .ok (.istore_n 1, 1) := by decide +kernel
theorem dX5_clearScript_8 : decode cX5_clearScript 8 = .ok (.aload_n 0, 1) := by decide +kernel
theorem dX5_clearScript_9 : decode cX5_clearScript 9 = .ok (.getfield 37, 3) := by decide +kernel
theorem dX5_clearScript_12 : decode cX5_clearScript 12 = .ok (.iconst 0, 1) := by decide +kernel
theorem dX5_clearScript_13 : decode cX5_clearScript 13 = .ok (.putfield 222, 3) := by decide +kernel
theorem dX5_clearScript_16 : decode cX5_clearScript 16 = .ok (.iload_n 1, 1) := by decide +kernel
theorem dX5_clearScript_17 : decode cX5_clearScript 17 = .ok (.ireturn, 1) := by decide +kernel
theorem dX5_runScript_0 : decode cX5_runScript 0 = .ok (.aload_n 0, 1) := by decide +kernel
theorem dX5_runScript_1 : decode cX5_runScript 1 = .ok (.getfield 10, 3) := by decide +kernel
theorem dX5_runScript_4 : decode cX5_runScript 4 = .ok (.getfield 65, 3) := by decide +kernel
theorem dX5_runScript_7 : decode cX5_runScript 7 = .ok (.ifCond .eq 13, 3) := by decide +kernel
theorem dX5_runScript_20 : decode cX5_runScript 20 = .ok (.new 68, 3) := by decide +kernel
theorem dX5_runScript_23 : decode cX5_runScript 23 = .ok (.dup, 1) := by decide +kernel
theorem dX5_runScript_24 : decode cX5_runScript 24 = .ok (.ldc 227, 2) := by decide +kernel
theorem dX5_runScript_26 : decode cX5_runScript 26 = .ok (.invokespecial 72, 3) := by decide +kernel
theorem dX5_runScript_29 : decode cX5_runScript 29 = .ok (.athrow, 1) := by decide +kernel
theorem dX5_hasEnded_0 : decode cX5_hasEnded 0 = .ok (.aload_n 0, 1) := by decide +kernel
theorem dX5_hasEnded_1 : decode cX5_hasEnded 1 = .ok (.getfield 61, 3) := by decide +kernel
theorem dX5_hasEnded_4 : decode cX5_hasEnded 4 = .ok (.ireturn, 1) := by decide +kernel
theorem dX5_luck_0 : decode cX5_luck 0 = .ok (.aload_n 0, 1) := by decide +kernel
theorem dX5_luck_1 : decode cX5_luck 1 = .ok (.getfield 55, 3) := by decide +kernel
theorem dX5_luck_4 : decode cX5_luck 4 = .ok (.ireturn, 1) := by decide +kernel
theorem dX5_draws_0 : decode cX5_draws 0 = .ok (.aload_n 0, 1) := by decide +kernel
theorem dX5_draws_1 : decode cX5_draws 1 = .ok (.getfield 58, 3) := by decide +kernel
theorem dX5_draws_4 : decode cX5_draws 4 = .ok (.ireturn, 1) := by decide +kernel
theorem dX5_scoreLearned_0 : decode cX5_scoreLearned 0 = .ok (.iload_n 1, 1) := by decide +kernel
theorem dX5_scoreLearned_1 : decode cX5_scoreLearned 1 = .ok (.iconst 1, 1) := by decide +kernel
theorem dX5_scoreLearned_2 : decode cX5_scoreLearned 2 = .ok (.if_icmp .lt 9, 3) := by decide +kernel
theorem dX5_scoreLearned_5 : decode cX5_scoreLearned 5 = .ok (.iload_n 1, 1) := by decide +kernel
theorem dX5_scoreLearned_6 : decode cX5_scoreLearned 6 = .ok (.bipush 100, 2) := by decide +kernel
theorem dX5_scoreLearned_8 : decode cX5_scoreLearned 8 = .ok (.if_icmp .le 13, 3) := by decide +kernel
theorem dX5_scoreLearned_11 : decode cX5_scoreLearned 11 = .ok (.new 78, 3) := by decide +kernel
theorem dX5_scoreLearned_14 : decode cX5_scoreLearned 14 = .ok (.dup, 1) := by decide +kernel
theorem dX5_scoreLearned_15 : decode cX5_scoreLearned 15 = .ok (.ldc 101, 2) := by decide +kernel
theorem dX5_scoreLearned_17 : decode cX5_scoreLearned 17 = .ok (.invokespecial 82, 3) := by decide +kernel
theorem dX5_scoreLearned_20 : decode cX5_scoreLearned 20 = .ok (.athrow, 1) := by decide +kernel
theorem dX5_scoreLearned_21 : decode cX5_scoreLearned 21 = .ok (.aload_n 0, 1) := by decide +kernel
theorem dX5_scoreLearned_22 : decode cX5_scoreLearned 22 = .ok (.getfield 10, 3) := by decide +kernel
theorem dX5_scoreLearned_25 : decode cX5_scoreLearned 25 = .ok (.getfield 65, 3) := by decide +kernel
theorem dX5_scoreLearned_28 : decode cX5_scoreLearned 28 = .ok (.ifCond .ne 13, 3) := by decide +kernel
theorem dX5_scoreLearned_31 : decode cX5_scoreLearned 31 = .ok (.new 68, 3) := by decide +kernel
theorem dX5_scoreLearned_34 : decode cX5_scoreLearned 34 = .ok (.dup, 1) := by decide +kernel
theorem dX5_scoreLearned_35 : decode cX5_scoreLearned 35 = .ok (.ldc 103, 2) := by decide +kernel
theorem dX5_scoreLearned_37 : decode cX5_scoreLearned 37 = .ok (.invokespecial 72, 3) := by decide +kernel
theorem dX5_scoreLearned_40 : decode cX5_scoreLearned 40 = .ok (.athrow, 1) := by decide +kernel
theorem dX5_scoreBy_0 : decode cX5_scoreBy 0 = .ok (.iload_n 1, 1) := by decide +kernel
theorem dX5_scoreBy_1 : decode cX5_scoreBy 1 = .ok (.iload_n 2, 1) := by decide +kernel
theorem dX5_scoreBy_2 : decode cX5_scoreBy 2 = .ok (.invokestatic 169, 3) := by decide +kernel
theorem dX5_scoreBy_5 : decode cX5_scoreBy 5 = .ok (.ifCond .ne 13, 3) := by decide +kernel
theorem dX5_scoreBy_8 : decode cX5_scoreBy 8 = .ok (.new 78, 3) := by decide +kernel
theorem dX5_scoreBy_11 : decode cX5_scoreBy 11 = .ok (.dup, 1) := by decide +kernel
theorem dX5_scoreBy_12 : decode cX5_scoreBy 12 = .ok (.ldc 173, 2) := by decide +kernel
theorem dX5_scoreBy_14 : decode cX5_scoreBy 14 = .ok (.invokespecial 82, 3) := by decide +kernel
theorem dX5_scoreBy_17 : decode cX5_scoreBy 17 = .ok (.athrow, 1) := by decide +kernel
theorem dX5_scoreBy_18 : decode cX5_scoreBy 18 = .ok (.aload_n 0, 1) := by decide +kernel
theorem dX5_scoreBy_19 : decode cX5_scoreBy 19 = .ok (.getfield 21, 3) := by decide +kernel
theorem dX5_scoreBy_22 : decode cX5_scoreBy 22 = .ok (.getfield 175, 3) := by decide +kernel
theorem dX5_scoreBy_25 : decode cX5_scoreBy 25 = .ok (.istore_n 3, 1) := by decide +kernel
theorem dX5_scoreBy_26 : decode cX5_scoreBy 26 = .ok (.aload_n 0, 1) := by decide +kernel
theorem dX5_scoreBy_27 : decode cX5_scoreBy 27 = .ok (.getfield 21, 3) := by decide +kernel
theorem dX5_scoreBy_30 : decode cX5_scoreBy 30 = .ok (.getfield 178, 3) := by decide +kernel
theorem dX5_scoreBy_33 : decode cX5_scoreBy 33 = .ok (.istore 4, 2) := by decide +kernel
theorem dX5_scoreBy_35 : decode cX5_scoreBy 35 = .ok (.aload_n 0, 1) := by decide +kernel
theorem dX5_scoreBy_36 : decode cX5_scoreBy 36 = .ok (.getfield 21, 3) := by decide +kernel
theorem dX5_scoreBy_39 : decode cX5_scoreBy 39 = .ok (.iload_n 1, 1) := by decide +kernel
theorem dX5_scoreBy_40 : decode cX5_scoreBy 40 = .ok (.putfield 175, 3) := by decide +kernel
theorem dX5_scoreBy_43 : decode cX5_scoreBy 43 = .ok (.aload_n 0, 1) := by decide +kernel
theorem dX5_scoreBy_44 : decode cX5_scoreBy 44 = .ok (.getfield 21, 3) := by decide +kernel
theorem dX5_scoreBy_47 : decode cX5_scoreBy 47 = .ok (.iload_n 2, 1) := by decide +kernel
theorem dX5_scoreBy_48 : decode cX5_scoreBy 48 = .ok (.putfield 178, 3) := by decide +kernel
theorem dX5_scoreBy_51 : decode cX5_scoreBy 51 = .ok (.aload_n 0, 1) := by decide +kernel
theorem dX5_scoreBy_52 : decode cX5_scoreBy 52 = .ok (.invokevirtual 197, 3) := by decide +kernel
theorem dX5_scoreBy_55 : decode cX5_scoreBy 55 = .ok (.istore 5, 2) := by decide +kernel
theorem dX5_scoreBy_57 : decode cX5_scoreBy 57 = .ok (.aload_n 0, 1) := by decide +kernel
theorem dX5_scoreBy_58 : decode cX5_scoreBy 58 = .ok (.getfield 21, 3) := by decide +kernel
theorem dX5_scoreBy_61 : decode cX5_scoreBy 61 = .ok (.iload_n 3, 1) := by decide +kernel
theorem dX5_scoreBy_62 : decode cX5_scoreBy 62 = .ok (.putfield 175, 3) := by decide +kernel
theorem dX5_scoreBy_65 : decode cX5_scoreBy 65 = .ok (.aload_n 0, 1) := by decide +kernel
theorem dX5_scoreBy_66 : decode cX5_scoreBy 66 = .ok (.getfield 21, 3) := by decide +kernel
theorem dX5_scoreBy_69 : decode cX5_scoreBy 69 = .ok (.iload 4, 2) := by decide +kernel
theorem dX5_scoreBy_71 : decode cX5_scoreBy 71 = .ok (.putfield 178, 3) := by decide +kernel
theorem dX5_scoreBy_74 : decode cX5_scoreBy 74 = .ok (.iload 5, 2) := by decide +kernel
theorem dX5_scoreBy_76 : decode cX5_scoreBy 76 = .ok (.ireturn, 1) := by decide +kernel
theorem dX5_wouldDraw_0 : decode cX5_wouldDraw 0 = .ok (.aload_n 0, 1) := by decide +kernel
theorem dX5_wouldDraw_1 : decode cX5_wouldDraw 1 = .ok (.getfield 10, 3) := by decide +kernel
theorem dX5_wouldDraw_4 : decode cX5_wouldDraw 4 = .ok (.getfield 65, 3) := by decide +kernel
theorem dX5_wouldDraw_7 : decode cX5_wouldDraw 7 = .ok (.ifCond .ne 13, 3) := by decide +kernel
theorem dX5_wouldDraw_10 : decode cX5_wouldDraw 10 = .ok (.new 68, 3) := by decide +kernel
theorem dX5_wouldDraw_13 : decode cX5_wouldDraw 13 = .ok (.dup, 1) := by decide +kernel
theorem dX5_wouldDraw_14 : decode cX5_wouldDraw 14 = .ok (.ldc 103, 2) := by decide +kernel
theorem dX5_wouldDraw_16 : decode cX5_wouldDraw 16 = .ok (.invokespecial 72, 3) := by decide +kernel
theorem dX5_wouldDraw_19 : decode cX5_wouldDraw 19 = .ok (.athrow, 1) := by decide +kernel
theorem dX5_digest_0 : decode cX5_digest 0 = .ok (.ldc2_w 253, 3) := by decide +kernel
theorem dX5_digest_3 : decode cX5_digest 3 = .ok (.lstore_n 1, 1) := by decide +kernel
theorem dX5_digest_4 : decode cX5_digest 4 = .ok (.lload_n 1, 1) := by decide +kernel
theorem dX5_digest_5 : decode cX5_digest 5 = .ok (.aload_n 0, 1) := by decide +kernel
theorem dX5_digest_6 : decode cX5_digest 6 = .ok (.getfield 10, 3) := by decide +kernel
theorem dX5_digest_9 : decode cX5_digest 9 = .ok (.getfield 65, 3) := by decide +kernel
theorem dX5_digest_12 : decode cX5_digest 12 = .ok (.i2l, 1) := by decide +kernel
theorem dX5_digest_13 : decode cX5_digest 13 = .ok (.invokestatic 255, 3) := by decide +kernel
theorem dX5_digest_16 : decode cX5_digest 16 = .ok (.lstore_n 1, 1) := by decide +kernel
theorem dX5_digest_17 : decode cX5_digest 17 = .ok (.lload_n 1, 1) := by decide +kernel
theorem dX5_digest_18 : decode cX5_digest 18 = .ok (.aload_n 0, 1) := by decide +kernel
theorem dX5_digest_19 : decode cX5_digest 19 = .ok (.getfield 10, 3) := by decide +kernel
theorem dX5_digest_22 : decode cX5_digest 22 = .ok (.getfield 83, 3) := by decide +kernel
theorem dX5_digest_25 : decode cX5_digest 25 = .ok (.i2l, 1) := by decide +kernel
theorem dX5_digest_26 : decode cX5_digest 26 = .ok (.invokestatic 255, 3) := by decide +kernel
theorem dX5_digest_29 : decode cX5_digest 29 = .ok (.lstore_n 1, 1) := by decide +kernel
theorem dX5_digest_30 : decode cX5_digest 30 = .ok (.lload_n 1, 1) := by decide +kernel
theorem dX5_digest_31 : decode cX5_digest 31 = .ok (.aload_n 0, 1) := by decide +kernel
theorem dX5_digest_32 : decode cX5_digest 32 = .ok (.getfield 51, 3) := by decide +kernel
theorem dX5_digest_35 : decode cX5_digest 35 = .ok (.i2l, 1) := by decide +kernel
theorem dX5_digest_36 : decode cX5_digest 36 = .ok (.invokestatic 255, 3) := by decide +kernel
theorem dX5_digest_39 : decode cX5_digest 39 = .ok (.lstore_n 1, 1) := by decide +kernel
theorem dX5_digest_40 : decode cX5_digest 40 = .ok (.iconst 0, 1) := by decide +kernel
theorem dX5_digest_41 : decode cX5_digest 41 = .ok (.istore_n 3, 1) := by decide +kernel
theorem dX5_digest_42 : decode cX5_digest 42 = .ok (.iload_n 3, 1) := by decide +kernel
theorem dX5_digest_43 : decode cX5_digest 43 = .ok (.aload_n 0, 1) := by decide +kernel
theorem dX5_digest_44 : decode cX5_digest 44 = .ok (.getfield 51, 3) := by decide +kernel
theorem dX5_digest_47 : decode cX5_digest 47 = .ok (.if_icmp .ge 21, 3) := by decide +kernel
theorem dX5_digest_68 : decode cX5_digest 68 = .ok (.iconst 1, 1) := by decide +kernel
theorem dX5_digest_69 : decode cX5_digest 69 = .ok (.istore_n 3, 1) := by decide +kernel
theorem dX5_digest_70 : decode cX5_digest 70 = .ok (.iload_n 3, 1) := by decide +kernel
theorem dX5_digest_71 : decode cX5_digest 71 = .ok (.aload_n 0, 1) := by decide +kernel
theorem dX5_digest_72 : decode cX5_digest 72 = .ok (.getfield 10, 3) := by decide +kernel
theorem dX5_digest_75 : decode cX5_digest 75 = .ok (.getfield 83, 3) := by decide +kernel
theorem dX5_digest_78 : decode cX5_digest 78 = .ok (.if_icmp .gt 16, 3) := by decide +kernel
theorem dX5_digest_81 : decode cX5_digest 81 = .ok (.aload_n 0, 1) := by decide +kernel
theorem dX5_digest_82 : decode cX5_digest 82 = .ok (.lload_n 1, 1) := by decide +kernel
theorem dX5_digest_83 : decode cX5_digest 83 = .ok (.iload_n 3, 1) := by decide +kernel
theorem dX5_digest_84 : decode cX5_digest 84 = .ok (.invokevirtual 259, 3) := by decide +kernel
theorem dX5_digest_87 : decode cX5_digest 87 = .ok (.lstore_n 1, 1) := by decide +kernel
theorem dX5_digest_88 : decode cX5_digest 88 = .ok (.iinc 3 1, 3) := by decide +kernel
theorem dX5_digest_91 : decode cX5_digest 91 = .ok (.goto (-21), 3) := by decide +kernel
theorem dX5_digest_94 : decode cX5_digest 94 = .ok (.iconst 1, 1) := by decide +kernel
theorem dX5_digest_95 : decode cX5_digest 95 = .ok (.istore_n 3, 1) := by decide +kernel
theorem dX5_digest_96 : decode cX5_digest 96 = .ok (.iload_n 3, 1) := by decide +kernel
theorem dX5_digest_97 : decode cX5_digest 97 = .ok (.aload_n 0, 1) := by decide +kernel
theorem dX5_digest_98 : decode cX5_digest 98 = .ok (.getfield 10, 3) := by decide +kernel
theorem dX5_digest_101 : decode cX5_digest 101 = .ok (.getfield 83, 3) := by decide +kernel
theorem dX5_digest_104 : decode cX5_digest 104 = .ok (.if_icmp .gt 33, 3) := by decide +kernel
theorem dX5_digest_107 : decode cX5_digest 107 = .ok (.lload_n 1, 1) := by decide +kernel
theorem dX5_digest_108 : decode cX5_digest 108 = .ok (.aload_n 0, 1) := by decide +kernel
theorem dX5_digest_109 : decode cX5_digest 109 = .ok (.iload_n 3, 1) := by decide +kernel
theorem dX5_digest_110 : decode cX5_digest 110 = .ok (.iconst 0, 1) := by decide +kernel
theorem dX5_digest_111 : decode cX5_digest 111 = .ok (.invokevirtual 154, 3) := by decide +kernel
theorem dX5_digest_114 : decode cX5_digest 114 = .ok (.i2l, 1) := by decide +kernel
theorem dX5_digest_115 : decode cX5_digest 115 = .ok (.invokestatic 255, 3) := by decide +kernel
theorem dX5_digest_118 : decode cX5_digest 118 = .ok (.lstore_n 1, 1) := by decide +kernel
theorem dX5_digest_119 : decode cX5_digest 119 = .ok (.lload_n 1, 1) := by decide +kernel
theorem dX5_digest_120 : decode cX5_digest 120 = .ok (.aload_n 0, 1) := by decide +kernel
theorem dX5_digest_121 : decode cX5_digest 121 = .ok (.iload_n 3, 1) := by decide +kernel
theorem dX5_digest_122 : decode cX5_digest 122 = .ok (.iconst 1, 1) := by decide +kernel
theorem dX5_digest_123 : decode cX5_digest 123 = .ok (.invokevirtual 154, 3) := by decide +kernel
theorem dX5_digest_126 : decode cX5_digest 126 = .ok (.i2l, 1) := by decide +kernel
theorem dX5_digest_127 : decode cX5_digest 127 = .ok (.invokestatic 255, 3) := by decide +kernel
theorem dX5_digest_130 : decode cX5_digest 130 = .ok (.lstore_n 1, 1) := by decide +kernel
theorem dX5_digest_131 : decode cX5_digest 131 = .ok (.iinc 3 1, 3) := by decide +kernel
theorem dX5_digest_134 : decode cX5_digest 134 = .ok (.goto (-38), 3) := by decide +kernel
theorem dX5_digest_137 : decode cX5_digest 137 = .ok (.aload_n 0, 1) := by decide +kernel
theorem dX5_digest_138 : decode cX5_digest 138 = .ok (.lload_n 1, 1) := by decide +kernel
theorem dX5_digest_139 : decode cX5_digest 139 = .ok (.invokevirtual 263, 3) := by decide +kernel
theorem dX5_digest_142 : decode cX5_digest 142 = .ok (.lstore_n 1, 1) := by decide +kernel
theorem dX5_digest_143 : decode cX5_digest 143 = .ok (.lload_n 1, 1) := by decide +kernel
theorem dX5_digest_144 : decode cX5_digest 144 = .ok (.aload_n 0, 1) := by decide +kernel
theorem dX5_digest_145 : decode cX5_digest 145 = .ok (.invokevirtual 197, 3) := by decide +kernel
theorem dX5_digest_148 : decode cX5_digest 148 = .ok (.i2l, 1) := by decide +kernel
theorem dX5_digest_149 : decode cX5_digest 149 = .ok (.invokestatic 255, 3) := by decide +kernel
theorem dX5_digest_152 : decode cX5_digest 152 = .ok (.lstore_n 1, 1) := by decide +kernel
theorem dX5_digest_153 : decode cX5_digest 153 = .ok (.lload_n 1, 1) := by decide +kernel
theorem dX5_digest_154 : decode cX5_digest 154 = .ok (.aload_n 0, 1) := by decide +kernel
theorem dX5_digest_155 : decode cX5_digest 155 = .ok (.getfield 55, 3) := by decide +kernel
theorem dX5_digest_158 : decode cX5_digest 158 = .ok (.i2l, 1) := by decide +kernel
theorem dX5_digest_159 : decode cX5_digest 159 = .ok (.invokestatic 255, 3) := by decide +kernel
theorem dX5_digest_162 : decode cX5_digest 162 = .ok (.lstore_n 1, 1) := by decide +kernel
theorem dX5_digest_163 : decode cX5_digest 163 = .ok (.lload_n 1, 1) := by decide +kernel
theorem dX5_digest_164 : decode cX5_digest 164 = .ok (.aload_n 0, 1) := by decide +kernel
theorem dX5_digest_165 : decode cX5_digest 165 = .ok (.getfield 58, 3) := by decide +kernel
theorem dX5_digest_168 : decode cX5_digest 168 = .ok (.i2l, 1) := by decide +kernel
theorem dX5_digest_169 : decode cX5_digest 169 = .ok (.invokestatic 255, 3) := by decide +kernel
theorem dX5_digest_172 : decode cX5_digest 172 = .ok (.lstore_n 1, 1) := by decide +kernel
theorem dX5_digest_173 : decode cX5_digest 173 = .ok (.lload_n 1, 1) := by decide +kernel
theorem dX5_digest_174 : decode cX5_digest 174 = .ok (.aload_n 0, 1) := by decide +kernel
theorem dX5_digest_175 : decode cX5_digest 175 = .ok (.getfield 61, 3) := by decide +kernel
theorem dX5_digest_178 : decode cX5_digest 178 = .ok (.ifCond .eq 7, 3) := by decide +kernel
theorem dX5_digest_185 : decode cX5_digest 185 = .ok (.lconst 0, 1) := by decide +kernel
theorem dX5_digest_186 : decode cX5_digest 186 = .ok (.invokestatic 255, 3) := by decide +kernel
theorem dX5_digest_189 : decode cX5_digest 189 = .ok (.lreturn, 1) := by decide +kernel
theorem dX5_isWord_0 : decode cX5_isWord 0 = .ok (.iload_n 1, 1) := by decide +kernel
theorem dX5_isWord_1 : decode cX5_isWord 1 = .ok (.ifCond .lt 18, 3) := by decide +kernel
theorem dX5_isWord_4 : decode cX5_isWord 4 = .ok (.iload_n 1, 1) := by decide +kernel
theorem dX5_isWord_5 : decode cX5_isWord 5 = .ok (.aload_n 0, 1) := by decide +kernel
theorem dX5_isWord_6 : decode cX5_isWord 6 = .ok (.getfield 10, 3) := by decide +kernel
theorem dX5_isWord_9 : decode cX5_isWord 9 = .ok (.getfield 65, 3) := by decide +kernel
theorem dX5_isWord_12 : decode cX5_isWord 12 = .ok (.if_icmp .ge 7, 3) := by decide +kernel
theorem dX5_isWord_19 : decode cX5_isWord 19 = .ok (.iconst 0, 1) := by decide +kernel
theorem dX5_isWord_20 : decode cX5_isWord 20 = .ok (.ireturn, 1) := by decide +kernel
theorem dX5_isOrder_0 : decode cX5_isOrder 0 = .ok (.iload_n 1, 1) := by decide +kernel
theorem dX5_isOrder_1 : decode cX5_isOrder 1 = .ok (.iconst 1, 1) := by decide +kernel
theorem dX5_isOrder_2 : decode cX5_isOrder 2 = .ok (.if_icmp .lt 18, 3) := by decide +kernel
theorem dX5_isOrder_5 : decode cX5_isOrder 5 = .ok (.iload_n 1, 1) := by decide +kernel
theorem dX5_isOrder_6 : decode cX5_isOrder 6 = .ok (.aload_n 0, 1) := by decide +kernel
theorem dX5_isOrder_7 : decode cX5_isOrder 7 = .ok (.getfield 10, 3) := by decide +kernel
theorem dX5_isOrder_10 : decode cX5_isOrder 10 = .ok (.getfield 83, 3) := by decide +kernel
theorem dX5_isOrder_13 : decode cX5_isOrder 13 = .ok (.if_icmp .gt 7, 3) := by decide +kernel
theorem dX5_isOrder_16 : decode cX5_isOrder 16 = .ok (.iconst 1, 1) := by decide +kernel
theorem dX5_isOrder_17 : decode cX5_isOrder 17 = .ok (.goto 4, 3) := by decide +kernel
theorem dX5_isOrder_20 : decode cX5_isOrder 20 = .ok (.iconst 0, 1) := by decide +kernel
theorem dX5_isOrder_21 : decode cX5_isOrder 21 = .ok (.ireturn, 1) := by decide +kernel
theorem dX5_isWay_0 : decode cX5_isWay 0 = .ok (.iload_n 0, 1) := by decide +kernel
theorem dX5_isWay_1 : decode cX5_isWay 1 = .ok (.ifCond .lt 24, 3) := by decide +kernel
theorem dX5_isWay_4 : decode cX5_isWay 4 = .ok (.iload_n 0, 1) := by decide +kernel
theorem dX5_isWay_5 : decode cX5_isWay 5 = .ok (.iconst 4, 1) := by decide +kernel
theorem dX5_isWay_6 : decode cX5_isWay 6 = .ok (.if_icmp .gt 19, 3) := by decide +kernel
theorem dX5_isWay_9 : decode cX5_isWay 9 = .ok (.iload_n 1, 1) := by decide +kernel
theorem dX5_isWay_10 : decode cX5_isWay 10 = .ok (.iconst 1, 1) := by decide +kernel
theorem dX5_isWay_11 : decode cX5_isWay 11 = .ok (.if_icmp .lt 14, 3) := by decide +kernel
theorem dX5_isWay_14 : decode cX5_isWay 14 = .ok (.iload_n 1, 1) := by decide +kernel
theorem dX5_isWay_15 : decode cX5_isWay 15 = .ok (.sipush 1000, 3) := by decide +kernel
theorem dX5_isWay_18 : decode cX5_isWay 18 = .ok (.if_icmp .gt 7, 3) := by decide +kernel
theorem dX5_isWay_21 : decode cX5_isWay 21 = .ok (.iconst 1, 1) := by decide +kernel
theorem dX5_isWay_22 : decode cX5_isWay 22 = .ok (.goto 4, 3) := by decide +kernel
theorem dX5_isWay_25 : decode cX5_isWay 25 = .ok (.iconst 0, 1) := by decide +kernel
theorem dX5_isWay_26 : decode cX5_isWay 26 = .ok (.ireturn, 1) := by decide +kernel
theorem dX5_isStep_0 : decode cX5_isStep 0 = .ok (.iload_n 1, 1) := by decide +kernel
theorem dX5_isStep_1 : decode cX5_isStep 1 = .ok (.tableswitch 89 0 5 #[39, 39, 41, 72, 47, 72], 39) := by decide +kernel
theorem dX5_isStep_40 : decode cX5_isStep 40 = .ok (.iconst 1, 1) := by decide +kernel
theorem dX5_isStep_41 : decode cX5_isStep 41 = .ok (.ireturn, 1) := by decide +kernel
theorem dX5_isStep_42 : decode cX5_isStep 42 = .ok (.aload_n 0, 1) := by decide +kernel
theorem dX5_isStep_43 : decode cX5_isStep 43 = .ok (.iload_n 2, 1) := by decide +kernel
theorem dX5_isStep_44 : decode cX5_isStep 44 = .ok (.invokevirtual 86, 3) := by decide +kernel
theorem dX5_isStep_47 : decode cX5_isStep 47 = .ok (.ireturn, 1) := by decide +kernel
theorem dX5_isStep_48 : decode cX5_isStep 48 = .ok (.aload_n 0, 1) := by decide +kernel
theorem dX5_isStep_49 : decode cX5_isStep 49 = .ok (.iload_n 2, 1) := by decide +kernel
theorem dX5_isStep_50 : decode cX5_isStep 50 = .ok (.invokevirtual 86, 3) := by decide +kernel
theorem dX5_isStep_53 : decode cX5_isStep 53 = .ok (.ifCond .ne 14, 3) := by decide +kernel
theorem dX5_isStep_56 : decode cX5_isStep 56 = .ok (.iload_n 2, 1) := by decide +kernel
theorem dX5_isStep_57 : decode cX5_isStep 57 = .ok (.aload_n 0, 1) := by decide +kernel
theorem dX5_isStep_58 : decode cX5_isStep 58 = .ok (.getfield 10, 3) := by decide +kernel
theorem dX5_isStep_61 : decode cX5_isStep 61 = .ok (.getfield 65, 3) := by decide +kernel
theorem dX5_isStep_64 : decode cX5_isStep 64 = .ok (.if_icmp .ne 7, 3) := by decide +kernel
theorem dX5_isStep_67 : decode cX5_isStep 67 = .ok (.iconst 1, 1) := by decide +kernel
theorem dX5_isStep_68 : decode cX5_isStep 68 = .ok (.goto 4, 3) := by decide +kernel
theorem dX5_isStep_71 : decode cX5_isStep 71 = .ok (.iconst 0, 1) := by decide +kernel
theorem dX5_isStep_72 : decode cX5_isStep 72 = .ok (.ireturn, 1) := by decide +kernel
theorem dX5_isStep_73 : decode cX5_isStep 73 = .ok (.iload_n 2, 1) := by decide +kernel
theorem dX5_isStep_74 : decode cX5_isStep 74 = .ok (.iconst 1, 1) := by decide +kernel
theorem dX5_isStep_75 : decode cX5_isStep 75 = .ok (.if_icmp .lt 13, 3) := by decide +kernel
theorem dX5_isStep_78 : decode cX5_isStep 78 = .ok (.iload_n 2, 1) := by decide +kernel
theorem dX5_isStep_79 : decode cX5_isStep 79 = .ok (.bipush 12, 2) := by decide +kernel
theorem dX5_isStep_81 : decode cX5_isStep 81 = .ok (.if_icmp .gt 7, 3) := by decide +kernel
theorem dX5_isStep_84 : decode cX5_isStep 84 = .ok (.iconst 1, 1) := by decide +kernel
theorem dX5_isStep_85 : decode cX5_isStep 85 = .ok (.goto 4, 3) := by decide +kernel
theorem dX5_isStep_88 : decode cX5_isStep 88 = .ok (.iconst 0, 1) := by decide +kernel
theorem dX5_isStep_89 : decode cX5_isStep 89 = .ok (.ireturn, 1) := by decide +kernel
theorem dX5_isStep_90 : decode cX5_isStep 90 = .ok (.iconst 0, 1) := by decide +kernel
theorem dX5_isStep_91 : decode cX5_isStep 91 = .ok (.ireturn, 1) := by decide +kernel
theorem dX5_digitAt_0 : decode cX5_digitAt 0 = .ok (.iload_n 1, 1) := by decide +kernel
theorem dX5_digitAt_1 : decode cX5_digitAt 1 = .ok (.ifCond .ge 5, 3) := by decide +kernel
theorem dX5_digitAt_4 : decode cX5_digitAt 4 = .ok (.iconst 0, 1) := by decide +kernel
theorem dX5_digitAt_5 : decode cX5_digitAt 5 = .ok (.ireturn, 1) := by decide +kernel
theorem dX5_digitAt_6 : decode cX5_digitAt 6 = .ok (.iload_n 1, 1) := by decide +kernel
theorem dX5_digitAt_7 : decode cX5_digitAt 7 = .ok (.aload_n 0, 1) := by decide +kernel
theorem dX5_digitAt_8 : decode cX5_digitAt 8 = .ok (.getfield 51, 3) := by decide +kernel
theorem dX5_digitAt_11 : decode cX5_digitAt 11 = .ok (.if_icmp .ge 14, 3) := by decide +kernel
theorem dX5_digitAt_25 : decode cX5_digitAt 25 = .ok (.aload_n 0, 1) := by decide +kernel
theorem dX5_digitAt_26 : decode cX5_digitAt 26 = .ok (.getfield 10, 3) := by decide +kernel
theorem dX5_digitAt_29 : decode cX5_digitAt 29 = .ok (.getfield 65, 3) := by decide +kernel
theorem dX5_digitAt_32 : decode cX5_digitAt 32 = .ok (.iconst 1, 1) := by decide +kernel
theorem dX5_digitAt_33 : decode cX5_digitAt 33 = .ok (.iadd, 1) := by decide +kernel
theorem dX5_digitAt_34 : decode cX5_digitAt 34 = .ok (.ireturn, 1) := by decide +kernel
theorem dX5_keyUpTo_0 : decode cX5_keyUpTo 0 = .ok (.iconst 0, 1) := by decide +kernel
theorem dX5_keyUpTo_1 : decode cX5_keyUpTo 1 = .ok (.istore_n 3, 1) := by decide +kernel
theorem dX5_keyUpTo_2 : decode cX5_keyUpTo 2 = .ok (.iload_n 1, 1) := by decide +kernel
theorem dX5_keyUpTo_3 : decode cX5_keyUpTo 3 = .ok (.iload_n 2, 1) := by decide +kernel
theorem dX5_keyUpTo_4 : decode cX5_keyUpTo 4 = .ok (.isub, 1) := by decide +kernel
theorem dX5_keyUpTo_5 : decode cX5_keyUpTo 5 = .ok (.iconst 1, 1) := by decide +kernel
theorem dX5_keyUpTo_6 : decode cX5_keyUpTo 6 = .ok (.iadd, 1) := by decide +kernel
theorem dX5_keyUpTo_7 : decode cX5_keyUpTo 7 = .ok (.istore 4, 2) := by decide +kernel
theorem dX5_keyUpTo_9 : decode cX5_keyUpTo 9 = .ok (.iload 4, 2) := by decide +kernel
theorem dX5_keyUpTo_11 : decode cX5_keyUpTo 11 = .ok (.iload_n 1, 1) := by decide +kernel
theorem dX5_keyUpTo_12 : decode cX5_keyUpTo 12 = .ok (.if_icmp .gt 21, 3) := by decide +kernel
theorem dX5_keyUpTo_15 : decode cX5_keyUpTo 15 = .ok (.iload_n 3, 1) := by decide +kernel
theorem dX5_keyUpTo_16 : decode cX5_keyUpTo 16 = .ok (.bipush 14, 2) := by decide +kernel
theorem dX5_keyUpTo_18 : decode cX5_keyUpTo 18 = .ok (.imul, 1) := by decide +kernel
theorem dX5_keyUpTo_19 : decode cX5_keyUpTo 19 = .ok (.aload_n 0, 1) := by decide +kernel
theorem dX5_keyUpTo_20 : decode cX5_keyUpTo 20 = .ok (.iload 4, 2) := by decide +kernel
theorem dX5_keyUpTo_22 : decode cX5_keyUpTo 22 = .ok (.invokevirtual 267, 3) := by decide +kernel
theorem dX5_keyUpTo_25 : decode cX5_keyUpTo 25 = .ok (.iadd, 1) := by decide +kernel
theorem dX5_keyUpTo_26 : decode cX5_keyUpTo 26 = .ok (.istore_n 3, 1) := by decide +kernel
theorem dX5_keyUpTo_27 : decode cX5_keyUpTo 27 = .ok (.iinc 4 1, 3) := by decide +kernel
theorem dX5_keyUpTo_30 : decode cX5_keyUpTo 30 = .ok (.goto (-21), 3) := by decide +kernel
theorem dX5_keyUpTo_33 : decode cX5_keyUpTo 33 = .ok (.iload_n 3, 1) := by decide +kernel
theorem dX5_keyUpTo_34 : decode cX5_keyUpTo 34 = .ok (.ireturn, 1) := by decide +kernel
theorem dX5_canTakeSentence_0 : decode cX5_canTakeSentence 0 = .ok (.iconst 1, 1) := by decide +kernel
theorem dX5_canTakeSentence_1 : decode cX5_canTakeSentence 1 = .ok (.istore_n 1, 1) := by decide +kernel
theorem dX5_canTakeSentence_2 : decode cX5_canTakeSentence 2 = .ok (.iload_n 1, 1) := by decide +kernel
theorem dX5_canTakeSentence_3 : decode cX5_canTakeSentence 3 = .ok (.aload_n 0, 1) := by decide +kernel
theorem dX5_canTakeSentence_4 : decode cX5_canTakeSentence 4 = .ok (.getfield 10, 3) := by decide +kernel
theorem dX5_canTakeSentence_7 : decode cX5_canTakeSentence 7 = .ok (.getfield 83, 3) := by decide +kernel
theorem dX5_canTakeSentence_10 : decode cX5_canTakeSentence 10 = .ok (.if_icmp .gt 55, 3) := by decide +kernel
theorem dX5_canTakeSentence_13 : decode cX5_canTakeSentence 13 = .ok (.iconst 0, 1) := by decide +kernel
theorem dX5_canTakeSentence_14 : decode cX5_canTakeSentence 14 = .ok (.istore_n 2, 1) := by decide +kernel
theorem dX5_canTakeSentence_15 : decode cX5_canTakeSentence 15 = .ok (.iload_n 2, 1) := by decide +kernel
theorem dX5_canTakeSentence_16 : decode cX5_canTakeSentence 16 = .ok (.aload_n 0, 1) := by decide +kernel
theorem dX5_canTakeSentence_17 : decode cX5_canTakeSentence 17 = .ok (.getfield 51, 3) := by decide +kernel
theorem dX5_canTakeSentence_20 : decode cX5_canTakeSentence 20 = .ok (.if_icmp .gt 39, 3) := by decide +kernel
theorem dX5_canTakeSentence_23 : decode cX5_canTakeSentence 23 = .ok (.aload_n 0, 1) := by decide +kernel
theorem dX5_canTakeSentence_24 : decode cX5_canTakeSentence 24 = .ok (.iload_n 2, 1) := by decide +kernel
theorem dX5_canTakeSentence_25 : decode cX5_canTakeSentence 25 = .ok (.iload_n 1, 1) := by decide +kernel
theorem dX5_canTakeSentence_26 : decode cX5_canTakeSentence 26 = .ok (.invokevirtual 202, 3) := by decide +kernel
theorem dX5_canTakeSentence_29 : decode cX5_canTakeSentence 29 = .ok (.istore_n 3, 1) := by decide +kernel
theorem dX5_canTakeSentence_30 : decode cX5_canTakeSentence 30 = .ok (.aload_n 0, 1) := by decide +kernel
theorem dX5_canTakeSentence_31 : decode cX5_canTakeSentence 31 = .ok (.getfield 10, 3) := by decide +kernel
theorem dX5_canTakeSentence_34 : decode cX5_canTakeSentence 34 = .ok (.iload_n 1, 1) := by decide +kernel
theorem dX5_canTakeSentence_35 : decode cX5_canTakeSentence 35 = .ok (.invokevirtual 131, 3) := by decide +kernel
theorem dX5_canTakeSentence_38 : decode cX5_canTakeSentence 38 = .ok (.iload_n 3, 1) := by decide +kernel
theorem dX5_canTakeSentence_39 : decode cX5_canTakeSentence 39 = .ok (.invokevirtual 278, 3) := by decide +kernel
theorem dX5_canTakeSentence_42 : decode cX5_canTakeSentence 42 = .ok (.aload_n 0, 1) := by decide +kernel
theorem dX5_canTakeSentence_43 : decode cX5_canTakeSentence 43 = .ok (.iload_n 3, 1) := by decide +kernel
theorem dX5_canTakeSentence_44 : decode cX5_canTakeSentence 44 = .ok (.iload_n 1, 1) := by decide +kernel
theorem dX5_canTakeSentence_45 : decode cX5_canTakeSentence 45 = .ok (.invokevirtual 281, 3) := by decide +kernel
theorem dX5_canTakeSentence_48 : decode cX5_canTakeSentence 48 = .ok (.if_icmp .ge 5, 3) := by decide +kernel
theorem dX5_canTakeSentence_51 : decode cX5_canTakeSentence 51 = .ok (.iconst 0, 1) := by decide +kernel
theorem dX5_canTakeSentence_52 : decode cX5_canTakeSentence 52 = .ok (.ireturn, 1) := by decide +kernel
theorem dX5_timesInSentence_0 : decode cX5_timesInSentence 0 = .ok (.iconst 0, 1) := by decide +kernel
theorem dX5_timesInSentence_1 : decode cX5_timesInSentence 1 = .ok (.istore_n 3, 1) := by decide +kernel
theorem dX5_timesInSentence_2 : decode cX5_timesInSentence 2 = .ok (.iconst 0, 1) := by decide +kernel
theorem dX5_timesInSentence_3 : decode cX5_timesInSentence 3 = .ok (.istore 4, 2) := by decide +kernel
theorem dX5_timesInSentence_5 : decode cX5_timesInSentence 5 = .ok (.iload 4, 2) := by decide +kernel
theorem dX5_timesInSentence_7 : decode cX5_timesInSentence 7 = .ok (.aload_n 0, 1) := by decide +kernel
theorem dX5_timesInSentence_8 : decode cX5_timesInSentence 8 = .ok (.getfield 51, 3) := by decide +kernel
theorem dX5_timesInSentence_11 : decode cX5_timesInSentence 11 = .ok (.if_icmp .gt 23, 3) := by decide +kernel
theorem dX5_timesInSentence_14 : decode cX5_timesInSentence 14 = .ok (.aload_n 0, 1) := by decide +kernel
theorem dX5_timesInSentence_15 : decode cX5_timesInSentence 15 = .ok (.iload 4, 2) := by decide +kernel
theorem dX5_timesInSentence_17 : decode cX5_timesInSentence 17 = .ok (.iload_n 2, 1) := by decide +kernel
theorem dX5_timesInSentence_18 : decode cX5_timesInSentence 18 = .ok (.invokevirtual 202, 3) := by decide +kernel
theorem dX5_timesInSentence_21 : decode cX5_timesInSentence 21 = .ok (.iload_n 1, 1) := by decide +kernel
theorem dX5_timesInSentence_22 : decode cX5_timesInSentence 22 = .ok (.if_icmp .ne 6, 3) := by decide +kernel
theorem dX5_timesInSentence_25 : decode cX5_timesInSentence 25 = .ok (.iinc 3 1, 3) := by decide +kernel
theorem dX5_timesInSentence_28 : decode cX5_timesInSentence 28 = .ok (.iinc 4 1, 3) := by decide +kernel
theorem dX5_timesInSentence_31 : decode cX5_timesInSentence 31 = .ok (.goto (-26), 3) := by decide +kernel
theorem dX5_timesInSentence_34 : decode cX5_timesInSentence 34 = .ok (.iload_n 3, 1) := by decide +kernel
theorem dX5_timesInSentence_35 : decode cX5_timesInSentence 35 = .ok (.ireturn, 1) := by decide +kernel
theorem dX5_totalBehind_0 : decode cX5_totalBehind 0 = .ok (.aload_n 0, 1) := by decide +kernel
theorem dX5_totalBehind_1 : decode cX5_totalBehind 1 = .ok (.getfield 21, 3) := by decide +kernel
theorem dX5_totalBehind_4 : decode cX5_totalBehind 4 = .ok (.aload_n 0, 1) := by decide +kernel
theorem dX5_totalBehind_5 : decode cX5_totalBehind 5 = .ok (.getfield 10, 3) := by decide +kernel
theorem dX5_totalBehind_8 : decode cX5_totalBehind 8 = .ok (.iload_n 1, 1) := by decide +kernel
theorem dX5_totalBehind_9 : decode cX5_totalBehind 9 = .ok (.invokevirtual 131, 3) := by decide +kernel
theorem dX5_totalBehind_12 : decode cX5_totalBehind 12 = .ok (.aload_n 0, 1) := by decide +kernel
theorem dX5_totalBehind_13 : decode cX5_totalBehind 13 = .ok (.aload_n 0, 1) := by decide +kernel
theorem dX5_totalBehind_14 : decode cX5_totalBehind 14 = .ok (.getfield 51, 3) := by decide +kernel
theorem dX5_totalBehind_17 : decode cX5_totalBehind 17 = .ok (.iconst 1, 1) := by decide +kernel
theorem dX5_totalBehind_18 : decode cX5_totalBehind 18 = .ok (.isub, 1) := by decide +kernel
theorem dX5_totalBehind_19 : decode cX5_totalBehind 19 = .ok (.iload_n 1, 1) := by decide +kernel
theorem dX5_totalBehind_20 : decode cX5_totalBehind 20 = .ok (.iconst 1, 1) := by decide +kernel
theorem dX5_totalBehind_21 : decode cX5_totalBehind 21 = .ok (.isub, 1) := by decide +kernel
theorem dX5_totalBehind_22 : decode cX5_totalBehind 22 = .ok (.invokevirtual 202, 3) := by decide +kernel
theorem dX5_totalBehind_25 : decode cX5_totalBehind 25 = .ok (.invokevirtual 287, 3) := by decide +kernel
theorem dX5_totalBehind_28 : decode cX5_totalBehind 28 = .ok (.iload_n 2, 1) := by decide +kernel
theorem dX5_totalBehind_29 : decode cX5_totalBehind 29 = .ok (.ifCond .ne 14, 3) := by decide +kernel
theorem dX5_totalBehind_32 : decode cX5_totalBehind 32 = .ok (.aload_n 0, 1) := by decide +kernel
theorem dX5_totalBehind_33 : decode cX5_totalBehind 33 = .ok (.getfield 21, 3) := by decide +kernel
theorem dX5_totalBehind_36 : decode cX5_totalBehind 36 = .ok (.getfield 291, 3) := by decide +kernel
theorem dX5_totalBehind_39 : decode cX5_totalBehind 39 = .ok (.l2i, 1) := by decide +kernel
theorem dX5_totalBehind_40 : decode cX5_totalBehind 40 = .ok (.goto 10, 3) := by decide +kernel
theorem dX5_totalBehind_43 : decode cX5_totalBehind 43 = .ok (.aload_n 0, 1) := by decide +kernel
theorem dX5_totalBehind_44 : decode cX5_totalBehind 44 = .ok (.getfield 21, 3) := by decide +kernel
theorem dX5_totalBehind_47 : decode cX5_totalBehind 47 = .ok (.getfield 295, 3) := by decide +kernel
theorem dX5_totalBehind_50 : decode cX5_totalBehind 50 = .ok (.ireturn, 1) := by decide +kernel
theorem dX5_dropDoomed_0 : decode cX5_dropDoomed 0 = .ok (.iconst 0, 1) := by decide +kernel
theorem dX5_dropDoomed_1 : decode cX5_dropDoomed 1 = .ok (.istore_n 2, 1) := by decide +kernel
theorem dX5_dropDoomed_2 : decode cX5_dropDoomed 2 = .ok (.aload_n 0, 1) := by decide +kernel
theorem dX5_dropDoomed_3 : decode cX5_dropDoomed 3 = .ok (.getfield 10, 3) := by decide +kernel
theorem dX5_dropDoomed_6 : decode cX5_dropDoomed 6 = .ok (.iload_n 1, 1) := by decide +kernel
theorem dX5_dropDoomed_7 : decode cX5_dropDoomed 7 = .ok (.invokevirtual 131, 3) := by decide +kernel
theorem dX5_dropDoomed_10 : decode cX5_dropDoomed 10 = .ok (.getfield 135, 3) := by decide +kernel
theorem dX5_dropDoomed_13 : decode cX5_dropDoomed 13 = .ok (.iconst 1, 1) := by decide +kernel
theorem dX5_dropDoomed_14 : decode cX5_dropDoomed 14 = .ok (.isub, 1) := by decide +kernel
theorem dX5_dropDoomed_15 : decode cX5_dropDoomed 15 = .ok (.istore_n 3, 1) := by decide +kernel
theorem dX5_dropDoomed_16 : decode cX5_dropDoomed 16 = .ok (.iload_n 3, 1) := by decide +kernel
theorem dX5_dropDoomed_17 : decode cX5_dropDoomed 17 = .ok (.ifCond .lt 30, 3) := by decide +kernel
theorem dX5_dropDoomed_47 : decode cX5_dropDoomed 47 = .ok (.iload_n 2, 1) := by decide +kernel
theorem dX5_dropDoomed_48 : decode cX5_dropDoomed 48 = .ok (.ireturn, 1) := by decide +kernel
theorem dX5_cost_0 : decode cX5_cost 0 = .ok (.iload_n 0, 1) := by decide +kernel
theorem dX5_cost_1 : decode cX5_cost 1 = .ok (.ifCond .gt 7, 3) := by decide +kernel
theorem dX5_cost_4 : decode cX5_cost 4 = .ok (.ldc_w 309, 3) := by decide +kernel
theorem dX5_cost_7 : decode cX5_cost 7 = .ok (.ireturn, 1) := by decide +kernel
theorem dX5_cost_8 : decode cX5_cost 8 = .ok (.iload_n 0, 1) := by decide +kernel
theorem dX5_cost_9 : decode cX5_cost 9 = .ok (.ldc 163, 2) := by decide +kernel
theorem dX5_cost_11 : decode cX5_cost 11 = .ok (.if_icmp .lt 5, 3) := by decide +kernel
theorem dX5_cost_14 : decode cX5_cost 14 = .ok (.iconst 0, 1) := by decide +kernel
theorem dX5_cost_15 : decode cX5_cost 15 = .ok (.ireturn, 1) := by decide +kernel
theorem dX5_cost_16 : decode cX5_cost 16 = .ok (.iconst 0, 1) := by decide +kernel
theorem dX5_cost_17 : decode cX5_cost 17 = .ok (.istore_n 1, 1) := by decide +kernel
theorem dX5_cost_18 : decode cX5_cost 18 = .ok (.iload_n 1, 1) := by decide +kernel
theorem dX5_cost_19 : decode cX5_cost 19 = .ok (.bipush 19, 2) := by decide +kernel
theorem dX5_cost_21 : decode cX5_cost 21 = .ok (.if_icmp .ge 19, 3) := by decide +kernel
theorem dX5_cost_24 : decode cX5_cost 24 = .ok (.iload_n 0, 1) := by decide +kernel
theorem dX5_cost_25 : decode cX5_cost 25 = .ok (.ldc 163, 2) := by decide +kernel
theorem dX5_cost_27 : decode cX5_cost 27 = .ok (.iload_n 1, 1) := by decide +kernel
theorem dX5_cost_28 : decode cX5_cost 28 = .ok (.iconst 1, 1) := by decide +kernel
theorem dX5_cost_29 : decode cX5_cost 29 = .ok (.iadd, 1) := by decide +kernel
theorem dX5_cost_30 : decode cX5_cost 30 = .ok (.ishr, 1) := by decide +kernel
theorem dX5_cost_31 : decode cX5_cost 31 = .ok (.if_icmp .gt 9, 3) := by decide +kernel
theorem dX5_cost_34 : decode cX5_cost 34 = .ok (.iinc 1 1, 3) := by decide +kernel
theorem dX5_cost_37 : decode cX5_cost 37 = .ok (.goto (-19), 3) := by decide +kernel
theorem dX5_cost_40 : decode cX5_cost 40 = .ok (.ldc 163, 2) := by decide +kernel
theorem dX5_cost_42 : decode cX5_cost 42 = .ok (.iload_n 1, 1) := by decide +kernel
theorem dX5_cost_43 : decode cX5_cost 43 = .ok (.ishr, 1) := by decide +kernel
theorem dX5_cost_44 : decode cX5_cost 44 = .ok (.istore_n 2, 1) := by decide +kernel
theorem dX5_cost_45 : decode cX5_cost 45 = .ok (.ldc 163, 2) := by decide +kernel
theorem dX5_cost_47 : decode cX5_cost 47 = .ok (.iload_n 1, 1) := by decide +kernel
theorem dX5_cost_48 : decode cX5_cost 48 = .ok (.iconst 1, 1) := by decide +kernel
theorem dX5_cost_49 : decode cX5_cost 49 = .ok (.iadd, 1) := by decide +kernel
theorem dX5_cost_50 : decode cX5_cost 50 = .ok (.ishr, 1) := by decide +kernel
theorem dX5_cost_51 : decode cX5_cost 51 = .ok (.istore_n 3, 1) := by decide +kernel
theorem dX5_cost_52 : decode cX5_cost 52 = .ok (.sipush 1024, 3) := by decide +kernel
theorem dX5_cost_55 : decode cX5_cost 55 = .ok (.iload_n 1, 1) := by decide +kernel
theorem dX5_cost_56 : decode cX5_cost 56 = .ok (.imul, 1) := by decide +kernel
theorem dX5_cost_57 : decode cX5_cost 57 = .ok (.sipush 1024, 3) := by decide +kernel
theorem dX5_cost_60 : decode cX5_cost 60 = .ok (.iload_n 2, 1) := by decide +kernel
theorem dX5_cost_61 : decode cX5_cost 61 = .ok (.iload_n 0, 1) := by decide +kernel
theorem dX5_cost_62 : decode cX5_cost 62 = .ok (.isub, 1) := by decide +kernel
theorem dX5_cost_63 : decode cX5_cost 63 = .ok (.imul, 1) := by decide +kernel
theorem dX5_cost_64 : decode cX5_cost 64 = .ok (.iload_n 2, 1) := by decide +kernel
theorem dX5_cost_65 : decode cX5_cost 65 = .ok (.iload_n 3, 1) := by decide +kernel
theorem dX5_cost_66 : decode cX5_cost 66 = .ok (.isub, 1) := by decide +kernel
theorem dX5_cost_67 : decode cX5_cost 67 = .ok (.idiv, 1) := by decide +kernel
theorem dX5_cost_68 : decode cX5_cost 68 = .ok (.iadd, 1) := by decide +kernel
theorem dX5_cost_69 : decode cX5_cost 69 = .ok (.ireturn, 1) := by decide +kernel
theorem dX5_sumOfCosts_0 : decode cX5_sumOfCosts 0 = .ok (.iconst 0, 1) := by decide +kernel
theorem dX5_sumOfCosts_1 : decode cX5_sumOfCosts 1 = .ok (.istore_n 1, 1) := by decide +kernel
theorem dX5_sumOfCosts_2 : decode cX5_sumOfCosts 2 = .ok (.iconst 0, 1) := by decide +kernel
theorem dX5_sumOfCosts_3 : decode cX5_sumOfCosts 3 = .ok (.istore_n 2, 1) := by decide +kernel
theorem dX5_sumOfCosts_4 : decode cX5_sumOfCosts 4 = .ok (.iload_n 2, 1) := by decide +kernel
theorem dX5_sumOfCosts_5 : decode cX5_sumOfCosts 5 = .ok (.aload_n 0, 1) := by decide +kernel
theorem dX5_sumOfCosts_6 : decode cX5_sumOfCosts 6 = .ok (.getfield 51, 3) := by decide +kernel
theorem dX5_sumOfCosts_9 : decode cX5_sumOfCosts 9 = .ok (.if_icmp .gt 72, 3) := by decide +kernel
theorem dX5_sumOfCosts_12 : decode cX5_sumOfCosts 12 = .ok (.aload_n 0, 1) := by decide +kernel
theorem dX5_sumOfCosts_13 : decode cX5_sumOfCosts 13 = .ok (.getfield 21, 3) := by decide +kernel
theorem dX5_sumOfCosts_16 : decode cX5_sumOfCosts 16 = .ok (.aload_n 0, 1) := by decide +kernel
theorem dX5_sumOfCosts_17 : decode cX5_sumOfCosts 17 = .ok (.getfield 10, 3) := by decide +kernel
theorem dX5_sumOfCosts_20 : decode cX5_sumOfCosts 20 = .ok (.getfield 83, 3) := by decide +kernel
theorem dX5_sumOfCosts_23 : decode cX5_sumOfCosts 23 = .ok (.aload_n 0, 1) := by decide +kernel
theorem dX5_sumOfCosts_24 : decode cX5_sumOfCosts 24 = .ok (.iload_n 2, 1) := by decide +kernel
theorem dX5_sumOfCosts_25 : decode cX5_sumOfCosts 25 = .ok (.iconst 1, 1) := by decide +kernel
theorem dX5_sumOfCosts_26 : decode cX5_sumOfCosts 26 = .ok (.isub, 1) := by decide +kernel
theorem dX5_sumOfCosts_27 : decode cX5_sumOfCosts 27 = .ok (.aload_n 0, 1) := by decide +kernel
theorem dX5_sumOfCosts_28 : decode cX5_sumOfCosts 28 = .ok (.getfield 10, 3) := by decide +kernel
theorem dX5_sumOfCosts_31 : decode cX5_sumOfCosts 31 = .ok (.getfield 83, 3) := by decide +kernel
theorem dX5_sumOfCosts_34 : decode cX5_sumOfCosts 34 = .ok (.iconst 1, 1) := by decide +kernel
theorem dX5_sumOfCosts_35 : decode cX5_sumOfCosts 35 = .ok (.isub, 1) := by decide +kernel
theorem dX5_sumOfCosts_36 : decode cX5_sumOfCosts 36 = .ok (.invokevirtual 202, 3) := by decide +kernel
theorem dX5_sumOfCosts_39 : decode cX5_sumOfCosts 39 = .ok (.invokevirtual 298, 3) := by decide +kernel
theorem dX5_sumOfCosts_42 : decode cX5_sumOfCosts 42 = .ok (.aload_n 0, 1) := by decide +kernel
theorem dX5_sumOfCosts_43 : decode cX5_sumOfCosts 43 = .ok (.iload_n 2, 1) := by decide +kernel
theorem dX5_sumOfCosts_44 : decode cX5_sumOfCosts 44 = .ok (.invokevirtual 267, 3) := by decide +kernel
theorem dX5_sumOfCosts_47 : decode cX5_sumOfCosts 47 = .ok (.iconst 1, 1) := by decide +kernel
theorem dX5_sumOfCosts_48 : decode cX5_sumOfCosts 48 = .ok (.isub, 1) := by decide +kernel
theorem dX5_sumOfCosts_49 : decode cX5_sumOfCosts 49 = .ok (.istore_n 3, 1) := by decide +kernel
theorem dX5_sumOfCosts_50 : decode cX5_sumOfCosts 50 = .ok (.iload_n 3, 1) := by decide +kernel
theorem dX5_sumOfCosts_51 : decode cX5_sumOfCosts 51 = .ok (.ifCond .lt 24, 3) := by decide +kernel
theorem dX5_sumOfCosts_54 : decode cX5_sumOfCosts 54 = .ok (.iload_n 3, 1) := by decide +kernel
theorem dX5_sumOfCosts_55 : decode cX5_sumOfCosts 55 = .ok (.bipush 12, 2) := by decide +kernel
theorem dX5_sumOfCosts_57 : decode cX5_sumOfCosts 57 = .ok (.if_icmp .gt 18, 3) := by decide +kernel
theorem dX5_sumOfCosts_60 : decode cX5_sumOfCosts 60 = .ok (.iload_n 1, 1) := by decide +kernel
theorem dX5_sumOfCosts_61 : decode cX5_sumOfCosts 61 = .ok (.aload_n 0, 1) := by decide +kernel
theorem dX5_sumOfCosts_62 : decode cX5_sumOfCosts 62 = .ok (.getfield 21, 3) := by decide +kernel
theorem dX5_sumOfCosts_65 : decode cX5_sumOfCosts 65 = .ok (.getfield 186, 3) := by decide +kernel
theorem dX5_sumOfCosts_68 : decode cX5_sumOfCosts 68 = .ok (.iload_n 3, 1) := by decide +kernel
theorem dX5_sumOfCosts_69 : decode cX5_sumOfCosts 69 = .ok (.iaload, 1) := by decide +kernel
theorem dX5_sumOfCosts_70 : decode cX5_sumOfCosts 70 = .ok (.invokestatic 194, 3) := by decide +kernel
theorem dX5_sumOfCosts_73 : decode cX5_sumOfCosts 73 = .ok (.iadd, 1) := by decide +kernel
theorem dX5_sumOfCosts_74 : decode cX5_sumOfCosts 74 = .ok (.istore_n 1, 1) := by decide +kernel
theorem dX5_sumOfCosts_75 : decode cX5_sumOfCosts 75 = .ok (.iinc 2 1, 3) := by decide +kernel
theorem dX5_sumOfCosts_78 : decode cX5_sumOfCosts 78 = .ok (.goto (-74), 3) := by decide +kernel
theorem dX5_sumOfCosts_81 : decode cX5_sumOfCosts 81 = .ok (.iload_n 1, 1) := by decide +kernel
theorem dX5_sumOfCosts_82 : decode cX5_sumOfCosts 82 = .ok (.ireturn, 1) := by decide +kernel
theorem dX5_reckonBehindSentence_0 : decode cX5_reckonBehindSentence 0 = .ok (.aload_n 0, 1) := by decide +kernel
theorem dX5_reckonBehindSentence_1 : decode cX5_reckonBehindSentence 1 = .ok (.getfield 21, 3) := by decide +kernel
theorem dX5_reckonBehindSentence_4 : decode cX5_reckonBehindSentence 4 = .ok (.aload_n 0, 1) := by decide +kernel
theorem dX5_reckonBehindSentence_5 : decode cX5_reckonBehindSentence 5 = .ok (.getfield 10, 3) := by decide +kernel
theorem dX5_reckonBehindSentence_8 : decode cX5_reckonBehindSentence 8 = .ok (.getfield 83, 3) := by decide +kernel
theorem dX5_reckonBehindSentence_11 : decode cX5_reckonBehindSentence 11 = .ok (.aload_n 0, 1) := by decide +kernel
theorem dX5_reckonBehindSentence_12 : decode cX5_reckonBehindSentence 12 = .ok (.aload_n 0, 1) := by decide +kernel
theorem dX5_reckonBehindSentence_13 : decode cX5_reckonBehindSentence 13 = .ok (.getfield 51, 3) := by decide +kernel
theorem dX5_reckonBehindSentence_16 : decode cX5_reckonBehindSentence 16 = .ok (.iconst 1, 1) := by decide +kernel
theorem dX5_reckonBehindSentence_17 : decode cX5_reckonBehindSentence 17 = .ok (.isub, 1) := by decide +kernel
theorem dX5_reckonBehindSentence_18 : decode cX5_reckonBehindSentence 18 = .ok (.aload_n 0, 1) := by decide +kernel
theorem dX5_reckonBehindSentence_19 : decode cX5_reckonBehindSentence 19 = .ok (.getfield 10, 3) := by decide +kernel
theorem dX5_reckonBehindSentence_22 : decode cX5_reckonBehindSentence 22 = .ok (.getfield 83, 3) := by decide +kernel
theorem dX5_reckonBehindSentence_25 : decode cX5_reckonBehindSentence 25 = .ok (.iconst 1, 1) := by decide +kernel
theorem dX5_reckonBehindSentence_26 : decode cX5_reckonBehindSentence 26 = .ok (.isub, 1) := by decide +kernel
theorem dX5_reckonBehindSentence_27 : decode cX5_reckonBehindSentence 27 = .ok (.invokevirtual 202, 3) := by decide +kernel
theorem dX5_reckonBehindSentence_30 : decode cX5_reckonBehindSentence 30 = .ok (.invokevirtual 298, 3) := by decide +kernel
theorem dX5_reckonBehindSentence_33 : decode cX5_reckonBehindSentence 33 = .ok (.return_, 1) := by decide +kernel
theorem dX5_mix_0 : decode cX5_mix 0 = .ok (.lload_n 0, 1) := by decide +kernel
theorem dX5_mix_1 : decode cX5_mix 1 = .ok (.ldc2_w 319, 3) := by decide +kernel
theorem dX5_mix_4 : decode cX5_mix 4 = .ok (.lmul, 1) := by decide +kernel
theorem dX5_mix_5 : decode cX5_mix 5 = .ok (.lload_n 2, 1) := by decide +kernel
theorem dX5_mix_6 : decode cX5_mix 6 = .ok (.ladd, 1) := by decide +kernel
theorem dX5_mix_7 : decode cX5_mix 7 = .ok (.lreturn, 1) := by decide +kernel
theorem dX5_mixEntries_0 : decode cX5_mixEntries 0 = .ok (.aload_n 0, 1) := by decide +kernel
theorem dX5_mixEntries_1 : decode cX5_mixEntries 1 = .ok (.getfield 10, 3) := by decide +kernel
theorem dX5_mixEntries_4 : decode cX5_mixEntries 4 = .ok (.iload_n 3, 1) := by decide +kernel
theorem dX5_mixEntries_5 : decode cX5_mixEntries 5 = .ok (.invokevirtual 131, 3) := by decide +kernel
theorem dX5_mixEntries_8 : decode cX5_mixEntries 8 = .ok (.astore 4, 2) := by decide +kernel
theorem dX5_mixEntries_10 : decode cX5_mixEntries 10 = .ok (.lload_n 1, 1) := by decide +kernel
theorem dX5_mixEntries_11 : decode cX5_mixEntries 11 = .ok (.aload 4, 2) := by decide +kernel
theorem dX5_mixEntries_13 : decode cX5_mixEntries 13 = .ok (.getfield 135, 3) := by decide +kernel
theorem dX5_mixEntries_16 : decode cX5_mixEntries 16 = .ok (.i2l, 1) := by decide +kernel
theorem dX5_mixEntries_17 : decode cX5_mixEntries 17 = .ok (.invokestatic 255, 3) := by decide +kernel
theorem dX5_mixEntries_20 : decode cX5_mixEntries 20 = .ok (.lstore 5, 2) := by decide +kernel
theorem dX5_mixEntries_22 : decode cX5_mixEntries 22 = .ok (.iconst 0, 1) := by decide +kernel
theorem dX5_mixEntries_23 : decode cX5_mixEntries 23 = .ok (.istore 7, 2) := by decide +kernel
theorem dX5_mixEntries_25 : decode cX5_mixEntries 25 = .ok (.iload 7, 2) := by decide +kernel
theorem dX5_mixEntries_27 : decode cX5_mixEntries 27 = .ok (.aload 4, 2) := by decide +kernel
theorem dX5_mixEntries_29 : decode cX5_mixEntries 29 = .ok (.getfield 135, 3) := by decide +kernel
theorem dX5_mixEntries_32 : decode cX5_mixEntries 32 = .ok (.if_icmp .ge 63, 3) := by decide +kernel
theorem dX5_mixEntries_95 : decode cX5_mixEntries 95 = .ok (.lload 5, 2) := by decide +kernel
theorem dX5_mixEntries_97 : decode cX5_mixEntries 97 = .ok (.lreturn, 1) := by decide +kernel
theorem dX5_mixChances_0 : decode cX5_mixChances 0 = .ok (.lload_n 1, 1) := by decide +kernel
theorem dX5_mixChances_1 : decode cX5_mixChances 1 = .ok (.lstore_n 3, 1) := by decide +kernel
theorem dX5_mixChances_2 : decode cX5_mixChances 2 = .ok (.aload_n 0, 1) := by decide +kernel
theorem dX5_mixChances_3 : decode cX5_mixChances 3 = .ok (.invokevirtual 183, 3) := by decide +kernel
theorem dX5_mixChances_6 : decode cX5_mixChances 6 = .ok (.iconst 0, 1) := by decide +kernel
theorem dX5_mixChances_7 : decode cX5_mixChances 7 = .ok (.istore 5, 2) := by decide +kernel
theorem dX5_mixChances_9 : decode cX5_mixChances 9 = .ok (.iload 5, 2) := by decide +kernel
theorem dX5_mixChances_11 : decode cX5_mixChances 11 = .ok (.aload_n 0, 1) := by decide +kernel
theorem dX5_mixChances_12 : decode cX5_mixChances 12 = .ok (.getfield 10, 3) := by decide +kernel
theorem dX5_mixChances_15 : decode cX5_mixChances 15 = .ok (.getfield 65, 3) := by decide +kernel
theorem dX5_mixChances_18 : decode cX5_mixChances 18 = .ok (.if_icmp .gt 25, 3) := by decide +kernel
theorem dX5_mixChances_21 : decode cX5_mixChances 21 = .ok (.lload_n 3, 1) := by decide +kernel
theorem dX5_mixChances_22 : decode cX5_mixChances 22 = .ok (.aload_n 0, 1) := by decide +kernel
theorem dX5_mixChances_23 : decode cX5_mixChances 23 = .ok (.getfield 21, 3) := by decide +kernel
theorem dX5_mixChances_26 : decode cX5_mixChances 26 = .ok (.getfield 186, 3) := by decide +kernel
theorem dX5_mixChances_29 : decode cX5_mixChances 29 = .ok (.iload 5, 2) := by decide +kernel
theorem dX5_mixChances_31 : decode cX5_mixChances 31 = .ok (.iaload, 1) := by decide +kernel
theorem dX5_mixChances_32 : decode cX5_mixChances 32 = .ok (.i2l, 1) := by decide +kernel
theorem dX5_mixChances_33 : decode cX5_mixChances 33 = .ok (.invokestatic 255, 3) := by decide +kernel
theorem dX5_mixChances_36 : decode cX5_mixChances 36 = .ok (.lstore_n 3, 1) := by decide +kernel
theorem dX5_mixChances_37 : decode cX5_mixChances 37 = .ok (.iinc 5 1, 3) := by decide +kernel
theorem dX5_mixChances_40 : decode cX5_mixChances 40 = .ok (.goto (-31), 3) := by decide +kernel
theorem dX5_mixChances_43 : decode cX5_mixChances 43 = .ok (.iconst 0, 1) := by decide +kernel
theorem dX5_mixChances_44 : decode cX5_mixChances 44 = .ok (.istore 5, 2) := by decide +kernel
theorem dX5_mixChances_46 : decode cX5_mixChances 46 = .ok (.iload 5, 2) := by decide +kernel
theorem dX5_mixChances_48 : decode cX5_mixChances 48 = .ok (.aload_n 0, 1) := by decide +kernel
theorem dX5_mixChances_49 : decode cX5_mixChances 49 = .ok (.getfield 10, 3) := by decide +kernel
theorem dX5_mixChances_52 : decode cX5_mixChances 52 = .ok (.getfield 65, 3) := by decide +kernel
theorem dX5_mixChances_55 : decode cX5_mixChances 55 = .ok (.if_icmp .gt 24, 3) := by decide +kernel
theorem dX5_mixChances_58 : decode cX5_mixChances 58 = .ok (.lload_n 3, 1) := by decide +kernel
theorem dX5_mixChances_59 : decode cX5_mixChances 59 = .ok (.aload_n 0, 1) := by decide +kernel
theorem dX5_mixChances_60 : decode cX5_mixChances 60 = .ok (.getfield 21, 3) := by decide +kernel
theorem dX5_mixChances_63 : decode cX5_mixChances 63 = .ok (.iload 5, 2) := by decide +kernel
theorem dX5_mixChances_65 : decode cX5_mixChances 65 = .ok (.invokevirtual 191, 3) := by decide +kernel
theorem dX5_mixChances_68 : decode cX5_mixChances 68 = .ok (.i2l, 1) := by decide +kernel
theorem dX5_mixChances_69 : decode cX5_mixChances 69 = .ok (.invokestatic 255, 3) := by decide +kernel
theorem dX5_mixChances_72 : decode cX5_mixChances 72 = .ok (.lstore_n 3, 1) := by decide +kernel
theorem dX5_mixChances_73 : decode cX5_mixChances 73 = .ok (.iinc 5 1, 3) := by decide +kernel
theorem dX5_mixChances_76 : decode cX5_mixChances 76 = .ok (.goto (-30), 3) := by decide +kernel
theorem dX5_mixChances_79 : decode cX5_mixChances 79 = .ok (.lload_n 3, 1) := by decide +kernel
theorem dX5_mixChances_80 : decode cX5_mixChances 80 = .ok (.lreturn, 1) := by decide +kernel
theorem dX6_init_0 : decode cX6_init 0 = .ok (.aload_n 0, 1) := by decide +kernel
theorem dX6_init_1 : decode cX6_init 1 = .ok (.invokespecial 1, 3) := by decide +kernel
theorem dX6_init_4 : decode cX6_init 4 = .ok (.aload_n 0, 1) := by decide +kernel
theorem dX6_init_5 : decode cX6_init 5 = .ok (.iconst 2, 1) := by decide +kernel
theorem dX6_init_6 : decode cX6_init 6 = .ok (.putfield 7, 3) := by decide +kernel
theorem dX6_init_9 : decode cX6_init 9 = .ok (.aload_n 0, 1) := by decide +kernel
theorem dX6_init_10 : decode cX6_init 10 = .ok (.new 13, 3) := by decide +kernel
theorem dX6_init_13 : decode cX6_init 13 = .ok (.dup, 1) := by decide +kernel
theorem dX6_init_14 : decode cX6_init 14 = .ok (.invokespecial 15, 3) := by decide +kernel
theorem dX6_init_17 : decode cX6_init 17 = .ok (.putfield 16, 3) := by decide +kernel
theorem dX6_init_20 : decode cX6_init 20 = .ok (.aload_n 0, 1) := by decide +kernel
theorem dX6_init_21 : decode cX6_init 21 = .ok (.invokestatic 20, 3) := by decide +kernel
theorem dX6_init_24 : decode cX6_init 24 = .ok (.putfield 24, 3) := by decide +kernel
theorem dX6_init_27 : decode cX6_init 27 = .ok (.aload_n 0, 1) := by decide +kernel
theorem dX6_init_28 : decode cX6_init 28 = .ok (.sipush 500, 3) := by decide +kernel
theorem dX6_init_31 : decode cX6_init 31 = .ok (.putfield 28, 3) := by decide +kernel
theorem dX6_init_34 : decode cX6_init 34 = .ok (.aload_n 0, 1) := by decide +kernel
theorem dX6_init_35 : decode cX6_init 35 = .ok (.new 13, 3) := by decide +kernel
theorem dX6_init_38 : decode cX6_init 38 = .ok (.dup, 1) := by decide +kernel
theorem dX6_init_39 : decode cX6_init 39 = .ok (.invokespecial 15, 3) := by decide +kernel
theorem dX6_init_42 : decode cX6_init 42 = .ok (.putfield 31, 3) := by decide +kernel
theorem dX6_init_45 : decode cX6_init 45 = .ok (.return_, 1) := by decide +kernel
theorem dX6_tables_0 : decode cX6_tables 0 = .ok (.iconst 4, 1) := by decide +kernel
theorem dX6_tables_1 : decode cX6_tables 1 = .ok (.anewarray 34, 3) := by decide +kernel
theorem dX6_tables_4 : decode cX6_tables 4 = .ok (.astore_n 0, 1) := by decide +kernel
theorem dX6_tables_5 : decode cX6_tables 5 = .ok (.iconst 1, 1) := by decide +kernel
theorem dX6_tables_6 : decode cX6_tables 6 = .ok (.istore_n 1, 1) := by decide +kernel
theorem dX6_tables_7 : decode cX6_tables 7 = .ok (.iconst 0, 1) := by decide +kernel
theorem dX6_tables_8 : decode cX6_tables 8 = .ok (.istore_n 2, 1) := by decide +kernel
theorem dX6_tables_9 : decode cX6_tables 9 = .ok (.iload_n 2, 1) := by decide +kernel
theorem dX6_tables_10 : decode cX6_tables 10 = .ok (.iconst 4, 1) := by decide +kernel
theorem dX6_tables_11 : decode cX6_tables 11 = .ok (.if_icmp .ge 20, 3) := by decide +kernel
theorem dX6_tables_14 : decode cX6_tables 14 = .ok (.iload_n 1, 1) := by decide +kernel
theorem dX6_tables_15 : decode cX6_tables 15 = .ok (.bipush 14, 2) := by decide +kernel
theorem dX6_tables_17 : decode cX6_tables 17 = .ok (.imul, 1) := by decide +kernel
theorem dX6_tables_18 : decode cX6_tables 18 = .ok (.istore_n 1, 1) := by decide +kernel
theorem dX6_tables_19 : decode cX6_tables 19 = .ok (.aload_n 0, 1) := by decide +kernel
theorem dX6_tables_20 : decode cX6_tables 20 = .ok (.iload_n 2, 1) := by decide +kernel
theorem dX6_tables_21 : decode cX6_tables 21 = .ok (.iload_n 1, 1) := by decide +kernel
theorem dX6_tables_22 : decode cX6_tables 22 = .ok (.newarray .int, 2) := by decide +kernel
theorem dX6_tables_24 : decode cX6_tables 24 = .ok (.aastore, 1) := by decide +kernel
theorem dX6_tables_25 : decode cX6_tables 25 = .ok (.iinc 2 1, 3) := by decide +kernel
theorem dX6_tables_28 : decode cX6_tables 28 = .ok (.goto (-19), 3) := by decide +kernel
theorem dX6_tables_31 : decode cX6_tables 31 = .ok (.aload_n 0, 1) := by decide +kernel
theorem dX6_tables_32 : decode cX6_tables 32 = .ok (.areturn, 1) := by decide +kernel
theorem dX6_thrown_0 : decode cX6_thrown 0 = .ok (.aload_n 0, 1) := by decide +kernel
theorem dX6_thrown_1 : decode cX6_thrown 1 = .ok (.getfield 36, 3) := by decide +kernel
theorem dX6_thrown_4 : decode cX6_thrown 4 = .ok (.ireturn, 1) := by decide +kernel
theorem dX6_isIn_0 : decode cX6_isIn 0 = .ok (.iload_n 0, 1) := by decide +kernel
theorem dX6_isIn_1 : decode cX6_isIn 1 = .ok (.iload_n 1, 1) := by decide +kernel
theorem dX6_isIn_2 : decode cX6_isIn 2 = .ok (.if_icmp .lt 12, 3) := by decide +kernel
theorem dX6_isIn_5 : decode cX6_isIn 5 = .ok (.iload_n 0, 1) := by decide +kernel
theorem dX6_isIn_6 : decode cX6_isIn 6 = .ok (.iload_n 2, 1) := by decide +kernel
theorem dX6_isIn_7 : decode cX6_isIn 7 = .ok (.if_icmp .gt 7, 3) := by decide +kernel
theorem dX6_isIn_10 : decode cX6_isIn 10 = .ok (.iconst 1, 1) := by decide +kernel
theorem dX6_isIn_11 : decode cX6_isIn 11 = .ok (.goto 4, 3) := by decide +kernel
theorem dX6_isIn_14 : decode cX6_isIn 14 = .ok (.iconst 0, 1) := by decide +kernel
theorem dX6_isIn_15 : decode cX6_isIn 15 = .ok (.ireturn, 1) := by decide +kernel
theorem dX6_refuse_0 : decode cX6_refuse 0 = .ok (.iload_n 1, 1) := by decide +kernel
theorem dX6_refuse_1 : decode cX6_refuse 1 = .ok (.ifCond .eq 15, 3) := by decide +kernel
theorem dX6_refuse_4 : decode cX6_refuse 4 = .ok (.aload_n 0, 1) := by decide +kernel
theorem dX6_refuse_5 : decode cX6_refuse 5 = .ok (.getfield 36, 3) := by decide +kernel
theorem dX6_refuse_8 : decode cX6_refuse 8 = .ok (.ifCond .ne 8, 3) := by decide +kernel
theorem dX6_refuse_11 : decode cX6_refuse 11 = .ok (.aload_n 0, 1) := by decide +kernel
theorem dX6_refuse_12 : decode cX6_refuse 12 = .ok (.iload_n 2, 1) := by decide +kernel
theorem dX6_refuse_13 : decode cX6_refuse 13 = .ok (.putfield 36, 3) := by decide +kernel
theorem dX6_refuse_16 : decode cX6_refuse 16 = .ok (.aload_n 0, 1) := by decide +kernel
theorem dX6_refuse_17 : decode cX6_refuse 17 = .ok (.getfield 36, 3) := by decide +kernel
theorem dX6_refuse_20 : decode cX6_refuse 20 = .ok (.ifCond .le 7, 3) := by decide +kernel
theorem dX6_refuse_23 : decode cX6_refuse 23 = .ok (.iconst 1, 1) := by decide +kernel
theorem dX6_refuse_24 : decode cX6_refuse 24 = .ok (.goto 4, 3) := by decide +kernel
theorem dX6_refuse_27 : decode cX6_refuse 27 = .ok (.iconst 0, 1) := by decide +kernel
theorem dX6_refuse_28 : decode cX6_refuse 28 = .ok (.ireturn, 1) := by decide +kernel
theorem dX6_start_0 : decode cX6_start 0 = .ok (.aload_n 0, 1) := by decide +kernel
theorem dX6_start_1 : decode cX6_start 1 = .ok (.iconst 0, 1) := by decide +kernel
theorem dX6_start_2 : decode cX6_start 2 = .ok (.putfield 36, 3) := by decide +kernel
theorem dX6_start_5 : decode cX6_start 5 = .ok (.aload_n 0, 1) := by decide +kernel
theorem dX6_start_6 : decode cX6_start 6 = .ok (.iload_n 1, 1) := by decide +kernel
theorem dX6_start_7 : decode cX6_start 7 = .ok (.iload_n 2, 1) := by decide +kernel
theorem dX6_start_8 : decode cX6_start 8 = .ok (.invokevirtual 39, 3) := by decide +kernel
theorem dX6_start_11 : decode cX6_start 11 = .ok (.ireturn, 1) := by decide +kernel
theorem dX6_plain_0 : decode cX6_plain 0 = .ok (.aload_n 0, 1) := by decide +kernel
theorem dX6_plain_1 : decode cX6_plain 1 = .ok (.iconst 0, 1) := by decide +kernel
theorem dX6_plain_2 : decode cX6_plain 2 = .ok (.putfield 36, 3) := by decide +kernel
theorem dX6_plain_5 : decode cX6_plain 5 = .ok (.iload_n 1, 1) := by decide +kernel
theorem dX6_plain_6 : decode cX6_plain 6 = .ok (.ireturn, 1) := by decide +kernel
theorem dX6_ahead_0 : decode cX6_ahead 0 = .ok (.iconst 0, 1) := by decide +kernel
theorem dX6_ahead_1 : decode cX6_ahead 1 = .ok (.istore_n 3, 1) := by decide +kernel
theorem dX6_ahead_2 : decode cX6_ahead 2 = .ok (.iload_n 1, 1) := by decide +kernel
theorem dX6_ahead_3 : decode cX6_ahead 3 = .ok (.iload_n 2, 1) := by decide +kernel
theorem dX6_ahead_4 : decode cX6_ahead 4 = .ok (.isub, 1) := by decide +kernel
theorem dX6_ahead_5 : decode cX6_ahead 5 = .ok (.istore 4, 2) := by decide +kernel
theorem dX6_ahead_7 : decode cX6_ahead 7 = .ok (.iload 4, 2) := by decide +kernel
theorem dX6_ahead_9 : decode cX6_ahead 9 = .ok (.iload_n 1, 1) := by decide +kernel
theorem dX6_ahead_10 : decode cX6_ahead 10 = .ok (.if_icmp .ge 38, 3) := by decide +kernel
theorem dX6_ahead_13 : decode cX6_ahead 13 = .ok (.iload_n 3, 1) := by decide +kernel
theorem dX6_ahead_14 : decode cX6_ahead 14 = .ok (.bipush 14, 2) := by decide +kernel
theorem dX6_ahead_16 : decode cX6_ahead 16 = .ok (.imul, 1) := by decide +kernel
theorem dX6_ahead_17 : decode cX6_ahead 17 = .ok (.iload 4, 2) := by decide +kernel
theorem dX6_ahead_19 : decode cX6_ahead 19 = .ok (.ifCond .ge 7, 3) := by decide +kernel
theorem dX6_ahead_22 : decode cX6_ahead 22 = .ok (.iconst 0, 1) := by decide +kernel
theorem dX6_ahead_23 : decode cX6_ahead 23 = .ok (.goto 17, 3) := by decide +kernel
theorem dX6_ahead_40 : decode cX6_ahead 40 = .ok (.iadd, 1) := by decide +kernel
theorem dX6_ahead_41 : decode cX6_ahead 41 = .ok (.istore_n 3, 1) := by decide +kernel
theorem dX6_ahead_42 : decode cX6_ahead 42 = .ok (.iinc 4 1, 3) := by decide +kernel
theorem dX6_ahead_45 : decode cX6_ahead 45 = .ok (.goto (-38), 3) := by decide +kernel
theorem dX6_ahead_48 : decode cX6_ahead 48 = .ok (.iload_n 3, 1) := by decide +kernel
theorem dX6_ahead_49 : decode cX6_ahead 49 = .ok (.ireturn, 1) := by decide +kernel
theorem dX6_at_0 : decode cX6_at 0 = .ok (.iload_n 2, 1) := by decide +kernel
theorem dX6_at_1 : decode cX6_at 1 = .ok (.aload_n 1, 1) := by decide +kernel
theorem dX6_at_2 : decode cX6_at 2 = .ok (.invokevirtual 53, 3) := by decide +kernel
theorem dX6_at_5 : decode cX6_at 5 = .ok (.if_icmp .ge 17, 3) := by decide +kernel
theorem dX6_at_22 : decode cX6_at 22 = .ok (.aload_n 0, 1) := by decide +kernel
theorem dX6_at_23 : decode cX6_at 23 = .ok (.getfield 56, 3) := by decide +kernel
theorem dX6_at_26 : decode cX6_at 26 = .ok (.ireturn, 1) := by decide +kernel
theorem dX6_add_0 : decode cX6_add 0 = .ok (.iconst 1, 1) := by decide +kernel
theorem dX6_add_1 : decode cX6_add 1 = .ok (.istore 4, 2) := by decide +kernel
theorem dX6_add_3 : decode cX6_add 3 = .ok (.iload 4, 2) := by decide +kernel
theorem dX6_add_5 : decode cX6_add 5 = .ok (.aload_n 0, 1) := by decide +kernel
theorem dX6_add_6 : decode cX6_add 6 = .ok (.getfield 7, 3) := by decide +kernel
theorem dX6_add_9 : decode cX6_add 9 = .ok (.if_icmp .gt 61, 3) := by decide +kernel
theorem dX6_add_12 : decode cX6_add 12 = .ok (.iconst 0, 1) := by decide +kernel
theorem dX6_add_13 : decode cX6_add 13 = .ok (.istore 5, 2) := by decide +kernel
theorem dX6_add_15 : decode cX6_add 15 = .ok (.iload 5, 2) := by decide +kernel
theorem dX6_add_17 : decode cX6_add 17 = .ok (.aload_n 2, 1) := by decide +kernel
theorem dX6_add_18 : decode cX6_add 18 = .ok (.invokevirtual 53, 3) := by decide +kernel
theorem dX6_add_21 : decode cX6_add 21 = .ok (.if_icmp .gt 43, 3) := by decide +kernel
theorem dX6_add_24 : decode cX6_add 24 = .ok (.aload_n 1, 1) := by decide +kernel
theorem dX6_add_25 : decode cX6_add 25 = .ok (.iload 4, 2) := by decide +kernel
theorem dX6_add_27 : decode cX6_add 27 = .ok (.iconst 1, 1) := by decide +kernel
theorem dX6_add_28 : decode cX6_add 28 = .ok (.isub, 1) := by decide +kernel
theorem dX6_add_29 : decode cX6_add 29 = .ok (.aaload, 1) := by decide +kernel
theorem dX6_add_30 : decode cX6_add 30 = .ok (.aload_n 2, 1) := by decide +kernel
theorem dX6_add_31 : decode cX6_add 31 = .ok (.iload 5, 2) := by decide +kernel
theorem dX6_add_33 : decode cX6_add 33 = .ok (.iload 4, 2) := by decide +kernel
theorem dX6_add_35 : decode cX6_add 35 = .ok (.iconst 1, 1) := by decide +kernel
theorem dX6_add_36 : decode cX6_add 36 = .ok (.isub, 1) := by decide +kernel
theorem dX6_add_37 : decode cX6_add 37 = .ok (.invokestatic 59, 3) := by decide +kernel
theorem dX6_add_40 : decode cX6_add 40 = .ok (.bipush 14, 2) := by decide +kernel
theorem dX6_add_42 : decode cX6_add 42 = .ok (.imul, 1) := by decide +kernel
theorem dX6_add_43 : decode cX6_add 43 = .ok (.aload_n 0, 1) := by decide +kernel
theorem dX6_add_44 : decode cX6_add 44 = .ok (.aload_n 2, 1) := by decide +kernel
theorem dX6_add_45 : decode cX6_add 45 = .ok (.iload 5, 2) := by decide +kernel
theorem dX6_add_47 : decode cX6_add 47 = .ok (.invokevirtual 63, 3) := by decide +kernel
theorem dX6_add_50 : decode cX6_add 50 = .ok (.iadd, 1) := by decide +kernel
theorem dX6_add_51 : decode cX6_add 51 = .ok (.iconst 1, 1) := by decide +kernel
theorem dX6_add_52 : decode cX6_add 52 = .ok (.iadd, 1) := by decide +kernel
theorem dX6_add_53 : decode cX6_add 53 = .ok (.dup2, 1) := by decide +kernel
theorem dX6_add_54 : decode cX6_add 54 = .ok (.iaload, 1) := by decide +kernel
theorem dX6_add_55 : decode cX6_add 55 = .ok (.iload_n 3, 1) := by decide +kernel
theorem dX6_add_56 : decode cX6_add 56 = .ok (.iadd, 1) := by decide +kernel
theorem dX6_add_57 : decode cX6_add 57 = .ok (.iastore, 1) := by decide +kernel
theorem dX6_add_58 : decode cX6_add 58 = .ok (.iinc 5 1, 3) := by decide +kernel
theorem dX6_add_61 : decode cX6_add 61 = .ok (.goto (-46), 3) := by decide +kernel
theorem dX6_add_64 : decode cX6_add 64 = .ok (.iinc 4 1, 3) := by decide +kernel
theorem dX6_add_67 : decode cX6_add 67 = .ok (.goto (-64), 3) := by decide +kernel
theorem dX6_add_70 : decode cX6_add 70 = .ok (.return_, 1) := by decide +kernel
theorem dX6_many_0 : decode cX6_many 0 = .ok (.iconst 0, 1) := by decide +kernel
theorem dX6_many_1 : decode cX6_many 1 = .ok (.istore_n 1, 1) := by decide +kernel
theorem dX6_many_2 : decode cX6_many 2 = .ok (.iconst 0, 1) := by decide +kernel
theorem dX6_many_3 : decode cX6_many 3 = .ok (.istore_n 2, 1) := by decide +kernel
theorem dX6_many_4 : decode cX6_many 4 = .ok (.iload_n 2, 1) := by decide +kernel
theorem dX6_many_5 : decode cX6_many 5 = .ok (.aload_n 0, 1) := by decide +kernel
theorem dX6_many_6 : decode cX6_many 6 = .ok (.arraylength, 1) := by decide +kernel
theorem dX6_many_7 : decode cX6_many 7 = .ok (.if_icmp .ge 23, 3) := by decide +kernel
theorem dX6_many_10 : decode cX6_many 10 = .ok (.iload_n 1, 1) := by decide +kernel
theorem dX6_many_11 : decode cX6_many 11 = .ok (.aload_n 0, 1) := by decide +kernel
theorem dX6_many_12 : decode cX6_many 12 = .ok (.iload_n 2, 1) := by decide +kernel
theorem dX6_many_13 : decode cX6_many 13 = .ok (.iaload, 1) := by decide +kernel
theorem dX6_many_14 : decode cX6_many 14 = .ok (.ifCond .le 7, 3) := by decide +kernel
theorem dX6_many_21 : decode cX6_many 21 = .ok (.iconst 0, 1) := by decide +kernel
theorem dX6_many_22 : decode cX6_many 22 = .ok (.iadd, 1) := by decide +kernel
theorem dX6_many_23 : decode cX6_many 23 = .ok (.istore_n 1, 1) := by decide +kernel
theorem dX6_many_24 : decode cX6_many 24 = .ok (.iinc 2 1, 3) := by decide +kernel
theorem dX6_many_27 : decode cX6_many 27 = .ok (.goto (-23), 3) := by decide +kernel
theorem dX6_many_30 : decode cX6_many 30 = .ok (.iload_n 1, 1) := by decide +kernel
theorem dX6_many_31 : decode cX6_many 31 = .ok (.ireturn, 1) := by decide +kernel
theorem dX6_copy_0 : decode cX6_copy 0 = .ok (.invokestatic 20, 3) := by decide +kernel
theorem dX6_copy_3 : decode cX6_copy 3 = .ok (.astore_n 1, 1) := by decide +kernel
theorem dX6_copy_4 : decode cX6_copy 4 = .ok (.iconst 0, 1) := by decide +kernel
theorem dX6_copy_5 : decode cX6_copy 5 = .ok (.istore_n 2, 1) := by decide +kernel
theorem dX6_copy_6 : decode cX6_copy 6 = .ok (.iload_n 2, 1) := by decide +kernel
theorem dX6_copy_7 : decode cX6_copy 7 = .ok (.iconst 4, 1) := by decide +kernel
theorem dX6_copy_8 : decode cX6_copy 8 = .ok (.if_icmp .ge 24, 3) := by decide +kernel
theorem dX6_copy_11 : decode cX6_copy 11 = .ok (.aload_n 0, 1) := by decide +kernel
theorem dX6_copy_12 : decode cX6_copy 12 = .ok (.iload_n 2, 1) := by decide +kernel
theorem dX6_copy_13 : decode cX6_copy 13 = .ok (.aaload, 1) := by decide +kernel
theorem dX6_copy_14 : decode cX6_copy 14 = .ok (.iconst 0, 1) := by decide +kernel
theorem dX6_copy_15 : decode cX6_copy 15 = .ok (.aload_n 1, 1) := by decide +kernel
theorem dX6_copy_16 : decode cX6_copy 16 = .ok (.iload_n 2, 1) := by decide +kernel
theorem dX6_copy_17 : decode cX6_copy 17 = .ok (.aaload, 1) := by decide +kernel
theorem dX6_copy_18 : decode cX6_copy 18 = .ok (.iconst 0, 1) := by decide +kernel
theorem dX6_copy_19 : decode cX6_copy 19 = .ok (.aload_n 0, 1) := by decide +kernel
theorem dX6_copy_20 : decode cX6_copy 20 = .ok (.iload_n 2, 1) := by decide +kernel
theorem dX6_copy_21 : decode cX6_copy 21 = .ok (.aaload, 1) := by decide +kernel
theorem dX6_copy_22 : decode cX6_copy 22 = .ok (.arraylength, 1) := by decide +kernel
theorem dX6_copy_23 : decode cX6_copy 23 = .ok (.invokestatic 71, 3) := by decide +kernel
theorem dX6_copy_26 : decode cX6_copy 26 = .ok (.iinc 2 1, 3) := by decide +kernel
theorem dX6_copy_29 : decode cX6_copy 29 = .ok (.goto (-23), 3) := by decide +kernel
theorem dX6_copy_32 : decode cX6_copy 32 = .ok (.aload_n 1, 1) := by decide +kernel
theorem dX6_copy_33 : decode cX6_copy 33 = .ok (.areturn, 1) := by decide +kernel
theorem dX6_addWord_0 : decode cX6_addWord 0 = .ok (.aload_n 0, 1) := by decide +kernel
theorem dX6_addWord_1 : decode cX6_addWord 1 = .ok (.aload_n 0, 1) := by decide +kernel
theorem dX6_addWord_2 : decode cX6_addWord 2 = .ok (.getfield 56, 3) := by decide +kernel
theorem dX6_addWord_5 : decode cX6_addWord 5 = .ok (.bipush 12, 2) := by decide +kernel
theorem dX6_addWord_7 : decode cX6_addWord 7 = .ok (.if_icmp .ne 7, 3) := by decide +kernel
theorem dX6_addWord_14 : decode cX6_addWord 14 = .ok (.iconst 0, 1) := by decide +kernel
theorem dX6_addWord_15 : decode cX6_addWord 15 = .ok (.iconst 1, 1) := by decide +kernel
theorem dX6_addWord_16 : decode cX6_addWord 16 = .ok (.invokevirtual 77, 3) := by decide +kernel
theorem dX6_addWord_19 : decode cX6_addWord 19 = .ok (.ifCond .eq 5, 3) := by decide +kernel
theorem dX6_addWord_24 : decode cX6_addWord 24 = .ok (.aload_n 0, 1) := by decide +kernel
theorem dX6_addWord_25 : decode cX6_addWord 25 = .ok (.dup, 1) := by decide +kernel
theorem dX6_addWord_26 : decode cX6_addWord 26 = .ok (.getfield 56, 3) := by decide +kernel
theorem dX6_addWord_29 : decode cX6_addWord 29 = .ok (.iconst 1, 1) := by decide +kernel
theorem dX6_addWord_30 : decode cX6_addWord 30 = .ok (.iadd, 1) := by decide +kernel
theorem dX6_addWord_31 : decode cX6_addWord 31 = .ok (.putfield 56, 3) := by decide +kernel
theorem dX6_addWord_34 : decode cX6_addWord 34 = .ok (.aload_n 0, 1) := by decide +kernel
theorem dX6_addWord_35 : decode cX6_addWord 35 = .ok (.invokestatic 20, 3) := by decide +kernel
theorem dX6_addWord_38 : decode cX6_addWord 38 = .ok (.putfield 24, 3) := by decide +kernel
theorem dX6_addWord_41 : decode cX6_addWord 41 = .ok (.aload_n 0, 1) := by decide +kernel
theorem dX6_addWord_42 : decode cX6_addWord 42 = .ok (.new 13, 3) := by decide +kernel
theorem dX6_addWord_45 : decode cX6_addWord 45 = .ok (.dup, 1) := by decide +kernel
theorem dX6_addWord_46 : decode cX6_addWord 46 = .ok (.invokespecial 15, 3) := by decide +kernel
theorem dX6_addWord_49 : decode cX6_addWord 49 = .ok (.putfield 16, 3) := by decide +kernel
theorem dX6_addWord_52 : decode cX6_addWord 52 = .ok (.aload_n 0, 1) := by decide +kernel
theorem dX6_addWord_53 : decode cX6_addWord 53 = .ok (.getfield 56, 3) := by decide +kernel
theorem dX6_addWord_56 : decode cX6_addWord 56 = .ok (.iconst 1, 1) := by decide +kernel
theorem dX6_addWord_57 : decode cX6_addWord 57 = .ok (.isub, 1) := by decide +kernel
theorem dX6_addWord_58 : decode cX6_addWord 58 = .ok (.ireturn, 1) := by decide +kernel
theorem dX6_setOrder_0 : decode cX6_setOrder 0 = .ok (.aload_n 0, 1) := by decide +kernel
theorem dX6_setOrder_1 : decode cX6_setOrder 1 = .ok (.iload_n 1, 1) := by decide +kernel
theorem dX6_setOrder_2 : decode cX6_setOrder 2 = .ok (.iconst 1, 1) := by decide +kernel
theorem dX6_setOrder_3 : decode cX6_setOrder 3 = .ok (.iconst 4, 1) := by decide +kernel
theorem dX6_setOrder_4 : decode cX6_setOrder 4 = .ok (.invokestatic 80, 3) := by decide +kernel
theorem dX6_setOrder_7 : decode cX6_setOrder 7 = .ok (.ifCond .ne 7, 3) := by decide +kernel
theorem dX6_setOrder_10 : decode cX6_setOrder 10 = .ok (.iconst 1, 1) := by decide +kernel
theorem dX6_setOrder_11 : decode cX6_setOrder 11 = .ok (.goto 4, 3) := by decide +kernel
theorem dX6_setOrder_14 : decode cX6_setOrder 14 = .ok (.iconst 0, 1) := by decide +kernel
theorem dX6_setOrder_15 : decode cX6_setOrder 15 = .ok (.iconst 1, 1) := by decide +kernel
theorem dX6_setOrder_16 : decode cX6_setOrder 16 = .ok (.invokevirtual 77, 3) := by decide +kernel
theorem dX6_setOrder_19 : decode cX6_setOrder 19 = .ok (.ifCond .eq 5, 3) := by decide +kernel
theorem dX6_setOrder_22 : decode cX6_setOrder 22 = .ok (.iconst 0, 1) := by decide +kernel
theorem dX6_setOrder_23 : decode cX6_setOrder 23 = .ok (.ireturn, 1) := by decide +kernel
theorem dX6_setOrder_24 : decode cX6_setOrder 24 = .ok (.aload_n 0, 1) := by decide +kernel
theorem dX6_setOrder_25 : decode cX6_setOrder 25 = .ok (.getfield 7, 3) := by decide +kernel
theorem dX6_setOrder_28 : decode cX6_setOrder 28 = .ok (.istore_n 2, 1) := by decide +kernel
theorem dX6_setOrder_29 : decode cX6_setOrder 29 = .ok (.aload_n 0, 1) := by decide +kernel
theorem dX6_setOrder_30 : decode cX6_setOrder 30 = .ok (.iload_n 1, 1) := by decide +kernel
theorem dX6_setOrder_31 : decode cX6_setOrder 31 = .ok (.putfield 7, 3) := by decide +kernel
theorem dX6_setOrder_34 : decode cX6_setOrder 34 = .ok (.aload_n 0, 1) := by decide +kernel
theorem dX6_setOrder_35 : decode cX6_setOrder 35 = .ok (.invokestatic 20, 3) := by decide +kernel
theorem dX6_setOrder_38 : decode cX6_setOrder 38 = .ok (.putfield 24, 3) := by decide +kernel
theorem dX6_setOrder_41 : decode cX6_setOrder 41 = .ok (.iload_n 2, 1) := by decide +kernel
theorem dX6_setOrder_42 : decode cX6_setOrder 42 = .ok (.ireturn, 1) := by decide +kernel
theorem dX6_say_0 : decode cX6_say 0 = .ok (.aload_n 0, 1) := by decide +kernel
theorem dX6_say_1 : decode cX6_say 1 = .ok (.iload_n 1, 1) := by decide +kernel
theorem dX6_say_2 : decode cX6_say 2 = .ok (.iconst 0, 1) := by decide +kernel
theorem dX6_say_3 : decode cX6_say 3 = .ok (.aload_n 0, 1) := by decide +kernel
theorem dX6_say_4 : decode cX6_say 4 = .ok (.getfield 56, 3) := by decide +kernel
theorem dX6_say_7 : decode cX6_say 7 = .ok (.iconst 1, 1) := by decide +kernel
theorem dX6_say_8 : decode cX6_say 8 = .ok (.isub, 1) := by decide +kernel
theorem dX6_say_9 : decode cX6_say 9 = .ok (.invokestatic 80, 3) := by decide +kernel
theorem dX6_say_12 : decode cX6_say 12 = .ok (.ifCond .ne 7, 3) := by decide +kernel
theorem dX6_say_15 : decode cX6_say 15 = .ok (.iconst 1, 1) := by decide +kernel
theorem dX6_say_16 : decode cX6_say 16 = .ok (.goto 4, 3) := by decide +kernel
theorem dX6_say_20 : decode cX6_say 20 = .ok (.iconst 1, 1) := by decide +kernel
theorem dX6_say_21 : decode cX6_say 21 = .ok (.invokevirtual 77, 3) := by decide +kernel
theorem dX6_say_24 : decode cX6_say 24 = .ok (.ifCond .ne 28, 3) := by decide +kernel
theorem dX6_say_52 : decode cX6_say 52 = .ok (.iconst 0, 1) := by decide +kernel
theorem dX6_say_53 : decode cX6_say 53 = .ok (.ireturn, 1) := by decide +kernel
theorem dX6_hush_0 : decode cX6_hush 0 = .ok (.aload_n 0, 1) := by decide +kernel
theorem dX6_hush_1 : decode cX6_hush 1 = .ok (.iconst 0, 1) := by decide +kernel
theorem dX6_hush_2 : decode cX6_hush 2 = .ok (.putfield 36, 3) := by decide +kernel
theorem dX6_hush_5 : decode cX6_hush 5 = .ok (.aload_n 0, 1) := by decide +kernel
theorem dX6_hush_6 : decode cX6_hush 6 = .ok (.getfield 16, 3) := by decide +kernel
theorem dX6_hush_9 : decode cX6_hush 9 = .ok (.invokevirtual 53, 3) := by decide +kernel
theorem dX6_hush_12 : decode cX6_hush 12 = .ok (.istore_n 1, 1) := by decide +kernel
theorem dX6_hush_13 : decode cX6_hush 13 = .ok (.aload_n 0, 1) := by decide +kernel
theorem dX6_hush_14 : decode cX6_hush 14 = .ok (.new 13, 3) := by decide +kernel
theorem dX6_hush_17 : decode cX6_hush 17 = .ok (.dup, 1) := by decide +kernel
theorem dX6_hush_18 : decode cX6_hush 18 = .ok (.invokespecial 15, 3) := by decide +kernel
theorem dX6_hush_21 : decode cX6_hush 21 = .ok (.putfield 16, 3) := by decide +kernel
theorem dX6_hush_24 : decode cX6_hush 24 = .ok (.iload_n 1, 1) := by decide +kernel
theorem dX6_hush_25 : decode cX6_hush 25 = .ok (.ireturn, 1) := by decide +kernel
theorem dX6_learn_0 : decode cX6_learn 0 = .ok (.aload_n 0, 1) := by decide +kernel
theorem dX6_learn_1 : decode cX6_learn 1 = .ok (.iload_n 1, 1) := by decide +kernel
theorem dX6_learn_2 : decode cX6_learn 2 = .ok (.iconst 1, 1) := by decide +kernel
theorem dX6_learn_3 : decode cX6_learn 3 = .ok (.bipush 100, 2) := by decide +kernel
theorem dX6_learn_5 : decode cX6_learn 5 = .ok (.invokestatic 80, 3) := by decide +kernel
theorem dX6_learn_8 : decode cX6_learn 8 = .ok (.ifCond .ne 7, 3) := by decide +kernel
theorem dX6_learn_11 : decode cX6_learn 11 = .ok (.iconst 1, 1) := by decide +kernel
theorem dX6_learn_12 : decode cX6_learn 12 = .ok (.goto 4, 3) := by decide +kernel
theorem dX6_learn_15 : decode cX6_learn 15 = .ok (.iconst 0, 1) := by decide +kernel
theorem dX6_learn_16 : decode cX6_learn 16 = .ok (.iconst 1, 1) := by decide +kernel
theorem dX6_learn_17 : decode cX6_learn 17 = .ok (.invokevirtual 77, 3) := by decide +kernel
theorem dX6_learn_20 : decode cX6_learn 20 = .ok (.ifCond .ne 23, 3) := by decide +kernel
theorem dX6_learn_23 : decode cX6_learn 23 = .ok (.aload_n 0, 1) := by decide +kernel
theorem dX6_learn_24 : decode cX6_learn 24 = .ok (.aload_n 0, 1) := by decide +kernel
theorem dX6_learn_25 : decode cX6_learn 25 = .ok (.getfield 56, 3) := by decide +kernel
theorem dX6_learn_28 : decode cX6_learn 28 = .ok (.ifCond .ne 7, 3) := by decide +kernel
theorem dX6_learn_31 : decode cX6_learn 31 = .ok (.iconst 1, 1) := by decide +kernel
theorem dX6_learn_32 : decode cX6_learn 32 = .ok (.goto 4, 3) := by decide +kernel
theorem dX6_learn_36 : decode cX6_learn 36 = .ok (.iconst 2, 1) := by decide +kernel
theorem dX6_learn_37 : decode cX6_learn 37 = .ok (.invokevirtual 39, 3) := by decide +kernel
theorem dX6_learn_40 : decode cX6_learn 40 = .ok (.ifCond .eq 5, 3) := by decide +kernel
theorem dX6_learn_43 : decode cX6_learn 43 = .ok (.iconst 0, 1) := by decide +kernel
theorem dX6_learn_44 : decode cX6_learn 44 = .ok (.ireturn, 1) := by decide +kernel
theorem dX6_unlearn_0 : decode cX6_unlearn 0 = .ok (.aload_n 0, 1) := by decide +kernel
theorem dX6_unlearn_1 : decode cX6_unlearn 1 = .ok (.getfield 24, 3) := by decide +kernel
theorem dX6_unlearn_4 : decode cX6_unlearn 4 = .ok (.invokestatic 92, 3) := by decide +kernel
theorem dX6_unlearn_7 : decode cX6_unlearn 7 = .ok (.astore_n 1, 1) := by decide +kernel
theorem dX6_unlearn_8 : decode cX6_unlearn 8 = .ok (.aload_n 0, 1) := by decide +kernel
theorem dX6_unlearn_9 : decode cX6_unlearn 9 = .ok (.aload_n 1, 1) := by decide +kernel
theorem dX6_unlearn_10 : decode cX6_unlearn 10 = .ok (.aload_n 0, 1) := by decide +kernel
theorem dX6_unlearn_11 : decode cX6_unlearn 11 = .ok (.getfield 16, 3) := by decide +kernel
theorem dX6_unlearn_14 : decode cX6_unlearn 14 = .ok (.iconst (-1), 1) := by decide +kernel
theorem dX6_unlearn_15 : decode cX6_unlearn 15 = .ok (.invokevirtual 96, 3) := by decide +kernel
theorem dX6_unlearn_18 : decode cX6_unlearn 18 = .ok (.iconst 0, 1) := by decide +kernel
theorem dX6_unlearn_19 : decode cX6_unlearn 19 = .ok (.istore_n 2, 1) := by decide +kernel
theorem dX6_unlearn_20 : decode cX6_unlearn 20 = .ok (.iconst 0, 1) := by decide +kernel
theorem dX6_unlearn_21 : decode cX6_unlearn 21 = .ok (.istore_n 3, 1) := by decide +kernel
theorem dX6_unlearn_22 : decode cX6_unlearn 22 = .ok (.iload_n 3, 1) := by decide +kernel
theorem dX6_unlearn_23 : decode cX6_unlearn 23 = .ok (.iconst 4, 1) := by decide +kernel
theorem dX6_unlearn_24 : decode cX6_unlearn 24 = .ok (.if_icmp .ge 44, 3) := by decide +kernel
theorem dX6_unlearn_27 : decode cX6_unlearn 27 = .ok (.iconst 0, 1) := by decide +kernel
theorem dX6_unlearn_28 : decode cX6_unlearn 28 = .ok (.istore 4, 2) := by decide +kernel
theorem dX6_unlearn_30 : decode cX6_unlearn 30 = .ok (.iload 4, 2) := by decide +kernel
theorem dX6_unlearn_32 : decode cX6_unlearn 32 = .ok (.aload_n 1, 1) := by decide +kernel
theorem dX6_unlearn_33 : decode cX6_unlearn 33 = .ok (.iload_n 3, 1) := by decide +kernel
theorem dX6_unlearn_34 : decode cX6_unlearn 34 = .ok (.aaload, 1) := by decide +kernel
theorem dX6_unlearn_35 : decode cX6_unlearn 35 = .ok (.arraylength, 1) := by decide +kernel
theorem dX6_unlearn_36 : decode cX6_unlearn 36 = .ok (.if_icmp .ge 26, 3) := by decide +kernel
theorem dX6_unlearn_39 : decode cX6_unlearn 39 = .ok (.iload_n 2, 1) := by decide +kernel
theorem dX6_unlearn_40 : decode cX6_unlearn 40 = .ok (.aload_n 1, 1) := by decide +kernel
theorem dX6_unlearn_41 : decode cX6_unlearn 41 = .ok (.iload_n 3, 1) := by decide +kernel
theorem dX6_unlearn_42 : decode cX6_unlearn 42 = .ok (.aaload, 1) := by decide +kernel
theorem dX6_unlearn_43 : decode cX6_unlearn 43 = .ok (.iload 4, 2) := by decide +kernel
theorem dX6_unlearn_45 : decode cX6_unlearn 45 = .ok (.iaload, 1) := by decide +kernel
theorem dX6_unlearn_46 : decode cX6_unlearn 46 = .ok (.ifCond .ge 7, 3) := by decide +kernel
theorem dX6_unlearn_49 : decode cX6_unlearn 49 = .ok (.iconst 1, 1) := by decide +kernel
theorem dX6_unlearn_50 : decode cX6_unlearn 50 = .ok (.goto 4, 3) := by decide +kernel
theorem dX6_unlearn_53 : decode cX6_unlearn 53 = .ok (.iconst 0, 1) := by decide +kernel
theorem dX6_unlearn_54 : decode cX6_unlearn 54 = .ok (.ior, 1) := by decide +kernel
theorem dX6_unlearn_55 : decode cX6_unlearn 55 = .ok (.istore_n 2, 1) := by decide +kernel
theorem dX6_unlearn_56 : decode cX6_unlearn 56 = .ok (.iinc 4 1, 3) := by decide +kernel
theorem dX6_unlearn_59 : decode cX6_unlearn 59 = .ok (.goto (-29), 3) := by decide +kernel
theorem dX6_unlearn_62 : decode cX6_unlearn 62 = .ok (.iinc 3 1, 3) := by decide +kernel
theorem dX6_unlearn_65 : decode cX6_unlearn 65 = .ok (.goto (-43), 3) := by decide +kernel
theorem dX6_unlearn_68 : decode cX6_unlearn 68 = .ok (.aload_n 0, 1) := by decide +kernel
theorem dX6_unlearn_69 : decode cX6_unlearn 69 = .ok (.iload_n 2, 1) := by decide +kernel
theorem dX6_unlearn_70 : decode cX6_unlearn 70 = .ok (.iconst 1, 1) := by decide +kernel
theorem dX6_unlearn_71 : decode cX6_unlearn 71 = .ok (.invokevirtual 77, 3) := by decide +kernel
theorem dX6_unlearn_74 : decode cX6_unlearn 74 = .ok (.ifCond .eq 5, 3) := by decide +kernel
theorem dX6_unlearn_77 : decode cX6_unlearn 77 = .ok (.iconst 0, 1) := by decide +kernel
theorem dX6_unlearn_78 : decode cX6_unlearn 78 = .ok (.ireturn, 1) := by decide +kernel
theorem dX6_words_0 : decode cX6_words 0 = .ok (.aload_n 0, 1) := by decide +kernel
theorem dX6_words_1 : decode cX6_words 1 = .ok (.aload_n 0, 1) := by decide +kernel
theorem dX6_words_2 : decode cX6_words 2 = .ok (.getfield 56, 3) := by decide +kernel
theorem dX6_words_5 : decode cX6_words 5 = .ok (.invokevirtual 103, 3) := by decide +kernel
theorem dX6_words_8 : decode cX6_words 8 = .ok (.ireturn, 1) := by decide +kernel
theorem dX6_order_0 : decode cX6_order 0 = .ok (.aload_n 0, 1) := by decide +kernel
theorem dX6_order_1 : decode cX6_order 1 = .ok (.aload_n 0, 1) := by decide +kernel
theorem dX6_order_2 : decode cX6_order 2 = .ok (.getfield 7, 3) := by decide +kernel
theorem dX6_order_5 : decode cX6_order 5 = .ok (.invokevirtual 103, 3) := by decide +kernel
theorem dX6_order_8 : decode cX6_order 8 = .ok (.ireturn, 1) := by decide +kernel
theorem dX6_length_0 : decode cX6_length 0 = .ok (.aload_n 0, 1) := by decide +kernel
theorem dX6_length_1 : decode cX6_length 1 = .ok (.aload_n 0, 1) := by decide +kernel
theorem dX6_length_2 : decode cX6_length 2 = .ok (.getfield 16, 3) := by decide +kernel
theorem dX6_length_5 : decode cX6_length 5 = .ok (.invokevirtual 53, 3) := by decide +kernel
theorem dX6_length_8 : decode cX6_length 8 = .ok (.invokevirtual 103, 3) := by decide +kernel
theorem dX6_length_11 : decode cX6_length 11 = .ok (.ireturn, 1) := by decide +kernel
theorem dX6_wordAt_0 : decode cX6_wordAt 0 = .ok (.aload_n 0, 1) := by decide +kernel
theorem dX6_wordAt_1 : decode cX6_wordAt 1 = .ok (.iload_n 1, 1) := by decide +kernel
theorem dX6_wordAt_2 : decode cX6_wordAt 2 = .ok (.iconst 0, 1) := by decide +kernel
theorem dX6_wordAt_3 : decode cX6_wordAt 3 = .ok (.aload_n 0, 1) := by decide +kernel
theorem dX6_wordAt_4 : decode cX6_wordAt 4 = .ok (.getfield 16, 3) := by decide +kernel
theorem dX6_wordAt_7 : decode cX6_wordAt 7 = .ok (.invokevirtual 53, 3) := by decide +kernel
theorem dX6_wordAt_10 : decode cX6_wordAt 10 = .ok (.iconst 1, 1) := by decide +kernel
theorem dX6_wordAt_11 : decode cX6_wordAt 11 = .ok (.isub, 1) := by decide +kernel
theorem dX6_wordAt_12 : decode cX6_wordAt 12 = .ok (.invokestatic 80, 3) := by decide +kernel
theorem dX6_wordAt_15 : decode cX6_wordAt 15 = .ok (.ifCond .ne 7, 3) := by decide +kernel
theorem dX6_wordAt_18 : decode cX6_wordAt 18 = .ok (.iconst 1, 1) := by decide +kernel
theorem dX6_wordAt_19 : decode cX6_wordAt 19 = .ok (.goto 4, 3) := by decide +kernel
theorem dX6_wordAt_23 : decode cX6_wordAt 23 = .ok (.iconst 1, 1) := by decide +kernel
theorem dX6_wordAt_24 : decode cX6_wordAt 24 = .ok (.invokevirtual 77, 3) := by decide +kernel
theorem dX6_wordAt_27 : decode cX6_wordAt 27 = .ok (.ifCond .eq 7, 3) := by decide +kernel
theorem dX6_wordAt_30 : decode cX6_wordAt 30 = .ok (.iconst 0, 1) := by decide +kernel
theorem dX6_wordAt_31 : decode cX6_wordAt 31 = .ok (.goto 17, 3) := by decide +kernel
theorem dX6_wordAt_48 : decode cX6_wordAt 48 = .ok (.ireturn, 1) := by decide +kernel
theorem dX6_isNoOrder_0 : decode cX6_isNoOrder 0 = .ok (.aload_n 0, 1) := by decide +kernel
theorem dX6_isNoOrder_1 : decode cX6_isNoOrder 1 = .ok (.iload_n 1, 1) := by decide +kernel
theorem dX6_isNoOrder_2 : decode cX6_isNoOrder 2 = .ok (.iload_n 2, 1) := by decide +kernel
theorem dX6_isNoOrder_3 : decode cX6_isNoOrder 3 = .ok (.aload_n 0, 1) := by decide +kernel
theorem dX6_isNoOrder_4 : decode cX6_isNoOrder 4 = .ok (.getfield 7, 3) := by decide +kernel
theorem dX6_isNoOrder_7 : decode cX6_isNoOrder 7 = .ok (.invokestatic 80, 3) := by decide +kernel
theorem dX6_isNoOrder_10 : decode cX6_isNoOrder 10 = .ok (.ifCond .ne 7, 3) := by decide +kernel
theorem dX6_isNoOrder_13 : decode cX6_isNoOrder 13 = .ok (.iconst 1, 1) := by decide +kernel
theorem dX6_isNoOrder_14 : decode cX6_isNoOrder 14 = .ok (.goto 4, 3) := by decide +kernel
theorem dX6_isNoOrder_17 : decode cX6_isNoOrder 17 = .ok (.iconst 0, 1) := by decide +kernel
theorem dX6_isNoOrder_18 : decode cX6_isNoOrder 18 = .ok (.iconst 1, 1) := by decide +kernel
theorem dX6_isNoOrder_19 : decode cX6_isNoOrder 19 = .ok (.invokevirtual 77, 3) := by decide +kernel
theorem dX6_isNoOrder_22 : decode cX6_isNoOrder 22 = .ok (.ireturn, 1) := by decide +kernel
theorem dX6_entries_0 : decode cX6_entries 0 = .ok (.aload_n 0, 1) := by decide +kernel
theorem dX6_entries_1 : decode cX6_entries 1 = .ok (.iload_n 1, 1) := by decide +kernel
theorem dX6_entries_2 : decode cX6_entries 2 = .ok (.iconst 1, 1) := by decide +kernel
theorem dX6_entries_3 : decode cX6_entries 3 = .ok (.invokevirtual 107, 3) := by decide +kernel
theorem dX6_entries_6 : decode cX6_entries 6 = .ok (.ifCond .eq 7, 3) := by decide +kernel
theorem dX6_entries_9 : decode cX6_entries 9 = .ok (.iconst 0, 1) := by decide +kernel
theorem dX6_entries_10 : decode cX6_entries 10 = .ok (.goto 14, 3) := by decide +kernel
theorem dX6_entries_13 : decode cX6_entries 13 = .ok (.aload_n 0, 1) := by decide +kernel
theorem dX6_entries_14 : decode cX6_entries 14 = .ok (.getfield 24, 3) := by decide +kernel
theorem dX6_entries_17 : decode cX6_entries 17 = .ok (.iload_n 1, 1) := by decide +kernel
theorem dX6_entries_18 : decode cX6_entries 18 = .ok (.iconst 1, 1) := by decide +kernel
theorem dX6_entries_19 : decode cX6_entries 19 = .ok (.isub, 1) := by decide +kernel
theorem dX6_entries_20 : decode cX6_entries 20 = .ok (.aaload, 1) := by decide +kernel
theorem dX6_entries_21 : decode cX6_entries 21 = .ok (.invokestatic 67, 3) := by decide +kernel
theorem dX6_entries_24 : decode cX6_entries 24 = .ok (.ireturn, 1) := by decide +kernel
theorem dX6_isNoEntry_0 : decode cX6_isNoEntry 0 = .ok (.aload_n 0, 1) := by decide +kernel
theorem dX6_isNoEntry_1 : decode cX6_isNoEntry 1 = .ok (.iload_n 1, 1) := by decide +kernel
theorem dX6_isNoEntry_2 : decode cX6_isNoEntry 2 = .ok (.iconst 1, 1) := by decide +kernel
theorem dX6_isNoEntry_3 : decode cX6_isNoEntry 3 = .ok (.invokevirtual 107, 3) := by decide +kernel
theorem dX6_isNoEntry_6 : decode cX6_isNoEntry 6 = .ok (.ifCond .ne 37, 3) := by decide +kernel
theorem dX6_isNoEntry_9 : decode cX6_isNoEntry 9 = .ok (.aload_n 0, 1) := by decide +kernel
theorem dX6_isNoEntry_10 : decode cX6_isNoEntry 10 = .ok (.iload_n 2, 1) := by decide +kernel
theorem dX6_isNoEntry_11 : decode cX6_isNoEntry 11 = .ok (.iconst 0, 1) := by decide +kernel
theorem dX6_isNoEntry_12 : decode cX6_isNoEntry 12 = .ok (.aload_n 0, 1) := by decide +kernel
theorem dX6_isNoEntry_13 : decode cX6_isNoEntry 13 = .ok (.getfield 24, 3) := by decide +kernel
theorem dX6_isNoEntry_16 : decode cX6_isNoEntry 16 = .ok (.iload_n 1, 1) := by decide +kernel
theorem dX6_isNoEntry_17 : decode cX6_isNoEntry 17 = .ok (.iconst 1, 1) := by decide +kernel
theorem dX6_isNoEntry_18 : decode cX6_isNoEntry 18 = .ok (.isub, 1) := by decide +kernel
theorem dX6_isNoEntry_19 : decode cX6_isNoEntry 19 = .ok (.aaload, 1) := by decide +kernel
theorem dX6_isNoEntry_20 : decode cX6_isNoEntry 20 = .ok (.invokestatic 67, 3) := by decide +kernel
theorem dX6_isNoEntry_23 : decode cX6_isNoEntry 23 = .ok (.iconst 1, 1) := by decide +kernel
theorem dX6_isNoEntry_24 : decode cX6_isNoEntry 24 = .ok (.isub, 1) := by decide +kernel
theorem dX6_isNoEntry_25 : decode cX6_isNoEntry 25 = .ok (.invokestatic 80, 3) := by decide +kernel
theorem dX6_isNoEntry_28 : decode cX6_isNoEntry 28 = .ok (.ifCond .ne 7, 3) := by decide +kernel
theorem dX6_isNoEntry_31 : decode cX6_isNoEntry 31 = .ok (.iconst 1, 1) := by decide +kernel
theorem dX6_isNoEntry_32 : decode cX6_isNoEntry 32 = .ok (.goto 4, 3) := by decide +kernel
theorem dX6_isNoEntry_36 : decode cX6_isNoEntry 36 = .ok (.iconst 2, 1) := by decide +kernel
theorem dX6_isNoEntry_37 : decode cX6_isNoEntry 37 = .ok (.invokevirtual 39, 3) := by decide +kernel
theorem dX6_isNoEntry_40 : decode cX6_isNoEntry 40 = .ok (.ifCond .eq 7, 3) := by decide +kernel
theorem dX6_isNoEntry_43 : decode cX6_isNoEntry 43 = .ok (.iconst 1, 1) := by decide +kernel
theorem dX6_isNoEntry_44 : decode cX6_isNoEntry 44 = .ok (.goto 4, 3) := by decide +kernel
theorem dX6_isNoEntry_48 : decode cX6_isNoEntry 48 = .ok (.ireturn, 1) := by decide +kernel
theorem dX6_entryAt_0 : decode cX6_entryAt 0 = .ok (.aload_n 0, 1) := by decide +kernel
theorem dX6_entryAt_1 : decode cX6_entryAt 1 = .ok (.iload_n 1, 1) := by decide +kernel
theorem dX6_entryAt_2 : decode cX6_entryAt 2 = .ok (.iload_n 2, 1) := by decide +kernel
theorem dX6_entryAt_3 : decode cX6_entryAt 3 = .ok (.invokevirtual 111, 3) := by decide +kernel
theorem dX6_entryAt_6 : decode cX6_entryAt 6 = .ok (.ifCond .ne 27, 3) := by decide +kernel
theorem dX6_entryAt_33 : decode cX6_entryAt 33 = .ok (.iconst 0, 1) := by decide +kernel
theorem dX6_entryAt_34 : decode cX6_entryAt 34 = .ok (.goto 14, 3) := by decide +kernel
theorem dX6_entryAt_48 : decode cX6_entryAt 48 = .ok (.ireturn, 1) := by decide +kernel
theorem dX6_countOf_0 : decode cX6_countOf 0 = .ok (.aload_n 0, 1) := by decide +kernel
theorem dX6_countOf_1 : decode cX6_countOf 1 = .ok (.iload_n 1, 1) := by decide +kernel
theorem dX6_countOf_2 : decode cX6_countOf 2 = .ok (.iload_n 2, 1) := by decide +kernel
theorem dX6_countOf_3 : decode cX6_countOf 3 = .ok (.invokevirtual 111, 3) := by decide +kernel
theorem dX6_countOf_6 : decode cX6_countOf 6 = .ok (.ifCond .eq 7, 3) := by decide +kernel
theorem dX6_countOf_9 : decode cX6_countOf 9 = .ok (.iconst 0, 1) := by decide +kernel
theorem dX6_countOf_10 : decode cX6_countOf 10 = .ok (.goto 18, 3) := by decide +kernel
theorem dX6_countOf_28 : decode cX6_countOf 28 = .ok (.ireturn, 1) := by decide +kernel
theorem dX6_sum_0 : decode cX6_sum 0 = .ok (.iconst 0, 1) := by decide +kernel
theorem dX6_sum_1 : decode cX6_sum 1 = .ok (.istore_n 2, 1) := by decide +kernel
theorem dX6_sum_2 : decode cX6_sum 2 = .ok (.iconst 0, 1) := by decide +kernel
theorem dX6_sum_3 : decode cX6_sum 3 = .ok (.istore_n 3, 1) := by decide +kernel
theorem dX6_sum_4 : decode cX6_sum 4 = .ok (.iload_n 3, 1) := by decide +kernel
theorem dX6_sum_5 : decode cX6_sum 5 = .ok (.bipush 14, 2) := by decide +kernel
theorem dX6_sum_7 : decode cX6_sum 7 = .ok (.if_icmp .ge 20, 3) := by decide +kernel
theorem dX6_sum_10 : decode cX6_sum 10 = .ok (.iload_n 2, 1) := by decide +kernel
theorem dX6_sum_11 : decode cX6_sum 11 = .ok (.aload_n 0, 1) := by decide +kernel
theorem dX6_sum_12 : decode cX6_sum 12 = .ok (.iload_n 1, 1) := by decide +kernel
theorem dX6_sum_13 : decode cX6_sum 13 = .ok (.bipush 14, 2) := by decide +kernel
theorem dX6_sum_15 : decode cX6_sum 15 = .ok (.imul, 1) := by decide +kernel
theorem dX6_sum_16 : decode cX6_sum 16 = .ok (.iload_n 3, 1) := by decide +kernel
theorem dX6_sum_17 : decode cX6_sum 17 = .ok (.iadd, 1) := by decide +kernel
theorem dX6_sum_18 : decode cX6_sum 18 = .ok (.iaload, 1) := by decide +kernel
theorem dX6_sum_19 : decode cX6_sum 19 = .ok (.iadd, 1) := by decide +kernel
theorem dX6_sum_20 : decode cX6_sum 20 = .ok (.istore_n 2, 1) := by decide +kernel
theorem dX6_sum_21 : decode cX6_sum 21 = .ok (.iinc 3 1, 3) := by decide +kernel
theorem dX6_sum_24 : decode cX6_sum 24 = .ok (.goto (-20), 3) := by decide +kernel
theorem dX6_sum_27 : decode cX6_sum 27 = .ok (.iload_n 2, 1) := by decide +kernel
theorem dX6_sum_28 : decode cX6_sum 28 = .ok (.ireturn, 1) := by decide +kernel
theorem dX6_sorts_0 : decode cX6_sorts 0 = .ok (.iconst 0, 1) := by decide +kernel
theorem dX6_sorts_1 : decode cX6_sorts 1 = .ok (.istore_n 2, 1) := by decide +kernel
theorem dX6_sorts_2 : decode cX6_sorts 2 = .ok (.iconst 0, 1) := by decide +kernel
theorem dX6_sorts_3 : decode cX6_sorts 3 = .ok (.istore_n 3, 1) := by decide +kernel
theorem dX6_sorts_4 : decode cX6_sorts 4 = .ok (.iload_n 3, 1) := by decide +kernel
theorem dX6_sorts_5 : decode cX6_sorts 5 = .ok (.bipush 14, 2) := by decide +kernel
theorem dX6_sorts_7 : decode cX6_sorts 7 = .ok (.if_icmp .ge 28, 3) := by decide +kernel
theorem dX6_sorts_10 : decode cX6_sorts 10 = .ok (.iload_n 2, 1) := by decide +kernel
theorem dX6_sorts_11 : decode cX6_sorts 11 = .ok (.aload_n 0, 1) := by decide +kernel
theorem dX6_sorts_12 : decode cX6_sorts 12 = .ok (.iload_n 1, 1) := by decide +kernel
theorem dX6_sorts_13 : decode cX6_sorts 13 = .ok (.bipush 14, 2) := by decide +kernel
theorem dX6_sorts_15 : decode cX6_sorts 15 = .ok (.imul, 1) := by decide +kernel
theorem dX6_sorts_16 : decode cX6_sorts 16 = .ok (.iload_n 3, 1) := by decide +kernel
theorem dX6_sorts_17 : decode cX6_sorts 17 = .ok (.iadd, 1) := by decide +kernel
theorem dX6_sorts_18 : decode cX6_sorts 18 = .ok (.iaload, 1) := by decide +kernel
theorem dX6_sorts_19 : decode cX6_sorts 19 = .ok (.ifCond .le 7, 3) := by decide +kernel
theorem dX6_sorts_26 : decode cX6_sorts 26 = .ok (.iconst 0, 1) := by decide +kernel
theorem dX6_sorts_27 : decode cX6_sorts 27 = .ok (.iadd, 1) := by decide +kernel
theorem dX6_sorts_28 : decode cX6_sorts 28 = .ok (.istore_n 2, 1) := by decide +kernel
theorem dX6_sorts_29 : decode cX6_sorts 29 = .ok (.iinc 3 1, 3) := by decide +kernel
theorem dX6_sorts_32 : decode cX6_sorts 32 = .ok (.goto (-28), 3) := by decide +kernel
theorem dX6_sorts_35 : decode cX6_sorts 35 = .ok (.iload_n 2, 1) := by decide +kernel
theorem dX6_sorts_36 : decode cX6_sorts 36 = .ok (.ireturn, 1) := by decide +kernel
theorem dX6_context_0 : decode cX6_context 0 = .ok (.aload_n 0, 1) := by decide +kernel
theorem dX6_context_1 : decode cX6_context 1 = .ok (.getfield 16, 3) := by decide +kernel
theorem dX6_context_4 : decode cX6_context 4 = .ok (.aload_n 0, 1) := by decide +kernel
theorem dX6_context_5 : decode cX6_context 5 = .ok (.getfield 16, 3) := by decide +kernel
theorem dX6_context_8 : decode cX6_context 8 = .ok (.invokevirtual 53, 3) := by decide +kernel
theorem dX6_context_11 : decode cX6_context 11 = .ok (.iload_n 1, 1) := by decide +kernel
theorem dX6_context_12 : decode cX6_context 12 = .ok (.iconst 1, 1) := by decide +kernel
theorem dX6_context_13 : decode cX6_context 13 = .ok (.isub, 1) := by decide +kernel
theorem dX6_context_14 : decode cX6_context 14 = .ok (.invokestatic 59, 3) := by decide +kernel
theorem dX6_context_17 : decode cX6_context 17 = .ok (.istore_n 3, 1) := by decide +kernel
theorem dX6_context_18 : decode cX6_context 18 = .ok (.iload_n 2, 1) := by decide +kernel
theorem dX6_context_19 : decode cX6_context 19 = .ok (.ifCond .ne 18, 3) := by decide +kernel
theorem dX6_context_22 : decode cX6_context 22 = .ok (.aload_n 0, 1) := by decide +kernel
theorem dX6_context_23 : decode cX6_context 23 = .ok (.getfield 24, 3) := by decide +kernel
theorem dX6_context_26 : decode cX6_context 26 = .ok (.iload_n 1, 1) := by decide +kernel
theorem dX6_context_27 : decode cX6_context 27 = .ok (.iconst 1, 1) := by decide +kernel
theorem dX6_context_28 : decode cX6_context 28 = .ok (.isub, 1) := by decide +kernel
theorem dX6_context_29 : decode cX6_context 29 = .ok (.aaload, 1) := by decide +kernel
theorem dX6_context_30 : decode cX6_context 30 = .ok (.iload_n 3, 1) := by decide +kernel
theorem dX6_context_31 : decode cX6_context 31 = .ok (.invokestatic 122, 3) := by decide +kernel
theorem dX6_context_34 : decode cX6_context 34 = .ok (.goto 15, 3) := by decide +kernel
theorem dX6_context_37 : decode cX6_context 37 = .ok (.aload_n 0, 1) := by decide +kernel
theorem dX6_context_38 : decode cX6_context 38 = .ok (.getfield 24, 3) := by decide +kernel
theorem dX6_context_41 : decode cX6_context 41 = .ok (.iload_n 1, 1) := by decide +kernel
theorem dX6_context_42 : decode cX6_context 42 = .ok (.iconst 1, 1) := by decide +kernel
theorem dX6_context_43 : decode cX6_context 43 = .ok (.isub, 1) := by decide +kernel
theorem dX6_context_44 : decode cX6_context 44 = .ok (.aaload, 1) := by decide +kernel
theorem dX6_context_45 : decode cX6_context 45 = .ok (.iload_n 3, 1) := by decide +kernel
theorem dX6_context_46 : decode cX6_context 46 = .ok (.invokestatic 126, 3) := by decide +kernel
theorem dX6_context_49 : decode cX6_context 49 = .ok (.ireturn, 1) := by decide +kernel
theorem dX6_ofContext_0 : decode cX6_ofContext 0 = .ok (.aload_n 0, 1) := by decide +kernel
theorem dX6_ofContext_1 : decode cX6_ofContext 1 = .ok (.iload_n 1, 1) := by decide +kernel
theorem dX6_ofContext_2 : decode cX6_ofContext 2 = .ok (.iconst 1, 1) := by decide +kernel
theorem dX6_ofContext_3 : decode cX6_ofContext 3 = .ok (.aload_n 0, 1) := by decide +kernel
theorem dX6_ofContext_4 : decode cX6_ofContext 4 = .ok (.getfield 7, 3) := by decide +kernel
theorem dX6_ofContext_7 : decode cX6_ofContext 7 = .ok (.invokestatic 80, 3) := by decide +kernel
theorem dX6_ofContext_10 : decode cX6_ofContext 10 = .ok (.ifCond .eq 12, 3) := by decide +kernel
theorem dX6_ofContext_13 : decode cX6_ofContext 13 = .ok (.iload_n 2, 1) := by decide +kernel
theorem dX6_ofContext_14 : decode cX6_ofContext 14 = .ok (.iconst 0, 1) := by decide +kernel
theorem dX6_ofContext_15 : decode cX6_ofContext 15 = .ok (.iconst 1, 1) := by decide +kernel
theorem dX6_ofContext_16 : decode cX6_ofContext 16 = .ok (.invokestatic 80, 3) := by decide +kernel
theorem dX6_ofContext_19 : decode cX6_ofContext 19 = .ok (.ifCond .ne 7, 3) := by decide +kernel
theorem dX6_ofContext_22 : decode cX6_ofContext 22 = .ok (.iconst 1, 1) := by decide +kernel
theorem dX6_ofContext_23 : decode cX6_ofContext 23 = .ok (.goto 4, 3) := by decide +kernel
theorem dX6_ofContext_26 : decode cX6_ofContext 26 = .ok (.iconst 0, 1) := by decide +kernel
theorem dX6_ofContext_27 : decode cX6_ofContext 27 = .ok (.iconst 1, 1) := by decide +kernel
theorem dX6_ofContext_28 : decode cX6_ofContext 28 = .ok (.invokevirtual 77, 3) := by decide +kernel
theorem dX6_ofContext_31 : decode cX6_ofContext 31 = .ok (.ifCond .eq 7, 3) := by decide +kernel
theorem dX6_ofContext_34 : decode cX6_ofContext 34 = .ok (.iconst 0, 1) := by decide +kernel
theorem dX6_ofContext_35 : decode cX6_ofContext 35 = .ok (.goto 9, 3) := by decide +kernel
theorem dX6_ofContext_38 : decode cX6_ofContext 38 = .ok (.aload_n 0, 1) := by decide +kernel
theorem dX6_ofContext_39 : decode cX6_ofContext 39 = .ok (.iload_n 1, 1) := by decide +kernel
theorem dX6_ofContext_40 : decode cX6_ofContext 40 = .ok (.iload_n 2, 1) := by decide +kernel
theorem dX6_ofContext_41 : decode cX6_ofContext 41 = .ok (.invokevirtual 129, 3) := by decide +kernel
theorem dX6_ofContext_44 : decode cX6_ofContext 44 = .ok (.ireturn, 1) := by decide +kernel
theorem dX6_prune_0 : decode cX6_prune 0 = .ok (.aload_n 0, 1) := by decide +kernel
theorem dX6_prune_1 : decode cX6_prune 1 = .ok (.iload_n 1, 1) := by decide +kernel
theorem dX6_prune_2 : decode cX6_prune 2 = .ok (.iconst 2, 1) := by decide +kernel
theorem dX6_prune_3 : decode cX6_prune 3 = .ok (.aload_n 0, 1) := by decide +kernel
theorem dX6_prune_4 : decode cX6_prune 4 = .ok (.getfield 7, 3) := by decide +kernel
theorem dX6_prune_7 : decode cX6_prune 7 = .ok (.invokestatic 80, 3) := by decide +kernel
theorem dX6_prune_10 : decode cX6_prune 10 = .ok (.ifCond .eq 14, 3) := by decide +kernel
theorem dX6_prune_13 : decode cX6_prune 13 = .ok (.iload_n 2, 1) := by decide +kernel
theorem dX6_prune_14 : decode cX6_prune 14 = .ok (.iconst 1, 1) := by decide +kernel
theorem dX6_prune_15 : decode cX6_prune 15 = .ok (.sipush 1000, 3) := by decide +kernel
theorem dX6_prune_18 : decode cX6_prune 18 = .ok (.invokestatic 80, 3) := by decide +kernel
theorem dX6_prune_21 : decode cX6_prune 21 = .ok (.ifCond .ne 7, 3) := by decide +kernel
theorem dX6_prune_24 : decode cX6_prune 24 = .ok (.iconst 1, 1) := by decide +kernel
theorem dX6_prune_25 : decode cX6_prune 25 = .ok (.goto 4, 3) := by decide +kernel
theorem dX6_prune_28 : decode cX6_prune 28 = .ok (.iconst 0, 1) := by decide +kernel
theorem dX6_prune_29 : decode cX6_prune 29 = .ok (.iconst 1, 1) := by decide +kernel
theorem dX6_prune_30 : decode cX6_prune 30 = .ok (.invokevirtual 77, 3) := by decide +kernel
theorem dX6_prune_33 : decode cX6_prune 33 = .ok (.ifCond .eq 5, 3) := by decide +kernel
theorem dX6_prune_36 : decode cX6_prune 36 = .ok (.iconst 0, 1) := by decide +kernel
theorem dX6_prune_37 : decode cX6_prune 37 = .ok (.ireturn, 1) := by decide +kernel
theorem dX6_prune_38 : decode cX6_prune 38 = .ok (.iconst 0, 1) := by decide +kernel
theorem dX6_prune_39 : decode cX6_prune 39 = .ok (.istore_n 3, 1) := by decide +kernel
theorem dX6_prune_40 : decode cX6_prune 40 = .ok (.iconst 0, 1) := by decide +kernel
theorem dX6_prune_41 : decode cX6_prune 41 = .ok (.istore 4, 2) := by decide +kernel
theorem dX6_prune_43 : decode cX6_prune 43 = .ok (.iload 4, 2) := by decide +kernel
theorem dX6_prune_45 : decode cX6_prune 45 = .ok (.aload_n 0, 1) := by decide +kernel
theorem dX6_prune_46 : decode cX6_prune 46 = .ok (.getfield 24, 3) := by decide +kernel
theorem dX6_prune_49 : decode cX6_prune 49 = .ok (.iload_n 1, 1) := by decide +kernel
theorem dX6_prune_50 : decode cX6_prune 50 = .ok (.iconst 1, 1) := by decide +kernel
theorem dX6_prune_51 : decode cX6_prune 51 = .ok (.isub, 1) := by decide +kernel
theorem dX6_prune_52 : decode cX6_prune 52 = .ok (.aaload, 1) := by decide +kernel
theorem dX6_prune_53 : decode cX6_prune 53 = .ok (.arraylength, 1) := by decide +kernel
theorem dX6_prune_54 : decode cX6_prune 54 = .ok (.if_icmp .ge 56, 3) := by decide +kernel
theorem dX6_prune_57 : decode cX6_prune 57 = .ok (.aload_n 0, 1) := by decide +kernel
theorem dX6_prune_58 : decode cX6_prune 58 = .ok (.getfield 24, 3) := by decide +kernel
theorem dX6_prune_61 : decode cX6_prune 61 = .ok (.iload_n 1, 1) := by decide +kernel
theorem dX6_prune_62 : decode cX6_prune 62 = .ok (.iconst 1, 1) := by decide +kernel
theorem dX6_prune_63 : decode cX6_prune 63 = .ok (.isub, 1) := by decide +kernel
theorem dX6_prune_64 : decode cX6_prune 64 = .ok (.aaload, 1) := by decide +kernel
theorem dX6_prune_65 : decode cX6_prune 65 = .ok (.iload 4, 2) := by decide +kernel
theorem dX6_prune_67 : decode cX6_prune 67 = .ok (.iaload, 1) := by decide +kernel
theorem dX6_prune_68 : decode cX6_prune 68 = .ok (.ifCond .eq 36, 3) := by decide +kernel
theorem dX6_prune_104 : decode cX6_prune 104 = .ok (.iinc 4 1, 3) := by decide +kernel
theorem dX6_prune_107 : decode cX6_prune 107 = .ok (.goto (-64), 3) := by decide +kernel
theorem dX6_prune_110 : decode cX6_prune 110 = .ok (.iload_n 3, 1) := by decide +kernel
theorem dX6_prune_111 : decode cX6_prune 111 = .ok (.ireturn, 1) := by decide +kernel
theorem dX6_power_0 : decode cX6_power 0 = .ok (.iconst 1, 1) := by decide +kernel
theorem dX6_power_1 : decode cX6_power 1 = .ok (.istore_n 1, 1) := by decide +kernel
theorem dX6_power_2 : decode cX6_power 2 = .ok (.iconst 0, 1) := by decide +kernel
theorem dX6_power_3 : decode cX6_power 3 = .ok (.istore_n 2, 1) := by decide +kernel
theorem dX6_power_4 : decode cX6_power 4 = .ok (.iload_n 2, 1) := by decide +kernel
theorem dX6_power_5 : decode cX6_power 5 = .ok (.iload_n 0, 1) := by decide +kernel
theorem dX6_power_6 : decode cX6_power 6 = .ok (.if_icmp .ge 14, 3) := by decide +kernel
theorem dX6_power_20 : decode cX6_power 20 = .ok (.iload_n 1, 1) := by decide +kernel
theorem dX6_power_21 : decode cX6_power 21 = .ok (.ireturn, 1) := by decide +kernel
theorem dX6_pruneBy_0 : decode cX6_pruneBy 0 = .ok (.aload_n 0, 1) := by decide +kernel
theorem dX6_pruneBy_1 : decode cX6_pruneBy 1 = .ok (.iload_n 1, 1) := by decide +kernel
theorem dX6_pruneBy_2 : decode cX6_pruneBy 2 = .ok (.iconst 2, 1) := by decide +kernel
theorem dX6_pruneBy_3 : decode cX6_pruneBy 3 = .ok (.aload_n 0, 1) := by decide +kernel
theorem dX6_pruneBy_4 : decode cX6_pruneBy 4 = .ok (.getfield 7, 3) := by decide +kernel
theorem dX6_pruneBy_7 : decode cX6_pruneBy 7 = .ok (.invokestatic 80, 3) := by decide +kernel
theorem dX6_pruneBy_10 : decode cX6_pruneBy 10 = .ok (.ifCond .eq 13, 3) := by decide +kernel
theorem dX6_pruneBy_13 : decode cX6_pruneBy 13 = .ok (.iload_n 2, 1) := by decide +kernel
theorem dX6_pruneBy_14 : decode cX6_pruneBy 14 = .ok (.iconst 1, 1) := by decide +kernel
theorem dX6_pruneBy_15 : decode cX6_pruneBy 15 = .ok (.ldc 132, 2) := by decide +kernel
theorem dX6_pruneBy_17 : decode cX6_pruneBy 17 = .ok (.invokestatic 80, 3) := by decide +kernel
theorem dX6_pruneBy_20 : decode cX6_pruneBy 20 = .ok (.ifCond .ne 7, 3) := by decide +kernel
theorem dX6_pruneBy_23 : decode cX6_pruneBy 23 = .ok (.iconst 1, 1) := by decide +kernel
theorem dX6_pruneBy_24 : decode cX6_pruneBy 24 = .ok (.goto 4, 3) := by decide +kernel
theorem dX6_pruneBy_27 : decode cX6_pruneBy 27 = .ok (.iconst 0, 1) := by decide +kernel
theorem dX6_pruneBy_28 : decode cX6_pruneBy 28 = .ok (.iconst 1, 1) := by decide +kernel
theorem dX6_pruneBy_29 : decode cX6_pruneBy 29 = .ok (.invokevirtual 77, 3) := by decide +kernel
theorem dX6_pruneBy_32 : decode cX6_pruneBy 32 = .ok (.ifCond .eq 5, 3) := by decide +kernel
theorem dX6_pruneBy_35 : decode cX6_pruneBy 35 = .ok (.iconst 0, 1) := by decide +kernel
theorem dX6_pruneBy_36 : decode cX6_pruneBy 36 = .ok (.ireturn, 1) := by decide +kernel
theorem dX6_pruneBy_37 : decode cX6_pruneBy 37 = .ok (.aload_n 0, 1) := by decide +kernel
theorem dX6_pruneBy_38 : decode cX6_pruneBy 38 = .ok (.getfield 24, 3) := by decide +kernel
theorem dX6_pruneBy_41 : decode cX6_pruneBy 41 = .ok (.iload_n 1, 1) := by decide +kernel
theorem dX6_pruneBy_42 : decode cX6_pruneBy 42 = .ok (.iconst 1, 1) := by decide +kernel
theorem dX6_pruneBy_43 : decode cX6_pruneBy 43 = .ok (.isub, 1) := by decide +kernel
theorem dX6_pruneBy_44 : decode cX6_pruneBy 44 = .ok (.aaload, 1) := by decide +kernel
theorem dX6_pruneBy_45 : decode cX6_pruneBy 45 = .ok (.invokevirtual 133, 3) := by decide +kernel
theorem dX6_pruneBy_48 : decode cX6_pruneBy 48 = .ok (.checkcast 34, 3) := by decide +kernel
theorem dX6_pruneBy_51 : decode cX6_pruneBy 51 = .ok (.astore_n 3, 1) := by decide +kernel
theorem dX6_pruneBy_52 : decode cX6_pruneBy 52 = .ok (.iconst 0, 1) := by decide +kernel
theorem dX6_pruneBy_53 : decode cX6_pruneBy 53 = .ok (.istore 4, 2) := by decide +kernel
theorem dX6_pruneBy_55 : decode cX6_pruneBy 55 = .ok (.iconst 0, 1) := by decide +kernel
theorem dX6_pruneBy_56 : decode cX6_pruneBy 56 = .ok (.istore 5, 2) := by decide +kernel
theorem dX6_pruneBy_58 : decode cX6_pruneBy 58 = .ok (.iload 5, 2) := by decide +kernel
theorem dX6_pruneBy_60 : decode cX6_pruneBy 60 = .ok (.aload_n 3, 1) := by decide +kernel
theorem dX6_pruneBy_61 : decode cX6_pruneBy 61 = .ok (.arraylength, 1) := by decide +kernel
theorem dX6_pruneBy_62 : decode cX6_pruneBy 62 = .ok (.if_icmp .ge 109, 3) := by decide +kernel
theorem dX6_pruneBy_65 : decode cX6_pruneBy 65 = .ok (.aload_n 3, 1) := by decide +kernel
theorem dX6_pruneBy_66 : decode cX6_pruneBy 66 = .ok (.iload 5, 2) := by decide +kernel
theorem dX6_pruneBy_68 : decode cX6_pruneBy 68 = .ok (.iaload, 1) := by decide +kernel
theorem dX6_pruneBy_69 : decode cX6_pruneBy 69 = .ok (.ifCond .ne 6, 3) := by decide +kernel
theorem dX6_pruneBy_72 : decode cX6_pruneBy 72 = .ok (.goto 93, 3) := by decide +kernel
theorem dX6_pruneBy_165 : decode cX6_pruneBy 165 = .ok (.iinc 5 1, 3) := by decide +kernel
theorem dX6_pruneBy_168 : decode cX6_pruneBy 168 = .ok (.goto (-110), 3) := by decide +kernel
theorem dX6_pruneBy_171 : decode cX6_pruneBy 171 = .ok (.aload_n 0, 1) := by decide +kernel
theorem dX6_pruneBy_172 : decode cX6_pruneBy 172 = .ok (.getfield 24, 3) := by decide +kernel
theorem dX6_pruneBy_175 : decode cX6_pruneBy 175 = .ok (.iload_n 1, 1) := by decide +kernel
theorem dX6_pruneBy_176 : decode cX6_pruneBy 176 = .ok (.iconst 1, 1) := by decide +kernel
theorem dX6_pruneBy_177 : decode cX6_pruneBy 177 = .ok (.isub, 1) := by decide +kernel
theorem dX6_pruneBy_178 : decode cX6_pruneBy 178 = .ok (.aload_n 3, 1) := by decide +kernel
theorem dX6_pruneBy_179 : decode cX6_pruneBy 179 = .ok (.aastore, 1) := by decide +kernel
theorem dX6_pruneBy_180 : decode cX6_pruneBy 180 = .ok (.iload 4, 2) := by decide +kernel
theorem dX6_pruneBy_182 : decode cX6_pruneBy 182 = .ok (.ireturn, 1) := by decide +kernel
theorem dX6_ways_0 : decode cX6_ways 0 = .ok (.iconst 0, 1) := by decide +kernel
theorem dX6_ways_1 : decode cX6_ways 1 = .ok (.istore 4, 2) := by decide +kernel
theorem dX6_ways_3 : decode cX6_ways 3 = .ok (.iconst 0, 1) := by decide +kernel
theorem dX6_ways_4 : decode cX6_ways 4 = .ok (.istore 5, 2) := by decide +kernel
theorem dX6_ways_6 : decode cX6_ways 6 = .ok (.iload 5, 2) := by decide +kernel
theorem dX6_ways_8 : decode cX6_ways 8 = .ok (.bipush 14, 2) := by decide +kernel
theorem dX6_ways_10 : decode cX6_ways 10 = .ok (.if_icmp .ge 37, 3) := by decide +kernel
theorem dX6_ways_13 : decode cX6_ways 13 = .ok (.iload 4, 2) := by decide +kernel
theorem dX6_ways_15 : decode cX6_ways 15 = .ok (.aload_n 0, 1) := by decide +kernel
theorem dX6_ways_16 : decode cX6_ways 16 = .ok (.iload 5, 2) := by decide +kernel
theorem dX6_ways_18 : decode cX6_ways 18 = .ok (.iload_n 3, 1) := by decide +kernel
theorem dX6_ways_19 : decode cX6_ways 19 = .ok (.imul, 1) := by decide +kernel
theorem dX6_ways_20 : decode cX6_ways 20 = .ok (.iload_n 1, 1) := by decide +kernel
theorem dX6_ways_21 : decode cX6_ways 21 = .ok (.iadd, 1) := by decide +kernel
theorem dX6_ways_22 : decode cX6_ways 22 = .ok (.bipush 14, 2) := by decide +kernel
theorem dX6_ways_24 : decode cX6_ways 24 = .ok (.imul, 1) := by decide +kernel
theorem dX6_ways_25 : decode cX6_ways 25 = .ok (.iload_n 2, 1) := by decide +kernel
theorem dX6_ways_26 : decode cX6_ways 26 = .ok (.iadd, 1) := by decide +kernel
theorem dX6_ways_27 : decode cX6_ways 27 = .ok (.iconst 1, 1) := by decide +kernel
theorem dX6_ways_28 : decode cX6_ways 28 = .ok (.iadd, 1) := by decide +kernel
theorem dX6_ways_29 : decode cX6_ways 29 = .ok (.iaload, 1) := by decide +kernel
theorem dX6_ways_30 : decode cX6_ways 30 = .ok (.ifCond .le 7, 3) := by decide +kernel
theorem dX6_ways_37 : decode cX6_ways 37 = .ok (.iconst 0, 1) := by decide +kernel
theorem dX6_ways_38 : decode cX6_ways 38 = .ok (.iadd, 1) := by decide +kernel
theorem dX6_ways_39 : decode cX6_ways 39 = .ok (.istore 4, 2) := by decide +kernel
theorem dX6_ways_41 : decode cX6_ways 41 = .ok (.iinc 5 1, 3) := by decide +kernel
theorem dX6_ways_44 : decode cX6_ways 44 = .ok (.goto (-38), 3) := by decide +kernel
theorem dX6_ways_47 : decode cX6_ways 47 = .ok (.iload 4, 2) := by decide +kernel
theorem dX6_ways_49 : decode cX6_ways 49 = .ok (.ireturn, 1) := by decide +kernel
theorem dX6_chance_0 : decode cX6_chance 0 = .ok (.lconst 0, 1) := by decide +kernel
theorem dX6_chance_1 : decode cX6_chance 1 = .ok (.lstore 7, 2) := by decide +kernel
theorem dX6_chance_3 : decode cX6_chance 3 = .ok (.lconst 0, 1) := by decide +kernel
theorem dX6_chance_4 : decode cX6_chance 4 = .ok (.lstore 9, 2) := by decide +kernel
theorem dX6_chance_6 : decode cX6_chance 6 = .ok (.lconst 0, 1) := by decide +kernel
theorem dX6_chance_7 : decode cX6_chance 7 = .ok (.lstore 11, 2) := by decide +kernel
theorem dX6_chance_9 : decode cX6_chance 9 = .ok (.iload_n 2, 1) := by decide +kernel
theorem dX6_chance_10 : decode cX6_chance 10 = .ok (.iconst 4, 1) := by decide +kernel
theorem dX6_chance_11 : decode cX6_chance 11 = .ok (.if_icmp .ne 95, 3) := by decide +kernel
theorem dX6_chance_14 : decode cX6_chance 14 = .ok (.iload 6, 2) := by decide +kernel
theorem dX6_chance_16 : decode cX6_chance 16 = .ok (.aload_n 0, 1) := by decide +kernel
theorem dX6_chance_17 : decode cX6_chance 17 = .ok (.getfield 7, 3) := by decide +kernel
theorem dX6_chance_20 : decode cX6_chance 20 = .ok (.iconst 1, 1) := by decide +kernel
theorem dX6_chance_21 : decode cX6_chance 21 = .ok (.isub, 1) := by decide +kernel
theorem dX6_chance_22 : decode cX6_chance 22 = .ok (.if_icmp .ge 84, 3) := by decide +kernel
theorem dX6_chance_25 : decode cX6_chance 25 = .ok (.iconst 0, 1) := by decide +kernel
theorem dX6_chance_26 : decode cX6_chance 26 = .ok (.istore 13, 2) := by decide +kernel
theorem dX6_chance_28 : decode cX6_chance 28 = .ok (.iload 13, 2) := by decide +kernel
theorem dX6_chance_30 : decode cX6_chance 30 = .ok (.aload_n 0, 1) := by decide +kernel
theorem dX6_chance_31 : decode cX6_chance 31 = .ok (.getfield 56, 3) := by decide +kernel
theorem dX6_chance_34 : decode cX6_chance 34 = .ok (.if_icmp .gt 69, 3) := by decide +kernel
theorem dX6_chance_37 : decode cX6_chance 37 = .ok (.aload_n 1, 1) := by decide +kernel
theorem dX6_chance_38 : decode cX6_chance 38 = .ok (.iload 6, 2) := by decide +kernel
theorem dX6_chance_40 : decode cX6_chance 40 = .ok (.iconst 1, 1) := by decide +kernel
theorem dX6_chance_41 : decode cX6_chance 41 = .ok (.iadd, 1) := by decide +kernel
theorem dX6_chance_42 : decode cX6_chance 42 = .ok (.aaload, 1) := by decide +kernel
theorem dX6_chance_43 : decode cX6_chance 43 = .ok (.iload 5, 2) := by decide +kernel
theorem dX6_chance_45 : decode cX6_chance 45 = .ok (.iload 13, 2) := by decide +kernel
theorem dX6_chance_47 : decode cX6_chance 47 = .ok (.iload 6, 2) := by decide +kernel
theorem dX6_chance_49 : decode cX6_chance 49 = .ok (.invokestatic 144, 3) := by decide +kernel
theorem dX6_chance_52 : decode cX6_chance 52 = .ok (.invokestatic 153, 3) := by decide +kernel
theorem dX6_chance_55 : decode cX6_chance 55 = .ok (.istore 14, 2) := by decide +kernel
theorem dX6_chance_57 : decode cX6_chance 57 = .ok (.lload 9, 2) := by decide +kernel
theorem dX6_chance_59 : decode cX6_chance 59 = .ok (.iload 14, 2) := by decide +kernel
theorem dX6_chance_61 : decode cX6_chance 61 = .ok (.i2l, 1) := by decide +kernel
theorem dX6_chance_62 : decode cX6_chance 62 = .ok (.ladd, 1) := by decide +kernel
theorem dX6_chance_63 : decode cX6_chance 63 = .ok (.lstore 9, 2) := by decide +kernel
theorem dX6_chance_65 : decode cX6_chance 65 = .ok (.lload 11, 2) := by decide +kernel
theorem dX6_chance_67 : decode cX6_chance 67 = .ok (.iload 14, 2) := by decide +kernel
theorem dX6_chance_69 : decode cX6_chance 69 = .ok (.ifCond .le 7, 3) := by decide +kernel
theorem dX6_chance_76 : decode cX6_chance 76 = .ok (.lconst 0, 1) := by decide +kernel
theorem dX6_chance_77 : decode cX6_chance 77 = .ok (.ladd, 1) := by decide +kernel
theorem dX6_chance_78 : decode cX6_chance 78 = .ok (.lstore 11, 2) := by decide +kernel
theorem dX6_chance_80 : decode cX6_chance 80 = .ok (.iload 13, 2) := by decide +kernel
theorem dX6_chance_82 : decode cX6_chance 82 = .ok (.iload 4, 2) := by decide +kernel
theorem dX6_chance_84 : decode cX6_chance 84 = .ok (.if_icmp .ne 9, 3) := by decide +kernel
theorem dX6_chance_87 : decode cX6_chance 87 = .ok (.iload 14, 2) := by decide +kernel
theorem dX6_chance_89 : decode cX6_chance 89 = .ok (.i2l, 1) := by decide +kernel
theorem dX6_chance_90 : decode cX6_chance 90 = .ok (.goto 5, 3) := by decide +kernel
theorem dX6_chance_95 : decode cX6_chance 95 = .ok (.lstore 7, 2) := by decide +kernel
theorem dX6_chance_97 : decode cX6_chance 97 = .ok (.iinc 13 1, 3) := by decide +kernel
theorem dX6_chance_100 : decode cX6_chance 100 = .ok (.goto (-72), 3) := by decide +kernel
theorem dX6_chance_103 : decode cX6_chance 103 = .ok (.goto 45, 3) := by decide +kernel
theorem dX6_chance_106 : decode cX6_chance 106 = .ok (.aload_n 1, 1) := by decide +kernel
theorem dX6_chance_107 : decode cX6_chance 107 = .ok (.iload 6, 2) := by decide +kernel
theorem dX6_chance_109 : decode cX6_chance 109 = .ok (.aaload, 1) := by decide +kernel
theorem dX6_chance_110 : decode cX6_chance 110 = .ok (.iload 5, 2) := by decide +kernel
theorem dX6_chance_112 : decode cX6_chance 112 = .ok (.bipush 14, 2) := by decide +kernel
theorem dX6_chance_114 : decode cX6_chance 114 = .ok (.imul, 1) := by decide +kernel
theorem dX6_chance_115 : decode cX6_chance 115 = .ok (.iload 4, 2) := by decide +kernel
theorem dX6_chance_117 : decode cX6_chance 117 = .ok (.iadd, 1) := by decide +kernel
theorem dX6_chance_118 : decode cX6_chance 118 = .ok (.iconst 1, 1) := by decide +kernel
theorem dX6_chance_119 : decode cX6_chance 119 = .ok (.iadd, 1) := by decide +kernel
theorem dX6_chance_120 : decode cX6_chance 120 = .ok (.iaload, 1) := by decide +kernel
theorem dX6_chance_121 : decode cX6_chance 121 = .ok (.i2l, 1) := by decide +kernel
theorem dX6_chance_122 : decode cX6_chance 122 = .ok (.lstore 7, 2) := by decide +kernel
theorem dX6_chance_124 : decode cX6_chance 124 = .ok (.aload_n 1, 1) := by decide +kernel
theorem dX6_chance_125 : decode cX6_chance 125 = .ok (.iload 6, 2) := by decide +kernel
theorem dX6_chance_127 : decode cX6_chance 127 = .ok (.aaload, 1) := by decide +kernel
theorem dX6_chance_128 : decode cX6_chance 128 = .ok (.iload 5, 2) := by decide +kernel
theorem dX6_chance_130 : decode cX6_chance 130 = .ok (.invokestatic 122, 3) := by decide +kernel
theorem dX6_chance_133 : decode cX6_chance 133 = .ok (.i2l, 1) := by decide +kernel
theorem dX6_chance_134 : decode cX6_chance 134 = .ok (.lstore 9, 2) := by decide +kernel
theorem dX6_chance_136 : decode cX6_chance 136 = .ok (.aload_n 1, 1) := by decide +kernel
theorem dX6_chance_137 : decode cX6_chance 137 = .ok (.iload 6, 2) := by decide +kernel
theorem dX6_chance_139 : decode cX6_chance 139 = .ok (.aaload, 1) := by decide +kernel
theorem dX6_chance_140 : decode cX6_chance 140 = .ok (.iload 5, 2) := by decide +kernel
theorem dX6_chance_142 : decode cX6_chance 142 = .ok (.invokestatic 126, 3) := by decide +kernel
theorem dX6_chance_145 : decode cX6_chance 145 = .ok (.i2l, 1) := by decide +kernel
theorem dX6_chance_146 : decode cX6_chance 146 = .ok (.lstore 11, 2) := by decide +kernel
theorem dX6_chance_148 : decode cX6_chance 148 = .ok (.iload_n 2, 1) := by decide +kernel
theorem dX6_chance_149 : decode cX6_chance 149 = .ok (.ifCond .ne 35, 3) := by decide +kernel
theorem dX6_chance_152 : decode cX6_chance 152 = .ok (.lload 7, 2) := by decide +kernel
theorem dX6_chance_154 : decode cX6_chance 154 = .ok (.ldc2_w 157, 3) := by decide +kernel
theorem dX6_chance_157 : decode cX6_chance 157 = .ok (.lmul, 1) := by decide +kernel
theorem dX6_chance_158 : decode cX6_chance 158 = .ok (.iload_n 3, 1) := by decide +kernel
theorem dX6_chance_159 : decode cX6_chance 159 = .ok (.i2l, 1) := by decide +kernel
theorem dX6_chance_160 : decode cX6_chance 160 = .ok (.ladd, 1) := by decide +kernel
theorem dX6_chance_161 : decode cX6_chance 161 = .ok (.ldc2_w 159, 3) := by decide +kernel
theorem dX6_chance_164 : decode cX6_chance 164 = .ok (.lmul, 1) := by decide +kernel
theorem dX6_chance_165 : decode cX6_chance 165 = .ok (.lload 9, 2) := by decide +kernel
theorem dX6_chance_167 : decode cX6_chance 167 = .ok (.ldc2_w 157, 3) := by decide +kernel
theorem dX6_chance_170 : decode cX6_chance 170 = .ok (.lmul, 1) := by decide +kernel
theorem dX6_chance_171 : decode cX6_chance 171 = .ok (.iload_n 3, 1) := by decide +kernel
theorem dX6_chance_172 : decode cX6_chance 172 = .ok (.i2l, 1) := by decide +kernel
theorem dX6_chance_173 : decode cX6_chance 173 = .ok (.aload_n 0, 1) := by decide +kernel
theorem dX6_chance_174 : decode cX6_chance 174 = .ok (.getfield 56, 3) := by decide +kernel
theorem dX6_chance_177 : decode cX6_chance 177 = .ok (.iconst 1, 1) := by decide +kernel
theorem dX6_chance_178 : decode cX6_chance 178 = .ok (.iadd, 1) := by decide +kernel
theorem dX6_chance_179 : decode cX6_chance 179 = .ok (.i2l, 1) := by decide +kernel
theorem dX6_chance_180 : decode cX6_chance 180 = .ok (.lmul, 1) := by decide +kernel
theorem dX6_chance_181 : decode cX6_chance 181 = .ok (.ladd, 1) := by decide +kernel
theorem dX6_chance_182 : decode cX6_chance 182 = .ok (.ldiv, 1) := by decide +kernel
theorem dX6_chance_183 : decode cX6_chance 183 = .ok (.lreturn, 1) := by decide +kernel
theorem dX6_chance_184 : decode cX6_chance 184 = .ok (.iload 6, 2) := by decide +kernel
theorem dX6_chance_186 : decode cX6_chance 186 = .ok (.ifCond .ne 16, 3) := by decide +kernel
theorem dX6_chance_189 : decode cX6_chance 189 = .ok (.ldc 132, 2) := by decide +kernel
theorem dX6_chance_191 : decode cX6_chance 191 = .ok (.aload_n 0, 1) := by decide +kernel
theorem dX6_chance_192 : decode cX6_chance 192 = .ok (.getfield 56, 3) := by decide +kernel
theorem dX6_chance_195 : decode cX6_chance 195 = .ok (.iconst 1, 1) := by decide +kernel
theorem dX6_chance_196 : decode cX6_chance 196 = .ok (.iadd, 1) := by decide +kernel
theorem dX6_chance_197 : decode cX6_chance 197 = .ok (.idiv, 1) := by decide +kernel
theorem dX6_chance_198 : decode cX6_chance 198 = .ok (.i2l, 1) := by decide +kernel
theorem dX6_chance_199 : decode cX6_chance 199 = .ok (.goto 26, 3) := by decide +kernel
theorem dX6_chance_202 : decode cX6_chance 202 = .ok (.aload_n 0, 1) := by decide +kernel
theorem dX6_chance_203 : decode cX6_chance 203 = .ok (.aload_n 1, 1) := by decide +kernel
theorem dX6_chance_204 : decode cX6_chance 204 = .ok (.iload_n 2, 1) := by decide +kernel
theorem dX6_chance_205 : decode cX6_chance 205 = .ok (.iload_n 3, 1) := by decide +kernel
theorem dX6_chance_206 : decode cX6_chance 206 = .ok (.iload 4, 2) := by decide +kernel
theorem dX6_chance_208 : decode cX6_chance 208 = .ok (.iload 5, 2) := by decide +kernel
theorem dX6_chance_210 : decode cX6_chance 210 = .ok (.iload 6, 2) := by decide +kernel
theorem dX6_chance_212 : decode cX6_chance 212 = .ok (.iconst 1, 1) := by decide +kernel
theorem dX6_chance_213 : decode cX6_chance 213 = .ok (.isub, 1) := by decide +kernel
theorem dX6_chance_214 : decode cX6_chance 214 = .ok (.invokestatic 144, 3) := by decide +kernel
theorem dX6_chance_217 : decode cX6_chance 217 = .ok (.irem, 1) := by decide +kernel
theorem dX6_chance_218 : decode cX6_chance 218 = .ok (.iload 6, 2) := by decide +kernel
theorem dX6_chance_220 : decode cX6_chance 220 = .ok (.iconst 1, 1) := by decide +kernel
theorem dX6_chance_221 : decode cX6_chance 221 = .ok (.isub, 1) := by decide +kernel
theorem dX6_chance_222 : decode cX6_chance 222 = .ok (.invokevirtual 140, 3) := by decide +kernel
theorem dX6_chance_225 : decode cX6_chance 225 = .ok (.lstore 13, 2) := by decide +kernel
theorem dX6_chance_227 : decode cX6_chance 227 = .ok (.lload 9, 2) := by decide +kernel
theorem dX6_chance_229 : decode cX6_chance 229 = .ok (.lconst 0, 1) := by decide +kernel
theorem dX6_chance_230 : decode cX6_chance 230 = .ok (.lcmp, 1) := by decide +kernel
theorem dX6_chance_231 : decode cX6_chance 231 = .ok (.ifCond .ne 6, 3) := by decide +kernel
theorem dX6_chance_234 : decode cX6_chance 234 = .ok (.lload 13, 2) := by decide +kernel
theorem dX6_chance_236 : decode cX6_chance 236 = .ok (.lreturn, 1) := by decide +kernel
theorem dX6_behind_0 : decode cX6_behind 0 = .ok (.aload_n 0, 1) := by decide +kernel
theorem dX6_behind_1 : decode cX6_behind 1 = .ok (.aload_n 0, 1) := by decide +kernel
theorem dX6_behind_2 : decode cX6_behind 2 = .ok (.getfield 24, 3) := by decide +kernel
theorem dX6_behind_5 : decode cX6_behind 5 = .ok (.aload_n 0, 1) := by decide +kernel
theorem dX6_behind_6 : decode cX6_behind 6 = .ok (.getfield 137, 3) := by decide +kernel
theorem dX6_behind_9 : decode cX6_behind 9 = .ok (.aload_n 0, 1) := by decide +kernel
theorem dX6_behind_10 : decode cX6_behind 10 = .ok (.getfield 28, 3) := by decide +kernel
theorem dX6_behind_13 : decode cX6_behind 13 = .ok (.iload_n 2, 1) := by decide +kernel
theorem dX6_behind_14 : decode cX6_behind 14 = .ok (.aload_n 1, 1) := by decide +kernel
theorem dX6_behind_15 : decode cX6_behind 15 = .ok (.aload_n 1, 1) := by decide +kernel
theorem dX6_behind_16 : decode cX6_behind 16 = .ok (.invokevirtual 53, 3) := by decide +kernel
theorem dX6_behind_19 : decode cX6_behind 19 = .ok (.aload_n 0, 1) := by decide +kernel
theorem dX6_behind_20 : decode cX6_behind 20 = .ok (.getfield 7, 3) := by decide +kernel
theorem dX6_behind_23 : decode cX6_behind 23 = .ok (.iconst 1, 1) := by decide +kernel
theorem dX6_behind_24 : decode cX6_behind 24 = .ok (.isub, 1) := by decide +kernel
theorem dX6_behind_25 : decode cX6_behind 25 = .ok (.invokestatic 59, 3) := by decide +kernel
theorem dX6_behind_28 : decode cX6_behind 28 = .ok (.aload_n 0, 1) := by decide +kernel
theorem dX6_behind_29 : decode cX6_behind 29 = .ok (.getfield 7, 3) := by decide +kernel
theorem dX6_behind_32 : decode cX6_behind 32 = .ok (.iconst 1, 1) := by decide +kernel
theorem dX6_behind_33 : decode cX6_behind 33 = .ok (.isub, 1) := by decide +kernel
theorem dX6_behind_34 : decode cX6_behind 34 = .ok (.invokevirtual 140, 3) := by decide +kernel
theorem dX6_behind_37 : decode cX6_behind 37 = .ok (.lreturn, 1) := by decide +kernel
theorem dX6_setWay_0 : decode cX6_setWay 0 = .ok (.aload_n 0, 1) := by decide +kernel
theorem dX6_setWay_1 : decode cX6_setWay 1 = .ok (.iload_n 1, 1) := by decide +kernel
theorem dX6_setWay_2 : decode cX6_setWay 2 = .ok (.iconst 0, 1) := by decide +kernel
theorem dX6_setWay_3 : decode cX6_setWay 3 = .ok (.iconst 4, 1) := by decide +kernel
theorem dX6_setWay_4 : decode cX6_setWay 4 = .ok (.invokestatic 80, 3) := by decide +kernel
theorem dX6_setWay_7 : decode cX6_setWay 7 = .ok (.ifCond .eq 14, 3) := by decide +kernel
theorem dX6_setWay_10 : decode cX6_setWay 10 = .ok (.iload_n 2, 1) := by decide +kernel
theorem dX6_setWay_11 : decode cX6_setWay 11 = .ok (.iconst 1, 1) := by decide +kernel
theorem dX6_setWay_12 : decode cX6_setWay 12 = .ok (.sipush 1000, 3) := by decide +kernel
theorem dX6_setWay_15 : decode cX6_setWay 15 = .ok (.invokestatic 80, 3) := by decide +kernel
theorem dX6_setWay_18 : decode cX6_setWay 18 = .ok (.ifCond .ne 7, 3) := by decide +kernel
theorem dX6_setWay_21 : decode cX6_setWay 21 = .ok (.iconst 1, 1) := by decide +kernel
theorem dX6_setWay_22 : decode cX6_setWay 22 = .ok (.goto 4, 3) := by decide +kernel
theorem dX6_setWay_25 : decode cX6_setWay 25 = .ok (.iconst 0, 1) := by decide +kernel
theorem dX6_setWay_26 : decode cX6_setWay 26 = .ok (.iconst 1, 1) := by decide +kernel
theorem dX6_setWay_27 : decode cX6_setWay 27 = .ok (.invokevirtual 77, 3) := by decide +kernel
theorem dX6_setWay_30 : decode cX6_setWay 30 = .ok (.ifCond .eq 5, 3) := by decide +kernel
theorem dX6_setWay_33 : decode cX6_setWay 33 = .ok (.iconst 0, 1) := by decide +kernel
theorem dX6_setWay_34 : decode cX6_setWay 34 = .ok (.ireturn, 1) := by decide +kernel
theorem dX6_setWay_35 : decode cX6_setWay 35 = .ok (.aload_n 0, 1) := by decide +kernel
theorem dX6_setWay_36 : decode cX6_setWay 36 = .ok (.getfield 137, 3) := by decide +kernel
theorem dX6_setWay_39 : decode cX6_setWay 39 = .ok (.istore_n 3, 1) := by decide +kernel
theorem dX6_setWay_40 : decode cX6_setWay 40 = .ok (.aload_n 0, 1) := by decide +kernel
theorem dX6_setWay_41 : decode cX6_setWay 41 = .ok (.iload_n 1, 1) := by decide +kernel
theorem dX6_setWay_42 : decode cX6_setWay 42 = .ok (.putfield 137, 3) := by decide +kernel
theorem dX6_setWay_45 : decode cX6_setWay 45 = .ok (.aload_n 0, 1) := by decide +kernel
theorem dX6_setWay_46 : decode cX6_setWay 46 = .ok (.iload_n 2, 1) := by decide +kernel
theorem dX6_setWay_47 : decode cX6_setWay 47 = .ok (.putfield 28, 3) := by decide +kernel
theorem dX6_setWay_50 : decode cX6_setWay 50 = .ok (.iload_n 3, 1) := by decide +kernel
theorem dX6_setWay_51 : decode cX6_setWay 51 = .ok (.ireturn, 1) := by decide +kernel
theorem dX6_chance__0 : decode cX6_chance_ 0 = .ok (.aload_n 0, 1) := by decide +kernel
theorem dX6_chance__1 : decode cX6_chance_ 1 = .ok (.iload_n 1, 1) := by decide +kernel
theorem dX6_chance__2 : decode cX6_chance_ 2 = .ok (.iconst 0, 1) := by decide +kernel
theorem dX6_chance__3 : decode cX6_chance_ 3 = .ok (.aload_n 0, 1) := by decide +kernel
theorem dX6_chance__4 : decode cX6_chance_ 4 = .ok (.getfield 56, 3) := by decide +kernel
theorem dX6_chance__7 : decode cX6_chance_ 7 = .ok (.invokestatic 80, 3) := by decide +kernel
theorem dX6_chance__10 : decode cX6_chance_ 10 = .ok (.ifCond .ne 7, 3) := by decide +kernel
theorem dX6_chance__13 : decode cX6_chance_ 13 = .ok (.iconst 1, 1) := by decide +kernel
theorem dX6_chance__14 : decode cX6_chance_ 14 = .ok (.goto 4, 3) := by decide +kernel
theorem dX6_chance__17 : decode cX6_chance_ 17 = .ok (.iconst 0, 1) := by decide +kernel
theorem dX6_chance__18 : decode cX6_chance_ 18 = .ok (.iconst 1, 1) := by decide +kernel
theorem dX6_chance__19 : decode cX6_chance_ 19 = .ok (.invokevirtual 77, 3) := by decide +kernel
theorem dX6_chance__22 : decode cX6_chance_ 22 = .ok (.ifCond .eq 7, 3) := by decide +kernel
theorem dX6_chance__25 : decode cX6_chance_ 25 = .ok (.iconst 0, 1) := by decide +kernel
theorem dX6_chance__26 : decode cX6_chance_ 26 = .ok (.goto 13, 3) := by decide +kernel
theorem dX6_chance__29 : decode cX6_chance_ 29 = .ok (.aload_n 0, 1) := by decide +kernel
theorem dX6_chance__30 : decode cX6_chance_ 30 = .ok (.aload_n 0, 1) := by decide +kernel
theorem dX6_chance__31 : decode cX6_chance_ 31 = .ok (.getfield 16, 3) := by decide +kernel
theorem dX6_chance__34 : decode cX6_chance_ 34 = .ok (.iload_n 1, 1) := by decide +kernel
theorem dX6_chance__35 : decode cX6_chance_ 35 = .ok (.invokevirtual 165, 3) := by decide +kernel
theorem dX6_chance__38 : decode cX6_chance_ 38 = .ok (.l2i, 1) := by decide +kernel
theorem dX6_chance__39 : decode cX6_chance_ 39 = .ok (.ireturn, 1) := by decide +kernel
theorem dX6_order__0 : decode cX6_order_ 0 = .ok (.aload_n 0, 1) := by decide +kernel
theorem dX6_order__1 : decode cX6_order_ 1 = .ok (.getfield 56, 3) := by decide +kernel
theorem dX6_order__4 : decode cX6_order_ 4 = .ok (.iconst 1, 1) := by decide +kernel
theorem dX6_order__5 : decode cX6_order_ 5 = .ok (.iadd, 1) := by decide +kernel
theorem dX6_order__6 : decode cX6_order_ 6 = .ok (.newarray .int, 2) := by decide +kernel
theorem dX6_order__8 : decode cX6_order_ 8 = .ok (.astore_n 2, 1) := by decide +kernel
theorem dX6_order__9 : decode cX6_order_ 9 = .ok (.iconst 0, 1) := by decide +kernel
theorem dX6_order__10 : decode cX6_order_ 10 = .ok (.istore_n 3, 1) := by decide +kernel
theorem dX6_order__11 : decode cX6_order_ 11 = .ok (.iload_n 3, 1) := by decide +kernel
theorem dX6_order__12 : decode cX6_order_ 12 = .ok (.aload_n 0, 1) := by decide +kernel
theorem dX6_order__13 : decode cX6_order_ 13 = .ok (.getfield 56, 3) := by decide +kernel
theorem dX6_order__16 : decode cX6_order_ 16 = .ok (.if_icmp .gt 59, 3) := by decide +kernel
theorem dX6_order__19 : decode cX6_order_ 19 = .ok (.iload_n 3, 1) := by decide +kernel
theorem dX6_order__20 : decode cX6_order_ 20 = .ok (.istore 4, 2) := by decide +kernel
theorem dX6_order__22 : decode cX6_order_ 22 = .ok (.iload 4, 2) := by decide +kernel
theorem dX6_order__24 : decode cX6_order_ 24 = .ok (.ifCond .le 40, 3) := by decide +kernel
theorem dX6_order__64 : decode cX6_order_ 64 = .ok (.aload_n 2, 1) := by decide +kernel
theorem dX6_order__65 : decode cX6_order_ 65 = .ok (.iload 4, 2) := by decide +kernel
theorem dX6_order__67 : decode cX6_order_ 67 = .ok (.iload_n 3, 1) := by decide +kernel
theorem dX6_order__68 : decode cX6_order_ 68 = .ok (.iastore, 1) := by decide +kernel
theorem dX6_order__69 : decode cX6_order_ 69 = .ok (.iinc 3 1, 3) := by decide +kernel
theorem dX6_order__72 : decode cX6_order_ 72 = .ok (.goto (-61), 3) := by decide +kernel
theorem dX6_order__75 : decode cX6_order_ 75 = .ok (.aload_n 2, 1) := by decide +kernel
theorem dX6_order__76 : decode cX6_order_ 76 = .ok (.areturn, 1) := by decide +kernel
theorem dX6_ranked_0 : decode cX6_ranked 0 = .ok (.aload_n 0, 1) := by decide +kernel
theorem dX6_ranked_1 : decode cX6_ranked 1 = .ok (.iload_n 1, 1) := by decide +kernel
theorem dX6_ranked_2 : decode cX6_ranked 2 = .ok (.iconst 0, 1) := by decide +kernel
theorem dX6_ranked_3 : decode cX6_ranked 3 = .ok (.aload_n 0, 1) := by decide +kernel
theorem dX6_ranked_4 : decode cX6_ranked 4 = .ok (.getfield 56, 3) := by decide +kernel
theorem dX6_ranked_7 : decode cX6_ranked 7 = .ok (.invokestatic 80, 3) := by decide +kernel
theorem dX6_ranked_10 : decode cX6_ranked 10 = .ok (.ifCond .ne 7, 3) := by decide +kernel
theorem dX6_ranked_13 : decode cX6_ranked 13 = .ok (.iconst 1, 1) := by decide +kernel
theorem dX6_ranked_14 : decode cX6_ranked 14 = .ok (.goto 4, 3) := by decide +kernel
theorem dX6_ranked_17 : decode cX6_ranked 17 = .ok (.iconst 0, 1) := by decide +kernel
theorem dX6_ranked_18 : decode cX6_ranked 18 = .ok (.iconst 1, 1) := by decide +kernel
theorem dX6_ranked_19 : decode cX6_ranked 19 = .ok (.invokevirtual 77, 3) := by decide +kernel
theorem dX6_ranked_22 : decode cX6_ranked 22 = .ok (.ifCond .eq 7, 3) := by decide +kernel
theorem dX6_ranked_25 : decode cX6_ranked 25 = .ok (.iconst 0, 1) := by decide +kernel
theorem dX6_ranked_26 : decode cX6_ranked 26 = .ok (.goto 13, 3) := by decide +kernel
theorem dX6_ranked_29 : decode cX6_ranked 29 = .ok (.aload_n 0, 1) := by decide +kernel
theorem dX6_ranked_30 : decode cX6_ranked 30 = .ok (.aload_n 0, 1) := by decide +kernel
theorem dX6_ranked_31 : decode cX6_ranked 31 = .ok (.getfield 16, 3) := by decide +kernel
theorem dX6_ranked_34 : decode cX6_ranked 34 = .ok (.invokevirtual 169, 3) := by decide +kernel
theorem dX6_ranked_37 : decode cX6_ranked 37 = .ok (.iload_n 1, 1) := by decide +kernel
theorem dX6_ranked_38 : decode cX6_ranked 38 = .ok (.iaload, 1) := by decide +kernel
theorem dX6_ranked_39 : decode cX6_ranked 39 = .ok (.ireturn, 1) := by decide +kernel
theorem dX6_cost_0 : decode cX6_cost 0 = .ok (.lload_n 0, 1) := by decide +kernel
theorem dX6_cost_1 : decode cX6_cost 1 = .ok (.lconst 0, 1) := by decide +kernel
theorem dX6_cost_2 : decode cX6_cost 2 = .ok (.lcmp, 1) := by decide +kernel
theorem dX6_cost_3 : decode cX6_cost 3 = .ok (.ifCond .gt 6, 3) := by decide +kernel
theorem dX6_cost_6 : decode cX6_cost 6 = .ok (.ldc 172, 2) := by decide +kernel
theorem dX6_cost_8 : decode cX6_cost 8 = .ok (.ireturn, 1) := by decide +kernel
theorem dX6_cost_9 : decode cX6_cost 9 = .ok (.lload_n 0, 1) := by decide +kernel
theorem dX6_cost_10 : decode cX6_cost 10 = .ok (.ldc2_w 159, 3) := by decide +kernel
theorem dX6_cost_13 : decode cX6_cost 13 = .ok (.lcmp, 1) := by decide +kernel
theorem dX6_cost_14 : decode cX6_cost 14 = .ok (.ifCond .lt 5, 3) := by decide +kernel
theorem dX6_cost_17 : decode cX6_cost 17 = .ok (.iconst 0, 1) := by decide +kernel
theorem dX6_cost_18 : decode cX6_cost 18 = .ok (.ireturn, 1) := by decide +kernel
theorem dX6_cost_19 : decode cX6_cost 19 = .ok (.iconst 0, 1) := by decide +kernel
theorem dX6_cost_20 : decode cX6_cost 20 = .ok (.istore_n 2, 1) := by decide +kernel
theorem dX6_cost_21 : decode cX6_cost 21 = .ok (.ldc2_w 159, 3) := by decide +kernel
theorem dX6_cost_24 : decode cX6_cost 24 = .ok (.lstore_n 3, 1) := by decide +kernel
theorem dX6_cost_25 : decode cX6_cost 25 = .ok (.lload_n 0, 1) := by decide +kernel
theorem dX6_cost_26 : decode cX6_cost 26 = .ok (.ldc 132, 2) := by decide +kernel
theorem dX6_cost_28 : decode cX6_cost 28 = .ok (.iload_n 2, 1) := by decide +kernel
theorem dX6_cost_29 : decode cX6_cost 29 = .ok (.iconst 1, 1) := by decide +kernel
theorem dX6_cost_30 : decode cX6_cost 30 = .ok (.iadd, 1) := by decide +kernel
theorem dX6_cost_31 : decode cX6_cost 31 = .ok (.ishr, 1) := by decide +kernel
theorem dX6_cost_32 : decode cX6_cost 32 = .ok (.i2l, 1) := by decide +kernel
theorem dX6_cost_33 : decode cX6_cost 33 = .ok (.lcmp, 1) := by decide +kernel
theorem dX6_cost_34 : decode cX6_cost 34 = .ok (.ifCond .gt 9, 3) := by decide +kernel
theorem dX6_cost_37 : decode cX6_cost 37 = .ok (.iinc 2 1, 3) := by decide +kernel
theorem dX6_cost_40 : decode cX6_cost 40 = .ok (.goto (-15), 3) := by decide +kernel
theorem dX6_cost_43 : decode cX6_cost 43 = .ok (.ldc 132, 2) := by decide +kernel
theorem dX6_cost_45 : decode cX6_cost 45 = .ok (.iload_n 2, 1) := by decide +kernel
theorem dX6_cost_46 : decode cX6_cost 46 = .ok (.ishr, 1) := by decide +kernel
theorem dX6_cost_47 : decode cX6_cost 47 = .ok (.i2l, 1) := by decide +kernel
theorem dX6_cost_48 : decode cX6_cost 48 = .ok (.lstore_n 3, 1) := by decide +kernel
theorem dX6_cost_49 : decode cX6_cost 49 = .ok (.ldc 132, 2) := by decide +kernel
theorem dX6_cost_51 : decode cX6_cost 51 = .ok (.iload_n 2, 1) := by decide +kernel
theorem dX6_cost_52 : decode cX6_cost 52 = .ok (.iconst 1, 1) := by decide +kernel
theorem dX6_cost_53 : decode cX6_cost 53 = .ok (.iadd, 1) := by decide +kernel
theorem dX6_cost_54 : decode cX6_cost 54 = .ok (.ishr, 1) := by decide +kernel
theorem dX6_cost_55 : decode cX6_cost 55 = .ok (.i2l, 1) := by decide +kernel
theorem dX6_cost_56 : decode cX6_cost 56 = .ok (.lstore 5, 2) := by decide +kernel
theorem dX6_cost_58 : decode cX6_cost 58 = .ok (.sipush 1024, 3) := by decide +kernel
theorem dX6_cost_61 : decode cX6_cost 61 = .ok (.iload_n 2, 1) := by decide +kernel
theorem dX6_cost_62 : decode cX6_cost 62 = .ok (.imul, 1) := by decide +kernel
theorem dX6_cost_63 : decode cX6_cost 63 = .ok (.i2l, 1) := by decide +kernel
theorem dX6_cost_64 : decode cX6_cost 64 = .ok (.ldc2_w 173, 3) := by decide +kernel
theorem dX6_cost_67 : decode cX6_cost 67 = .ok (.lload_n 3, 1) := by decide +kernel
theorem dX6_cost_68 : decode cX6_cost 68 = .ok (.lload_n 0, 1) := by decide +kernel
theorem dX6_cost_69 : decode cX6_cost 69 = .ok (.lsub, 1) := by decide +kernel
theorem dX6_cost_70 : decode cX6_cost 70 = .ok (.lmul, 1) := by decide +kernel
theorem dX6_cost_71 : decode cX6_cost 71 = .ok (.lload_n 3, 1) := by decide +kernel
theorem dX6_cost_72 : decode cX6_cost 72 = .ok (.lload 5, 2) := by decide +kernel
theorem dX6_cost_74 : decode cX6_cost 74 = .ok (.lsub, 1) := by decide +kernel
theorem dX6_cost_75 : decode cX6_cost 75 = .ok (.ldiv, 1) := by decide +kernel
theorem dX6_cost_76 : decode cX6_cost 76 = .ok (.ladd, 1) := by decide +kernel
theorem dX6_cost_77 : decode cX6_cost 77 = .ok (.l2i, 1) := by decide +kernel
theorem dX6_cost_78 : decode cX6_cost 78 = .ok (.ireturn, 1) := by decide +kernel
theorem dX6_costOf_0 : decode cX6_costOf 0 = .ok (.aload_n 0, 1) := by decide +kernel
theorem dX6_costOf_1 : decode cX6_costOf 1 = .ok (.iload_n 1, 1) := by decide +kernel
theorem dX6_costOf_2 : decode cX6_costOf 2 = .ok (.i2l, 1) := by decide +kernel
theorem dX6_costOf_3 : decode cX6_costOf 3 = .ok (.invokestatic 175, 3) := by decide +kernel
theorem dX6_costOf_6 : decode cX6_costOf 6 = .ok (.invokevirtual 103, 3) := by decide +kernel
theorem dX6_costOf_9 : decode cX6_costOf 9 = .ok (.ireturn, 1) := by decide +kernel
theorem dX6_score_0 : decode cX6_score 0 = .ok (.iconst 0, 1) := by decide +kernel
theorem dX6_score_1 : decode cX6_score 1 = .ok (.istore 4, 2) := by decide +kernel
theorem dX6_score_3 : decode cX6_score 3 = .ok (.iconst 0, 1) := by decide +kernel
theorem dX6_score_4 : decode cX6_score 4 = .ok (.istore 5, 2) := by decide +kernel
theorem dX6_score_6 : decode cX6_score 6 = .ok (.iload 5, 2) := by decide +kernel
theorem dX6_score_8 : decode cX6_score 8 = .ok (.aload_n 0, 1) := by decide +kernel
theorem dX6_score_9 : decode cX6_score 9 = .ok (.getfield 16, 3) := by decide +kernel
theorem dX6_score_12 : decode cX6_score 12 = .ok (.invokevirtual 53, 3) := by decide +kernel
theorem dX6_score_15 : decode cX6_score 15 = .ok (.if_icmp .gt 55, 3) := by decide +kernel
theorem dX6_score_18 : decode cX6_score 18 = .ok (.iload 4, 2) := by decide +kernel
theorem dX6_score_20 : decode cX6_score 20 = .ok (.aload_n 0, 1) := by decide +kernel
theorem dX6_score_21 : decode cX6_score 21 = .ok (.aload_n 1, 1) := by decide +kernel
theorem dX6_score_22 : decode cX6_score 22 = .ok (.iload_n 2, 1) := by decide +kernel
theorem dX6_score_23 : decode cX6_score 23 = .ok (.iload_n 3, 1) := by decide +kernel
theorem dX6_score_24 : decode cX6_score 24 = .ok (.aload_n 0, 1) := by decide +kernel
theorem dX6_score_25 : decode cX6_score 25 = .ok (.aload_n 0, 1) := by decide +kernel
theorem dX6_score_26 : decode cX6_score 26 = .ok (.getfield 16, 3) := by decide +kernel
theorem dX6_score_29 : decode cX6_score 29 = .ok (.iload 5, 2) := by decide +kernel
theorem dX6_score_31 : decode cX6_score 31 = .ok (.invokevirtual 63, 3) := by decide +kernel
theorem dX6_score_34 : decode cX6_score 34 = .ok (.aload_n 0, 1) := by decide +kernel
theorem dX6_score_35 : decode cX6_score 35 = .ok (.getfield 16, 3) := by decide +kernel
theorem dX6_score_38 : decode cX6_score 38 = .ok (.iload 5, 2) := by decide +kernel
theorem dX6_score_40 : decode cX6_score 40 = .ok (.aload_n 0, 1) := by decide +kernel
theorem dX6_score_41 : decode cX6_score 41 = .ok (.getfield 7, 3) := by decide +kernel
theorem dX6_score_44 : decode cX6_score 44 = .ok (.iconst 1, 1) := by decide +kernel
theorem dX6_score_45 : decode cX6_score 45 = .ok (.isub, 1) := by decide +kernel
theorem dX6_score_46 : decode cX6_score 46 = .ok (.invokestatic 59, 3) := by decide +kernel
theorem dX6_score_49 : decode cX6_score 49 = .ok (.aload_n 0, 1) := by decide +kernel
theorem dX6_score_50 : decode cX6_score 50 = .ok (.getfield 7, 3) := by decide +kernel
theorem dX6_score_53 : decode cX6_score 53 = .ok (.iconst 1, 1) := by decide +kernel
theorem dX6_score_54 : decode cX6_score 54 = .ok (.isub, 1) := by decide +kernel
theorem dX6_score_55 : decode cX6_score 55 = .ok (.invokevirtual 140, 3) := by decide +kernel
theorem dX6_score_58 : decode cX6_score 58 = .ok (.invokestatic 175, 3) := by decide +kernel
theorem dX6_score_61 : decode cX6_score 61 = .ok (.iadd, 1) := by decide +kernel
theorem dX6_score_62 : decode cX6_score 62 = .ok (.istore 4, 2) := by decide +kernel
theorem dX6_score_64 : decode cX6_score 64 = .ok (.iinc 5 1, 3) := by decide +kernel
theorem dX6_score_67 : decode cX6_score 67 = .ok (.goto (-61), 3) := by decide +kernel
theorem dX6_score_70 : decode cX6_score 70 = .ok (.iload 4, 2) := by decide +kernel
theorem dX6_score_72 : decode cX6_score 72 = .ok (.ireturn, 1) := by decide +kernel
theorem dX6_scoreNow_0 : decode cX6_scoreNow 0 = .ok (.aload_n 0, 1) := by decide +kernel
theorem dX6_scoreNow_1 : decode cX6_scoreNow 1 = .ok (.aload_n 0, 1) := by decide +kernel
theorem dX6_scoreNow_2 : decode cX6_scoreNow 2 = .ok (.getfield 24, 3) := by decide +kernel
theorem dX6_scoreNow_5 : decode cX6_scoreNow 5 = .ok (.aload_n 0, 1) := by decide +kernel
theorem dX6_scoreNow_6 : decode cX6_scoreNow 6 = .ok (.getfield 137, 3) := by decide +kernel
theorem dX6_scoreNow_9 : decode cX6_scoreNow 9 = .ok (.aload_n 0, 1) := by decide +kernel
theorem dX6_scoreNow_10 : decode cX6_scoreNow 10 = .ok (.getfield 28, 3) := by decide +kernel
theorem dX6_scoreNow_13 : decode cX6_scoreNow 13 = .ok (.invokevirtual 179, 3) := by decide +kernel
theorem dX6_scoreNow_16 : decode cX6_scoreNow 16 = .ok (.ireturn, 1) := by decide +kernel
theorem dX6_score__0 : decode cX6_score_ 0 = .ok (.aload_n 0, 1) := by decide +kernel
theorem dX6_score__1 : decode cX6_score_ 1 = .ok (.aload_n 0, 1) := by decide +kernel
theorem dX6_score__2 : decode cX6_score_ 2 = .ok (.invokevirtual 183, 3) := by decide +kernel
theorem dX6_score__5 : decode cX6_score_ 5 = .ok (.invokevirtual 103, 3) := by decide +kernel
theorem dX6_score__8 : decode cX6_score_ 8 = .ok (.ireturn, 1) := by decide +kernel
theorem dX6_meanCost_0 : decode cX6_meanCost 0 = .ok (.aload_n 0, 1) := by decide +kernel
theorem dX6_meanCost_1 : decode cX6_meanCost 1 = .ok (.iconst 0, 1) := by decide +kernel
theorem dX6_meanCost_2 : decode cX6_meanCost 2 = .ok (.putfield 36, 3) := by decide +kernel
theorem dX6_meanCost_5 : decode cX6_meanCost 5 = .ok (.aload_n 0, 1) := by decide +kernel
theorem dX6_meanCost_6 : decode cX6_meanCost 6 = .ok (.invokevirtual 183, 3) := by decide +kernel
theorem dX6_meanCost_9 : decode cX6_meanCost 9 = .ok (.i2d, 1) := by decide +kernel
theorem dX6_meanCost_10 : decode cX6_meanCost 10 = .ok (.aload_n 0, 1) := by decide +kernel
theorem dX6_meanCost_11 : decode cX6_meanCost 11 = .ok (.getfield 16, 3) := by decide +kernel
theorem dX6_meanCost_14 : decode cX6_meanCost 14 = .ok (.invokevirtual 53, 3) := by decide +kernel
theorem dX6_meanCost_17 : decode cX6_meanCost 17 = .ok (.iconst 1, 1) := by decide +kernel
theorem dX6_meanCost_18 : decode cX6_meanCost 18 = .ok (.iadd, 1) := by decide +kernel
theorem dX6_meanCost_19 : decode cX6_meanCost 19 = .ok (.i2d, 1) := by decide +kernel
theorem dX6_meanCost_20 : decode cX6_meanCost 20 = .ok (.ddiv, 1) := by decide +kernel
theorem dX6_meanCost_21 : decode cX6_meanCost 21 = .ok (.dreturn, 1) := by decide +kernel
theorem dX6_complete_0 : decode cX6_complete 0 = .ok (.aload_n 0, 1) := by decide +kernel
theorem dX6_complete_1 : decode cX6_complete 1 = .ok (.iload_n 1, 1) := by decide +kernel
theorem dX6_complete_2 : decode cX6_complete 2 = .ok (.aload_n 0, 1) := by decide +kernel
theorem dX6_complete_3 : decode cX6_complete 3 = .ok (.getfield 16, 3) := by decide +kernel
theorem dX6_complete_6 : decode cX6_complete 6 = .ok (.invokevirtual 53, 3) := by decide +kernel
theorem dX6_complete_9 : decode cX6_complete 9 = .ok (.bipush 12, 2) := by decide +kernel
theorem dX6_complete_11 : decode cX6_complete 11 = .ok (.invokestatic 80, 3) := by decide +kernel
theorem dX6_complete_14 : decode cX6_complete 14 = .ok (.ifCond .ne 7, 3) := by decide +kernel
theorem dX6_complete_17 : decode cX6_complete 17 = .ok (.iconst 1, 1) := by decide +kernel
theorem dX6_complete_18 : decode cX6_complete 18 = .ok (.goto 4, 3) := by decide +kernel
theorem dX6_complete_21 : decode cX6_complete 21 = .ok (.iconst 0, 1) := by decide +kernel
theorem dX6_complete_22 : decode cX6_complete 22 = .ok (.iconst 1, 1) := by decide +kernel
theorem dX6_complete_23 : decode cX6_complete 23 = .ok (.invokevirtual 77, 3) := by decide +kernel
theorem dX6_complete_26 : decode cX6_complete 26 = .ok (.ifCond .ne 23, 3) := by decide +kernel
theorem dX6_complete_29 : decode cX6_complete 29 = .ok (.aload_n 0, 1) := by decide +kernel
theorem dX6_complete_30 : decode cX6_complete 30 = .ok (.aload_n 0, 1) := by decide +kernel
theorem dX6_complete_31 : decode cX6_complete 31 = .ok (.getfield 56, 3) := by decide +kernel
theorem dX6_complete_34 : decode cX6_complete 34 = .ok (.ifCond .ne 7, 3) := by decide +kernel
theorem dX6_complete_37 : decode cX6_complete 37 = .ok (.iconst 1, 1) := by decide +kernel
theorem dX6_complete_38 : decode cX6_complete 38 = .ok (.goto 4, 3) := by decide +kernel
theorem dX6_complete_42 : decode cX6_complete 42 = .ok (.iconst 2, 1) := by decide +kernel
theorem dX6_complete_43 : decode cX6_complete 43 = .ok (.invokevirtual 39, 3) := by decide +kernel
theorem dX6_complete_46 : decode cX6_complete 46 = .ok (.ifCond .eq 5, 3) := by decide +kernel
theorem dX6_complete_49 : decode cX6_complete 49 = .ok (.iconst 0, 1) := by decide +kernel
theorem dX6_complete_50 : decode cX6_complete 50 = .ok (.ireturn, 1) := by decide +kernel
theorem dX6_setLuck_0 : decode cX6_setLuck 0 = .ok (.aload_n 0, 1) := by decide +kernel
theorem dX6_setLuck_1 : decode cX6_setLuck 1 = .ok (.iload_n 1, 1) := by decide +kernel
theorem dX6_setLuck_2 : decode cX6_setLuck 2 = .ok (.iconst 0, 1) := by decide +kernel
theorem dX6_setLuck_3 : decode cX6_setLuck 3 = .ok (.sipush 9999, 3) := by decide +kernel
theorem dX6_setLuck_6 : decode cX6_setLuck 6 = .ok (.invokestatic 80, 3) := by decide +kernel
theorem dX6_setLuck_9 : decode cX6_setLuck 9 = .ok (.ifCond .ne 7, 3) := by decide +kernel
theorem dX6_setLuck_12 : decode cX6_setLuck 12 = .ok (.iconst 1, 1) := by decide +kernel
theorem dX6_setLuck_13 : decode cX6_setLuck 13 = .ok (.goto 4, 3) := by decide +kernel
theorem dX6_setLuck_16 : decode cX6_setLuck 16 = .ok (.iconst 0, 1) := by decide +kernel
theorem dX6_setLuck_17 : decode cX6_setLuck 17 = .ok (.iconst 1, 1) := by decide +kernel
theorem dX6_setLuck_18 : decode cX6_setLuck 18 = .ok (.invokevirtual 77, 3) := by decide +kernel
theorem dX6_setLuck_21 : decode cX6_setLuck 21 = .ok (.ifCond .eq 5, 3) := by decide +kernel
theorem dX6_setLuck_24 : decode cX6_setLuck 24 = .ok (.iconst 0, 1) := by decide +kernel
theorem dX6_setLuck_25 : decode cX6_setLuck 25 = .ok (.ireturn, 1) := by decide +kernel
theorem dX6_setLuck_26 : decode cX6_setLuck 26 = .ok (.aload_n 0, 1) := by decide +kernel
theorem dX6_setLuck_27 : decode cX6_setLuck 27 = .ok (.getfield 196, 3) := by decide +kernel
theorem dX6_setLuck_30 : decode cX6_setLuck 30 = .ok (.istore_n 2, 1) := by decide +kernel
theorem dX6_setLuck_31 : decode cX6_setLuck 31 = .ok (.aload_n 0, 1) := by decide +kernel
theorem dX6_setLuck_32 : decode cX6_setLuck 32 = .ok (.iload_n 1, 1) := by decide +kernel
theorem dX6_setLuck_33 : decode cX6_setLuck 33 = .ok (.putfield 196, 3) := by decide +kernel
theorem dX6_setLuck_36 : decode cX6_setLuck 36 = .ok (.iload_n 2, 1) := by decide +kernel
theorem dX6_setLuck_37 : decode cX6_setLuck 37 = .ok (.ireturn, 1) := by decide +kernel
theorem dX6_addStep_0 : decode cX6_addStep 0 = .ok (.aload_n 0, 1) := by decide +kernel
theorem dX6_addStep_1 : decode cX6_addStep 1 = .ok (.iload_n 1, 1) := by decide +kernel
theorem dX6_addStep_2 : decode cX6_addStep 2 = .ok (.iconst 0, 1) := by decide +kernel
theorem dX6_addStep_3 : decode cX6_addStep 3 = .ok (.iconst 5, 1) := by decide +kernel
theorem dX6_addStep_4 : decode cX6_addStep 4 = .ok (.invokestatic 80, 3) := by decide +kernel
theorem dX6_addStep_7 : decode cX6_addStep 7 = .ok (.ifCond .eq 59, 3) := by decide +kernel
theorem dX6_addStep_10 : decode cX6_addStep 10 = .ok (.iload_n 1, 1) := by decide +kernel
theorem dX6_addStep_11 : decode cX6_addStep 11 = .ok (.iconst 2, 1) := by decide +kernel
theorem dX6_addStep_12 : decode cX6_addStep 12 = .ok (.if_icmp .ne 17, 3) := by decide +kernel
theorem dX6_addStep_15 : decode cX6_addStep 15 = .ok (.iload_n 2, 1) := by decide +kernel
theorem dX6_addStep_16 : decode cX6_addStep 16 = .ok (.iconst 0, 1) := by decide +kernel
theorem dX6_addStep_17 : decode cX6_addStep 17 = .ok (.aload_n 0, 1) := by decide +kernel
theorem dX6_addStep_18 : decode cX6_addStep 18 = .ok (.getfield 56, 3) := by decide +kernel
theorem dX6_addStep_21 : decode cX6_addStep 21 = .ok (.iconst 1, 1) := by decide +kernel
theorem dX6_addStep_22 : decode cX6_addStep 22 = .ok (.isub, 1) := by decide +kernel
theorem dX6_addStep_23 : decode cX6_addStep 23 = .ok (.invokestatic 80, 3) := by decide +kernel
theorem dX6_addStep_26 : decode cX6_addStep 26 = .ok (.ifCond .eq 40, 3) := by decide +kernel
theorem dX6_addStep_29 : decode cX6_addStep 29 = .ok (.iload_n 1, 1) := by decide +kernel
theorem dX6_addStep_30 : decode cX6_addStep 30 = .ok (.iconst 4, 1) := by decide +kernel
theorem dX6_addStep_31 : decode cX6_addStep 31 = .ok (.if_icmp .ne 15, 3) := by decide +kernel
theorem dX6_addStep_34 : decode cX6_addStep 34 = .ok (.iload_n 2, 1) := by decide +kernel
theorem dX6_addStep_35 : decode cX6_addStep 35 = .ok (.iconst 0, 1) := by decide +kernel
theorem dX6_addStep_36 : decode cX6_addStep 36 = .ok (.aload_n 0, 1) := by decide +kernel
theorem dX6_addStep_37 : decode cX6_addStep 37 = .ok (.getfield 56, 3) := by decide +kernel
theorem dX6_addStep_40 : decode cX6_addStep 40 = .ok (.invokestatic 80, 3) := by decide +kernel
theorem dX6_addStep_43 : decode cX6_addStep 43 = .ok (.ifCond .eq 23, 3) := by decide +kernel
theorem dX6_addStep_46 : decode cX6_addStep 46 = .ok (.iload_n 1, 1) := by decide +kernel
theorem dX6_addStep_47 : decode cX6_addStep 47 = .ok (.iconst 3, 1) := by decide +kernel
theorem dX6_addStep_48 : decode cX6_addStep 48 = .ok (.if_icmp .eq 8, 3) := by decide +kernel
theorem dX6_addStep_51 : decode cX6_addStep 51 = .ok (.iload_n 1, 1) := by decide +kernel
theorem dX6_addStep_52 : decode cX6_addStep 52 = .ok (.iconst 5, 1) := by decide +kernel
theorem dX6_addStep_53 : decode cX6_addStep 53 = .ok (.if_icmp .ne 17, 3) := by decide +kernel
theorem dX6_addStep_56 : decode cX6_addStep 56 = .ok (.iload_n 2, 1) := by decide +kernel
theorem dX6_addStep_57 : decode cX6_addStep 57 = .ok (.iconst 1, 1) := by decide +kernel
theorem dX6_addStep_58 : decode cX6_addStep 58 = .ok (.bipush 12, 2) := by decide +kernel
theorem dX6_addStep_60 : decode cX6_addStep 60 = .ok (.invokestatic 80, 3) := by decide +kernel
theorem dX6_addStep_63 : decode cX6_addStep 63 = .ok (.ifCond .ne 7, 3) := by decide +kernel
theorem dX6_addStep_66 : decode cX6_addStep 66 = .ok (.iconst 1, 1) := by decide +kernel
theorem dX6_addStep_67 : decode cX6_addStep 67 = .ok (.goto 4, 3) := by decide +kernel
theorem dX6_addStep_70 : decode cX6_addStep 70 = .ok (.iconst 0, 1) := by decide +kernel
theorem dX6_addStep_71 : decode cX6_addStep 71 = .ok (.iconst 1, 1) := by decide +kernel
theorem dX6_addStep_72 : decode cX6_addStep 72 = .ok (.invokevirtual 77, 3) := by decide +kernel
theorem dX6_addStep_75 : decode cX6_addStep 75 = .ok (.ifCond .eq 5, 3) := by decide +kernel
theorem dX6_addStep_78 : decode cX6_addStep 78 = .ok (.iconst 0, 1) := by decide +kernel
theorem dX6_addStep_79 : decode cX6_addStep 79 = .ok (.ireturn, 1) := by decide +kernel
theorem dX6_addStep_80 : decode cX6_addStep 80 = .ok (.aload_n 0, 1) := by decide +kernel
theorem dX6_addStep_81 : decode cX6_addStep 81 = .ok (.aload_n 0, 1) := by decide +kernel
theorem dX6_addStep_82 : decode cX6_addStep 82 = .ok (.getfield 31, 3) := by decide +kernel
theorem dX6_addStep_85 : decode cX6_addStep 85 = .ok (.invokevirtual 53, 3) := by decide +kernel
theorem dX6_addStep_88 : decode cX6_addStep 88 = .ok (.bipush 12, 2) := by decide +kernel
theorem dX6_addStep_90 : decode cX6_addStep 90 = .ok (.if_icmp .ne 7, 3) := by decide +kernel
theorem dX6_addStep_97 : decode cX6_addStep 97 = .ok (.iconst 0, 1) := by decide +kernel
theorem dX6_addStep_98 : decode cX6_addStep 98 = .ok (.iconst 2, 1) := by decide +kernel
theorem dX6_addStep_99 : decode cX6_addStep 99 = .ok (.invokevirtual 39, 3) := by decide +kernel
theorem dX6_addStep_102 : decode cX6_addStep 102 = .ok (.ifCond .eq 5, 3) := by decide +kernel
theorem dX6_addStep_107 : decode cX6_addStep 107 = .ok (.aload_n 0, 1) := by decide +kernel
theorem dX6_addStep_108 : decode cX6_addStep 108 = .ok (.getfield 31, 3) := by decide +kernel
theorem dX6_addStep_111 : decode cX6_addStep 111 = .ok (.iconst 2, 1) := by decide +kernel
theorem dX6_addStep_112 : decode cX6_addStep 112 = .ok (.newarray .int, 2) := by decide +kernel
theorem dX6_addStep_114 : decode cX6_addStep 114 = .ok (.dup, 1) := by decide +kernel
theorem dX6_addStep_115 : decode cX6_addStep 115 = .ok (.iconst 0, 1) := by decide +kernel
theorem dX6_addStep_116 : decode cX6_addStep 116 = .ok (.iload_n 1, 1) := by decide +kernel
theorem dX6_addStep_117 : decode cX6_addStep 117 = .ok (.iastore, 1) := by decide +kernel
theorem dX6_addStep_118 : decode cX6_addStep 118 = .ok (.dup, 1) := by decide +kernel
theorem dX6_addStep_119 : decode cX6_addStep 119 = .ok (.iconst 1, 1) := by decide +kernel
theorem dX6_addStep_120 : decode cX6_addStep 120 = .ok (.iload_n 2, 1) := by decide +kernel
theorem dX6_addStep_121 : decode cX6_addStep 121 = .ok (.iastore, 1) := by decide +kernel
theorem dX6_addStep_122 : decode cX6_addStep 122 = .ok (.invokevirtual 88, 3) := by decide +kernel
theorem dX6_addStep_125 : decode cX6_addStep 125 = .ok (.pop, 1) := by decide +kernel
theorem dX6_addStep_126 : decode cX6_addStep 126 = .ok (.aload_n 0, 1) := by decide +kernel
theorem dX6_addStep_127 : decode cX6_addStep 127 = .ok (.getfield 31, 3) := by decide +kernel
theorem dX6_addStep_130 : decode cX6_addStep 130 = .ok (.invokevirtual 53, 3) := by decide +kernel
theorem dX6_addStep_133 : decode cX6_addStep 133 = .ok (.iconst 1, 1) := by decide +kernel
theorem dX6_addStep_134 : decode cX6_addStep 134 = .ok (.isub, 1) := by decide +kernel
theorem dX6_addStep_135 : decode cX6_addStep 135 = .ok (.ireturn, 1) := by decide +kernel
theorem dX6_clearScript_0 : decode cX6_clearScript 0 = .ok (.aload_n 0, 1) := by decide +kernel
theorem dX6_clearScript_1 : decode cX6_clearScript 1 = .ok (.iconst 0, 1) := by decide +kernel
theorem dX6_clearScript_2 : decode cX6_clearScript 2 = .ok (.putfield 36, 3) := by decide +kernel
theorem dX6_clearScript_5 : decode cX6_clearScript 5 = .ok (.aload_n 0, 1) := by decide +kernel
theorem dX6_clearScript_6 : decode cX6_clearScript 6 = .ok (.getfield 31, 3) := by decide +kernel
theorem dX6_clearScript_9 : decode cX6_clearScript 9 = .ok (.invokevirtual 53, 3) := by decide +kernel
theorem dX6_clearScript_12 : decode cX6_clearScript 12 = .ok (.istore_n 1, 1) := by decide +kernel
theorem dX6_clearScript_13 : decode cX6_clearScript 13 = .ok (.aload_n 0, 1) := by decide +kernel
theorem dX6_clearScript_14 : decode cX6_clearScript 14 = .ok (.getfield 31, 3) := by decide +kernel
theorem dX6_clearScript_17 : decode cX6_clearScript 17 = .ok (.invokevirtual 199, 3) := by decide +kernel
theorem dX6_clearScript_20 : decode cX6_clearScript 20 = .ok (.iload_n 1, 1) := by decide +kernel
theorem dX6_clearScript_21 : decode cX6_clearScript 21 = .ok (.ireturn, 1) := by decide +kernel
theorem dX6_runScript_0 : decode cX6_runScript 0 = .ok (.aload_n 0, 1) := by decide +kernel
theorem dX6_runScript_1 : decode cX6_runScript 1 = .ok (.aload_n 0, 1) := by decide +kernel
theorem dX6_runScript_2 : decode cX6_runScript 2 = .ok (.getfield 56, 3) := by decide +kernel
theorem dX6_runScript_5 : decode cX6_runScript 5 = .ok (.ifCond .eq 13, 3) := by decide +kernel
theorem dX6_runScript_18 : decode cX6_runScript 18 = .ok (.iconst 1, 1) := by decide +kernel
theorem dX6_runScript_19 : decode cX6_runScript 19 = .ok (.goto 4, 3) := by decide +kernel
theorem dX6_runScript_23 : decode cX6_runScript 23 = .ok (.iconst 1, 1) := by decide +kernel
theorem dX6_runScript_24 : decode cX6_runScript 24 = .ok (.invokevirtual 77, 3) := by decide +kernel
theorem dX6_runScript_27 : decode cX6_runScript 27 = .ok (.ifCond .eq 5, 3) := by decide +kernel
theorem dX6_runScript_30 : decode cX6_runScript 30 = .ok (.iconst 0, 1) := by decide +kernel
theorem dX6_runScript_31 : decode cX6_runScript 31 = .ok (.ireturn, 1) := by decide +kernel
theorem dX6_hasEnded_0 : decode cX6_hasEnded 0 = .ok (.aload_n 0, 1) := by decide +kernel
theorem dX6_hasEnded_1 : decode cX6_hasEnded 1 = .ok (.iconst 0, 1) := by decide +kernel
theorem dX6_hasEnded_2 : decode cX6_hasEnded 2 = .ok (.putfield 36, 3) := by decide +kernel
theorem dX6_hasEnded_5 : decode cX6_hasEnded 5 = .ok (.aload_n 0, 1) := by decide +kernel
theorem dX6_hasEnded_6 : decode cX6_hasEnded 6 = .ok (.getfield 215, 3) := by decide +kernel
theorem dX6_hasEnded_9 : decode cX6_hasEnded 9 = .ok (.ireturn, 1) := by decide +kernel
theorem dX6_luck_0 : decode cX6_luck 0 = .ok (.aload_n 0, 1) := by decide +kernel
theorem dX6_luck_1 : decode cX6_luck 1 = .ok (.aload_n 0, 1) := by decide +kernel
theorem dX6_luck_2 : decode cX6_luck 2 = .ok (.getfield 196, 3) := by decide +kernel
theorem dX6_luck_5 : decode cX6_luck 5 = .ok (.invokevirtual 103, 3) := by decide +kernel
theorem dX6_luck_8 : decode cX6_luck 8 = .ok (.ireturn, 1) := by decide +kernel
theorem dX6_draws_0 : decode cX6_draws 0 = .ok (.aload_n 0, 1) := by decide +kernel
theorem dX6_draws_1 : decode cX6_draws 1 = .ok (.aload_n 0, 1) := by decide +kernel
theorem dX6_draws_2 : decode cX6_draws 2 = .ok (.getfield 204, 3) := by decide +kernel
theorem dX6_draws_5 : decode cX6_draws 5 = .ok (.invokevirtual 103, 3) := by decide +kernel
theorem dX6_draws_8 : decode cX6_draws 8 = .ok (.ireturn, 1) := by decide +kernel
theorem dX6_scoreLearned_0 : decode cX6_scoreLearned 0 = .ok (.aload_n 0, 1) := by decide +kernel
theorem dX6_scoreLearned_1 : decode cX6_scoreLearned 1 = .ok (.iload_n 1, 1) := by decide +kernel
theorem dX6_scoreLearned_2 : decode cX6_scoreLearned 2 = .ok (.iconst 1, 1) := by decide +kernel
theorem dX6_scoreLearned_3 : decode cX6_scoreLearned 3 = .ok (.bipush 100, 2) := by decide +kernel
theorem dX6_scoreLearned_5 : decode cX6_scoreLearned 5 = .ok (.invokestatic 80, 3) := by decide +kernel
theorem dX6_scoreLearned_8 : decode cX6_scoreLearned 8 = .ok (.ifCond .ne 7, 3) := by decide +kernel
theorem dX6_scoreLearned_11 : decode cX6_scoreLearned 11 = .ok (.iconst 1, 1) := by decide +kernel
theorem dX6_scoreLearned_12 : decode cX6_scoreLearned 12 = .ok (.goto 4, 3) := by decide +kernel
theorem dX6_scoreLearned_15 : decode cX6_scoreLearned 15 = .ok (.iconst 0, 1) := by decide +kernel
theorem dX6_scoreLearned_16 : decode cX6_scoreLearned 16 = .ok (.iconst 1, 1) := by decide +kernel
theorem dX6_scoreLearned_17 : decode cX6_scoreLearned 17 = .ok (.invokevirtual 77, 3) := by decide +kernel
theorem dX6_scoreLearned_20 : decode cX6_scoreLearned 20 = .ok (.ifCond .ne 23, 3) := by decide +kernel
theorem dX6_scoreLearned_23 : decode cX6_scoreLearned 23 = .ok (.aload_n 0, 1) := by decide +kernel
theorem dX6_scoreLearned_24 : decode cX6_scoreLearned 24 = .ok (.aload_n 0, 1) := by decide +kernel
theorem dX6_scoreLearned_25 : decode cX6_scoreLearned 25 = .ok (.getfield 56, 3) := by decide +kernel
theorem dX6_scoreLearned_28 : decode cX6_scoreLearned 28 = .ok (.ifCond .ne 7, 3) := by decide +kernel
theorem dX6_scoreLearned_31 : decode cX6_scoreLearned 31 = .ok (.iconst 1, 1) := by decide +kernel
theorem dX6_scoreLearned_32 : decode cX6_scoreLearned 32 = .ok (.goto 4, 3) := by decide +kernel
theorem dX6_scoreLearned_36 : decode cX6_scoreLearned 36 = .ok (.iconst 2, 1) := by decide +kernel
theorem dX6_scoreLearned_37 : decode cX6_scoreLearned 37 = .ok (.invokevirtual 39, 3) := by decide +kernel
theorem dX6_scoreLearned_40 : decode cX6_scoreLearned 40 = .ok (.ifCond .eq 5, 3) := by decide +kernel
theorem dX6_scoreLearned_43 : decode cX6_scoreLearned 43 = .ok (.iconst 0, 1) := by decide +kernel
theorem dX6_scoreLearned_44 : decode cX6_scoreLearned 44 = .ok (.ireturn, 1) := by decide +kernel
theorem dX6_scoreBy_0 : decode cX6_scoreBy 0 = .ok (.aload_n 0, 1) := by decide +kernel
theorem dX6_scoreBy_1 : decode cX6_scoreBy 1 = .ok (.iload_n 1, 1) := by decide +kernel
theorem dX6_scoreBy_2 : decode cX6_scoreBy 2 = .ok (.iconst 0, 1) := by decide +kernel
theorem dX6_scoreBy_3 : decode cX6_scoreBy 3 = .ok (.iconst 4, 1) := by decide +kernel
theorem dX6_scoreBy_4 : decode cX6_scoreBy 4 = .ok (.invokestatic 80, 3) := by decide +kernel
theorem dX6_scoreBy_7 : decode cX6_scoreBy 7 = .ok (.ifCond .eq 14, 3) := by decide +kernel
theorem dX6_scoreBy_10 : decode cX6_scoreBy 10 = .ok (.iload_n 2, 1) := by decide +kernel
theorem dX6_scoreBy_11 : decode cX6_scoreBy 11 = .ok (.iconst 1, 1) := by decide +kernel
theorem dX6_scoreBy_12 : decode cX6_scoreBy 12 = .ok (.sipush 1000, 3) := by decide +kernel
theorem dX6_scoreBy_15 : decode cX6_scoreBy 15 = .ok (.invokestatic 80, 3) := by decide +kernel
theorem dX6_scoreBy_18 : decode cX6_scoreBy 18 = .ok (.ifCond .ne 7, 3) := by decide +kernel
theorem dX6_scoreBy_21 : decode cX6_scoreBy 21 = .ok (.iconst 1, 1) := by decide +kernel
theorem dX6_scoreBy_22 : decode cX6_scoreBy 22 = .ok (.goto 4, 3) := by decide +kernel
theorem dX6_scoreBy_25 : decode cX6_scoreBy 25 = .ok (.iconst 0, 1) := by decide +kernel
theorem dX6_scoreBy_26 : decode cX6_scoreBy 26 = .ok (.iconst 1, 1) := by decide +kernel
theorem dX6_scoreBy_27 : decode cX6_scoreBy 27 = .ok (.invokevirtual 77, 3) := by decide +kernel
theorem dX6_scoreBy_30 : decode cX6_scoreBy 30 = .ok (.ifCond .eq 7, 3) := by decide +kernel
theorem dX6_scoreBy_33 : decode cX6_scoreBy 33 = .ok (.iconst 0, 1) := by decide +kernel
theorem dX6_scoreBy_34 : decode cX6_scoreBy 34 = .ok (.goto 13, 3) := by decide +kernel
theorem dX6_scoreBy_37 : decode cX6_scoreBy 37 = .ok (.aload_n 0, 1) := by decide +kernel
theorem dX6_scoreBy_38 : decode cX6_scoreBy 38 = .ok (.aload_n 0, 1) := by decide +kernel
theorem dX6_scoreBy_39 : decode cX6_scoreBy 39 = .ok (.getfield 24, 3) := by decide +kernel
theorem dX6_scoreBy_42 : decode cX6_scoreBy 42 = .ok (.iload_n 1, 1) := by decide +kernel
theorem dX6_scoreBy_43 : decode cX6_scoreBy 43 = .ok (.iload_n 2, 1) := by decide +kernel
theorem dX6_scoreBy_44 : decode cX6_scoreBy 44 = .ok (.invokevirtual 179, 3) := by decide +kernel
theorem dX6_scoreBy_47 : decode cX6_scoreBy 47 = .ok (.ireturn, 1) := by decide +kernel
theorem dX6_wouldDraw_0 : decode cX6_wouldDraw 0 = .ok (.aload_n 0, 1) := by decide +kernel
theorem dX6_wouldDraw_1 : decode cX6_wouldDraw 1 = .ok (.aload_n 0, 1) := by decide +kernel
theorem dX6_wouldDraw_2 : decode cX6_wouldDraw 2 = .ok (.getfield 56, 3) := by decide +kernel
theorem dX6_wouldDraw_5 : decode cX6_wouldDraw 5 = .ok (.ifCond .ne 7, 3) := by decide +kernel
theorem dX6_wouldDraw_8 : decode cX6_wouldDraw 8 = .ok (.iconst 1, 1) := by decide +kernel
theorem dX6_wouldDraw_9 : decode cX6_wouldDraw 9 = .ok (.goto 4, 3) := by decide +kernel
theorem dX6_wouldDraw_13 : decode cX6_wouldDraw 13 = .ok (.iconst 1, 1) := by decide +kernel
theorem dX6_wouldDraw_14 : decode cX6_wouldDraw 14 = .ok (.invokevirtual 77, 3) := by decide +kernel
theorem dX6_wouldDraw_17 : decode cX6_wouldDraw 17 = .ok (.ifCond .eq 5, 3) := by decide +kernel
theorem dX6_wouldDraw_20 : decode cX6_wouldDraw 20 = .ok (.iconst 0, 1) := by decide +kernel
theorem dX6_wouldDraw_21 : decode cX6_wouldDraw 21 = .ok (.ireturn, 1) := by decide +kernel
theorem dX6_add__0 : decode cX6_add_ 0 = .ok (.lload_n 0, 1) := by decide +kernel
theorem dX6_add__1 : decode cX6_add_ 1 = .ok (.ldc2_w 222, 3) := by decide +kernel
theorem dX6_add__4 : decode cX6_add_ 4 = .ok (.lmul, 1) := by decide +kernel
theorem dX6_add__5 : decode cX6_add_ 5 = .ok (.lload_n 2, 1) := by decide +kernel
theorem dX6_add__6 : decode cX6_add_ 6 = .ok (.ladd, 1) := by decide +kernel
theorem dX6_add__7 : decode cX6_add_ 7 = .ok (.lreturn, 1) := by decide +kernel
theorem dX6_digest_0 : decode cX6_digest 0 = .ok (.aload_n 0, 1) := by decide +kernel
theorem dX6_digest_1 : decode cX6_digest 1 = .ok (.iconst 0, 1) := by decide +kernel
theorem dX6_digest_2 : decode cX6_digest 2 = .ok (.putfield 36, 3) := by decide +kernel
theorem dX6_digest_5 : decode cX6_digest 5 = .ok (.ldc2_w 224, 3) := by decide +kernel
theorem dX6_digest_8 : decode cX6_digest 8 = .ok (.aload_n 0, 1) := by decide +kernel
theorem dX6_digest_9 : decode cX6_digest 9 = .ok (.getfield 56, 3) := by decide +kernel
theorem dX6_digest_12 : decode cX6_digest 12 = .ok (.i2l, 1) := by decide +kernel
theorem dX6_digest_13 : decode cX6_digest 13 = .ok (.invokestatic 226, 3) := by decide +kernel
theorem dX6_digest_16 : decode cX6_digest 16 = .ok (.aload_n 0, 1) := by decide +kernel
theorem dX6_digest_17 : decode cX6_digest 17 = .ok (.getfield 7, 3) := by decide +kernel
theorem dX6_digest_20 : decode cX6_digest 20 = .ok (.i2l, 1) := by decide +kernel
theorem dX6_digest_21 : decode cX6_digest 21 = .ok (.invokestatic 226, 3) := by decide +kernel
theorem dX6_digest_24 : decode cX6_digest 24 = .ok (.aload_n 0, 1) := by decide +kernel
theorem dX6_digest_25 : decode cX6_digest 25 = .ok (.getfield 16, 3) := by decide +kernel
theorem dX6_digest_28 : decode cX6_digest 28 = .ok (.invokevirtual 53, 3) := by decide +kernel
theorem dX6_digest_31 : decode cX6_digest 31 = .ok (.i2l, 1) := by decide +kernel
theorem dX6_digest_32 : decode cX6_digest 32 = .ok (.invokestatic 226, 3) := by decide +kernel
theorem dX6_digest_35 : decode cX6_digest 35 = .ok (.lstore_n 1, 1) := by decide +kernel
theorem dX6_digest_36 : decode cX6_digest 36 = .ok (.iconst 0, 1) := by decide +kernel
theorem dX6_digest_37 : decode cX6_digest 37 = .ok (.istore_n 3, 1) := by decide +kernel
theorem dX6_digest_38 : decode cX6_digest 38 = .ok (.iload_n 3, 1) := by decide +kernel
theorem dX6_digest_39 : decode cX6_digest 39 = .ok (.aload_n 0, 1) := by decide +kernel
theorem dX6_digest_40 : decode cX6_digest 40 = .ok (.getfield 16, 3) := by decide +kernel
theorem dX6_digest_43 : decode cX6_digest 43 = .ok (.invokevirtual 53, 3) := by decide +kernel
theorem dX6_digest_46 : decode cX6_digest 46 = .ok (.if_icmp .ge 29, 3) := by decide +kernel
theorem dX6_digest_75 : decode cX6_digest 75 = .ok (.iconst 1, 1) := by decide +kernel
theorem dX6_digest_76 : decode cX6_digest 76 = .ok (.istore_n 3, 1) := by decide +kernel
theorem dX6_digest_77 : decode cX6_digest 77 = .ok (.iload_n 3, 1) := by decide +kernel
theorem dX6_digest_78 : decode cX6_digest 78 = .ok (.aload_n 0, 1) := by decide +kernel
theorem dX6_digest_79 : decode cX6_digest 79 = .ok (.getfield 7, 3) := by decide +kernel
theorem dX6_digest_82 : decode cX6_digest 82 = .ok (.if_icmp .gt 112, 3) := by decide +kernel
theorem dX6_digest_85 : decode cX6_digest 85 = .ok (.lload_n 1, 1) := by decide +kernel
theorem dX6_digest_86 : decode cX6_digest 86 = .ok (.aload_n 0, 1) := by decide +kernel
theorem dX6_digest_87 : decode cX6_digest 87 = .ok (.getfield 24, 3) := by decide +kernel
theorem dX6_digest_90 : decode cX6_digest 90 = .ok (.iload_n 3, 1) := by decide +kernel
theorem dX6_digest_91 : decode cX6_digest 91 = .ok (.iconst 1, 1) := by decide +kernel
theorem dX6_digest_92 : decode cX6_digest 92 = .ok (.isub, 1) := by decide +kernel
theorem dX6_digest_93 : decode cX6_digest 93 = .ok (.aaload, 1) := by decide +kernel
theorem dX6_digest_94 : decode cX6_digest 94 = .ok (.invokestatic 67, 3) := by decide +kernel
theorem dX6_digest_97 : decode cX6_digest 97 = .ok (.i2l, 1) := by decide +kernel
theorem dX6_digest_98 : decode cX6_digest 98 = .ok (.invokestatic 226, 3) := by decide +kernel
theorem dX6_digest_101 : decode cX6_digest 101 = .ok (.lstore_n 1, 1) := by decide +kernel
theorem dX6_digest_102 : decode cX6_digest 102 = .ok (.iconst 0, 1) := by decide +kernel
theorem dX6_digest_103 : decode cX6_digest 103 = .ok (.istore 4, 2) := by decide +kernel
theorem dX6_digest_105 : decode cX6_digest 105 = .ok (.iload 4, 2) := by decide +kernel
theorem dX6_digest_107 : decode cX6_digest 107 = .ok (.aload_n 0, 1) := by decide +kernel
theorem dX6_digest_108 : decode cX6_digest 108 = .ok (.getfield 24, 3) := by decide +kernel
theorem dX6_digest_111 : decode cX6_digest 111 = .ok (.iload_n 3, 1) := by decide +kernel
theorem dX6_digest_112 : decode cX6_digest 112 = .ok (.iconst 1, 1) := by decide +kernel
theorem dX6_digest_113 : decode cX6_digest 113 = .ok (.isub, 1) := by decide +kernel
theorem dX6_digest_114 : decode cX6_digest 114 = .ok (.aaload, 1) := by decide +kernel
theorem dX6_digest_115 : decode cX6_digest 115 = .ok (.arraylength, 1) := by decide +kernel
theorem dX6_digest_116 : decode cX6_digest 116 = .ok (.if_icmp .ge 72, 3) := by decide +kernel
theorem dX6_digest_119 : decode cX6_digest 119 = .ok (.aload_n 0, 1) := by decide +kernel
theorem dX6_digest_120 : decode cX6_digest 120 = .ok (.getfield 24, 3) := by decide +kernel
theorem dX6_digest_123 : decode cX6_digest 123 = .ok (.iload_n 3, 1) := by decide +kernel
theorem dX6_digest_124 : decode cX6_digest 124 = .ok (.iconst 1, 1) := by decide +kernel
theorem dX6_digest_125 : decode cX6_digest 125 = .ok (.isub, 1) := by decide +kernel
theorem dX6_digest_126 : decode cX6_digest 126 = .ok (.aaload, 1) := by decide +kernel
theorem dX6_digest_127 : decode cX6_digest 127 = .ok (.iload 4, 2) := by decide +kernel
theorem dX6_digest_129 : decode cX6_digest 129 = .ok (.iaload, 1) := by decide +kernel
theorem dX6_digest_130 : decode cX6_digest 130 = .ok (.ifCond .ne 6, 3) := by decide +kernel
theorem dX6_digest_133 : decode cX6_digest 133 = .ok (.goto 49, 3) := by decide +kernel
theorem dX6_digest_182 : decode cX6_digest 182 = .ok (.iinc 4 1, 3) := by decide +kernel
theorem dX6_digest_185 : decode cX6_digest 185 = .ok (.goto (-80), 3) := by decide +kernel
theorem dX6_digest_188 : decode cX6_digest 188 = .ok (.iinc 3 1, 3) := by decide +kernel
theorem dX6_digest_191 : decode cX6_digest 191 = .ok (.goto (-114), 3) := by decide +kernel
theorem dX6_digest_194 : decode cX6_digest 194 = .ok (.iconst 1, 1) := by decide +kernel
theorem dX6_digest_195 : decode cX6_digest 195 = .ok (.istore_n 3, 1) := by decide +kernel
theorem dX6_digest_196 : decode cX6_digest 196 = .ok (.iload_n 3, 1) := by decide +kernel
theorem dX6_digest_197 : decode cX6_digest 197 = .ok (.aload_n 0, 1) := by decide +kernel
theorem dX6_digest_198 : decode cX6_digest 198 = .ok (.getfield 7, 3) := by decide +kernel
theorem dX6_digest_201 : decode cX6_digest 201 = .ok (.if_icmp .gt 31, 3) := by decide +kernel
theorem dX6_digest_204 : decode cX6_digest 204 = .ok (.lload_n 1, 1) := by decide +kernel
theorem dX6_digest_205 : decode cX6_digest 205 = .ok (.aload_n 0, 1) := by decide +kernel
theorem dX6_digest_206 : decode cX6_digest 206 = .ok (.iload_n 3, 1) := by decide +kernel
theorem dX6_digest_207 : decode cX6_digest 207 = .ok (.iconst 0, 1) := by decide +kernel
theorem dX6_digest_208 : decode cX6_digest 208 = .ok (.invokevirtual 129, 3) := by decide +kernel
theorem dX6_digest_211 : decode cX6_digest 211 = .ok (.i2l, 1) := by decide +kernel
theorem dX6_digest_212 : decode cX6_digest 212 = .ok (.invokestatic 226, 3) := by decide +kernel
theorem dX6_digest_215 : decode cX6_digest 215 = .ok (.aload_n 0, 1) := by decide +kernel
theorem dX6_digest_216 : decode cX6_digest 216 = .ok (.iload_n 3, 1) := by decide +kernel
theorem dX6_digest_217 : decode cX6_digest 217 = .ok (.iconst 1, 1) := by decide +kernel
theorem dX6_digest_218 : decode cX6_digest 218 = .ok (.invokevirtual 129, 3) := by decide +kernel
theorem dX6_digest_221 : decode cX6_digest 221 = .ok (.i2l, 1) := by decide +kernel
theorem dX6_digest_222 : decode cX6_digest 222 = .ok (.invokestatic 226, 3) := by decide +kernel
theorem dX6_digest_225 : decode cX6_digest 225 = .ok (.lstore_n 1, 1) := by decide +kernel
theorem dX6_digest_226 : decode cX6_digest 226 = .ok (.iinc 3 1, 3) := by decide +kernel
theorem dX6_digest_229 : decode cX6_digest 229 = .ok (.goto (-33), 3) := by decide +kernel
theorem dX6_digest_232 : decode cX6_digest 232 = .ok (.aload_n 0, 1) := by decide +kernel
theorem dX6_digest_233 : decode cX6_digest 233 = .ok (.aload_n 0, 1) := by decide +kernel
theorem dX6_digest_234 : decode cX6_digest 234 = .ok (.getfield 16, 3) := by decide +kernel
theorem dX6_digest_237 : decode cX6_digest 237 = .ok (.invokevirtual 169, 3) := by decide +kernel
theorem dX6_digest_240 : decode cX6_digest 240 = .ok (.astore_n 3, 1) := by decide +kernel
theorem dX6_digest_241 : decode cX6_digest 241 = .ok (.iconst 0, 1) := by decide +kernel
theorem dX6_digest_242 : decode cX6_digest 242 = .ok (.istore 4, 2) := by decide +kernel
theorem dX6_digest_244 : decode cX6_digest 244 = .ok (.iload 4, 2) := by decide +kernel
theorem dX6_digest_246 : decode cX6_digest 246 = .ok (.aload_n 0, 1) := by decide +kernel
theorem dX6_digest_247 : decode cX6_digest 247 = .ok (.getfield 56, 3) := by decide +kernel
theorem dX6_digest_250 : decode cX6_digest 250 = .ok (.if_icmp .gt 24, 3) := by decide +kernel
theorem dX6_digest_253 : decode cX6_digest 253 = .ok (.lload_n 1, 1) := by decide +kernel
theorem dX6_digest_254 : decode cX6_digest 254 = .ok (.aload_n 0, 1) := by decide +kernel
theorem dX6_digest_255 : decode cX6_digest 255 = .ok (.aload_n 0, 1) := by decide +kernel
theorem dX6_digest_256 : decode cX6_digest 256 = .ok (.getfield 16, 3) := by decide +kernel
theorem dX6_digest_259 : decode cX6_digest 259 = .ok (.iload 4, 2) := by decide +kernel
theorem dX6_digest_261 : decode cX6_digest 261 = .ok (.invokevirtual 165, 3) := by decide +kernel
theorem dX6_digest_264 : decode cX6_digest 264 = .ok (.invokestatic 226, 3) := by decide +kernel
theorem dX6_digest_267 : decode cX6_digest 267 = .ok (.lstore_n 1, 1) := by decide +kernel
theorem dX6_digest_268 : decode cX6_digest 268 = .ok (.iinc 4 1, 3) := by decide +kernel
theorem dX6_digest_271 : decode cX6_digest 271 = .ok (.goto (-27), 3) := by decide +kernel
theorem dX6_digest_274 : decode cX6_digest 274 = .ok (.iconst 0, 1) := by decide +kernel
theorem dX6_digest_275 : decode cX6_digest 275 = .ok (.istore 4, 2) := by decide +kernel
theorem dX6_digest_277 : decode cX6_digest 277 = .ok (.iload 4, 2) := by decide +kernel
theorem dX6_digest_279 : decode cX6_digest 279 = .ok (.aload_n 0, 1) := by decide +kernel
theorem dX6_digest_280 : decode cX6_digest 280 = .ok (.getfield 56, 3) := by decide +kernel
theorem dX6_digest_283 : decode cX6_digest 283 = .ok (.if_icmp .gt 19, 3) := by decide +kernel
theorem dX6_digest_286 : decode cX6_digest 286 = .ok (.lload_n 1, 1) := by decide +kernel
theorem dX6_digest_287 : decode cX6_digest 287 = .ok (.aload_n 3, 1) := by decide +kernel
theorem dX6_digest_288 : decode cX6_digest 288 = .ok (.iload 4, 2) := by decide +kernel
theorem dX6_digest_290 : decode cX6_digest 290 = .ok (.iaload, 1) := by decide +kernel
theorem dX6_digest_291 : decode cX6_digest 291 = .ok (.i2l, 1) := by decide +kernel
theorem dX6_digest_292 : decode cX6_digest 292 = .ok (.invokestatic 226, 3) := by decide +kernel
theorem dX6_digest_295 : decode cX6_digest 295 = .ok (.lstore_n 1, 1) := by decide +kernel
theorem dX6_digest_296 : decode cX6_digest 296 = .ok (.iinc 4 1, 3) := by decide +kernel
theorem dX6_digest_299 : decode cX6_digest 299 = .ok (.goto (-22), 3) := by decide +kernel
theorem dX6_digest_302 : decode cX6_digest 302 = .ok (.lload_n 1, 1) := by decide +kernel
theorem dX6_digest_303 : decode cX6_digest 303 = .ok (.aload_n 0, 1) := by decide +kernel
theorem dX6_digest_304 : decode cX6_digest 304 = .ok (.invokevirtual 183, 3) := by decide +kernel
theorem dX6_digest_307 : decode cX6_digest 307 = .ok (.i2l, 1) := by decide +kernel
theorem dX6_digest_308 : decode cX6_digest 308 = .ok (.invokestatic 226, 3) := by decide +kernel
theorem dX6_digest_311 : decode cX6_digest 311 = .ok (.aload_n 0, 1) := by decide +kernel
theorem dX6_digest_312 : decode cX6_digest 312 = .ok (.getfield 196, 3) := by decide +kernel
theorem dX6_digest_315 : decode cX6_digest 315 = .ok (.i2l, 1) := by decide +kernel
theorem dX6_digest_316 : decode cX6_digest 316 = .ok (.invokestatic 226, 3) := by decide +kernel
theorem dX6_digest_319 : decode cX6_digest 319 = .ok (.aload_n 0, 1) := by decide +kernel
theorem dX6_digest_320 : decode cX6_digest 320 = .ok (.getfield 204, 3) := by decide +kernel
theorem dX6_digest_323 : decode cX6_digest 323 = .ok (.i2l, 1) := by decide +kernel
theorem dX6_digest_324 : decode cX6_digest 324 = .ok (.invokestatic 226, 3) := by decide +kernel
theorem dX6_digest_327 : decode cX6_digest 327 = .ok (.aload_n 0, 1) := by decide +kernel
theorem dX6_digest_328 : decode cX6_digest 328 = .ok (.getfield 215, 3) := by decide +kernel
theorem dX6_digest_331 : decode cX6_digest 331 = .ok (.ifCond .eq 7, 3) := by decide +kernel
theorem dX6_digest_338 : decode cX6_digest 338 = .ok (.lconst 0, 1) := by decide +kernel
theorem dX6_digest_339 : decode cX6_digest 339 = .ok (.invokestatic 226, 3) := by decide +kernel
theorem dX6_digest_342 : decode cX6_digest 342 = .ok (.lreturn, 1) := by decide +kernel
theorem dJxa1e45_init_da8c8_0 : decode cJxa1e45_init_da8c8 0 = .ok (.aload_n 0, 1) := by decide +kernel
theorem dJxa1e45_init_da8c8_1 : decode cJxa1e45_init_da8c8 1 = .ok (.invokespecial 1, 3) := by decide +kernel
theorem dJxa1e45_init_da8c8_4 : decode cJxa1e45_init_da8c8 4 = .ok (.return_, 1) := by decide +kernel
theorem dJxc12de_init_da8c8_0 : decode cJxc12de_init_da8c8 0 = .ok (.aload_n 0, 1) := by decide +kernel
theorem dJxc12de_init_da8c8_1 : decode cJxc12de_init_da8c8 1 = .ok (.invokespecial 1, 3) := by decide +kernel
theorem dJxc12de_init_da8c8_4 : decode cJxc12de_init_da8c8 4 = .ok (.aload_n 0, 1) := by decide +kernel
theorem dJxc12de_init_da8c8_5 : decode cJxc12de_init_da8c8 5 = .ok (.iconst 0, 1) := by decide +kernel
theorem dJxc12de_init_da8c8_6 : decode cJxc12de_init_da8c8 6 = .ok (.putfield 7, 3) := by decide +kernel
theorem dJxc12de_init_da8c8_9 : decode cJxc12de_init_da8c8 9 = .ok (.return_, 1) := by decide +kernel
theorem dJx4a65c_init_da8c8_0 : decode cJx4a65c_init_da8c8 0 = .ok (.aload_n 0, 1) := by decide +kernel
theorem dJx4a65c_init_da8c8_1 : decode cJx4a65c_init_da8c8 1 = .ok (.invokespecial 1, 3) := by decide +kernel
theorem dJx4a65c_init_da8c8_4 : decode cJx4a65c_init_da8c8 4 = .ok (.aload_n 0, 1) := by decide +kernel
theorem dJx4a65c_init_da8c8_5 : decode cJx4a65c_init_da8c8 5 = .ok (.getstatic 39, 3) := by decide +kernel
theorem dJx4a65c_init_da8c8_8 : decode cJx4a65c_init_da8c8 8 = .ok (.putfield 9, 3) := by decide +kernel
theorem dJx4a65c_init_da8c8_11 : decode cJx4a65c_init_da8c8 11 = .ok (.return_, 1) := by decide +kernel
theorem dJx4a65c_grow_92f84_0 : decode cJx4a65c_grow_92f84 0 = .ok (.aload_n 0, 1) := by decide +kernel
theorem dJx4a65c_grow_92f84_1 : decode cJx4a65c_grow_92f84 1 = .ok (.getfield 9, 3) := by decide +kernel
theorem dJx4a65c_grow_92f84_4 : decode cJx4a65c_grow_92f84 4 = .ok (.arraylength, 1) := by decide +kernel
theorem dJx4a65c_grow_92f84_5 : decode cJx4a65c_grow_92f84 5 = .ok (.istore_n 2, 1) := by decide +kernel
theorem dJx4a65c_grow_92f84_6 : decode cJx4a65c_grow_92f84 6 = .ok (.iload_n 2, 1) := by decide +kernel
theorem dJx4a65c_grow_92f84_7 : decode cJx4a65c_grow_92f84 7 = .ok (.ifCond .gt 13, 3) := by decide +kernel
theorem dJx4a65c_grow_92f84_10 : decode cJx4a65c_grow_92f84 10 = .ok (.aload_n 0, 1) := by decide +kernel
theorem dJx4a65c_grow_92f84_11 : decode cJx4a65c_grow_92f84 11 = .ok (.getfield 9, 3) := by decide +kernel
theorem dJx4a65c_grow_92f84_14 : decode cJx4a65c_grow_92f84 14 = .ok (.getstatic 39, 3) := by decide +kernel
theorem dJx4a65c_grow_92f84_17 : decode cJx4a65c_grow_92f84 17 = .ok (.if_acmp .eq 28, 3) := by decide +kernel
theorem dJx4a65c_grow_92f84_45 : decode cJx4a65c_grow_92f84 45 = .ok (.aload_n 0, 1) := by decide +kernel
theorem dJx4a65c_grow_92f84_46 : decode cJx4a65c_grow_92f84 46 = .ok (.bipush 10, 2) := by decide +kernel
theorem dJx4a65c_grow_92f84_48 : decode cJx4a65c_grow_92f84 48 = .ok (.iload_n 1, 1) := by decide +kernel
theorem dJx4a65c_grow_92f84_49 : decode cJx4a65c_grow_92f84 49 = .ok (.invokestatic 79, 3) := by decide +kernel
theorem dJx4a65c_grow_92f84_52 : decode cJx4a65c_grow_92f84 52 = .ok (.anewarray 7, 3) := by decide +kernel
theorem dJx4a65c_grow_92f84_55 : decode cJx4a65c_grow_92f84 55 = .ok (.dup_x1, 1) := by decide +kernel
theorem dJx4a65c_grow_92f84_56 : decode cJx4a65c_grow_92f84 56 = .ok (.putfield 9, 3) := by decide +kernel
theorem dJx4a65c_grow_92f84_59 : decode cJx4a65c_grow_92f84 59 = .ok (.areturn, 1) := by decide +kernel
theorem dJx4a65c_grow_d5877_0 : decode cJx4a65c_grow_d5877 0 = .ok (.aload_n 0, 1) := by decide +kernel
theorem dJx4a65c_grow_d5877_1 : decode cJx4a65c_grow_d5877 1 = .ok (.aload_n 0, 1) := by decide +kernel
theorem dJx4a65c_grow_d5877_2 : decode cJx4a65c_grow_d5877 2 = .ok (.getfield 48, 3) := by decide +kernel
theorem dJx4a65c_grow_d5877_5 : decode cJx4a65c_grow_d5877 5 = .ok (.iconst 1, 1) := by decide +kernel
theorem dJx4a65c_grow_d5877_6 : decode cJx4a65c_grow_d5877 6 = .ok (.iadd, 1) := by decide +kernel
theorem dJx4a65c_grow_d5877_7 : decode cJx4a65c_grow_d5877 7 = .ok (.invokevirtual 69, 3) := by decide +kernel
theorem dJx4a65c_grow_d5877_10 : decode cJx4a65c_grow_d5877 10 = .ok (.areturn, 1) := by decide +kernel
theorem dJx4a65c_size_8abf5_0 : decode cJx4a65c_size_8abf5 0 = .ok (.aload_n 0, 1) := by decide +kernel
theorem dJx4a65c_size_8abf5_1 : decode cJx4a65c_size_8abf5 1 = .ok (.getfield 48, 3) := by decide +kernel
theorem dJx4a65c_size_8abf5_4 : decode cJx4a65c_size_8abf5 4 = .ok (.ireturn, 1) := by decide +kernel
theorem dJx4a65c_add_72be8_0 : decode cJx4a65c_add_72be8 0 = .ok (.iload_n 3, 1) := by decide +kernel
theorem dJx4a65c_add_72be8_1 : decode cJx4a65c_add_72be8 1 = .ok (.aload_n 2, 1) := by decide +kernel
theorem dJx4a65c_add_72be8_2 : decode cJx4a65c_add_72be8 2 = .ok (.arraylength, 1) := by decide +kernel
theorem dJx4a65c_add_72be8_3 : decode cJx4a65c_add_72be8 3 = .ok (.if_icmp .ne 8, 3) := by decide +kernel
theorem dJx4a65c_add_72be8_6 : decode cJx4a65c_add_72be8 6 = .ok (.aload_n 0, 1) := by decide +kernel
theorem dJx4a65c_add_72be8_7 : decode cJx4a65c_add_72be8 7 = .ok (.invokevirtual 129, 3) := by decide +kernel
theorem dJx4a65c_add_72be8_10 : decode cJx4a65c_add_72be8 10 = .ok (.astore_n 2, 1) := by decide +kernel
theorem dJx4a65c_add_72be8_11 : decode cJx4a65c_add_72be8 11 = .ok (.aload_n 2, 1) := by decide +kernel
theorem dJx4a65c_add_72be8_12 : decode cJx4a65c_add_72be8 12 = .ok (.iload_n 3, 1) := by decide +kernel
theorem dJx4a65c_add_72be8_13 : decode cJx4a65c_add_72be8 13 = .ok (.aload_n 1, 1) := by decide +kernel
theorem dJx4a65c_add_72be8_14 : decode cJx4a65c_add_72be8 14 = .ok (.aastore, 1) := by decide +kernel
theorem dJx4a65c_add_72be8_15 : decode cJx4a65c_add_72be8 15 = .ok (.aload_n 0, 1) := by decide +kernel
theorem dJx4a65c_add_72be8_16 : decode cJx4a65c_add_72be8 16 = .ok (.iload_n 3, 1) := by decide +kernel
theorem dJx4a65c_add_72be8_17 : decode cJx4a65c_add_72be8 17 = .ok (.iconst 1, 1) := by decide +kernel
theorem dJx4a65c_add_72be8_18 : decode cJx4a65c_add_72be8 18 = .ok (.iadd, 1) := by decide +kernel
theorem dJx4a65c_add_72be8_19 : decode cJx4a65c_add_72be8 19 = .ok (.putfield 48, 3) := by decide +kernel
theorem dJx4a65c_add_72be8_22 : decode cJx4a65c_add_72be8 22 = .ok (.return_, 1) := by decide +kernel
theorem dJx4a65c_add_9ea2d_0 : decode cJx4a65c_add_9ea2d 0 = .ok (.aload_n 0, 1) := by decide +kernel
theorem dJx4a65c_add_9ea2d_1 : decode cJx4a65c_add_9ea2d 1 = .ok (.dup, 1) := by decide +kernel
theorem dJx4a65c_add_9ea2d_2 : decode cJx4a65c_add_9ea2d 2 = .ok (.getfield 63, 3) := by decide +kernel
theorem dJx4a65c_add_9ea2d_5 : decode cJx4a65c_add_9ea2d 5 = .ok (.iconst 1, 1) := by decide +kernel
theorem dJx4a65c_add_9ea2d_6 : decode cJx4a65c_add_9ea2d 6 = .ok (.iadd, 1) := by decide +kernel
theorem dJx4a65c_add_9ea2d_7 : decode cJx4a65c_add_9ea2d 7 = .ok (.putfield 63, 3) := by decide +kernel
theorem dJx4a65c_add_9ea2d_10 : decode cJx4a65c_add_9ea2d 10 = .ok (.aload_n 0, 1) := by decide +kernel
theorem dJx4a65c_add_9ea2d_11 : decode cJx4a65c_add_9ea2d 11 = .ok (.aload_n 1, 1) := by decide +kernel
theorem dJx4a65c_add_9ea2d_12 : decode cJx4a65c_add_9ea2d 12 = .ok (.aload_n 0, 1) := by decide +kernel
theorem dJx4a65c_add_9ea2d_13 : decode cJx4a65c_add_9ea2d 13 = .ok (.getfield 9, 3) := by decide +kernel
theorem dJx4a65c_add_9ea2d_16 : decode cJx4a65c_add_9ea2d 16 = .ok (.aload_n 0, 1) := by decide +kernel
theorem dJx4a65c_add_9ea2d_17 : decode cJx4a65c_add_9ea2d 17 = .ok (.getfield 48, 3) := by decide +kernel
theorem dJx4a65c_add_9ea2d_20 : decode cJx4a65c_add_9ea2d 20 = .ok (.invokevirtual 131, 3) := by decide +kernel
theorem dJx4a65c_add_9ea2d_23 : decode cJx4a65c_add_9ea2d 23 = .ok (.iconst 1, 1) := by decide +kernel
theorem dJx4a65c_add_9ea2d_24 : decode cJx4a65c_add_9ea2d 24 = .ok (.ireturn, 1) := by decide +kernel
theorem dJx4a65c_clear_da8c8_0 : decode cJx4a65c_clear_da8c8 0 = .ok (.aload_n 0, 1) := by decide +kernel
theorem dJx4a65c_clear_da8c8_1 : decode cJx4a65c_clear_da8c8 1 = .ok (.dup, 1) := by decide +kernel
theorem dJx4a65c_clear_da8c8_2 : decode cJx4a65c_clear_da8c8 2 = .ok (.getfield 63, 3) := by decide +kernel
theorem dJx4a65c_clear_da8c8_5 : decode cJx4a65c_clear_da8c8 5 = .ok (.iconst 1, 1) := by decide +kernel
theorem dJx4a65c_clear_da8c8_6 : decode cJx4a65c_clear_da8c8 6 = .ok (.iadd, 1) := by decide +kernel
theorem dJx4a65c_clear_da8c8_7 : decode cJx4a65c_clear_da8c8 7 = .ok (.putfield 63, 3) := by decide +kernel
theorem dJx4a65c_clear_da8c8_10 : decode cJx4a65c_clear_da8c8 10 = .ok (.aload_n 0, 1) := by decide +kernel
theorem dJx4a65c_clear_da8c8_11 : decode cJx4a65c_clear_da8c8 11 = .ok (.getfield 9, 3) := by decide +kernel
theorem dJx4a65c_clear_da8c8_14 : decode cJx4a65c_clear_da8c8 14 = .ok (.astore_n 1, 1) := by decide +kernel
theorem dJx4a65c_clear_da8c8_15 : decode cJx4a65c_clear_da8c8 15 = .ok (.aload_n 0, 1) := by decide +kernel
theorem dJx4a65c_clear_da8c8_16 : decode cJx4a65c_clear_da8c8 16 = .ok (.getfield 48, 3) := by decide +kernel
theorem dJx4a65c_clear_da8c8_19 : decode cJx4a65c_clear_da8c8 19 = .ok (.istore_n 2, 1) := by decide +kernel
theorem dJx4a65c_clear_da8c8_20 : decode cJx4a65c_clear_da8c8 20 = .ok (.aload_n 0, 1) := by decide +kernel
theorem dJx4a65c_clear_da8c8_21 : decode cJx4a65c_clear_da8c8 21 = .ok (.iconst 0, 1) := by decide +kernel
theorem dJx4a65c_clear_da8c8_22 : decode cJx4a65c_clear_da8c8 22 = .ok (.dup_x1, 1) := by decide +kernel
theorem dJx4a65c_clear_da8c8_23 : decode cJx4a65c_clear_da8c8 23 = .ok (.putfield 48, 3) := by decide +kernel
theorem dJx4a65c_clear_da8c8_26 : decode cJx4a65c_clear_da8c8 26 = .ok (.istore_n 3, 1) := by decide +kernel
theorem dJx4a65c_clear_da8c8_27 : decode cJx4a65c_clear_da8c8 27 = .ok (.iload_n 3, 1) := by decide +kernel
theorem dJx4a65c_clear_da8c8_28 : decode cJx4a65c_clear_da8c8 28 = .ok (.iload_n 2, 1) := by decide +kernel
theorem dJx4a65c_clear_da8c8_29 : decode cJx4a65c_clear_da8c8 29 = .ok (.if_icmp .ge 13, 3) := by decide +kernel
theorem dJx4a65c_clear_da8c8_42 : decode cJx4a65c_clear_da8c8 42 = .ok (.return_, 1) := by decide +kernel
theorem dJ7_fill_53178_0 : decode cJ7_fill_53178 0 = .ok (.iconst 0, 1) := by decide +kernel
theorem dJ7_fill_53178_1 : decode cJ7_fill_53178 1 = .ok (.istore_n 2, 1) := by decide +kernel
theorem dJ7_fill_53178_2 : decode cJ7_fill_53178 2 = .ok (.aload_n 0, 1) := by decide +kernel
theorem dJ7_fill_53178_3 : decode cJ7_fill_53178 3 = .ok (.arraylength, 1) := by decide +kernel
theorem dJ7_fill_53178_4 : decode cJ7_fill_53178 4 = .ok (.istore_n 3, 1) := by decide +kernel
theorem dJ7_fill_53178_5 : decode cJ7_fill_53178 5 = .ok (.iload_n 2, 1) := by decide +kernel
theorem dJ7_fill_53178_6 : decode cJ7_fill_53178 6 = .ok (.iload_n 3, 1) := by decide +kernel
theorem dJ7_fill_53178_7 : decode cJ7_fill_53178 7 = .ok (.if_icmp .ge 13, 3) := by decide +kernel
theorem dJ7_fill_53178_10 : decode cJ7_fill_53178 10 = .ok (.aload_n 0, 1) := by decide +kernel
theorem dJ7_fill_53178_11 : decode cJ7_fill_53178 11 = .ok (.iload_n 2, 1) := by decide +kernel
theorem dJ7_fill_53178_12 : decode cJ7_fill_53178 12 = .ok (.iload_n 1, 1) := by decide +kernel
theorem dJ7_fill_53178_13 : decode cJ7_fill_53178 13 = .ok (.iastore, 1) := by decide +kernel
theorem dJ7_fill_53178_14 : decode cJ7_fill_53178 14 = .ok (.iinc 2 1, 3) := by decide +kernel
theorem dJ7_fill_53178_17 : decode cJ7_fill_53178 17 = .ok (.goto (-12), 3) := by decide +kernel
theorem dJ7_fill_53178_20 : decode cJ7_fill_53178 20 = .ok (.return_, 1) := by decide +kernel
theorem dL_addWord_0 : decode cL_addWord 0 = .ok (.aload_n 1, 1) := by decide +kernel
theorem dL_addWord_1 : decode cL_addWord 1 = .ok (.iconst 0, 1) := by decide +kernel
theorem dL_addWord_2 : decode cL_addWord 2 = .ok (.aload_n 0, 1) := by decide +kernel
theorem dL_addWord_3 : decode cL_addWord 3 = .ok (.invokevirtual 7, 3) := by decide +kernel
theorem dL_addWord_6 : decode cL_addWord 6 = .ok (.i2l, 1) := by decide +kernel
theorem dL_addWord_7 : decode cL_addWord 7 = .ok (.lastore, 1) := by decide +kernel
theorem dL_addWord_8 : decode cL_addWord 8 = .ok (.goto 6, 3) := by decide +kernel
theorem dL_addWord_14 : decode cL_addWord 14 = .ok (.iconst 0, 1) := by decide +kernel
theorem dL_addWord_15 : decode cL_addWord 15 = .ok (.ireturn, 1) := by decide +kernel
theorem dL_setOrder_0 : decode cL_setOrder 0 = .ok (.aload_n 2, 1) := by decide +kernel
theorem dL_setOrder_1 : decode cL_setOrder 1 = .ok (.iconst 0, 1) := by decide +kernel
theorem dL_setOrder_2 : decode cL_setOrder 2 = .ok (.aload_n 0, 1) := by decide +kernel
theorem dL_setOrder_3 : decode cL_setOrder 3 = .ok (.iload_n 1, 1) := by decide +kernel
theorem dL_setOrder_4 : decode cL_setOrder 4 = .ok (.invokevirtual 15, 3) := by decide +kernel
theorem dL_setOrder_7 : decode cL_setOrder 7 = .ok (.i2l, 1) := by decide +kernel
theorem dL_setOrder_8 : decode cL_setOrder 8 = .ok (.lastore, 1) := by decide +kernel
theorem dL_setOrder_9 : decode cL_setOrder 9 = .ok (.goto 6, 3) := by decide +kernel
theorem dL_setOrder_12 : decode cL_setOrder 12 = .ok (.astore_n 3, 1) := by decide +kernel
theorem dL_setOrder_13 : decode cL_setOrder 13 = .ok (.iconst 1, 1) := by decide +kernel
theorem dL_setOrder_14 : decode cL_setOrder 14 = .ok (.ireturn, 1) := by decide +kernel
theorem dL_setOrder_15 : decode cL_setOrder 15 = .ok (.iconst 0, 1) := by decide +kernel
theorem dL_setOrder_16 : decode cL_setOrder 16 = .ok (.ireturn, 1) := by decide +kernel
theorem dL_say_0 : decode cL_say 0 = .ok (.aload_n 2, 1) := by decide +kernel
theorem dL_say_1 : decode cL_say 1 = .ok (.iconst 0, 1) := by decide +kernel
theorem dL_say_2 : decode cL_say 2 = .ok (.aload_n 0, 1) := by decide +kernel
theorem dL_say_3 : decode cL_say 3 = .ok (.iload_n 1, 1) := by decide +kernel
theorem dL_say_4 : decode cL_say 4 = .ok (.invokevirtual 21, 3) := by decide +kernel
theorem dL_say_12 : decode cL_say 12 = .ok (.astore_n 3, 1) := by decide +kernel
theorem dL_say_13 : decode cL_say 13 = .ok (.iconst 1, 1) := by decide +kernel
theorem dL_say_14 : decode cL_say 14 = .ok (.ireturn, 1) := by decide +kernel
theorem dL_learn_0 : decode cL_learn 0 = .ok (.aload_n 2, 1) := by decide +kernel
theorem dL_learn_1 : decode cL_learn 1 = .ok (.iconst 0, 1) := by decide +kernel
theorem dL_learn_2 : decode cL_learn 2 = .ok (.aload_n 0, 1) := by decide +kernel
theorem dL_learn_3 : decode cL_learn 3 = .ok (.iload_n 1, 1) := by decide +kernel
theorem dL_learn_4 : decode cL_learn 4 = .ok (.invokevirtual 26, 3) := by decide +kernel
theorem dL_learn_12 : decode cL_learn 12 = .ok (.astore_n 3, 1) := by decide +kernel
theorem dL_learn_13 : decode cL_learn 13 = .ok (.iconst 1, 1) := by decide +kernel
theorem dL_learn_14 : decode cL_learn 14 = .ok (.ireturn, 1) := by decide +kernel
theorem dL_learn_15 : decode cL_learn 15 = .ok (.astore_n 3, 1) := by decide +kernel
theorem dL_learn_16 : decode cL_learn 16 = .ok (.iconst 2, 1) := by decide +kernel
theorem dL_learn_17 : decode cL_learn 17 = .ok (.ireturn, 1) := by decide +kernel
theorem dL_unlearn_0 : decode cL_unlearn 0 = .ok (.aload_n 1, 1) := by decide +kernel
theorem dL_unlearn_1 : decode cL_unlearn 1 = .ok (.iconst 0, 1) := by decide +kernel
theorem dL_unlearn_2 : decode cL_unlearn 2 = .ok (.aload_n 0, 1) := by decide +kernel
theorem dL_unlearn_3 : decode cL_unlearn 3 = .ok (.invokevirtual 29, 3) := by decide +kernel
theorem dL_unlearn_11 : decode cL_unlearn 11 = .ok (.astore_n 2, 1) := by decide +kernel
theorem dL_unlearn_12 : decode cL_unlearn 12 = .ok (.iconst 1, 1) := by decide +kernel
theorem dL_unlearn_13 : decode cL_unlearn 13 = .ok (.ireturn, 1) := by decide +kernel
theorem dL_wordAt_0 : decode cL_wordAt 0 = .ok (.aload_n 2, 1) := by decide +kernel
theorem dL_wordAt_1 : decode cL_wordAt 1 = .ok (.iconst 0, 1) := by decide +kernel
theorem dL_wordAt_2 : decode cL_wordAt 2 = .ok (.aload_n 0, 1) := by decide +kernel
theorem dL_wordAt_3 : decode cL_wordAt 3 = .ok (.iload_n 1, 1) := by decide +kernel
theorem dL_wordAt_4 : decode cL_wordAt 4 = .ok (.invokevirtual 32, 3) := by decide +kernel
theorem dL_wordAt_12 : decode cL_wordAt 12 = .ok (.astore_n 3, 1) := by decide +kernel
theorem dL_wordAt_13 : decode cL_wordAt 13 = .ok (.iconst 1, 1) := by decide +kernel
theorem dL_wordAt_14 : decode cL_wordAt 14 = .ok (.ireturn, 1) := by decide +kernel
theorem dL_entries_0 : decode cL_entries 0 = .ok (.aload_n 2, 1) := by decide +kernel
theorem dL_entries_1 : decode cL_entries 1 = .ok (.iconst 0, 1) := by decide +kernel
theorem dL_entries_2 : decode cL_entries 2 = .ok (.aload_n 0, 1) := by decide +kernel
theorem dL_entries_3 : decode cL_entries 3 = .ok (.iload_n 1, 1) := by decide +kernel
theorem dL_entries_4 : decode cL_entries 4 = .ok (.invokevirtual 35, 3) := by decide +kernel
theorem dL_entries_7 : decode cL_entries 7 = .ok (.i2l, 1) := by decide +kernel
theorem dL_entries_8 : decode cL_entries 8 = .ok (.lastore, 1) := by decide +kernel
theorem dL_entries_9 : decode cL_entries 9 = .ok (.goto 6, 3) := by decide +kernel
theorem dL_entries_12 : decode cL_entries 12 = .ok (.astore_n 3, 1) := by decide +kernel
theorem dL_entries_13 : decode cL_entries 13 = .ok (.iconst 1, 1) := by decide +kernel
theorem dL_entries_14 : decode cL_entries 14 = .ok (.ireturn, 1) := by decide +kernel
theorem dL_entries_15 : decode cL_entries 15 = .ok (.iconst 0, 1) := by decide +kernel
theorem dL_entries_16 : decode cL_entries 16 = .ok (.ireturn, 1) := by decide +kernel
theorem dL_entryAt_0 : decode cL_entryAt 0 = .ok (.aload 4, 2) := by decide +kernel
theorem dL_entryAt_2 : decode cL_entryAt 2 = .ok (.iconst 0, 1) := by decide +kernel
theorem dL_entryAt_3 : decode cL_entryAt 3 = .ok (.aload_n 0, 1) := by decide +kernel
theorem dL_entryAt_4 : decode cL_entryAt 4 = .ok (.iload_n 1, 1) := by decide +kernel
theorem dL_entryAt_5 : decode cL_entryAt 5 = .ok (.iload_n 2, 1) := by decide +kernel
theorem dL_entryAt_6 : decode cL_entryAt 6 = .ok (.iload_n 3, 1) := by decide +kernel
theorem dL_entryAt_7 : decode cL_entryAt 7 = .ok (.invokevirtual 38, 3) := by decide +kernel
theorem dL_entryAt_15 : decode cL_entryAt 15 = .ok (.astore 5, 2) := by decide +kernel
theorem dL_entryAt_17 : decode cL_entryAt 17 = .ok (.iconst 1, 1) := by decide +kernel
theorem dL_entryAt_18 : decode cL_entryAt 18 = .ok (.ireturn, 1) := by decide +kernel
theorem dL_entryAt_19 : decode cL_entryAt 19 = .ok (.astore 5, 2) := by decide +kernel
theorem dL_entryAt_21 : decode cL_entryAt 21 = .ok (.iconst 2, 1) := by decide +kernel
theorem dL_entryAt_22 : decode cL_entryAt 22 = .ok (.ireturn, 1) := by decide +kernel
theorem dL_countOf_0 : decode cL_countOf 0 = .ok (.aload_n 3, 1) := by decide +kernel
theorem dL_countOf_1 : decode cL_countOf 1 = .ok (.iconst 0, 1) := by decide +kernel
theorem dL_countOf_2 : decode cL_countOf 2 = .ok (.aload_n 0, 1) := by decide +kernel
theorem dL_countOf_3 : decode cL_countOf 3 = .ok (.iload_n 1, 1) := by decide +kernel
theorem dL_countOf_4 : decode cL_countOf 4 = .ok (.iload_n 2, 1) := by decide +kernel
theorem dL_countOf_5 : decode cL_countOf 5 = .ok (.invokevirtual 42, 3) := by decide +kernel
theorem dL_countOf_13 : decode cL_countOf 13 = .ok (.astore 4, 2) := by decide +kernel
theorem dL_countOf_15 : decode cL_countOf 15 = .ok (.iconst 1, 1) := by decide +kernel
theorem dL_countOf_16 : decode cL_countOf 16 = .ok (.ireturn, 1) := by decide +kernel
theorem dL_countOf_17 : decode cL_countOf 17 = .ok (.astore 4, 2) := by decide +kernel
theorem dL_countOf_19 : decode cL_countOf 19 = .ok (.iconst 2, 1) := by decide +kernel
theorem dL_countOf_20 : decode cL_countOf 20 = .ok (.ireturn, 1) := by decide +kernel
theorem dL_ofContext_0 : decode cL_ofContext 0 = .ok (.aload_n 3, 1) := by decide +kernel
theorem dL_ofContext_1 : decode cL_ofContext 1 = .ok (.iconst 0, 1) := by decide +kernel
theorem dL_ofContext_2 : decode cL_ofContext 2 = .ok (.aload_n 0, 1) := by decide +kernel
theorem dL_ofContext_3 : decode cL_ofContext 3 = .ok (.iload_n 1, 1) := by decide +kernel
theorem dL_ofContext_4 : decode cL_ofContext 4 = .ok (.iload_n 2, 1) := by decide +kernel
theorem dL_ofContext_5 : decode cL_ofContext 5 = .ok (.invokevirtual 46, 3) := by decide +kernel
theorem dL_ofContext_8 : decode cL_ofContext 8 = .ok (.i2l, 1) := by decide +kernel
theorem dL_ofContext_9 : decode cL_ofContext 9 = .ok (.lastore, 1) := by decide +kernel
theorem dL_ofContext_10 : decode cL_ofContext 10 = .ok (.goto 7, 3) := by decide +kernel
theorem dL_ofContext_13 : decode cL_ofContext 13 = .ok (.astore 4, 2) := by decide +kernel
theorem dL_ofContext_15 : decode cL_ofContext 15 = .ok (.iconst 1, 1) := by decide +kernel
theorem dL_ofContext_16 : decode cL_ofContext 16 = .ok (.ireturn, 1) := by decide +kernel
theorem dL_ofContext_17 : decode cL_ofContext 17 = .ok (.iconst 0, 1) := by decide +kernel
theorem dL_ofContext_18 : decode cL_ofContext 18 = .ok (.ireturn, 1) := by decide +kernel
theorem dL_prune_0 : decode cL_prune 0 = .ok (.aload_n 3, 1) := by decide +kernel
theorem dL_prune_1 : decode cL_prune 1 = .ok (.iconst 0, 1) := by decide +kernel
theorem dL_prune_2 : decode cL_prune 2 = .ok (.aload_n 0, 1) := by decide +kernel
theorem dL_prune_3 : decode cL_prune 3 = .ok (.iload_n 1, 1) := by decide +kernel
theorem dL_prune_4 : decode cL_prune 4 = .ok (.iload_n 2, 1) := by decide +kernel
theorem dL_prune_5 : decode cL_prune 5 = .ok (.invokevirtual 49, 3) := by decide +kernel
theorem dL_prune_8 : decode cL_prune 8 = .ok (.i2l, 1) := by decide +kernel
theorem dL_prune_9 : decode cL_prune 9 = .ok (.lastore, 1) := by decide +kernel
theorem dL_prune_10 : decode cL_prune 10 = .ok (.goto 7, 3) := by decide +kernel
theorem dL_prune_13 : decode cL_prune 13 = .ok (.astore 4, 2) := by decide +kernel
theorem dL_prune_15 : decode cL_prune 15 = .ok (.iconst 1, 1) := by decide +kernel
theorem dL_prune_16 : decode cL_prune 16 = .ok (.ireturn, 1) := by decide +kernel
theorem dL_prune_17 : decode cL_prune 17 = .ok (.iconst 0, 1) := by decide +kernel
theorem dL_prune_18 : decode cL_prune 18 = .ok (.ireturn, 1) := by decide +kernel
theorem dL_pruneBy_0 : decode cL_pruneBy 0 = .ok (.aload_n 3, 1) := by decide +kernel
theorem dL_pruneBy_1 : decode cL_pruneBy 1 = .ok (.iconst 0, 1) := by decide +kernel
theorem dL_pruneBy_2 : decode cL_pruneBy 2 = .ok (.aload_n 0, 1) := by decide +kernel
theorem dL_pruneBy_3 : decode cL_pruneBy 3 = .ok (.iload_n 1, 1) := by decide +kernel
theorem dL_pruneBy_4 : decode cL_pruneBy 4 = .ok (.iload_n 2, 1) := by decide +kernel
theorem dL_pruneBy_5 : decode cL_pruneBy 5 = .ok (.invokevirtual 52, 3) := by decide +kernel
theorem dL_pruneBy_8 : decode cL_pruneBy 8 = .ok (.i2l, 1) := by decide +kernel
theorem dL_pruneBy_9 : decode cL_pruneBy 9 = .ok (.lastore, 1) := by decide +kernel
theorem dL_pruneBy_10 : decode cL_pruneBy 10 = .ok (.goto 7, 3) := by decide +kernel
theorem dL_pruneBy_13 : decode cL_pruneBy 13 = .ok (.astore 4, 2) := by decide +kernel
theorem dL_pruneBy_15 : decode cL_pruneBy 15 = .ok (.iconst 1, 1) := by decide +kernel
theorem dL_pruneBy_16 : decode cL_pruneBy 16 = .ok (.ireturn, 1) := by decide +kernel
theorem dL_pruneBy_17 : decode cL_pruneBy 17 = .ok (.iconst 0, 1) := by decide +kernel
theorem dL_pruneBy_18 : decode cL_pruneBy 18 = .ok (.ireturn, 1) := by decide +kernel
theorem dL_setWay_0 : decode cL_setWay 0 = .ok (.aload_n 3, 1) := by decide +kernel
theorem dL_setWay_1 : decode cL_setWay 1 = .ok (.iconst 0, 1) := by decide +kernel
theorem dL_setWay_2 : decode cL_setWay 2 = .ok (.aload_n 0, 1) := by decide +kernel
theorem dL_setWay_3 : decode cL_setWay 3 = .ok (.iload_n 1, 1) := by decide +kernel
theorem dL_setWay_4 : decode cL_setWay 4 = .ok (.iload_n 2, 1) := by decide +kernel
theorem dL_setWay_5 : decode cL_setWay 5 = .ok (.invokevirtual 55, 3) := by decide +kernel
theorem dL_setWay_8 : decode cL_setWay 8 = .ok (.i2l, 1) := by decide +kernel
theorem dL_setWay_9 : decode cL_setWay 9 = .ok (.lastore, 1) := by decide +kernel
theorem dL_setWay_10 : decode cL_setWay 10 = .ok (.goto 7, 3) := by decide +kernel
theorem dL_setWay_13 : decode cL_setWay 13 = .ok (.astore 4, 2) := by decide +kernel
theorem dL_setWay_15 : decode cL_setWay 15 = .ok (.iconst 1, 1) := by decide +kernel
theorem dL_setWay_16 : decode cL_setWay 16 = .ok (.ireturn, 1) := by decide +kernel
theorem dL_setWay_17 : decode cL_setWay 17 = .ok (.iconst 0, 1) := by decide +kernel
theorem dL_setWay_18 : decode cL_setWay 18 = .ok (.ireturn, 1) := by decide +kernel
theorem dL_chance_0 : decode cL_chance 0 = .ok (.aload_n 2, 1) := by decide +kernel
theorem dL_chance_1 : decode cL_chance 1 = .ok (.iconst 0, 1) := by decide +kernel
theorem dL_chance_2 : decode cL_chance 2 = .ok (.aload_n 0, 1) := by decide +kernel
theorem dL_chance_3 : decode cL_chance 3 = .ok (.iload_n 1, 1) := by decide +kernel
theorem dL_chance_4 : decode cL_chance 4 = .ok (.invokevirtual 58, 3) := by decide +kernel
theorem dL_chance_7 : decode cL_chance 7 = .ok (.i2l, 1) := by decide +kernel
theorem dL_chance_8 : decode cL_chance 8 = .ok (.lastore, 1) := by decide +kernel
theorem dL_chance_9 : decode cL_chance 9 = .ok (.goto 6, 3) := by decide +kernel
theorem dL_chance_12 : decode cL_chance 12 = .ok (.astore_n 3, 1) := by decide +kernel
theorem dL_chance_13 : decode cL_chance 13 = .ok (.iconst 1, 1) := by decide +kernel
theorem dL_chance_14 : decode cL_chance 14 = .ok (.ireturn, 1) := by decide +kernel
theorem dL_chance_15 : decode cL_chance 15 = .ok (.iconst 0, 1) := by decide +kernel
theorem dL_chance_16 : decode cL_chance 16 = .ok (.ireturn, 1) := by decide +kernel
theorem dL_ranked_0 : decode cL_ranked 0 = .ok (.aload_n 2, 1) := by decide +kernel
theorem dL_ranked_1 : decode cL_ranked 1 = .ok (.iconst 0, 1) := by decide +kernel
theorem dL_ranked_2 : decode cL_ranked 2 = .ok (.aload_n 0, 1) := by decide +kernel
theorem dL_ranked_3 : decode cL_ranked 3 = .ok (.iload_n 1, 1) := by decide +kernel
theorem dL_ranked_4 : decode cL_ranked 4 = .ok (.invokevirtual 61, 3) := by decide +kernel
theorem dL_ranked_7 : decode cL_ranked 7 = .ok (.i2l, 1) := by decide +kernel
theorem dL_ranked_8 : decode cL_ranked 8 = .ok (.lastore, 1) := by decide +kernel
theorem dL_ranked_9 : decode cL_ranked 9 = .ok (.goto 6, 3) := by decide +kernel
theorem dL_ranked_12 : decode cL_ranked 12 = .ok (.astore_n 3, 1) := by decide +kernel
theorem dL_ranked_13 : decode cL_ranked 13 = .ok (.iconst 1, 1) := by decide +kernel
theorem dL_ranked_14 : decode cL_ranked 14 = .ok (.ireturn, 1) := by decide +kernel
theorem dL_ranked_15 : decode cL_ranked 15 = .ok (.iconst 0, 1) := by decide +kernel
theorem dL_ranked_16 : decode cL_ranked 16 = .ok (.ireturn, 1) := by decide +kernel
theorem dL_complete_0 : decode cL_complete 0 = .ok (.aload_n 2, 1) := by decide +kernel
theorem dL_complete_1 : decode cL_complete 1 = .ok (.iconst 0, 1) := by decide +kernel
theorem dL_complete_2 : decode cL_complete 2 = .ok (.aload_n 0, 1) := by decide +kernel
theorem dL_complete_3 : decode cL_complete 3 = .ok (.iload_n 1, 1) := by decide +kernel
theorem dL_complete_4 : decode cL_complete 4 = .ok (.invokevirtual 64, 3) := by decide +kernel
theorem dL_complete_12 : decode cL_complete 12 = .ok (.astore_n 3, 1) := by decide +kernel
theorem dL_complete_13 : decode cL_complete 13 = .ok (.iconst 1, 1) := by decide +kernel
theorem dL_complete_14 : decode cL_complete 14 = .ok (.ireturn, 1) := by decide +kernel
theorem dL_complete_15 : decode cL_complete 15 = .ok (.astore_n 3, 1) := by decide +kernel
theorem dL_complete_16 : decode cL_complete 16 = .ok (.iconst 2, 1) := by decide +kernel
theorem dL_complete_17 : decode cL_complete 17 = .ok (.ireturn, 1) := by decide +kernel
theorem dL_setLuck_0 : decode cL_setLuck 0 = .ok (.aload_n 2, 1) := by decide +kernel
theorem dL_setLuck_1 : decode cL_setLuck 1 = .ok (.iconst 0, 1) := by decide +kernel
theorem dL_setLuck_2 : decode cL_setLuck 2 = .ok (.aload_n 0, 1) := by decide +kernel
theorem dL_setLuck_3 : decode cL_setLuck 3 = .ok (.iload_n 1, 1) := by decide +kernel
theorem dL_setLuck_4 : decode cL_setLuck 4 = .ok (.invokevirtual 67, 3) := by decide +kernel
theorem dL_setLuck_7 : decode cL_setLuck 7 = .ok (.i2l, 1) := by decide +kernel
theorem dL_setLuck_8 : decode cL_setLuck 8 = .ok (.lastore, 1) := by decide +kernel
theorem dL_setLuck_9 : decode cL_setLuck 9 = .ok (.goto 6, 3) := by decide +kernel
theorem dL_setLuck_12 : decode cL_setLuck 12 = .ok (.astore_n 3, 1) := by decide +kernel
theorem dL_setLuck_13 : decode cL_setLuck 13 = .ok (.iconst 1, 1) := by decide +kernel
theorem dL_setLuck_14 : decode cL_setLuck 14 = .ok (.ireturn, 1) := by decide +kernel
theorem dL_setLuck_15 : decode cL_setLuck 15 = .ok (.iconst 0, 1) := by decide +kernel
theorem dL_setLuck_16 : decode cL_setLuck 16 = .ok (.ireturn, 1) := by decide +kernel
theorem dL_addStep_0 : decode cL_addStep 0 = .ok (.aload_n 3, 1) := by decide +kernel
theorem dL_addStep_1 : decode cL_addStep 1 = .ok (.iconst 0, 1) := by decide +kernel
theorem dL_addStep_2 : decode cL_addStep 2 = .ok (.aload_n 0, 1) := by decide +kernel
theorem dL_addStep_3 : decode cL_addStep 3 = .ok (.iload_n 1, 1) := by decide +kernel
theorem dL_addStep_4 : decode cL_addStep 4 = .ok (.iload_n 2, 1) := by decide +kernel
theorem dL_addStep_5 : decode cL_addStep 5 = .ok (.invokevirtual 70, 3) := by decide +kernel
theorem dL_addStep_8 : decode cL_addStep 8 = .ok (.i2l, 1) := by decide +kernel
theorem dL_addStep_9 : decode cL_addStep 9 = .ok (.lastore, 1) := by decide +kernel
theorem dL_addStep_10 : decode cL_addStep 10 = .ok (.goto 11, 3) := by decide +kernel
theorem dL_addStep_13 : decode cL_addStep 13 = .ok (.astore 4, 2) := by decide +kernel
theorem dL_addStep_15 : decode cL_addStep 15 = .ok (.iconst 1, 1) := by decide +kernel
theorem dL_addStep_16 : decode cL_addStep 16 = .ok (.ireturn, 1) := by decide +kernel
theorem dL_addStep_21 : decode cL_addStep 21 = .ok (.iconst 0, 1) := by decide +kernel
theorem dL_addStep_22 : decode cL_addStep 22 = .ok (.ireturn, 1) := by decide +kernel
theorem dL_runScript_0 : decode cL_runScript 0 = .ok (.aload_n 1, 1) := by decide +kernel
theorem dL_runScript_1 : decode cL_runScript 1 = .ok (.iconst 0, 1) := by decide +kernel
theorem dL_runScript_2 : decode cL_runScript 2 = .ok (.aload_n 0, 1) := by decide +kernel
theorem dL_runScript_3 : decode cL_runScript 3 = .ok (.invokevirtual 73, 3) := by decide +kernel
theorem dL_runScript_11 : decode cL_runScript 11 = .ok (.astore_n 2, 1) := by decide +kernel
theorem dL_runScript_12 : decode cL_runScript 12 = .ok (.iconst 1, 1) := by decide +kernel
theorem dL_runScript_13 : decode cL_runScript 13 = .ok (.ireturn, 1) := by decide +kernel
theorem dL_scoreLearned_0 : decode cL_scoreLearned 0 = .ok (.aload_n 2, 1) := by decide +kernel
theorem dL_scoreLearned_1 : decode cL_scoreLearned 1 = .ok (.iconst 0, 1) := by decide +kernel
theorem dL_scoreLearned_2 : decode cL_scoreLearned 2 = .ok (.aload_n 0, 1) := by decide +kernel
theorem dL_scoreLearned_3 : decode cL_scoreLearned 3 = .ok (.iload_n 1, 1) := by decide +kernel
theorem dL_scoreLearned_4 : decode cL_scoreLearned 4 = .ok (.invokevirtual 76, 3) := by decide +kernel
theorem dL_scoreLearned_12 : decode cL_scoreLearned 12 = .ok (.astore_n 3, 1) := by decide +kernel
theorem dL_scoreLearned_13 : decode cL_scoreLearned 13 = .ok (.iconst 1, 1) := by decide +kernel
theorem dL_scoreLearned_14 : decode cL_scoreLearned 14 = .ok (.ireturn, 1) := by decide +kernel
theorem dL_scoreLearned_15 : decode cL_scoreLearned 15 = .ok (.astore_n 3, 1) := by decide +kernel
theorem dL_scoreLearned_16 : decode cL_scoreLearned 16 = .ok (.iconst 2, 1) := by decide +kernel
theorem dL_scoreLearned_17 : decode cL_scoreLearned 17 = .ok (.ireturn, 1) := by decide +kernel
theorem dL_scoreBy_0 : decode cL_scoreBy 0 = .ok (.aload_n 3, 1) := by decide +kernel
theorem dL_scoreBy_1 : decode cL_scoreBy 1 = .ok (.iconst 0, 1) := by decide +kernel
theorem dL_scoreBy_2 : decode cL_scoreBy 2 = .ok (.aload_n 0, 1) := by decide +kernel
theorem dL_scoreBy_3 : decode cL_scoreBy 3 = .ok (.iload_n 1, 1) := by decide +kernel
theorem dL_scoreBy_4 : decode cL_scoreBy 4 = .ok (.iload_n 2, 1) := by decide +kernel
theorem dL_scoreBy_5 : decode cL_scoreBy 5 = .ok (.invokevirtual 79, 3) := by decide +kernel
theorem dL_scoreBy_8 : decode cL_scoreBy 8 = .ok (.i2l, 1) := by decide +kernel
theorem dL_scoreBy_9 : decode cL_scoreBy 9 = .ok (.lastore, 1) := by decide +kernel
theorem dL_scoreBy_10 : decode cL_scoreBy 10 = .ok (.goto 7, 3) := by decide +kernel
theorem dL_scoreBy_13 : decode cL_scoreBy 13 = .ok (.astore 4, 2) := by decide +kernel
theorem dL_scoreBy_15 : decode cL_scoreBy 15 = .ok (.iconst 1, 1) := by decide +kernel
theorem dL_scoreBy_16 : decode cL_scoreBy 16 = .ok (.ireturn, 1) := by decide +kernel
theorem dL_scoreBy_17 : decode cL_scoreBy 17 = .ok (.iconst 0, 1) := by decide +kernel
theorem dL_scoreBy_18 : decode cL_scoreBy 18 = .ok (.ireturn, 1) := by decide +kernel
theorem dL_wouldDraw_0 : decode cL_wouldDraw 0 = .ok (.aload_n 1, 1) := by decide +kernel
theorem dL_wouldDraw_1 : decode cL_wouldDraw 1 = .ok (.iconst 0, 1) := by decide +kernel
theorem dL_wouldDraw_2 : decode cL_wouldDraw 2 = .ok (.aload_n 0, 1) := by decide +kernel
theorem dL_wouldDraw_3 : decode cL_wouldDraw 3 = .ok (.invokevirtual 82, 3) := by decide +kernel
theorem dL_wouldDraw_11 : decode cL_wouldDraw 11 = .ok (.astore_n 2, 1) := by decide +kernel
theorem dL_wouldDraw_12 : decode cL_wouldDraw 12 = .ok (.iconst 1, 1) := by decide +kernel
theorem dL_wouldDraw_13 : decode cL_wouldDraw 13 = .ok (.ireturn, 1) := by decide +kernel
theorem dL_law_188 : decode cL_law 188 = .ok (.aload_n 1, 1) := by decide +kernel
theorem dL_law_189 : decode cL_law 189 = .ok (.aload_n 3, 1) := by decide +kernel
theorem dL_law_190 : decode cL_law 190 = .ok (.invokestatic 89, 3) := by decide +kernel
theorem dL_law_193 : decode cL_law 193 = .ok (.istore 5, 2) := by decide +kernel
theorem dL_law_195 : decode cL_law 195 = .ok (.aload_n 2, 1) := by decide +kernel
theorem dL_law_196 : decode cL_law 196 = .ok (.invokevirtual 94, 3) := by decide +kernel
theorem dL_law_199 : decode cL_law 199 = .ok (.istore 6, 2) := by decide +kernel
theorem dL_law_201 : decode cL_law 201 = .ok (.aload_n 2, 1) := by decide +kernel
theorem dL_law_202 : decode cL_law 202 = .ok (.invokevirtual 95, 3) := by decide +kernel
theorem dL_law_205 : decode cL_law 205 = .ok (.iload 5, 2) := by decide +kernel
theorem dL_law_207 : decode cL_law 207 = .ok (.if_icmp .eq 5, 3) := by decide +kernel
theorem dL_law_212 : decode cL_law 212 = .ok (.iload 5, 2) := by decide +kernel
theorem dL_law_214 : decode cL_law 214 = .ok (.ifCond .ne 15, 3) := by decide +kernel
theorem dL_law_217 : decode cL_law 217 = .ok (.aload_n 3, 1) := by decide +kernel
theorem dL_law_218 : decode cL_law 218 = .ok (.iconst 0, 1) := by decide +kernel
theorem dL_law_219 : decode cL_law 219 = .ok (.laload, 1) := by decide +kernel
theorem dL_law_220 : decode cL_law 220 = .ok (.iload 6, 2) := by decide +kernel
theorem dL_law_222 : decode cL_law 222 = .ok (.i2l, 1) := by decide +kernel
theorem dL_law_223 : decode cL_law 223 = .ok (.lcmp, 1) := by decide +kernel
theorem dL_law_224 : decode cL_law 224 = .ok (.ifCond .eq 5, 3) := by decide +kernel
theorem dL_law_229 : decode cL_law 229 = .ok (.goto 1448, 3) := by decide +kernel
theorem dL_law_232 : decode cL_law 232 = .ok (.aload_n 1, 1) := by decide +kernel
theorem dL_law_233 : decode cL_law 233 = .ok (.aload_n 0, 1) := by decide +kernel
theorem dL_law_234 : decode cL_law 234 = .ok (.iload 4, 2) := by decide +kernel
theorem dL_law_236 : decode cL_law 236 = .ok (.iconst 1, 1) := by decide +kernel
theorem dL_law_237 : decode cL_law 237 = .ok (.iadd, 1) := by decide +kernel
theorem dL_law_238 : decode cL_law 238 = .ok (.iaload, 1) := by decide +kernel
theorem dL_law_239 : decode cL_law 239 = .ok (.aload_n 3, 1) := by decide +kernel
theorem dL_law_240 : decode cL_law 240 = .ok (.invokestatic 98, 3) := by decide +kernel
theorem dL_law_243 : decode cL_law 243 = .ok (.istore 5, 2) := by decide +kernel
theorem dL_law_245 : decode cL_law 245 = .ok (.aload_n 2, 1) := by decide +kernel
theorem dL_law_246 : decode cL_law 246 = .ok (.aload_n 0, 1) := by decide +kernel
theorem dL_law_247 : decode cL_law 247 = .ok (.iload 4, 2) := by decide +kernel
theorem dL_law_249 : decode cL_law 249 = .ok (.iconst 1, 1) := by decide +kernel
theorem dL_law_250 : decode cL_law 250 = .ok (.iadd, 1) := by decide +kernel
theorem dL_law_251 : decode cL_law 251 = .ok (.iaload, 1) := by decide +kernel
theorem dL_law_252 : decode cL_law 252 = .ok (.invokevirtual 101, 3) := by decide +kernel
theorem dL_law_255 : decode cL_law 255 = .ok (.istore 6, 2) := by decide +kernel
theorem dL_law_257 : decode cL_law 257 = .ok (.aload_n 2, 1) := by decide +kernel
theorem dL_law_258 : decode cL_law 258 = .ok (.invokevirtual 95, 3) := by decide +kernel
theorem dL_law_261 : decode cL_law 261 = .ok (.iload 5, 2) := by decide +kernel
theorem dL_law_263 : decode cL_law 263 = .ok (.if_icmp .eq 5, 3) := by decide +kernel
theorem dL_law_268 : decode cL_law 268 = .ok (.iload 5, 2) := by decide +kernel
theorem dL_law_270 : decode cL_law 270 = .ok (.ifCond .ne 15, 3) := by decide +kernel
theorem dL_law_273 : decode cL_law 273 = .ok (.aload_n 3, 1) := by decide +kernel
theorem dL_law_274 : decode cL_law 274 = .ok (.iconst 0, 1) := by decide +kernel
theorem dL_law_275 : decode cL_law 275 = .ok (.laload, 1) := by decide +kernel
theorem dL_law_276 : decode cL_law 276 = .ok (.iload 6, 2) := by decide +kernel
theorem dL_law_278 : decode cL_law 278 = .ok (.i2l, 1) := by decide +kernel
theorem dL_law_279 : decode cL_law 279 = .ok (.lcmp, 1) := by decide +kernel
theorem dL_law_280 : decode cL_law 280 = .ok (.ifCond .eq 5, 3) := by decide +kernel
theorem dL_law_285 : decode cL_law 285 = .ok (.goto 1392, 3) := by decide +kernel
theorem dL_law_288 : decode cL_law 288 = .ok (.aload_n 1, 1) := by decide +kernel
theorem dL_law_289 : decode cL_law 289 = .ok (.aload_n 0, 1) := by decide +kernel
theorem dL_law_290 : decode cL_law 290 = .ok (.iload 4, 2) := by decide +kernel
theorem dL_law_292 : decode cL_law 292 = .ok (.iconst 1, 1) := by decide +kernel
theorem dL_law_293 : decode cL_law 293 = .ok (.iadd, 1) := by decide +kernel
theorem dL_law_294 : decode cL_law 294 = .ok (.iaload, 1) := by decide +kernel
theorem dL_law_295 : decode cL_law 295 = .ok (.aload_n 3, 1) := by decide +kernel
theorem dL_law_296 : decode cL_law 296 = .ok (.invokestatic 102, 3) := by decide +kernel
theorem dL_law_299 : decode cL_law 299 = .ok (.istore 5, 2) := by decide +kernel
theorem dL_law_301 : decode cL_law 301 = .ok (.aload_n 2, 1) := by decide +kernel
theorem dL_law_302 : decode cL_law 302 = .ok (.aload_n 0, 1) := by decide +kernel
theorem dL_law_303 : decode cL_law 303 = .ok (.iload 4, 2) := by decide +kernel
theorem dL_law_305 : decode cL_law 305 = .ok (.iconst 1, 1) := by decide +kernel
theorem dL_law_306 : decode cL_law 306 = .ok (.iadd, 1) := by decide +kernel
theorem dL_law_307 : decode cL_law 307 = .ok (.iaload, 1) := by decide +kernel
theorem dL_law_308 : decode cL_law 308 = .ok (.invokevirtual 104, 3) := by decide +kernel
theorem dL_law_311 : decode cL_law 311 = .ok (.istore 6, 2) := by decide +kernel
theorem dL_law_313 : decode cL_law 313 = .ok (.aload_n 2, 1) := by decide +kernel
theorem dL_law_314 : decode cL_law 314 = .ok (.invokevirtual 95, 3) := by decide +kernel
theorem dL_law_317 : decode cL_law 317 = .ok (.iload 5, 2) := by decide +kernel
theorem dL_law_319 : decode cL_law 319 = .ok (.if_icmp .eq 5, 3) := by decide +kernel
theorem dL_law_324 : decode cL_law 324 = .ok (.iload 5, 2) := by decide +kernel
theorem dL_law_326 : decode cL_law 326 = .ok (.ifCond .ne 15, 3) := by decide +kernel
theorem dL_law_341 : decode cL_law 341 = .ok (.goto 1336, 3) := by decide +kernel
theorem dL_law_344 : decode cL_law 344 = .ok (.aload_n 1, 1) := by decide +kernel
theorem dL_law_345 : decode cL_law 345 = .ok (.invokevirtual 105, 3) := by decide +kernel
theorem dL_law_348 : decode cL_law 348 = .ok (.aload_n 2, 1) := by decide +kernel
theorem dL_law_349 : decode cL_law 349 = .ok (.invokevirtual 108, 3) := by decide +kernel
theorem dL_law_352 : decode cL_law 352 = .ok (.if_icmp .eq 1325, 3) := by decide +kernel
theorem dL_law_357 : decode cL_law 357 = .ok (.aload_n 1, 1) := by decide +kernel
theorem dL_law_358 : decode cL_law 358 = .ok (.aload_n 0, 1) := by decide +kernel
theorem dL_law_359 : decode cL_law 359 = .ok (.iload 4, 2) := by decide +kernel
theorem dL_law_361 : decode cL_law 361 = .ok (.iconst 1, 1) := by decide +kernel
theorem dL_law_362 : decode cL_law 362 = .ok (.iadd, 1) := by decide +kernel
theorem dL_law_363 : decode cL_law 363 = .ok (.iaload, 1) := by decide +kernel
theorem dL_law_364 : decode cL_law 364 = .ok (.aload_n 3, 1) := by decide +kernel
theorem dL_law_365 : decode cL_law 365 = .ok (.invokestatic 109, 3) := by decide +kernel
theorem dL_law_368 : decode cL_law 368 = .ok (.istore 5, 2) := by decide +kernel
theorem dL_law_370 : decode cL_law 370 = .ok (.aload_n 2, 1) := by decide +kernel
theorem dL_law_371 : decode cL_law 371 = .ok (.aload_n 0, 1) := by decide +kernel
theorem dL_law_372 : decode cL_law 372 = .ok (.iload 4, 2) := by decide +kernel
theorem dL_law_374 : decode cL_law 374 = .ok (.iconst 1, 1) := by decide +kernel
theorem dL_law_375 : decode cL_law 375 = .ok (.iadd, 1) := by decide +kernel
theorem dL_law_376 : decode cL_law 376 = .ok (.iaload, 1) := by decide +kernel
theorem dL_law_377 : decode cL_law 377 = .ok (.invokevirtual 111, 3) := by decide +kernel
theorem dL_law_380 : decode cL_law 380 = .ok (.istore 6, 2) := by decide +kernel
theorem dL_law_382 : decode cL_law 382 = .ok (.aload_n 2, 1) := by decide +kernel
theorem dL_law_383 : decode cL_law 383 = .ok (.invokevirtual 95, 3) := by decide +kernel
theorem dL_law_386 : decode cL_law 386 = .ok (.iload 5, 2) := by decide +kernel
theorem dL_law_388 : decode cL_law 388 = .ok (.if_icmp .eq 5, 3) := by decide +kernel
theorem dL_law_393 : decode cL_law 393 = .ok (.iload 5, 2) := by decide +kernel
theorem dL_law_395 : decode cL_law 395 = .ok (.ifCond .ne 15, 3) := by decide +kernel
theorem dL_law_410 : decode cL_law 410 = .ok (.goto 1267, 3) := by decide +kernel
theorem dL_law_413 : decode cL_law 413 = .ok (.aload_n 1, 1) := by decide +kernel
theorem dL_law_414 : decode cL_law 414 = .ok (.aload_n 3, 1) := by decide +kernel
theorem dL_law_415 : decode cL_law 415 = .ok (.invokestatic 112, 3) := by decide +kernel
theorem dL_law_418 : decode cL_law 418 = .ok (.istore 5, 2) := by decide +kernel
theorem dL_law_420 : decode cL_law 420 = .ok (.aload_n 2, 1) := by decide +kernel
theorem dL_law_421 : decode cL_law 421 = .ok (.invokevirtual 114, 3) := by decide +kernel
theorem dL_law_424 : decode cL_law 424 = .ok (.istore 6, 2) := by decide +kernel
theorem dL_law_426 : decode cL_law 426 = .ok (.aload_n 2, 1) := by decide +kernel
theorem dL_law_427 : decode cL_law 427 = .ok (.invokevirtual 95, 3) := by decide +kernel
theorem dL_law_430 : decode cL_law 430 = .ok (.iload 5, 2) := by decide +kernel
theorem dL_law_432 : decode cL_law 432 = .ok (.if_icmp .eq 5, 3) := by decide +kernel
theorem dL_law_437 : decode cL_law 437 = .ok (.iload 5, 2) := by decide +kernel
theorem dL_law_439 : decode cL_law 439 = .ok (.ifCond .ne 15, 3) := by decide +kernel
theorem dL_law_454 : decode cL_law 454 = .ok (.goto 1223, 3) := by decide +kernel
theorem dL_law_457 : decode cL_law 457 = .ok (.aload_n 1, 1) := by decide +kernel
theorem dL_law_458 : decode cL_law 458 = .ok (.invokevirtual 115, 3) := by decide +kernel
theorem dL_law_461 : decode cL_law 461 = .ok (.aload_n 2, 1) := by decide +kernel
theorem dL_law_462 : decode cL_law 462 = .ok (.invokevirtual 118, 3) := by decide +kernel
theorem dL_law_465 : decode cL_law 465 = .ok (.if_icmp .eq 1212, 3) := by decide +kernel
theorem dL_law_470 : decode cL_law 470 = .ok (.aload_n 1, 1) := by decide +kernel
theorem dL_law_471 : decode cL_law 471 = .ok (.invokevirtual 119, 3) := by decide +kernel
theorem dL_law_474 : decode cL_law 474 = .ok (.aload_n 2, 1) := by decide +kernel
theorem dL_law_475 : decode cL_law 475 = .ok (.invokevirtual 122, 3) := by decide +kernel
theorem dL_law_478 : decode cL_law 478 = .ok (.if_icmp .eq 1199, 3) := by decide +kernel
theorem dL_law_483 : decode cL_law 483 = .ok (.aload_n 1, 1) := by decide +kernel
theorem dL_law_484 : decode cL_law 484 = .ok (.invokevirtual 123, 3) := by decide +kernel
theorem dL_law_487 : decode cL_law 487 = .ok (.aload_n 2, 1) := by decide +kernel
theorem dL_law_488 : decode cL_law 488 = .ok (.invokevirtual 126, 3) := by decide +kernel
theorem dL_law_491 : decode cL_law 491 = .ok (.if_icmp .eq 1186, 3) := by decide +kernel
theorem dL_law_496 : decode cL_law 496 = .ok (.aload_n 1, 1) := by decide +kernel
theorem dL_law_497 : decode cL_law 497 = .ok (.aload_n 0, 1) := by decide +kernel
theorem dL_law_498 : decode cL_law 498 = .ok (.iload 4, 2) := by decide +kernel
theorem dL_law_500 : decode cL_law 500 = .ok (.iconst 1, 1) := by decide +kernel
theorem dL_law_501 : decode cL_law 501 = .ok (.iadd, 1) := by decide +kernel
theorem dL_law_502 : decode cL_law 502 = .ok (.iaload, 1) := by decide +kernel
theorem dL_law_503 : decode cL_law 503 = .ok (.aload_n 3, 1) := by decide +kernel
theorem dL_law_504 : decode cL_law 504 = .ok (.invokestatic 127, 3) := by decide +kernel
theorem dL_law_507 : decode cL_law 507 = .ok (.istore 5, 2) := by decide +kernel
theorem dL_law_509 : decode cL_law 509 = .ok (.aload_n 2, 1) := by decide +kernel
theorem dL_law_510 : decode cL_law 510 = .ok (.aload_n 0, 1) := by decide +kernel
theorem dL_law_511 : decode cL_law 511 = .ok (.iload 4, 2) := by decide +kernel
theorem dL_law_513 : decode cL_law 513 = .ok (.iconst 1, 1) := by decide +kernel
theorem dL_law_514 : decode cL_law 514 = .ok (.iadd, 1) := by decide +kernel
theorem dL_law_515 : decode cL_law 515 = .ok (.iaload, 1) := by decide +kernel
theorem dL_law_516 : decode cL_law 516 = .ok (.invokevirtual 129, 3) := by decide +kernel
theorem dL_law_519 : decode cL_law 519 = .ok (.istore 6, 2) := by decide +kernel
theorem dL_law_521 : decode cL_law 521 = .ok (.aload_n 2, 1) := by decide +kernel
theorem dL_law_522 : decode cL_law 522 = .ok (.invokevirtual 95, 3) := by decide +kernel
theorem dL_law_525 : decode cL_law 525 = .ok (.iload 5, 2) := by decide +kernel
theorem dL_law_527 : decode cL_law 527 = .ok (.if_icmp .eq 5, 3) := by decide +kernel
theorem dL_law_532 : decode cL_law 532 = .ok (.iload 5, 2) := by decide +kernel
theorem dL_law_534 : decode cL_law 534 = .ok (.ifCond .ne 15, 3) := by decide +kernel
theorem dL_law_549 : decode cL_law 549 = .ok (.goto 1128, 3) := by decide +kernel
theorem dL_law_552 : decode cL_law 552 = .ok (.aload_n 1, 1) := by decide +kernel
theorem dL_law_553 : decode cL_law 553 = .ok (.aload_n 0, 1) := by decide +kernel
theorem dL_law_554 : decode cL_law 554 = .ok (.iload 4, 2) := by decide +kernel
theorem dL_law_556 : decode cL_law 556 = .ok (.iconst 1, 1) := by decide +kernel
theorem dL_law_557 : decode cL_law 557 = .ok (.iadd, 1) := by decide +kernel
theorem dL_law_558 : decode cL_law 558 = .ok (.iaload, 1) := by decide +kernel
theorem dL_law_559 : decode cL_law 559 = .ok (.aload_n 3, 1) := by decide +kernel
theorem dL_law_560 : decode cL_law 560 = .ok (.invokestatic 130, 3) := by decide +kernel
theorem dL_law_563 : decode cL_law 563 = .ok (.istore 5, 2) := by decide +kernel
theorem dL_law_565 : decode cL_law 565 = .ok (.aload_n 2, 1) := by decide +kernel
theorem dL_law_566 : decode cL_law 566 = .ok (.aload_n 0, 1) := by decide +kernel
theorem dL_law_567 : decode cL_law 567 = .ok (.iload 4, 2) := by decide +kernel
theorem dL_law_569 : decode cL_law 569 = .ok (.iconst 1, 1) := by decide +kernel
theorem dL_law_570 : decode cL_law 570 = .ok (.iadd, 1) := by decide +kernel
theorem dL_law_571 : decode cL_law 571 = .ok (.iaload, 1) := by decide +kernel
theorem dL_law_572 : decode cL_law 572 = .ok (.invokevirtual 132, 3) := by decide +kernel
theorem dL_law_575 : decode cL_law 575 = .ok (.istore 6, 2) := by decide +kernel
theorem dL_law_577 : decode cL_law 577 = .ok (.aload_n 2, 1) := by decide +kernel
theorem dL_law_578 : decode cL_law 578 = .ok (.invokevirtual 95, 3) := by decide +kernel
theorem dL_law_581 : decode cL_law 581 = .ok (.iload 5, 2) := by decide +kernel
theorem dL_law_583 : decode cL_law 583 = .ok (.if_icmp .eq 5, 3) := by decide +kernel
theorem dL_law_588 : decode cL_law 588 = .ok (.iload 5, 2) := by decide +kernel
theorem dL_law_590 : decode cL_law 590 = .ok (.ifCond .ne 15, 3) := by decide +kernel
theorem dL_law_593 : decode cL_law 593 = .ok (.aload_n 3, 1) := by decide +kernel
theorem dL_law_594 : decode cL_law 594 = .ok (.iconst 0, 1) := by decide +kernel
theorem dL_law_595 : decode cL_law 595 = .ok (.laload, 1) := by decide +kernel
theorem dL_law_596 : decode cL_law 596 = .ok (.iload 6, 2) := by decide +kernel
theorem dL_law_598 : decode cL_law 598 = .ok (.i2l, 1) := by decide +kernel
theorem dL_law_599 : decode cL_law 599 = .ok (.lcmp, 1) := by decide +kernel
theorem dL_law_600 : decode cL_law 600 = .ok (.ifCond .eq 5, 3) := by decide +kernel
theorem dL_law_605 : decode cL_law 605 = .ok (.goto 1072, 3) := by decide +kernel
theorem dL_law_608 : decode cL_law 608 = .ok (.aload_n 1, 1) := by decide +kernel
theorem dL_law_609 : decode cL_law 609 = .ok (.aload_n 0, 1) := by decide +kernel
theorem dL_law_610 : decode cL_law 610 = .ok (.iload 4, 2) := by decide +kernel
theorem dL_law_612 : decode cL_law 612 = .ok (.iconst 1, 1) := by decide +kernel
theorem dL_law_613 : decode cL_law 613 = .ok (.iadd, 1) := by decide +kernel
theorem dL_law_614 : decode cL_law 614 = .ok (.iaload, 1) := by decide +kernel
theorem dL_law_615 : decode cL_law 615 = .ok (.aload_n 0, 1) := by decide +kernel
theorem dL_law_616 : decode cL_law 616 = .ok (.iload 4, 2) := by decide +kernel
theorem dL_law_618 : decode cL_law 618 = .ok (.iconst 2, 1) := by decide +kernel
theorem dL_law_619 : decode cL_law 619 = .ok (.iadd, 1) := by decide +kernel
theorem dL_law_620 : decode cL_law 620 = .ok (.iaload, 1) := by decide +kernel
theorem dL_law_621 : decode cL_law 621 = .ok (.aload_n 0, 1) := by decide +kernel
theorem dL_law_622 : decode cL_law 622 = .ok (.iload 4, 2) := by decide +kernel
theorem dL_law_624 : decode cL_law 624 = .ok (.iconst 3, 1) := by decide +kernel
theorem dL_law_625 : decode cL_law 625 = .ok (.iadd, 1) := by decide +kernel
theorem dL_law_626 : decode cL_law 626 = .ok (.iaload, 1) := by decide +kernel
theorem dL_law_627 : decode cL_law 627 = .ok (.aload_n 3, 1) := by decide +kernel
theorem dL_law_628 : decode cL_law 628 = .ok (.invokestatic 133, 3) := by decide +kernel
theorem dL_law_631 : decode cL_law 631 = .ok (.istore 5, 2) := by decide +kernel
theorem dL_law_633 : decode cL_law 633 = .ok (.aload_n 2, 1) := by decide +kernel
theorem dL_law_634 : decode cL_law 634 = .ok (.aload_n 0, 1) := by decide +kernel
theorem dL_law_635 : decode cL_law 635 = .ok (.iload 4, 2) := by decide +kernel
theorem dL_law_637 : decode cL_law 637 = .ok (.iconst 1, 1) := by decide +kernel
theorem dL_law_638 : decode cL_law 638 = .ok (.iadd, 1) := by decide +kernel
theorem dL_law_639 : decode cL_law 639 = .ok (.iaload, 1) := by decide +kernel
theorem dL_law_640 : decode cL_law 640 = .ok (.aload_n 0, 1) := by decide +kernel
theorem dL_law_641 : decode cL_law 641 = .ok (.iload 4, 2) := by decide +kernel
theorem dL_law_643 : decode cL_law 643 = .ok (.iconst 2, 1) := by decide +kernel
theorem dL_law_644 : decode cL_law 644 = .ok (.iadd, 1) := by decide +kernel
theorem dL_law_645 : decode cL_law 645 = .ok (.iaload, 1) := by decide +kernel
theorem dL_law_646 : decode cL_law 646 = .ok (.aload_n 0, 1) := by decide +kernel
theorem dL_law_647 : decode cL_law 647 = .ok (.iload 4, 2) := by decide +kernel
theorem dL_law_649 : decode cL_law 649 = .ok (.iconst 3, 1) := by decide +kernel
theorem dL_law_650 : decode cL_law 650 = .ok (.iadd, 1) := by decide +kernel
theorem dL_law_651 : decode cL_law 651 = .ok (.iaload, 1) := by decide +kernel
theorem dL_law_652 : decode cL_law 652 = .ok (.invokevirtual 136, 3) := by decide +kernel
theorem dL_law_655 : decode cL_law 655 = .ok (.istore 6, 2) := by decide +kernel
theorem dL_law_657 : decode cL_law 657 = .ok (.aload_n 2, 1) := by decide +kernel
theorem dL_law_658 : decode cL_law 658 = .ok (.invokevirtual 95, 3) := by decide +kernel
theorem dL_law_661 : decode cL_law 661 = .ok (.iload 5, 2) := by decide +kernel
theorem dL_law_663 : decode cL_law 663 = .ok (.if_icmp .eq 5, 3) := by decide +kernel
theorem dL_law_668 : decode cL_law 668 = .ok (.iload 5, 2) := by decide +kernel
theorem dL_law_670 : decode cL_law 670 = .ok (.ifCond .ne 15, 3) := by decide +kernel
theorem dL_law_685 : decode cL_law 685 = .ok (.goto 992, 3) := by decide +kernel
theorem dL_law_688 : decode cL_law 688 = .ok (.aload_n 1, 1) := by decide +kernel
theorem dL_law_689 : decode cL_law 689 = .ok (.aload_n 0, 1) := by decide +kernel
theorem dL_law_690 : decode cL_law 690 = .ok (.iload 4, 2) := by decide +kernel
theorem dL_law_692 : decode cL_law 692 = .ok (.iconst 1, 1) := by decide +kernel
theorem dL_law_693 : decode cL_law 693 = .ok (.iadd, 1) := by decide +kernel
theorem dL_law_694 : decode cL_law 694 = .ok (.iaload, 1) := by decide +kernel
theorem dL_law_695 : decode cL_law 695 = .ok (.aload_n 0, 1) := by decide +kernel
theorem dL_law_696 : decode cL_law 696 = .ok (.iload 4, 2) := by decide +kernel
theorem dL_law_698 : decode cL_law 698 = .ok (.iconst 2, 1) := by decide +kernel
theorem dL_law_699 : decode cL_law 699 = .ok (.iadd, 1) := by decide +kernel
theorem dL_law_700 : decode cL_law 700 = .ok (.iaload, 1) := by decide +kernel
theorem dL_law_701 : decode cL_law 701 = .ok (.aload_n 3, 1) := by decide +kernel
theorem dL_law_702 : decode cL_law 702 = .ok (.invokestatic 137, 3) := by decide +kernel
theorem dL_law_705 : decode cL_law 705 = .ok (.istore 5, 2) := by decide +kernel
theorem dL_law_707 : decode cL_law 707 = .ok (.aload_n 2, 1) := by decide +kernel
theorem dL_law_708 : decode cL_law 708 = .ok (.aload_n 0, 1) := by decide +kernel
theorem dL_law_709 : decode cL_law 709 = .ok (.iload 4, 2) := by decide +kernel
theorem dL_law_711 : decode cL_law 711 = .ok (.iconst 1, 1) := by decide +kernel
theorem dL_law_712 : decode cL_law 712 = .ok (.iadd, 1) := by decide +kernel
theorem dL_law_713 : decode cL_law 713 = .ok (.iaload, 1) := by decide +kernel
theorem dL_law_714 : decode cL_law 714 = .ok (.aload_n 0, 1) := by decide +kernel
theorem dL_law_715 : decode cL_law 715 = .ok (.iload 4, 2) := by decide +kernel
theorem dL_law_717 : decode cL_law 717 = .ok (.iconst 2, 1) := by decide +kernel
theorem dL_law_718 : decode cL_law 718 = .ok (.iadd, 1) := by decide +kernel
theorem dL_law_719 : decode cL_law 719 = .ok (.iaload, 1) := by decide +kernel
theorem dL_law_720 : decode cL_law 720 = .ok (.invokevirtual 140, 3) := by decide +kernel
theorem dL_law_723 : decode cL_law 723 = .ok (.istore 6, 2) := by decide +kernel
theorem dL_law_725 : decode cL_law 725 = .ok (.aload_n 2, 1) := by decide +kernel
theorem dL_law_726 : decode cL_law 726 = .ok (.invokevirtual 95, 3) := by decide +kernel
theorem dL_law_729 : decode cL_law 729 = .ok (.iload 5, 2) := by decide +kernel
theorem dL_law_731 : decode cL_law 731 = .ok (.if_icmp .eq 5, 3) := by decide +kernel
theorem dL_law_736 : decode cL_law 736 = .ok (.iload 5, 2) := by decide +kernel
theorem dL_law_738 : decode cL_law 738 = .ok (.ifCond .ne 15, 3) := by decide +kernel
theorem dL_law_753 : decode cL_law 753 = .ok (.goto 924, 3) := by decide +kernel
theorem dL_law_756 : decode cL_law 756 = .ok (.aload_n 1, 1) := by decide +kernel
theorem dL_law_757 : decode cL_law 757 = .ok (.aload_n 0, 1) := by decide +kernel
theorem dL_law_758 : decode cL_law 758 = .ok (.iload 4, 2) := by decide +kernel
theorem dL_law_760 : decode cL_law 760 = .ok (.iconst 1, 1) := by decide +kernel
theorem dL_law_761 : decode cL_law 761 = .ok (.iadd, 1) := by decide +kernel
theorem dL_law_762 : decode cL_law 762 = .ok (.iaload, 1) := by decide +kernel
theorem dL_law_763 : decode cL_law 763 = .ok (.aload_n 0, 1) := by decide +kernel
theorem dL_law_764 : decode cL_law 764 = .ok (.iload 4, 2) := by decide +kernel
theorem dL_law_766 : decode cL_law 766 = .ok (.iconst 2, 1) := by decide +kernel
theorem dL_law_767 : decode cL_law 767 = .ok (.iadd, 1) := by decide +kernel
theorem dL_law_768 : decode cL_law 768 = .ok (.iaload, 1) := by decide +kernel
theorem dL_law_769 : decode cL_law 769 = .ok (.aload_n 3, 1) := by decide +kernel
theorem dL_law_770 : decode cL_law 770 = .ok (.invokestatic 141, 3) := by decide +kernel
theorem dL_law_773 : decode cL_law 773 = .ok (.istore 5, 2) := by decide +kernel
theorem dL_law_775 : decode cL_law 775 = .ok (.aload_n 2, 1) := by decide +kernel
theorem dL_law_776 : decode cL_law 776 = .ok (.aload_n 0, 1) := by decide +kernel
theorem dL_law_777 : decode cL_law 777 = .ok (.iload 4, 2) := by decide +kernel
theorem dL_law_779 : decode cL_law 779 = .ok (.iconst 1, 1) := by decide +kernel
theorem dL_law_780 : decode cL_law 780 = .ok (.iadd, 1) := by decide +kernel
theorem dL_law_781 : decode cL_law 781 = .ok (.iaload, 1) := by decide +kernel
theorem dL_law_782 : decode cL_law 782 = .ok (.aload_n 0, 1) := by decide +kernel
theorem dL_law_783 : decode cL_law 783 = .ok (.iload 4, 2) := by decide +kernel
theorem dL_law_785 : decode cL_law 785 = .ok (.iconst 2, 1) := by decide +kernel
theorem dL_law_786 : decode cL_law 786 = .ok (.iadd, 1) := by decide +kernel
theorem dL_law_787 : decode cL_law 787 = .ok (.iaload, 1) := by decide +kernel
theorem dL_law_788 : decode cL_law 788 = .ok (.invokevirtual 143, 3) := by decide +kernel
theorem dL_law_791 : decode cL_law 791 = .ok (.istore 6, 2) := by decide +kernel
theorem dL_law_793 : decode cL_law 793 = .ok (.aload_n 2, 1) := by decide +kernel
theorem dL_law_794 : decode cL_law 794 = .ok (.invokevirtual 95, 3) := by decide +kernel
theorem dL_law_797 : decode cL_law 797 = .ok (.iload 5, 2) := by decide +kernel
theorem dL_law_799 : decode cL_law 799 = .ok (.if_icmp .eq 5, 3) := by decide +kernel
theorem dL_law_804 : decode cL_law 804 = .ok (.iload 5, 2) := by decide +kernel
theorem dL_law_806 : decode cL_law 806 = .ok (.ifCond .ne 15, 3) := by decide +kernel
theorem dL_law_809 : decode cL_law 809 = .ok (.aload_n 3, 1) := by decide +kernel
theorem dL_law_810 : decode cL_law 810 = .ok (.iconst 0, 1) := by decide +kernel
theorem dL_law_811 : decode cL_law 811 = .ok (.laload, 1) := by decide +kernel
theorem dL_law_812 : decode cL_law 812 = .ok (.iload 6, 2) := by decide +kernel
theorem dL_law_814 : decode cL_law 814 = .ok (.i2l, 1) := by decide +kernel
theorem dL_law_815 : decode cL_law 815 = .ok (.lcmp, 1) := by decide +kernel
theorem dL_law_816 : decode cL_law 816 = .ok (.ifCond .eq 5, 3) := by decide +kernel
theorem dL_law_821 : decode cL_law 821 = .ok (.goto 856, 3) := by decide +kernel
theorem dL_law_824 : decode cL_law 824 = .ok (.aload_n 1, 1) := by decide +kernel
theorem dL_law_825 : decode cL_law 825 = .ok (.aload_n 0, 1) := by decide +kernel
theorem dL_law_826 : decode cL_law 826 = .ok (.iload 4, 2) := by decide +kernel
theorem dL_law_828 : decode cL_law 828 = .ok (.iconst 1, 1) := by decide +kernel
theorem dL_law_829 : decode cL_law 829 = .ok (.iadd, 1) := by decide +kernel
theorem dL_law_830 : decode cL_law 830 = .ok (.iaload, 1) := by decide +kernel
theorem dL_law_831 : decode cL_law 831 = .ok (.aload_n 0, 1) := by decide +kernel
theorem dL_law_832 : decode cL_law 832 = .ok (.iload 4, 2) := by decide +kernel
theorem dL_law_834 : decode cL_law 834 = .ok (.iconst 2, 1) := by decide +kernel
theorem dL_law_835 : decode cL_law 835 = .ok (.iadd, 1) := by decide +kernel
theorem dL_law_836 : decode cL_law 836 = .ok (.iaload, 1) := by decide +kernel
theorem dL_law_837 : decode cL_law 837 = .ok (.aload_n 3, 1) := by decide +kernel
theorem dL_law_838 : decode cL_law 838 = .ok (.invokestatic 144, 3) := by decide +kernel
theorem dL_law_841 : decode cL_law 841 = .ok (.istore 5, 2) := by decide +kernel
theorem dL_law_843 : decode cL_law 843 = .ok (.aload_n 2, 1) := by decide +kernel
theorem dL_law_844 : decode cL_law 844 = .ok (.aload_n 0, 1) := by decide +kernel
theorem dL_law_845 : decode cL_law 845 = .ok (.iload 4, 2) := by decide +kernel
theorem dL_law_847 : decode cL_law 847 = .ok (.iconst 1, 1) := by decide +kernel
theorem dL_law_848 : decode cL_law 848 = .ok (.iadd, 1) := by decide +kernel
theorem dL_law_849 : decode cL_law 849 = .ok (.iaload, 1) := by decide +kernel
theorem dL_law_850 : decode cL_law 850 = .ok (.aload_n 0, 1) := by decide +kernel
theorem dL_law_851 : decode cL_law 851 = .ok (.iload 4, 2) := by decide +kernel
theorem dL_law_853 : decode cL_law 853 = .ok (.iconst 2, 1) := by decide +kernel
theorem dL_law_854 : decode cL_law 854 = .ok (.iadd, 1) := by decide +kernel
theorem dL_law_855 : decode cL_law 855 = .ok (.iaload, 1) := by decide +kernel
theorem dL_law_856 : decode cL_law 856 = .ok (.invokevirtual 146, 3) := by decide +kernel
theorem dL_law_859 : decode cL_law 859 = .ok (.istore 6, 2) := by decide +kernel
theorem dL_law_861 : decode cL_law 861 = .ok (.aload_n 2, 1) := by decide +kernel
theorem dL_law_862 : decode cL_law 862 = .ok (.invokevirtual 95, 3) := by decide +kernel
theorem dL_law_865 : decode cL_law 865 = .ok (.iload 5, 2) := by decide +kernel
theorem dL_law_867 : decode cL_law 867 = .ok (.if_icmp .eq 5, 3) := by decide +kernel
theorem dL_law_872 : decode cL_law 872 = .ok (.iload 5, 2) := by decide +kernel
theorem dL_law_874 : decode cL_law 874 = .ok (.ifCond .ne 15, 3) := by decide +kernel
theorem dL_law_877 : decode cL_law 877 = .ok (.aload_n 3, 1) := by decide +kernel
theorem dL_law_878 : decode cL_law 878 = .ok (.iconst 0, 1) := by decide +kernel
theorem dL_law_879 : decode cL_law 879 = .ok (.laload, 1) := by decide +kernel
theorem dL_law_880 : decode cL_law 880 = .ok (.iload 6, 2) := by decide +kernel
theorem dL_law_882 : decode cL_law 882 = .ok (.i2l, 1) := by decide +kernel
theorem dL_law_883 : decode cL_law 883 = .ok (.lcmp, 1) := by decide +kernel
theorem dL_law_884 : decode cL_law 884 = .ok (.ifCond .eq 5, 3) := by decide +kernel
theorem dL_law_889 : decode cL_law 889 = .ok (.goto 788, 3) := by decide +kernel
theorem dL_law_892 : decode cL_law 892 = .ok (.aload_n 1, 1) := by decide +kernel
theorem dL_law_893 : decode cL_law 893 = .ok (.aload_n 0, 1) := by decide +kernel
theorem dL_law_894 : decode cL_law 894 = .ok (.iload 4, 2) := by decide +kernel
theorem dL_law_896 : decode cL_law 896 = .ok (.iconst 1, 1) := by decide +kernel
theorem dL_law_897 : decode cL_law 897 = .ok (.iadd, 1) := by decide +kernel
theorem dL_law_898 : decode cL_law 898 = .ok (.iaload, 1) := by decide +kernel
theorem dL_law_899 : decode cL_law 899 = .ok (.aload_n 0, 1) := by decide +kernel
theorem dL_law_900 : decode cL_law 900 = .ok (.iload 4, 2) := by decide +kernel
theorem dL_law_902 : decode cL_law 902 = .ok (.iconst 2, 1) := by decide +kernel
theorem dL_law_903 : decode cL_law 903 = .ok (.iadd, 1) := by decide +kernel
theorem dL_law_904 : decode cL_law 904 = .ok (.iaload, 1) := by decide +kernel
theorem dL_law_905 : decode cL_law 905 = .ok (.aload_n 3, 1) := by decide +kernel
theorem dL_law_906 : decode cL_law 906 = .ok (.invokestatic 147, 3) := by decide +kernel
theorem dL_law_909 : decode cL_law 909 = .ok (.istore 5, 2) := by decide +kernel
theorem dL_law_911 : decode cL_law 911 = .ok (.aload_n 2, 1) := by decide +kernel
theorem dL_law_912 : decode cL_law 912 = .ok (.aload_n 0, 1) := by decide +kernel
theorem dL_law_913 : decode cL_law 913 = .ok (.iload 4, 2) := by decide +kernel
theorem dL_law_915 : decode cL_law 915 = .ok (.iconst 1, 1) := by decide +kernel
theorem dL_law_916 : decode cL_law 916 = .ok (.iadd, 1) := by decide +kernel
theorem dL_law_917 : decode cL_law 917 = .ok (.iaload, 1) := by decide +kernel
theorem dL_law_918 : decode cL_law 918 = .ok (.aload_n 0, 1) := by decide +kernel
theorem dL_law_919 : decode cL_law 919 = .ok (.iload 4, 2) := by decide +kernel
theorem dL_law_921 : decode cL_law 921 = .ok (.iconst 2, 1) := by decide +kernel
theorem dL_law_922 : decode cL_law 922 = .ok (.iadd, 1) := by decide +kernel
theorem dL_law_923 : decode cL_law 923 = .ok (.iaload, 1) := by decide +kernel
theorem dL_law_924 : decode cL_law 924 = .ok (.invokevirtual 149, 3) := by decide +kernel
theorem dL_law_927 : decode cL_law 927 = .ok (.istore 6, 2) := by decide +kernel
theorem dL_law_929 : decode cL_law 929 = .ok (.aload_n 2, 1) := by decide +kernel
theorem dL_law_930 : decode cL_law 930 = .ok (.invokevirtual 95, 3) := by decide +kernel
theorem dL_law_933 : decode cL_law 933 = .ok (.iload 5, 2) := by decide +kernel
theorem dL_law_935 : decode cL_law 935 = .ok (.if_icmp .eq 5, 3) := by decide +kernel
theorem dL_law_940 : decode cL_law 940 = .ok (.iload 5, 2) := by decide +kernel
theorem dL_law_942 : decode cL_law 942 = .ok (.ifCond .ne 15, 3) := by decide +kernel
theorem dL_law_945 : decode cL_law 945 = .ok (.aload_n 3, 1) := by decide +kernel
theorem dL_law_946 : decode cL_law 946 = .ok (.iconst 0, 1) := by decide +kernel
theorem dL_law_947 : decode cL_law 947 = .ok (.laload, 1) := by decide +kernel
theorem dL_law_948 : decode cL_law 948 = .ok (.iload 6, 2) := by decide +kernel
theorem dL_law_950 : decode cL_law 950 = .ok (.i2l, 1) := by decide +kernel
theorem dL_law_951 : decode cL_law 951 = .ok (.lcmp, 1) := by decide +kernel
theorem dL_law_952 : decode cL_law 952 = .ok (.ifCond .eq 5, 3) := by decide +kernel
theorem dL_law_957 : decode cL_law 957 = .ok (.goto 720, 3) := by decide +kernel
theorem dL_law_960 : decode cL_law 960 = .ok (.aload_n 1, 1) := by decide +kernel
theorem dL_law_961 : decode cL_law 961 = .ok (.aload_n 0, 1) := by decide +kernel
theorem dL_law_962 : decode cL_law 962 = .ok (.iload 4, 2) := by decide +kernel
theorem dL_law_964 : decode cL_law 964 = .ok (.iconst 1, 1) := by decide +kernel
theorem dL_law_965 : decode cL_law 965 = .ok (.iadd, 1) := by decide +kernel
theorem dL_law_966 : decode cL_law 966 = .ok (.iaload, 1) := by decide +kernel
theorem dL_law_967 : decode cL_law 967 = .ok (.aload_n 0, 1) := by decide +kernel
theorem dL_law_968 : decode cL_law 968 = .ok (.iload 4, 2) := by decide +kernel
theorem dL_law_970 : decode cL_law 970 = .ok (.iconst 2, 1) := by decide +kernel
theorem dL_law_971 : decode cL_law 971 = .ok (.iadd, 1) := by decide +kernel
theorem dL_law_972 : decode cL_law 972 = .ok (.iaload, 1) := by decide +kernel
theorem dL_law_973 : decode cL_law 973 = .ok (.aload_n 3, 1) := by decide +kernel
theorem dL_law_974 : decode cL_law 974 = .ok (.invokestatic 150, 3) := by decide +kernel
theorem dL_law_977 : decode cL_law 977 = .ok (.istore 5, 2) := by decide +kernel
theorem dL_law_979 : decode cL_law 979 = .ok (.aload_n 2, 1) := by decide +kernel
theorem dL_law_980 : decode cL_law 980 = .ok (.aload_n 0, 1) := by decide +kernel
theorem dL_law_981 : decode cL_law 981 = .ok (.iload 4, 2) := by decide +kernel
theorem dL_law_983 : decode cL_law 983 = .ok (.iconst 1, 1) := by decide +kernel
theorem dL_law_984 : decode cL_law 984 = .ok (.iadd, 1) := by decide +kernel
theorem dL_law_985 : decode cL_law 985 = .ok (.iaload, 1) := by decide +kernel
theorem dL_law_986 : decode cL_law 986 = .ok (.aload_n 0, 1) := by decide +kernel
theorem dL_law_987 : decode cL_law 987 = .ok (.iload 4, 2) := by decide +kernel
theorem dL_law_989 : decode cL_law 989 = .ok (.iconst 2, 1) := by decide +kernel
theorem dL_law_990 : decode cL_law 990 = .ok (.iadd, 1) := by decide +kernel
theorem dL_law_991 : decode cL_law 991 = .ok (.iaload, 1) := by decide +kernel
theorem dL_law_992 : decode cL_law 992 = .ok (.invokevirtual 152, 3) := by decide +kernel
theorem dL_law_995 : decode cL_law 995 = .ok (.istore 6, 2) := by decide +kernel
theorem dL_law_997 : decode cL_law 997 = .ok (.aload_n 2, 1) := by decide +kernel
theorem dL_law_998 : decode cL_law 998 = .ok (.invokevirtual 95, 3) := by decide +kernel
theorem dL_law_1001 : decode cL_law 1001 = .ok (.iload 5, 2) := by decide +kernel
theorem dL_law_1003 : decode cL_law 1003 = .ok (.if_icmp .eq 5, 3) := by decide +kernel
theorem dL_law_1008 : decode cL_law 1008 = .ok (.iload 5, 2) := by decide +kernel
theorem dL_law_1010 : decode cL_law 1010 = .ok (.ifCond .ne 15, 3) := by decide +kernel
theorem dL_law_1013 : decode cL_law 1013 = .ok (.aload_n 3, 1) := by decide +kernel
theorem dL_law_1014 : decode cL_law 1014 = .ok (.iconst 0, 1) := by decide +kernel
theorem dL_law_1015 : decode cL_law 1015 = .ok (.laload, 1) := by decide +kernel
theorem dL_law_1016 : decode cL_law 1016 = .ok (.iload 6, 2) := by decide +kernel
theorem dL_law_1018 : decode cL_law 1018 = .ok (.i2l, 1) := by decide +kernel
theorem dL_law_1019 : decode cL_law 1019 = .ok (.lcmp, 1) := by decide +kernel
theorem dL_law_1020 : decode cL_law 1020 = .ok (.ifCond .eq 5, 3) := by decide +kernel
theorem dL_law_1025 : decode cL_law 1025 = .ok (.goto 652, 3) := by decide +kernel
theorem dL_law_1028 : decode cL_law 1028 = .ok (.aload_n 1, 1) := by decide +kernel
theorem dL_law_1029 : decode cL_law 1029 = .ok (.aload_n 0, 1) := by decide +kernel
theorem dL_law_1030 : decode cL_law 1030 = .ok (.iload 4, 2) := by decide +kernel
theorem dL_law_1032 : decode cL_law 1032 = .ok (.iconst 1, 1) := by decide +kernel
theorem dL_law_1033 : decode cL_law 1033 = .ok (.iadd, 1) := by decide +kernel
theorem dL_law_1034 : decode cL_law 1034 = .ok (.iaload, 1) := by decide +kernel
theorem dL_law_1035 : decode cL_law 1035 = .ok (.aload_n 3, 1) := by decide +kernel
theorem dL_law_1036 : decode cL_law 1036 = .ok (.invokestatic 153, 3) := by decide +kernel
theorem dL_law_1039 : decode cL_law 1039 = .ok (.istore 5, 2) := by decide +kernel
theorem dL_law_1041 : decode cL_law 1041 = .ok (.aload_n 2, 1) := by decide +kernel
theorem dL_law_1042 : decode cL_law 1042 = .ok (.aload_n 0, 1) := by decide +kernel
theorem dL_law_1043 : decode cL_law 1043 = .ok (.iload 4, 2) := by decide +kernel
theorem dL_law_1045 : decode cL_law 1045 = .ok (.iconst 1, 1) := by decide +kernel
theorem dL_law_1046 : decode cL_law 1046 = .ok (.iadd, 1) := by decide +kernel
theorem dL_law_1047 : decode cL_law 1047 = .ok (.iaload, 1) := by decide +kernel
theorem dL_law_1048 : decode cL_law 1048 = .ok (.invokevirtual 155, 3) := by decide +kernel
theorem dL_law_1051 : decode cL_law 1051 = .ok (.istore 6, 2) := by decide +kernel
theorem dL_law_1053 : decode cL_law 1053 = .ok (.aload_n 2, 1) := by decide +kernel
theorem dL_law_1054 : decode cL_law 1054 = .ok (.invokevirtual 95, 3) := by decide +kernel
theorem dL_law_1057 : decode cL_law 1057 = .ok (.iload 5, 2) := by decide +kernel
theorem dL_law_1059 : decode cL_law 1059 = .ok (.if_icmp .eq 5, 3) := by decide +kernel
theorem dL_law_1064 : decode cL_law 1064 = .ok (.iload 5, 2) := by decide +kernel
theorem dL_law_1066 : decode cL_law 1066 = .ok (.ifCond .ne 15, 3) := by decide +kernel
theorem dL_law_1069 : decode cL_law 1069 = .ok (.aload_n 3, 1) := by decide +kernel
theorem dL_law_1070 : decode cL_law 1070 = .ok (.iconst 0, 1) := by decide +kernel
theorem dL_law_1071 : decode cL_law 1071 = .ok (.laload, 1) := by decide +kernel
theorem dL_law_1072 : decode cL_law 1072 = .ok (.iload 6, 2) := by decide +kernel
theorem dL_law_1074 : decode cL_law 1074 = .ok (.i2l, 1) := by decide +kernel
theorem dL_law_1075 : decode cL_law 1075 = .ok (.lcmp, 1) := by decide +kernel
theorem dL_law_1076 : decode cL_law 1076 = .ok (.ifCond .eq 5, 3) := by decide +kernel
theorem dL_law_1081 : decode cL_law 1081 = .ok (.goto 596, 3) := by decide +kernel
theorem dL_law_1084 : decode cL_law 1084 = .ok (.aload_n 1, 1) := by decide +kernel
theorem dL_law_1085 : decode cL_law 1085 = .ok (.aload_n 0, 1) := by decide +kernel
theorem dL_law_1086 : decode cL_law 1086 = .ok (.iload 4, 2) := by decide +kernel
theorem dL_law_1088 : decode cL_law 1088 = .ok (.iconst 1, 1) := by decide +kernel
theorem dL_law_1089 : decode cL_law 1089 = .ok (.iadd, 1) := by decide +kernel
theorem dL_law_1090 : decode cL_law 1090 = .ok (.iaload, 1) := by decide +kernel
theorem dL_law_1091 : decode cL_law 1091 = .ok (.aload_n 3, 1) := by decide +kernel
theorem dL_law_1092 : decode cL_law 1092 = .ok (.invokestatic 156, 3) := by decide +kernel
theorem dL_law_1095 : decode cL_law 1095 = .ok (.istore 5, 2) := by decide +kernel
theorem dL_law_1097 : decode cL_law 1097 = .ok (.aload_n 2, 1) := by decide +kernel
theorem dL_law_1098 : decode cL_law 1098 = .ok (.aload_n 0, 1) := by decide +kernel
theorem dL_law_1099 : decode cL_law 1099 = .ok (.iload 4, 2) := by decide +kernel
theorem dL_law_1101 : decode cL_law 1101 = .ok (.iconst 1, 1) := by decide +kernel
theorem dL_law_1102 : decode cL_law 1102 = .ok (.iadd, 1) := by decide +kernel
theorem dL_law_1103 : decode cL_law 1103 = .ok (.iaload, 1) := by decide +kernel
theorem dL_law_1104 : decode cL_law 1104 = .ok (.invokevirtual 158, 3) := by decide +kernel
theorem dL_law_1107 : decode cL_law 1107 = .ok (.istore 6, 2) := by decide +kernel
theorem dL_law_1109 : decode cL_law 1109 = .ok (.aload_n 2, 1) := by decide +kernel
theorem dL_law_1110 : decode cL_law 1110 = .ok (.invokevirtual 95, 3) := by decide +kernel
theorem dL_law_1113 : decode cL_law 1113 = .ok (.iload 5, 2) := by decide +kernel
theorem dL_law_1115 : decode cL_law 1115 = .ok (.if_icmp .eq 5, 3) := by decide +kernel
theorem dL_law_1120 : decode cL_law 1120 = .ok (.iload 5, 2) := by decide +kernel
theorem dL_law_1122 : decode cL_law 1122 = .ok (.ifCond .ne 15, 3) := by decide +kernel
theorem dL_law_1125 : decode cL_law 1125 = .ok (.aload_n 3, 1) := by decide +kernel
theorem dL_law_1126 : decode cL_law 1126 = .ok (.iconst 0, 1) := by decide +kernel
theorem dL_law_1127 : decode cL_law 1127 = .ok (.laload, 1) := by decide +kernel
theorem dL_law_1128 : decode cL_law 1128 = .ok (.iload 6, 2) := by decide +kernel
theorem dL_law_1130 : decode cL_law 1130 = .ok (.i2l, 1) := by decide +kernel
theorem dL_law_1131 : decode cL_law 1131 = .ok (.lcmp, 1) := by decide +kernel
theorem dL_law_1132 : decode cL_law 1132 = .ok (.ifCond .eq 5, 3) := by decide +kernel
theorem dL_law_1137 : decode cL_law 1137 = .ok (.goto 540, 3) := by decide +kernel
theorem dL_law_1140 : decode cL_law 1140 = .ok (.aload_n 1, 1) := by decide +kernel
theorem dL_law_1141 : decode cL_law 1141 = .ok (.aload_n 0, 1) := by decide +kernel
theorem dL_law_1142 : decode cL_law 1142 = .ok (.iload 4, 2) := by decide +kernel
theorem dL_law_1144 : decode cL_law 1144 = .ok (.iconst 1, 1) := by decide +kernel
theorem dL_law_1145 : decode cL_law 1145 = .ok (.iadd, 1) := by decide +kernel
theorem dL_law_1146 : decode cL_law 1146 = .ok (.iaload, 1) := by decide +kernel
theorem dL_law_1147 : decode cL_law 1147 = .ok (.invokevirtual 159, 3) := by decide +kernel
theorem dL_law_1150 : decode cL_law 1150 = .ok (.aload_n 2, 1) := by decide +kernel
theorem dL_law_1151 : decode cL_law 1151 = .ok (.aload_n 0, 1) := by decide +kernel
theorem dL_law_1152 : decode cL_law 1152 = .ok (.iload 4, 2) := by decide +kernel
theorem dL_law_1154 : decode cL_law 1154 = .ok (.iconst 1, 1) := by decide +kernel
theorem dL_law_1155 : decode cL_law 1155 = .ok (.iadd, 1) := by decide +kernel
theorem dL_law_1156 : decode cL_law 1156 = .ok (.iaload, 1) := by decide +kernel
theorem dL_law_1157 : decode cL_law 1157 = .ok (.invokevirtual 162, 3) := by decide +kernel
theorem dL_law_1160 : decode cL_law 1160 = .ok (.if_icmp .eq 517, 3) := by decide +kernel
theorem dL_law_1165 : decode cL_law 1165 = .ok (.aload_n 1, 1) := by decide +kernel
theorem dL_law_1166 : decode cL_law 1166 = .ok (.invokevirtual 163, 3) := by decide +kernel
theorem dL_law_1169 : decode cL_law 1169 = .ok (.aload_n 2, 1) := by decide +kernel
theorem dL_law_1170 : decode cL_law 1170 = .ok (.invokevirtual 166, 3) := by decide +kernel
theorem dL_law_1173 : decode cL_law 1173 = .ok (.if_icmp .eq 504, 3) := by decide +kernel
theorem dL_law_1178 : decode cL_law 1178 = .ok (.aload_n 1, 1) := by decide +kernel
theorem dL_law_1179 : decode cL_law 1179 = .ok (.invokevirtual 167, 3) := by decide +kernel
theorem dL_law_1182 : decode cL_law 1182 = .ok (.dstore 5, 2) := by decide +kernel
theorem dL_law_1184 : decode cL_law 1184 = .ok (.aload_n 2, 1) := by decide +kernel
theorem dL_law_1185 : decode cL_law 1185 = .ok (.invokevirtual 171, 3) := by decide +kernel
theorem dL_law_1188 : decode cL_law 1188 = .ok (.dstore 7, 2) := by decide +kernel
theorem dL_law_1190 : decode cL_law 1190 = .ok (.dload 5, 2) := by decide +kernel
theorem dL_law_1192 : decode cL_law 1192 = .ok (.dload 7, 2) := by decide +kernel
theorem dL_law_1194 : decode cL_law 1194 = .ok (.dcmp .l, 1) := by decide +kernel
theorem dL_law_1195 : decode cL_law 1195 = .ok (.ifCond .eq 21, 3) := by decide +kernel
theorem dL_law_1216 : decode cL_law 1216 = .ok (.goto 461, 3) := by decide +kernel
theorem dL_law_1219 : decode cL_law 1219 = .ok (.aload_n 1, 1) := by decide +kernel
theorem dL_law_1220 : decode cL_law 1220 = .ok (.aload_n 0, 1) := by decide +kernel
theorem dL_law_1221 : decode cL_law 1221 = .ok (.iload 4, 2) := by decide +kernel
theorem dL_law_1223 : decode cL_law 1223 = .ok (.iconst 1, 1) := by decide +kernel
theorem dL_law_1224 : decode cL_law 1224 = .ok (.iadd, 1) := by decide +kernel
theorem dL_law_1225 : decode cL_law 1225 = .ok (.iaload, 1) := by decide +kernel
theorem dL_law_1226 : decode cL_law 1226 = .ok (.aload_n 3, 1) := by decide +kernel
theorem dL_law_1227 : decode cL_law 1227 = .ok (.invokestatic 172, 3) := by decide +kernel
theorem dL_law_1230 : decode cL_law 1230 = .ok (.istore 5, 2) := by decide +kernel
theorem dL_law_1232 : decode cL_law 1232 = .ok (.aload_n 2, 1) := by decide +kernel
theorem dL_law_1233 : decode cL_law 1233 = .ok (.aload_n 0, 1) := by decide +kernel
theorem dL_law_1234 : decode cL_law 1234 = .ok (.iload 4, 2) := by decide +kernel
theorem dL_law_1236 : decode cL_law 1236 = .ok (.iconst 1, 1) := by decide +kernel
theorem dL_law_1237 : decode cL_law 1237 = .ok (.iadd, 1) := by decide +kernel
theorem dL_law_1238 : decode cL_law 1238 = .ok (.iaload, 1) := by decide +kernel
theorem dL_law_1239 : decode cL_law 1239 = .ok (.invokevirtual 174, 3) := by decide +kernel
theorem dL_law_1242 : decode cL_law 1242 = .ok (.istore 6, 2) := by decide +kernel
theorem dL_law_1244 : decode cL_law 1244 = .ok (.aload_n 2, 1) := by decide +kernel
theorem dL_law_1245 : decode cL_law 1245 = .ok (.invokevirtual 95, 3) := by decide +kernel
theorem dL_law_1248 : decode cL_law 1248 = .ok (.iload 5, 2) := by decide +kernel
theorem dL_law_1250 : decode cL_law 1250 = .ok (.if_icmp .eq 5, 3) := by decide +kernel
theorem dL_law_1255 : decode cL_law 1255 = .ok (.iload 5, 2) := by decide +kernel
theorem dL_law_1257 : decode cL_law 1257 = .ok (.ifCond .ne 15, 3) := by decide +kernel
theorem dL_law_1272 : decode cL_law 1272 = .ok (.goto 405, 3) := by decide +kernel
theorem dL_law_1275 : decode cL_law 1275 = .ok (.aload_n 1, 1) := by decide +kernel
theorem dL_law_1276 : decode cL_law 1276 = .ok (.aload_n 0, 1) := by decide +kernel
theorem dL_law_1277 : decode cL_law 1277 = .ok (.iload 4, 2) := by decide +kernel
theorem dL_law_1279 : decode cL_law 1279 = .ok (.iconst 1, 1) := by decide +kernel
theorem dL_law_1280 : decode cL_law 1280 = .ok (.iadd, 1) := by decide +kernel
theorem dL_law_1281 : decode cL_law 1281 = .ok (.iaload, 1) := by decide +kernel
theorem dL_law_1282 : decode cL_law 1282 = .ok (.aload_n 3, 1) := by decide +kernel
theorem dL_law_1283 : decode cL_law 1283 = .ok (.invokestatic 175, 3) := by decide +kernel
theorem dL_law_1286 : decode cL_law 1286 = .ok (.istore 5, 2) := by decide +kernel
theorem dL_law_1288 : decode cL_law 1288 = .ok (.aload_n 2, 1) := by decide +kernel
theorem dL_law_1289 : decode cL_law 1289 = .ok (.aload_n 0, 1) := by decide +kernel
theorem dL_law_1290 : decode cL_law 1290 = .ok (.iload 4, 2) := by decide +kernel
theorem dL_law_1292 : decode cL_law 1292 = .ok (.iconst 1, 1) := by decide +kernel
theorem dL_law_1293 : decode cL_law 1293 = .ok (.iadd, 1) := by decide +kernel
theorem dL_law_1294 : decode cL_law 1294 = .ok (.iaload, 1) := by decide +kernel
theorem dL_law_1295 : decode cL_law 1295 = .ok (.invokevirtual 177, 3) := by decide +kernel
theorem dL_law_1298 : decode cL_law 1298 = .ok (.istore 6, 2) := by decide +kernel
theorem dL_law_1300 : decode cL_law 1300 = .ok (.aload_n 2, 1) := by decide +kernel
theorem dL_law_1301 : decode cL_law 1301 = .ok (.invokevirtual 95, 3) := by decide +kernel
theorem dL_law_1304 : decode cL_law 1304 = .ok (.iload 5, 2) := by decide +kernel
theorem dL_law_1306 : decode cL_law 1306 = .ok (.if_icmp .eq 5, 3) := by decide +kernel
theorem dL_law_1311 : decode cL_law 1311 = .ok (.iload 5, 2) := by decide +kernel
theorem dL_law_1313 : decode cL_law 1313 = .ok (.ifCond .ne 15, 3) := by decide +kernel
theorem dL_law_1316 : decode cL_law 1316 = .ok (.aload_n 3, 1) := by decide +kernel
theorem dL_law_1317 : decode cL_law 1317 = .ok (.iconst 0, 1) := by decide +kernel
theorem dL_law_1318 : decode cL_law 1318 = .ok (.laload, 1) := by decide +kernel
theorem dL_law_1319 : decode cL_law 1319 = .ok (.iload 6, 2) := by decide +kernel
theorem dL_law_1321 : decode cL_law 1321 = .ok (.i2l, 1) := by decide +kernel
theorem dL_law_1322 : decode cL_law 1322 = .ok (.lcmp, 1) := by decide +kernel
theorem dL_law_1323 : decode cL_law 1323 = .ok (.ifCond .eq 5, 3) := by decide +kernel
theorem dL_law_1328 : decode cL_law 1328 = .ok (.goto 349, 3) := by decide +kernel
theorem dL_law_1331 : decode cL_law 1331 = .ok (.aload_n 1, 1) := by decide +kernel
theorem dL_law_1332 : decode cL_law 1332 = .ok (.aload_n 0, 1) := by decide +kernel
theorem dL_law_1333 : decode cL_law 1333 = .ok (.iload 4, 2) := by decide +kernel
theorem dL_law_1335 : decode cL_law 1335 = .ok (.iconst 1, 1) := by decide +kernel
theorem dL_law_1336 : decode cL_law 1336 = .ok (.iadd, 1) := by decide +kernel
theorem dL_law_1337 : decode cL_law 1337 = .ok (.iaload, 1) := by decide +kernel
theorem dL_law_1338 : decode cL_law 1338 = .ok (.aload_n 0, 1) := by decide +kernel
theorem dL_law_1339 : decode cL_law 1339 = .ok (.iload 4, 2) := by decide +kernel
theorem dL_law_1341 : decode cL_law 1341 = .ok (.iconst 2, 1) := by decide +kernel
theorem dL_law_1342 : decode cL_law 1342 = .ok (.iadd, 1) := by decide +kernel
theorem dL_law_1343 : decode cL_law 1343 = .ok (.iaload, 1) := by decide +kernel
theorem dL_law_1344 : decode cL_law 1344 = .ok (.aload_n 3, 1) := by decide +kernel
theorem dL_law_1345 : decode cL_law 1345 = .ok (.invokestatic 178, 3) := by decide +kernel
theorem dL_law_1348 : decode cL_law 1348 = .ok (.istore 5, 2) := by decide +kernel
theorem dL_law_1350 : decode cL_law 1350 = .ok (.aload_n 2, 1) := by decide +kernel
theorem dL_law_1351 : decode cL_law 1351 = .ok (.aload_n 0, 1) := by decide +kernel
theorem dL_law_1352 : decode cL_law 1352 = .ok (.iload 4, 2) := by decide +kernel
theorem dL_law_1354 : decode cL_law 1354 = .ok (.iconst 1, 1) := by decide +kernel
theorem dL_law_1355 : decode cL_law 1355 = .ok (.iadd, 1) := by decide +kernel
theorem dL_law_1356 : decode cL_law 1356 = .ok (.iaload, 1) := by decide +kernel
theorem dL_law_1357 : decode cL_law 1357 = .ok (.aload_n 0, 1) := by decide +kernel
theorem dL_law_1358 : decode cL_law 1358 = .ok (.iload 4, 2) := by decide +kernel
theorem dL_law_1360 : decode cL_law 1360 = .ok (.iconst 2, 1) := by decide +kernel
theorem dL_law_1361 : decode cL_law 1361 = .ok (.iadd, 1) := by decide +kernel
theorem dL_law_1362 : decode cL_law 1362 = .ok (.iaload, 1) := by decide +kernel
theorem dL_law_1363 : decode cL_law 1363 = .ok (.invokevirtual 180, 3) := by decide +kernel
theorem dL_law_1366 : decode cL_law 1366 = .ok (.istore 6, 2) := by decide +kernel
theorem dL_law_1368 : decode cL_law 1368 = .ok (.aload_n 2, 1) := by decide +kernel
theorem dL_law_1369 : decode cL_law 1369 = .ok (.invokevirtual 95, 3) := by decide +kernel
theorem dL_law_1372 : decode cL_law 1372 = .ok (.iload 5, 2) := by decide +kernel
theorem dL_law_1374 : decode cL_law 1374 = .ok (.if_icmp .eq 5, 3) := by decide +kernel
theorem dL_law_1379 : decode cL_law 1379 = .ok (.iload 5, 2) := by decide +kernel
theorem dL_law_1381 : decode cL_law 1381 = .ok (.ifCond .ne 15, 3) := by decide +kernel
theorem dL_law_1384 : decode cL_law 1384 = .ok (.aload_n 3, 1) := by decide +kernel
theorem dL_law_1385 : decode cL_law 1385 = .ok (.iconst 0, 1) := by decide +kernel
theorem dL_law_1386 : decode cL_law 1386 = .ok (.laload, 1) := by decide +kernel
theorem dL_law_1387 : decode cL_law 1387 = .ok (.iload 6, 2) := by decide +kernel
theorem dL_law_1389 : decode cL_law 1389 = .ok (.i2l, 1) := by decide +kernel
theorem dL_law_1390 : decode cL_law 1390 = .ok (.lcmp, 1) := by decide +kernel
theorem dL_law_1391 : decode cL_law 1391 = .ok (.ifCond .eq 5, 3) := by decide +kernel
theorem dL_law_1396 : decode cL_law 1396 = .ok (.goto 281, 3) := by decide +kernel
theorem dL_law_1399 : decode cL_law 1399 = .ok (.aload_n 1, 1) := by decide +kernel
theorem dL_law_1400 : decode cL_law 1400 = .ok (.invokevirtual 181, 3) := by decide +kernel
theorem dL_law_1403 : decode cL_law 1403 = .ok (.aload_n 2, 1) := by decide +kernel
theorem dL_law_1404 : decode cL_law 1404 = .ok (.invokevirtual 184, 3) := by decide +kernel
theorem dL_law_1407 : decode cL_law 1407 = .ok (.if_icmp .eq 270, 3) := by decide +kernel
theorem dL_law_1412 : decode cL_law 1412 = .ok (.aload_n 1, 1) := by decide +kernel
theorem dL_law_1413 : decode cL_law 1413 = .ok (.aload_n 3, 1) := by decide +kernel
theorem dL_law_1414 : decode cL_law 1414 = .ok (.invokestatic 185, 3) := by decide +kernel
theorem dL_law_1417 : decode cL_law 1417 = .ok (.istore 5, 2) := by decide +kernel
theorem dL_law_1419 : decode cL_law 1419 = .ok (.aload_n 2, 1) := by decide +kernel
theorem dL_law_1420 : decode cL_law 1420 = .ok (.invokevirtual 187, 3) := by decide +kernel
theorem dL_law_1423 : decode cL_law 1423 = .ok (.istore 6, 2) := by decide +kernel
theorem dL_law_1425 : decode cL_law 1425 = .ok (.aload_n 2, 1) := by decide +kernel
theorem dL_law_1426 : decode cL_law 1426 = .ok (.invokevirtual 95, 3) := by decide +kernel
theorem dL_law_1429 : decode cL_law 1429 = .ok (.iload 5, 2) := by decide +kernel
theorem dL_law_1431 : decode cL_law 1431 = .ok (.if_icmp .eq 5, 3) := by decide +kernel
theorem dL_law_1436 : decode cL_law 1436 = .ok (.iload 5, 2) := by decide +kernel
theorem dL_law_1438 : decode cL_law 1438 = .ok (.ifCond .ne 15, 3) := by decide +kernel
theorem dL_law_1453 : decode cL_law 1453 = .ok (.goto 224, 3) := by decide +kernel
theorem dL_law_1456 : decode cL_law 1456 = .ok (.aload_n 1, 1) := by decide +kernel
theorem dL_law_1457 : decode cL_law 1457 = .ok (.invokevirtual 188, 3) := by decide +kernel
theorem dL_law_1460 : decode cL_law 1460 = .ok (.aload_n 2, 1) := by decide +kernel
theorem dL_law_1461 : decode cL_law 1461 = .ok (.invokevirtual 192, 3) := by decide +kernel
theorem dL_law_1464 : decode cL_law 1464 = .ok (.if_icmp .eq 213, 3) := by decide +kernel
theorem dL_law_1469 : decode cL_law 1469 = .ok (.aload_n 1, 1) := by decide +kernel
theorem dL_law_1470 : decode cL_law 1470 = .ok (.invokevirtual 193, 3) := by decide +kernel
theorem dL_law_1473 : decode cL_law 1473 = .ok (.aload_n 2, 1) := by decide +kernel
theorem dL_law_1474 : decode cL_law 1474 = .ok (.invokevirtual 196, 3) := by decide +kernel
theorem dL_law_1477 : decode cL_law 1477 = .ok (.if_icmp .eq 200, 3) := by decide +kernel
theorem dL_law_1482 : decode cL_law 1482 = .ok (.aload_n 1, 1) := by decide +kernel
theorem dL_law_1483 : decode cL_law 1483 = .ok (.invokevirtual 197, 3) := by decide +kernel
theorem dL_law_1486 : decode cL_law 1486 = .ok (.aload_n 2, 1) := by decide +kernel
theorem dL_law_1487 : decode cL_law 1487 = .ok (.invokevirtual 200, 3) := by decide +kernel
theorem dL_law_1490 : decode cL_law 1490 = .ok (.if_icmp .eq 187, 3) := by decide +kernel
theorem dL_law_1495 : decode cL_law 1495 = .ok (.aload_n 1, 1) := by decide +kernel
theorem dL_law_1496 : decode cL_law 1496 = .ok (.aload_n 0, 1) := by decide +kernel
theorem dL_law_1497 : decode cL_law 1497 = .ok (.iload 4, 2) := by decide +kernel
theorem dL_law_1499 : decode cL_law 1499 = .ok (.iconst 1, 1) := by decide +kernel
theorem dL_law_1500 : decode cL_law 1500 = .ok (.iadd, 1) := by decide +kernel
theorem dL_law_1501 : decode cL_law 1501 = .ok (.iaload, 1) := by decide +kernel
theorem dL_law_1502 : decode cL_law 1502 = .ok (.aload_n 3, 1) := by decide +kernel
theorem dL_law_1503 : decode cL_law 1503 = .ok (.invokestatic 201, 3) := by decide +kernel
theorem dL_law_1506 : decode cL_law 1506 = .ok (.istore 5, 2) := by decide +kernel
theorem dL_law_1508 : decode cL_law 1508 = .ok (.aload_n 2, 1) := by decide +kernel
theorem dL_law_1509 : decode cL_law 1509 = .ok (.aload_n 0, 1) := by decide +kernel
theorem dL_law_1510 : decode cL_law 1510 = .ok (.iload 4, 2) := by decide +kernel
theorem dL_law_1512 : decode cL_law 1512 = .ok (.iconst 1, 1) := by decide +kernel
theorem dL_law_1513 : decode cL_law 1513 = .ok (.iadd, 1) := by decide +kernel
theorem dL_law_1514 : decode cL_law 1514 = .ok (.iaload, 1) := by decide +kernel
theorem dL_law_1515 : decode cL_law 1515 = .ok (.invokevirtual 203, 3) := by decide +kernel
theorem dL_law_1518 : decode cL_law 1518 = .ok (.istore 6, 2) := by decide +kernel
theorem dL_law_1520 : decode cL_law 1520 = .ok (.aload_n 2, 1) := by decide +kernel
theorem dL_law_1521 : decode cL_law 1521 = .ok (.invokevirtual 95, 3) := by decide +kernel
theorem dL_law_1524 : decode cL_law 1524 = .ok (.iload 5, 2) := by decide +kernel
theorem dL_law_1526 : decode cL_law 1526 = .ok (.if_icmp .eq 5, 3) := by decide +kernel
theorem dL_law_1531 : decode cL_law 1531 = .ok (.iload 5, 2) := by decide +kernel
theorem dL_law_1533 : decode cL_law 1533 = .ok (.ifCond .ne 15, 3) := by decide +kernel
theorem dL_law_1548 : decode cL_law 1548 = .ok (.goto 129, 3) := by decide +kernel
theorem dL_law_1551 : decode cL_law 1551 = .ok (.aload_n 1, 1) := by decide +kernel
theorem dL_law_1552 : decode cL_law 1552 = .ok (.aload_n 0, 1) := by decide +kernel
theorem dL_law_1553 : decode cL_law 1553 = .ok (.iload 4, 2) := by decide +kernel
theorem dL_law_1555 : decode cL_law 1555 = .ok (.iconst 1, 1) := by decide +kernel
theorem dL_law_1556 : decode cL_law 1556 = .ok (.iadd, 1) := by decide +kernel
theorem dL_law_1557 : decode cL_law 1557 = .ok (.iaload, 1) := by decide +kernel
theorem dL_law_1558 : decode cL_law 1558 = .ok (.aload_n 0, 1) := by decide +kernel
theorem dL_law_1559 : decode cL_law 1559 = .ok (.iload 4, 2) := by decide +kernel
theorem dL_law_1561 : decode cL_law 1561 = .ok (.iconst 2, 1) := by decide +kernel
theorem dL_law_1562 : decode cL_law 1562 = .ok (.iadd, 1) := by decide +kernel
theorem dL_law_1563 : decode cL_law 1563 = .ok (.iaload, 1) := by decide +kernel
theorem dL_law_1564 : decode cL_law 1564 = .ok (.aload_n 3, 1) := by decide +kernel
theorem dL_law_1565 : decode cL_law 1565 = .ok (.invokestatic 204, 3) := by decide +kernel
theorem dL_law_1568 : decode cL_law 1568 = .ok (.istore 5, 2) := by decide +kernel
theorem dL_law_1570 : decode cL_law 1570 = .ok (.aload_n 2, 1) := by decide +kernel
theorem dL_law_1571 : decode cL_law 1571 = .ok (.aload_n 0, 1) := by decide +kernel
theorem dL_law_1572 : decode cL_law 1572 = .ok (.iload 4, 2) := by decide +kernel
theorem dL_law_1574 : decode cL_law 1574 = .ok (.iconst 1, 1) := by decide +kernel
theorem dL_law_1575 : decode cL_law 1575 = .ok (.iadd, 1) := by decide +kernel
theorem dL_law_1576 : decode cL_law 1576 = .ok (.iaload, 1) := by decide +kernel
theorem dL_law_1577 : decode cL_law 1577 = .ok (.aload_n 0, 1) := by decide +kernel
theorem dL_law_1578 : decode cL_law 1578 = .ok (.iload 4, 2) := by decide +kernel
theorem dL_law_1580 : decode cL_law 1580 = .ok (.iconst 2, 1) := by decide +kernel
theorem dL_law_1581 : decode cL_law 1581 = .ok (.iadd, 1) := by decide +kernel
theorem dL_law_1582 : decode cL_law 1582 = .ok (.iaload, 1) := by decide +kernel
theorem dL_law_1583 : decode cL_law 1583 = .ok (.invokevirtual 206, 3) := by decide +kernel
theorem dL_law_1586 : decode cL_law 1586 = .ok (.istore 6, 2) := by decide +kernel
theorem dL_law_1588 : decode cL_law 1588 = .ok (.aload_n 2, 1) := by decide +kernel
theorem dL_law_1589 : decode cL_law 1589 = .ok (.invokevirtual 95, 3) := by decide +kernel
theorem dL_law_1592 : decode cL_law 1592 = .ok (.iload 5, 2) := by decide +kernel
theorem dL_law_1594 : decode cL_law 1594 = .ok (.if_icmp .eq 5, 3) := by decide +kernel
theorem dL_law_1599 : decode cL_law 1599 = .ok (.iload 5, 2) := by decide +kernel
theorem dL_law_1601 : decode cL_law 1601 = .ok (.ifCond .ne 15, 3) := by decide +kernel
theorem dL_law_1604 : decode cL_law 1604 = .ok (.aload_n 3, 1) := by decide +kernel
theorem dL_law_1605 : decode cL_law 1605 = .ok (.iconst 0, 1) := by decide +kernel
theorem dL_law_1606 : decode cL_law 1606 = .ok (.laload, 1) := by decide +kernel
theorem dL_law_1607 : decode cL_law 1607 = .ok (.iload 6, 2) := by decide +kernel
theorem dL_law_1609 : decode cL_law 1609 = .ok (.i2l, 1) := by decide +kernel
theorem dL_law_1610 : decode cL_law 1610 = .ok (.lcmp, 1) := by decide +kernel
theorem dL_law_1611 : decode cL_law 1611 = .ok (.ifCond .eq 5, 3) := by decide +kernel
theorem dL_law_1616 : decode cL_law 1616 = .ok (.goto 61, 3) := by decide +kernel
theorem dL_law_1619 : decode cL_law 1619 = .ok (.aload_n 1, 1) := by decide +kernel
theorem dL_law_1620 : decode cL_law 1620 = .ok (.aload_n 3, 1) := by decide +kernel
theorem dL_law_1621 : decode cL_law 1621 = .ok (.invokestatic 207, 3) := by decide +kernel
theorem dL_law_1624 : decode cL_law 1624 = .ok (.istore 5, 2) := by decide +kernel
theorem dL_law_1626 : decode cL_law 1626 = .ok (.aload_n 2, 1) := by decide +kernel
theorem dL_law_1627 : decode cL_law 1627 = .ok (.invokevirtual 209, 3) := by decide +kernel
theorem dL_law_1630 : decode cL_law 1630 = .ok (.istore 6, 2) := by decide +kernel
theorem dL_law_1632 : decode cL_law 1632 = .ok (.aload_n 2, 1) := by decide +kernel
theorem dL_law_1633 : decode cL_law 1633 = .ok (.invokevirtual 95, 3) := by decide +kernel
theorem dL_law_1636 : decode cL_law 1636 = .ok (.iload 5, 2) := by decide +kernel
theorem dL_law_1638 : decode cL_law 1638 = .ok (.if_icmp .eq 5, 3) := by decide +kernel
theorem dL_law_1643 : decode cL_law 1643 = .ok (.iload 5, 2) := by decide +kernel
theorem dL_law_1645 : decode cL_law 1645 = .ok (.ifCond .ne 15, 3) := by decide +kernel
theorem dL_law_1660 : decode cL_law 1660 = .ok (.goto 17, 3) := by decide +kernel
theorem dL_law_1663 : decode cL_law 1663 = .ok (.aload_n 1, 1) := by decide +kernel
theorem dL_law_1664 : decode cL_law 1664 = .ok (.invokevirtual 210, 3) := by decide +kernel
theorem dL_law_1667 : decode cL_law 1667 = .ok (.aload_n 2, 1) := by decide +kernel
theorem dL_law_1668 : decode cL_law 1668 = .ok (.invokevirtual 214, 3) := by decide +kernel
theorem dL_law_1671 : decode cL_law 1671 = .ok (.lcmp, 1) := by decide +kernel
theorem dL_law_1672 : decode cL_law 1672 = .ok (.ifCond .eq 5, 3) := by decide +kernel
theorem dL_law_0 : decode cL_law 0 = .ok (.new 8, 3) := by decide +kernel
theorem dL_law_3 : decode cL_law 3 = .ok (.dup, 1) := by decide +kernel
theorem dL_law_4 : decode cL_law 4 = .ok (.invokespecial 85, 3) := by decide +kernel
theorem dL_law_7 : decode cL_law 7 = .ok (.astore_n 1, 1) := by decide +kernel
theorem dL_law_8 : decode cL_law 8 = .ok (.new 86, 3) := by decide +kernel
theorem dL_law_11 : decode cL_law 11 = .ok (.dup, 1) := by decide +kernel
theorem dL_law_12 : decode cL_law 12 = .ok (.invokespecial 88, 3) := by decide +kernel
theorem dL_law_15 : decode cL_law 15 = .ok (.astore_n 2, 1) := by decide +kernel
theorem dL_law_16 : decode cL_law 16 = .ok (.iconst 1, 1) := by decide +kernel
theorem dL_law_17 : decode cL_law 17 = .ok (.newarray .long, 2) := by decide +kernel
theorem dL_law_19 : decode cL_law 19 = .ok (.astore_n 3, 1) := by decide +kernel
theorem dL_law_20 : decode cL_law 20 = .ok (.iconst 0, 1) := by decide +kernel
theorem dL_law_21 : decode cL_law 21 = .ok (.istore 4, 2) := by decide +kernel
theorem dL_law_23 : decode cL_law 23 = .ok (.iload 4, 2) := by decide +kernel
theorem dL_law_25 : decode cL_law 25 = .ok (.aload_n 0, 1) := by decide +kernel
theorem dL_law_26 : decode cL_law 26 = .ok (.arraylength, 1) := by decide +kernel
theorem dL_law_27 : decode cL_law 27 = .ok (.iconst 4, 1) := by decide +kernel
theorem dL_law_28 : decode cL_law 28 = .ok (.isub, 1) := by decide +kernel
theorem dL_law_29 : decode cL_law 29 = .ok (.if_icmp .gt 1654, 3) := by decide +kernel
theorem dL_law_32 : decode cL_law 32 = .ok (.aload_n 0, 1) := by decide +kernel
theorem dL_law_33 : decode cL_law 33 = .ok (.iload 4, 2) := by decide +kernel
theorem dL_law_35 : decode cL_law 35 = .ok (.iaload, 1) := by decide +kernel
theorem dL_law_36 : decode cL_law 36 = .ok (.bipush 63, 2) := by decide +kernel
theorem dL_law_38 : decode cL_law 38 = .ok (.iand, 1) := by decide +kernel
theorem dL_law_39 : decode cL_law 39 = .ok (.tableswitch 1638 0 33 #[149, 193, 249, 305, 318, 374, 418, 431, 444, 457, 513, 569, 649, 717, 785, 853, 921, 989, 1045, 1101, 1126, 1139, 1180, 1236, 1292, 1360, 1373, 1417, 1430, 1443, 1456, 1512, 1580, 1624], 149) := by decide +kernel
theorem dL_law_1677 : decode cL_law 1677 = .ok (.iinc 4 4, 3) := by decide +kernel
theorem dL_law_1680 : decode cL_law 1680 = .ok (.goto (-1657), 3) := by decide +kernel
theorem dL_law_1683 : decode cL_law 1683 = .ok (.iconst 1, 1) := by decide +kernel
theorem dL_law_1684 : decode cL_law 1684 = .ok (.ireturn, 1) := by decide +kernel
