theorem dX1_blend_0 : decode cX1_blend 0 = .ok (.aload_n 0, 1) := by decide +kernel
theorem dX1_blend_1 : decode cX1_blend 1 = .ok (.getfield 9, 3) := by decide +kernel
theorem dX1_blend_4 : decode cX1_blend 4 = .ok (.tableswitch 127 0 2 #[28, 69, 102], 28) := by decide +kernel
theorem dX1_blend_32 : decode cX1_blend 32 = .ok (.lload_n 1, 1) := by decide +kernel
theorem dX1_blend_33 : decode cX1_blend 33 = .ok (.ldc2_w 88, 3) := by decide +kernel
theorem dX1_blend_36 : decode cX1_blend 36 = .ok (.lmul, 1) := by decide +kernel
theorem dX1_blend_37 : decode cX1_blend 37 = .ok (.aload_n 0, 1) := by decide +kernel
theorem dX1_blend_38 : decode cX1_blend 38 = .ok (.getfield 15, 3) := by decide +kernel
theorem dX1_blend_41 : decode cX1_blend 41 = .ok (.i2l, 1) := by decide +kernel
theorem dX1_blend_42 : decode cX1_blend 42 = .ok (.ladd, 1) := by decide +kernel
theorem dX1_blend_43 : decode cX1_blend 43 = .ok (.ldc2_w 90, 3) := by decide +kernel
theorem dX1_blend_46 : decode cX1_blend 46 = .ok (.lmul, 1) := by decide +kernel
theorem dX1_blend_47 : decode cX1_blend 47 = .ok (.aload_n 0, 1) := by decide +kernel
theorem dX1_blend_48 : decode cX1_blend 48 = .ok (.getfield 25, 3) := by decide +kernel
theorem dX1_blend_51 : decode cX1_blend 51 = .ok (.ldc2_w 88, 3) := by decide +kernel
theorem dX1_blend_54 : decode cX1_blend 54 = .ok (.lmul, 1) := by decide +kernel
theorem dX1_blend_55 : decode cX1_blend 55 = .ok (.aload_n 0, 1) := by decide +kernel
theorem dX1_blend_56 : decode cX1_blend 56 = .ok (.getfield 15, 3) := by decide +kernel
theorem dX1_blend_59 : decode cX1_blend 59 = .ok (.aload_n 0, 1) := by decide +kernel
theorem dX1_blend_60 : decode cX1_blend 60 = .ok (.getfield 32, 3) := by decide +kernel
theorem dX1_blend_63 : decode cX1_blend 63 = .ok (.getfield 37, 3) := by decide +kernel
theorem dX1_blend_66 : decode cX1_blend 66 = .ok (.iconst 1, 1) := by decide +kernel
theorem dX1_blend_67 : decode cX1_blend 67 = .ok (.iadd, 1) := by decide +kernel
theorem dX1_blend_68 : decode cX1_blend 68 = .ok (.imul, 1) := by decide +kernel
theorem dX1_blend_69 : decode cX1_blend 69 = .ok (.i2l, 1) := by decide +kernel
theorem dX1_blend_70 : decode cX1_blend 70 = .ok (.ladd, 1) := by decide +kernel
theorem dX1_blend_71 : decode cX1_blend 71 = .ok (.ldiv, 1) := by decide +kernel
theorem dX1_blend_72 : decode cX1_blend 72 = .ok (.lreturn, 1) := by decide +kernel
theorem dX1_blend_73 : decode cX1_blend 73 = .ok (.aload_n 0, 1) := by decide +kernel
theorem dX1_blend_74 : decode cX1_blend 74 = .ok (.getfield 15, 3) := by decide +kernel
theorem dX1_blend_77 : decode cX1_blend 77 = .ok (.i2l, 1) := by decide +kernel
theorem dX1_blend_78 : decode cX1_blend 78 = .ok (.lload_n 1, 1) := by decide +kernel
theorem dX1_blend_79 : decode cX1_blend 79 = .ok (.ldc2_w 90, 3) := by decide +kernel
theorem dX1_blend_82 : decode cX1_blend 82 = .ok (.lmul, 1) := by decide +kernel
theorem dX1_blend_83 : decode cX1_blend 83 = .ok (.aload_n 0, 1) := by decide +kernel
theorem dX1_blend_84 : decode cX1_blend 84 = .ok (.getfield 25, 3) := by decide +kernel
theorem dX1_blend_87 : decode cX1_blend 87 = .ok (.ldiv, 1) := by decide +kernel
theorem dX1_blend_88 : decode cX1_blend 88 = .ok (.lmul, 1) := by decide +kernel
theorem dX1_blend_89 : decode cX1_blend 89 = .ok (.sipush 1000, 3) := by decide +kernel
theorem dX1_blend_92 : decode cX1_blend 92 = .ok (.aload_n 0, 1) := by decide +kernel
theorem dX1_blend_93 : decode cX1_blend 93 = .ok (.getfield 15, 3) := by decide +kernel
theorem dX1_blend_96 : decode cX1_blend 96 = .ok (.isub, 1) := by decide +kernel
theorem dX1_blend_97 : decode cX1_blend 97 = .ok (.i2l, 1) := by decide +kernel
theorem dX1_blend_98 : decode cX1_blend 98 = .ok (.lload_n 3, 1) := by decide +kernel
theorem dX1_blend_99 : decode cX1_blend 99 = .ok (.lmul, 1) := by decide +kernel
theorem dX1_blend_100 : decode cX1_blend 100 = .ok (.ladd, 1) := by decide +kernel
theorem dX1_blend_101 : decode cX1_blend 101 = .ok (.ldc2_w 88, 3) := by decide +kernel
theorem dX1_blend_104 : decode cX1_blend 104 = .ok (.ldiv, 1) := by decide +kernel
theorem dX1_blend_105 : decode cX1_blend 105 = .ok (.lreturn, 1) := by decide +kernel
theorem dX1_blend_106 : decode cX1_blend 106 = .ok (.lload_n 1, 1) := by decide +kernel
theorem dX1_blend_107 : decode cX1_blend 107 = .ok (.ldc2_w 90, 3) := by decide +kernel
theorem dX1_blend_110 : decode cX1_blend 110 = .ok (.lmul, 1) := by decide +kernel
theorem dX1_blend_111 : decode cX1_blend 111 = .ok (.aload_n 0, 1) := by decide +kernel
theorem dX1_blend_112 : decode cX1_blend 112 = .ok (.getfield 29, 3) := by decide +kernel
theorem dX1_blend_115 : decode cX1_blend 115 = .ok (.i2l, 1) := by decide +kernel
theorem dX1_blend_116 : decode cX1_blend 116 = .ok (.lload_n 3, 1) := by decide +kernel
theorem dX1_blend_117 : decode cX1_blend 117 = .ok (.lmul, 1) := by decide +kernel
theorem dX1_blend_118 : decode cX1_blend 118 = .ok (.ladd, 1) := by decide +kernel
theorem dX1_blend_119 : decode cX1_blend 119 = .ok (.aload_n 0, 1) := by decide +kernel
theorem dX1_blend_120 : decode cX1_blend 120 = .ok (.getfield 25, 3) := by decide +kernel
theorem dX1_blend_123 : decode cX1_blend 123 = .ok (.aload_n 0, 1) := by decide +kernel
theorem dX1_blend_124 : decode cX1_blend 124 = .ok (.getfield 29, 3) := by decide +kernel
theorem dX1_blend_127 : decode cX1_blend 127 = .ok (.i2l, 1) := by decide +kernel
theorem dX1_blend_128 : decode cX1_blend 128 = .ok (.ladd, 1) := by decide +kernel
theorem dX1_blend_129 : decode cX1_blend 129 = .ok (.ldiv, 1) := by decide +kernel
theorem dX1_blend_130 : decode cX1_blend 130 = .ok (.lreturn, 1) := by decide +kernel
theorem dX1_blend_131 : decode cX1_blend 131 = .ok (.lconst 0, 1) := by decide +kernel
theorem dX1_blend_132 : decode cX1_blend 132 = .ok (.lload_n 1, 1) := by decide +kernel
theorem dX1_blend_133 : decode cX1_blend 133 = .ok (.ldc2_w 88, 3) := by decide +kernel
theorem dX1_blend_136 : decode cX1_blend 136 = .ok (.lmul, 1) := by decide +kernel
theorem dX1_blend_137 : decode cX1_blend 137 = .ok (.aload_n 0, 1) := by decide +kernel
theorem dX1_blend_138 : decode cX1_blend 138 = .ok (.getfield 15, 3) := by decide +kernel
theorem dX1_blend_141 : decode cX1_blend 141 = .ok (.i2l, 1) := by decide +kernel
theorem dX1_blend_142 : decode cX1_blend 142 = .ok (.lsub, 1) := by decide +kernel
theorem dX1_blend_143 : decode cX1_blend 143 = .ok (.invokestatic 92, 3) := by decide +kernel
theorem dX1_blend_146 : decode cX1_blend 146 = .ok (.lstore 5, 2) := by decide +kernel
theorem dX1_blend_148 : decode cX1_blend 148 = .ok (.lload 5, 2) := by decide +kernel
theorem dX1_blend_150 : decode cX1_blend 150 = .ok (.ldc2_w 90, 3) := by decide +kernel
theorem dX1_blend_153 : decode cX1_blend 153 = .ok (.lmul, 1) := by decide +kernel
theorem dX1_blend_154 : decode cX1_blend 154 = .ok (.aload_n 0, 1) := by decide +kernel
theorem dX1_blend_155 : decode cX1_blend 155 = .ok (.getfield 15, 3) := by decide +kernel
theorem dX1_blend_158 : decode cX1_blend 158 = .ok (.aload_n 0, 1) := by decide +kernel
theorem dX1_blend_159 : decode cX1_blend 159 = .ok (.getfield 29, 3) := by decide +kernel
theorem dX1_blend_162 : decode cX1_blend 162 = .ok (.imul, 1) := by decide +kernel
theorem dX1_blend_163 : decode cX1_blend 163 = .ok (.i2l, 1) := by decide +kernel
theorem dX1_blend_164 : decode cX1_blend 164 = .ok (.lload_n 3, 1) := by decide +kernel
theorem dX1_blend_165 : decode cX1_blend 165 = .ok (.lmul, 1) := by decide +kernel
theorem dX1_blend_166 : decode cX1_blend 166 = .ok (.ladd, 1) := by decide +kernel
theorem dX1_blend_167 : decode cX1_blend 167 = .ok (.aload_n 0, 1) := by decide +kernel
theorem dX1_blend_168 : decode cX1_blend 168 = .ok (.getfield 25, 3) := by decide +kernel
theorem dX1_blend_171 : decode cX1_blend 171 = .ok (.ldc2_w 88, 3) := by decide +kernel
theorem dX1_blend_174 : decode cX1_blend 174 = .ok (.lmul, 1) := by decide +kernel
theorem dX1_blend_175 : decode cX1_blend 175 = .ok (.ldiv, 1) := by decide +kernel
theorem dX1_blend_176 : decode cX1_blend 176 = .ok (.lreturn, 1) := by decide +kernel
theorem dX1_gather_0 : decode cX1_gather 0 = .ok (.aload_n 0, 1) := by decide +kernel
theorem dX1_gather_1 : decode cX1_gather 1 = .ok (.getfield 22, 3) := by decide +kernel
theorem dX1_gather_4 : decode cX1_gather 4 = .ok (.iconst 0, 1) := by decide +kernel
theorem dX1_gather_5 : decode cX1_gather 5 = .ok (.invokestatic 42, 3) := by decide +kernel
theorem dX1_gather_8 : decode cX1_gather 8 = .ok (.aload_n 0, 1) := by decide +kernel
theorem dX1_gather_9 : decode cX1_gather 9 = .ok (.lconst 0, 1) := by decide +kernel
theorem dX1_gather_10 : decode cX1_gather 10 = .ok (.putfield 25, 3) := by decide +kernel
theorem dX1_gather_13 : decode cX1_gather 13 = .ok (.aload_n 0, 1) := by decide +kernel
theorem dX1_gather_14 : decode cX1_gather 14 = .ok (.iconst 0, 1) := by decide +kernel
theorem dX1_gather_15 : decode cX1_gather 15 = .ok (.putfield 29, 3) := by decide +kernel
theorem dX1_gather_18 : decode cX1_gather 18 = .ok (.iload_n 2, 1) := by decide +kernel
theorem dX1_gather_19 : decode cX1_gather 19 = .ok (.bipush 14, 2) := by decide +kernel
theorem dX1_gather_21 : decode cX1_gather 21 = .ok (.imul, 1) := by decide +kernel
theorem dX1_gather_22 : decode cX1_gather 22 = .ok (.istore_n 3, 1) := by decide +kernel
theorem dX1_gather_23 : decode cX1_gather 23 = .ok (.aload_n 1, 1) := by decide +kernel
theorem dX1_gather_24 : decode cX1_gather 24 = .ok (.iload_n 3, 1) := by decide +kernel
theorem dX1_gather_25 : decode cX1_gather 25 = .ok (.invokevirtual 73, 3) := by decide +kernel
theorem dX1_gather_28 : decode cX1_gather 28 = .ok (.istore 4, 2) := by decide +kernel
theorem dX1_gather_30 : decode cX1_gather 30 = .ok (.iload 4, 2) := by decide +kernel
theorem dX1_gather_32 : decode cX1_gather 32 = .ok (.aload_n 1, 1) := by decide +kernel
theorem dX1_gather_33 : decode cX1_gather 33 = .ok (.getfield 79, 3) := by decide +kernel
theorem dX1_gather_36 : decode cX1_gather 36 = .ok (.if_icmp .ge 89, 3) := by decide +kernel
theorem dX1_gather_39 : decode cX1_gather 39 = .ok (.aload_n 1, 1) := by decide +kernel
theorem dX1_gather_40 : decode cX1_gather 40 = .ok (.getfield 82, 3) := by decide +kernel
theorem dX1_gather_43 : decode cX1_gather 43 = .ok (.iload 4, 2) := by decide +kernel
theorem dX1_gather_45 : decode cX1_gather 45 = .ok (.iaload, 1) := by decide +kernel
theorem dX1_gather_46 : decode cX1_gather 46 = .ok (.iload_n 3, 1) := by decide +kernel
theorem dX1_gather_47 : decode cX1_gather 47 = .ok (.bipush 14, 2) := by decide +kernel
theorem dX1_gather_49 : decode cX1_gather 49 = .ok (.iadd, 1) := by decide +kernel
theorem dX1_gather_50 : decode cX1_gather 50 = .ok (.if_icmp .ge 75, 3) := by decide +kernel
theorem dX1_gather_53 : decode cX1_gather 53 = .ok (.aload_n 1, 1) := by decide +kernel
theorem dX1_gather_54 : decode cX1_gather 54 = .ok (.getfield 82, 3) := by decide +kernel
theorem dX1_gather_57 : decode cX1_gather 57 = .ok (.iload 4, 2) := by decide +kernel
theorem dX1_gather_59 : decode cX1_gather 59 = .ok (.iaload, 1) := by decide +kernel
theorem dX1_gather_60 : decode cX1_gather 60 = .ok (.iload_n 3, 1) := by decide +kernel
theorem dX1_gather_61 : decode cX1_gather 61 = .ok (.isub, 1) := by decide +kernel
theorem dX1_gather_62 : decode cX1_gather 62 = .ok (.iconst 1, 1) := by decide +kernel
theorem dX1_gather_63 : decode cX1_gather 63 = .ok (.isub, 1) := by decide +kernel
theorem dX1_gather_64 : decode cX1_gather 64 = .ok (.istore 5, 2) := by decide +kernel
theorem dX1_gather_66 : decode cX1_gather 66 = .ok (.iload 5, 2) := by decide +kernel
theorem dX1_gather_68 : decode cX1_gather 68 = .ok (.ifCond .lt 51, 3) := by decide +kernel
theorem dX1_gather_71 : decode cX1_gather 71 = .ok (.iload 5, 2) := by decide +kernel
theorem dX1_gather_73 : decode cX1_gather 73 = .ok (.bipush 12, 2) := by decide +kernel
theorem dX1_gather_75 : decode cX1_gather 75 = .ok (.if_icmp .gt 44, 3) := by decide +kernel
theorem dX1_gather_78 : decode cX1_gather 78 = .ok (.aload_n 0, 1) := by decide +kernel
theorem dX1_gather_79 : decode cX1_gather 79 = .ok (.getfield 22, 3) := by decide +kernel
theorem dX1_gather_82 : decode cX1_gather 82 = .ok (.iload 5, 2) := by decide +kernel
theorem dX1_gather_84 : decode cX1_gather 84 = .ok (.aload_n 1, 1) := by decide +kernel
theorem dX1_gather_85 : decode cX1_gather 85 = .ok (.getfield 85, 3) := by decide +kernel
theorem dX1_gather_88 : decode cX1_gather 88 = .ok (.iload 4, 2) := by decide +kernel
theorem dX1_gather_90 : decode cX1_gather 90 = .ok (.iaload, 1) := by decide +kernel
theorem dX1_gather_91 : decode cX1_gather 91 = .ok (.iastore, 1) := by decide +kernel
theorem dX1_gather_92 : decode cX1_gather 92 = .ok (.aload_n 0, 1) := by decide +kernel
theorem dX1_gather_93 : decode cX1_gather 93 = .ok (.dup, 1) := by decide +kernel
theorem dX1_gather_94 : decode cX1_gather 94 = .ok (.getfield 25, 3) := by decide +kernel
theorem dX1_gather_97 : decode cX1_gather 97 = .ok (.aload_n 1, 1) := by decide +kernel
theorem dX1_gather_98 : decode cX1_gather 98 = .ok (.getfield 85, 3) := by decide +kernel
theorem dX1_gather_101 : decode cX1_gather 101 = .ok (.iload 4, 2) := by decide +kernel
theorem dX1_gather_103 : decode cX1_gather 103 = .ok (.iaload, 1) := by decide +kernel
theorem dX1_gather_104 : decode cX1_gather 104 = .ok (.i2l, 1) := by decide +kernel
theorem dX1_gather_105 : decode cX1_gather 105 = .ok (.ladd, 1) := by decide +kernel
theorem dX1_gather_106 : decode cX1_gather 106 = .ok (.putfield 25, 3) := by decide +kernel
theorem dX1_gather_109 : decode cX1_gather 109 = .ok (.aload_n 0, 1) := by decide +kernel
theorem dX1_gather_110 : decode cX1_gather 110 = .ok (.dup, 1) := by decide +kernel
theorem dX1_gather_111 : decode cX1_gather 111 = .ok (.getfield 29, 3) := by decide +kernel
theorem dX1_gather_114 : decode cX1_gather 114 = .ok (.iconst 1, 1) := by decide +kernel
theorem dX1_gather_115 : decode cX1_gather 115 = .ok (.iadd, 1) := by decide +kernel
theorem dX1_gather_116 : decode cX1_gather 116 = .ok (.putfield 29, 3) := by decide +kernel
theorem dX1_gather_119 : decode cX1_gather 119 = .ok (.iinc 4 1, 3) := by decide +kernel
theorem dX1_gather_122 : decode cX1_gather 122 = .ok (.goto (-92), 3) := by decide +kernel
theorem dX1_gather_125 : decode cX1_gather 125 = .ok (.return_, 1) := by decide +kernel
theorem dX1_refine_0 : decode cX1_refine 0 = .ok (.aload_n 0, 1) := by decide +kernel
theorem dX1_refine_1 : decode cX1_refine 1 = .ok (.getfield 9, 3) := by decide +kernel
theorem dX1_refine_4 : decode cX1_refine 4 = .ok (.iconst 4, 1) := by decide +kernel
theorem dX1_refine_5 : decode cX1_refine 5 = .ok (.if_icmp .ne 18, 3) := by decide +kernel
theorem dX1_refine_8 : decode cX1_refine 8 = .ok (.iload_n 1, 1) := by decide +kernel
theorem dX1_refine_9 : decode cX1_refine 9 = .ok (.aload_n 0, 1) := by decide +kernel
theorem dX1_refine_10 : decode cX1_refine 10 = .ok (.getfield 32, 3) := by decide +kernel
theorem dX1_refine_13 : decode cX1_refine 13 = .ok (.getfield 55, 3) := by decide +kernel
theorem dX1_refine_16 : decode cX1_refine 16 = .ok (.if_icmp .ge 7, 3) := by decide +kernel
theorem dX1_refine_19 : decode cX1_refine 19 = .ok (.iconst 1, 1) := by decide +kernel
theorem dX1_refine_20 : decode cX1_refine 20 = .ok (.goto 4, 3) := by decide +kernel
theorem dX1_refine_23 : decode cX1_refine 23 = .ok (.iconst 0, 1) := by decide +kernel
theorem dX1_refine_24 : decode cX1_refine 24 = .ok (.istore_n 3, 1) := by decide +kernel
theorem dX1_refine_25 : decode cX1_refine 25 = .ok (.aload_n 0, 1) := by decide +kernel
theorem dX1_refine_26 : decode cX1_refine 26 = .ok (.iload_n 3, 1) := by decide +kernel
theorem dX1_refine_27 : decode cX1_refine 27 = .ok (.ifCond .eq 14, 3) := by decide +kernel
theorem dX1_refine_30 : decode cX1_refine 30 = .ok (.aload_n 0, 1) := by decide +kernel
theorem dX1_refine_31 : decode cX1_refine 31 = .ok (.getfield 32, 3) := by decide +kernel
theorem dX1_refine_34 : decode cX1_refine 34 = .ok (.iload_n 1, 1) := by decide +kernel
theorem dX1_refine_35 : decode cX1_refine 35 = .ok (.invokevirtual 58, 3) := by decide +kernel
theorem dX1_refine_38 : decode cX1_refine 38 = .ok (.goto 11, 3) := by decide +kernel
theorem dX1_refine_41 : decode cX1_refine 41 = .ok (.aload_n 0, 1) := by decide +kernel
theorem dX1_refine_42 : decode cX1_refine 42 = .ok (.getfield 32, 3) := by decide +kernel
theorem dX1_refine_45 : decode cX1_refine 45 = .ok (.iload_n 1, 1) := by decide +kernel
theorem dX1_refine_46 : decode cX1_refine 46 = .ok (.invokevirtual 62, 3) := by decide +kernel
theorem dX1_refine_49 : decode cX1_refine 49 = .ok (.iload_n 2, 1) := by decide +kernel
theorem dX1_refine_50 : decode cX1_refine 50 = .ok (.invokevirtual 65, 3) := by decide +kernel
theorem dX1_refine_53 : decode cX1_refine 53 = .ok (.aload_n 0, 1) := by decide +kernel
theorem dX1_refine_54 : decode cX1_refine 54 = .ok (.getfield 9, 3) := by decide +kernel
theorem dX1_refine_57 : decode cX1_refine 57 = .ok (.ifCond .eq 13, 3) := by decide +kernel
theorem dX1_refine_60 : decode cX1_refine 60 = .ok (.aload_n 0, 1) := by decide +kernel
theorem dX1_refine_61 : decode cX1_refine 61 = .ok (.getfield 25, 3) := by decide +kernel
theorem dX1_refine_64 : decode cX1_refine 64 = .ok (.lconst 0, 1) := by decide +kernel
theorem dX1_refine_65 : decode cX1_refine 65 = .ok (.lcmp, 1) := by decide +kernel
theorem dX1_refine_66 : decode cX1_refine 66 = .ok (.ifCond .gt 4, 3) := by decide +kernel
theorem dX1_refine_69 : decode cX1_refine 69 = .ok (.return_, 1) := by decide +kernel
theorem dX1_refine_70 : decode cX1_refine 70 = .ok (.iconst 0, 1) := by decide +kernel
theorem dX1_refine_71 : decode cX1_refine 71 = .ok (.istore 4, 2) := by decide +kernel
theorem dX1_refine_73 : decode cX1_refine 73 = .ok (.iload 4, 2) := by decide +kernel
theorem dX1_refine_75 : decode cX1_refine 75 = .ok (.aload_n 0, 1) := by decide +kernel
theorem dX1_refine_76 : decode cX1_refine 76 = .ok (.getfield 32, 3) := by decide +kernel
theorem dX1_refine_79 : decode cX1_refine 79 = .ok (.getfield 37, 3) := by decide +kernel
theorem dX1_refine_82 : decode cX1_refine 82 = .ok (.if_icmp .gt 37, 3) := by decide +kernel
theorem dX1_refine_85 : decode cX1_refine 85 = .ok (.aload_n 0, 1) := by decide +kernel
theorem dX1_refine_86 : decode cX1_refine 86 = .ok (.getfield 18, 3) := by decide +kernel
theorem dX1_refine_89 : decode cX1_refine 89 = .ok (.iload 4, 2) := by decide +kernel
theorem dX1_refine_91 : decode cX1_refine 91 = .ok (.aload_n 0, 1) := by decide +kernel
theorem dX1_refine_92 : decode cX1_refine 92 = .ok (.aload_n 0, 1) := by decide +kernel
theorem dX1_refine_93 : decode cX1_refine 93 = .ok (.getfield 22, 3) := by decide +kernel
theorem dX1_refine_96 : decode cX1_refine 96 = .ok (.iload 4, 2) := by decide +kernel
theorem dX1_refine_98 : decode cX1_refine 98 = .ok (.iaload, 1) := by decide +kernel
theorem dX1_refine_99 : decode cX1_refine 99 = .ok (.i2l, 1) := by decide +kernel
theorem dX1_refine_100 : decode cX1_refine 100 = .ok (.aload_n 0, 1) := by decide +kernel
theorem dX1_refine_101 : decode cX1_refine 101 = .ok (.getfield 18, 3) := by decide +kernel
theorem dX1_refine_104 : decode cX1_refine 104 = .ok (.iload 4, 2) := by decide +kernel
theorem dX1_refine_106 : decode cX1_refine 106 = .ok (.iaload, 1) := by decide +kernel
theorem dX1_refine_107 : decode cX1_refine 107 = .ok (.i2l, 1) := by decide +kernel
theorem dX1_refine_108 : decode cX1_refine 108 = .ok (.invokevirtual 69, 3) := by decide +kernel
theorem dX1_refine_111 : decode cX1_refine 111 = .ok (.l2i, 1) := by decide +kernel
theorem dX1_refine_112 : decode cX1_refine 112 = .ok (.iastore, 1) := by decide +kernel
theorem dX1_refine_113 : decode cX1_refine 113 = .ok (.iinc 4 1, 3) := by decide +kernel
theorem dX1_refine_116 : decode cX1_refine 116 = .ok (.goto (-43), 3) := by decide +kernel
theorem dX1_refine_119 : decode cX1_refine 119 = .ok (.return_, 1) := by decide +kernel
set_option maxHeartbeats 4000000 in
set_option maxRecDepth 100000 in
theorem mX1_gather (l : Launch) (D : va_G) (κ a : Nat → Nat) (ε : EE) (V m : Nat) (u : US) (hV : V ≤ 12) (hm : m ≤ 800) (i : Nat) (hi : i < 8) (t : List (Nat × Nat)) (hT : TR u i t) (hv : TV V m t) (c : Nat) (hc : c < 2744) : Ct (W0 κ a) l D κ ε yX1_gather cX1_gather 6 none 1 23 0 0 u [.ref (a 2), .ref (a (30 + 3 * i)), .int (iI (c : Int))] (fun v u' => v = none ∧ Fr [8, 9] [10] u u' ∧ (∀ w, w ≤ V → u'.2 10 w = (gt t (c * 14 + w + 1) : Int)) ∧ u'.1 8 = (rfS t c V : Int) ∧ u'.1 9 = (kd (fun w => gt t (c * 14 + w + 1)) (V + 1) : Int)) := by
  have hO := hv.O hm
  have hs := hv.1
  have hp := hv.2.1
  have hlen := hv.2.2.1
  have hbl := bw_le t (c * 14)
  refine Ct.of (own := RX1) rfl (by decide +kernel) (Nat.le_of_ble_eq_true rfl) rfl (fun Γ h => ?_)
  refine w_aload_n h (pc := 0) dX1_gather_0 rfl ?_
  refine g2_own h (pc := 1) wm_61 dX1_gather_1 ?_
  refine w_iconst h (pc := 4) dX1_gather_4 ?_
  refine w_callS2 h (pc := 5) (mJ7_fill l D κ a ε u 10 13 0 (by decide) (fun _ => rfl) (fun _ _ => rfl)) (gdS wm_288 wm_289 wm_290 wm_291) (by decide +kernel) ⟨(Nat.le_of_ble_eq_true rfl), (Nat.le_of_ble_eq_true rfl)⟩ ⟨(Nat.le_of_ble_eq_true rfl), (Nat.le_of_ble_eq_true rfl)⟩ (fun _ _ _ => ⟨rfl, rfl⟩) (Nat.le_of_ble_eq_true rfl) dX1_gather_5 (fun v1 u1 hp1 => ?_)
  obtain ⟨rfl, e1⟩ := hp1
  subst e1
  simp only [Option.toList_none, List.nil_append]
  refine w_aload_n h (pc := 8) dX1_gather_8 rfl ?_
  refine w_lconst h (pc := 9) (z := 0) dX1_gather_9 (by decide) ?_
  refine p2_sum h (pc := 10) wm_62 dX1_gather_10 ?_
  refine w_aload_n h (pc := 13) dX1_gather_13 rfl ?_
  refine w_iconst h (pc := 14) dX1_gather_14 ?_
  refine p2_kinds h (pc := 15) wm_63 dX1_gather_15 ?_
  refine w_iload_n h (pc := 18) dX1_gather_18 rfl ?_
  refine w_bipush h (pc := 19) dX1_gather_19 (by decide) ?_
  refine w_imul h (pc := 21) dX1_gather_21 ?_
  refine w_istore_n h (pc := 22) dX1_gather_22 (by decide) ?_
  have hF0 : Fr [8, 9] [10] u (uS (uS (uA u 10 (fi (u.2 10) 13 0)) 8 0) 9 0) := ((Fr.A (by simp)).tr (Fr.S (by simp))).tr (Fr.S (by simp))
  have hT0 : TR (uS (uS (uA u 10 (fi (u.2 10) 13 0)) 8 0) 9 0) i t := hT.of hi hF0 (by simp [tS]) (by simp [tG])
  refine w_aload_n h (pc := 23) dX1_gather_23 rfl ?_
  refine w_iload_n h (pc := 24) dX1_gather_24 rfl ?_
  refine w_callV1 h (pc := 25) (mX4_keysBelow l D κ a ε (uS (uS (uA u 10 (fi (u.2 10) 13 0)) 8 0) 9 0) i hi t hT0 hO (c * 14) (by omega)) _ (ws_T (by omega)) rfl (gdV wm_292 wm_193 wm_194 wm_47 wm_195) (by decide +kernel) ⟨(Nat.le_of_ble_eq_true rfl), (Nat.le_of_ble_eq_true rfl)⟩ ⟨(Nat.le_of_ble_eq_true rfl), (Nat.le_of_ble_eq_true rfl)⟩ (fun _ _ _ => ⟨rfl, rfl⟩) (Nat.le_of_ble_eq_true rfl) dX1_gather_25 (fun v2 u2 hp2 => ?_)
  obtain ⟨rfl, e2⟩ := hp2
  subst e2
  simp only [Option.toList_some, List.cons_append, List.nil_append]
  refine w_istore h (pc := 28) dX1_gather_28 (by decide) ?_
  have lp30 : ∀ (n at' : Nat) (w : US), t.length < at' + n → bw t (c * 14) ≤ at' → at' ≤ t.length → Fr [8, 9] [10] u w → (∀ j, j < 13 → w.2 10 j = (ow t (c * 14) at' j : Int)) → w.1 8 = (sm (ow t (c * 14) at') 13 : Int) → w.1 9 = (kd (ow t (c * 14) at') 13 : Int) → WW Γ 6 w 30 [(0, .ref (a 2)), (1, .ref (a (30 + 3 * i))), (2, .int (iI (c : Int))), (3, .int (iI ((c * 14 : Nat) : Int))), (4, .int (iI (at' : Int)))] [] := by
    intro n9
    induction n9 with
    | zero => intro at' w hn hge hle hF hown hS hK; exfalso; omega
    | succ n9 ih =>
      intro at' w hn hge hle hF hown hS hK
      have hTw : TR w i t := hT.of hi hF (by simp [tS]) (by simp [tG])
      refine w_iload h (pc := 30) dX1_gather_30 rfl ?_
      refine w_aload_n h (pc := 32) dX1_gather_32 rfl ?_
      refine gT_size h (pc := 33) (by omega) hTw.1 wm_285 dX1_gather_33 ?_
      refine w_icmp_ge h (pc := 36) (tgt := 125) dX1_gather_36 (by decide) (by omega) (by omega) (fun c36 => ?_) (fun c36 => ?_)
      · have hend : ∀ j (hj : j < t.length), at' ≤ j → c * 14 + 14 ≤ (t[j]).1 := by
          intro j hj hle
          first
          | (exfalso; omega)
          | (have h2 := (List.getElem?_eq_some_iff.mp hb).2
             rcases Nat.eq_or_lt_of_le hle with e | e
             · subst e; rw [h2]; omega
             · have h1 := So_lt hs e hj
               rw [h2] at h1
               omega)
        exact w_vret h (pc := 125) rfl dX1_gather_125 (Nat.le_of_ble_eq_true rfl) (Nat.le_of_ble_eq_true rfl) ⟨rfl, hF, gather_fin hv hV hend hown hS hK⟩
      · obtain ⟨b, hb⟩ := getN (t := t) (j := at') (by omega)
        have hkv := (hTw.2 _ b hb).1
        have hcv := (hTw.2 _ b hb).2
        have hbb := TO.at hO hb
        have hdg := hv.2.2.2 b (List.mem_of_getElem? hb)
        have hbw := bw_at (k := c * 14) hs hb
        refine w_aload_n h (pc := 39) dX1_gather_39 rfl ?_
        refine gT_keys h (pc := 40) (by omega) wm_286 dX1_gather_40 ?_
        refine w_iload h (pc := 43) dX1_gather_43 rfl ?_
        refine ld_keys h (pc := 45) (by omega) (by omega) hkv dX1_gather_45 ?_
        refine w_iload_n h (pc := 46) dX1_gather_46 rfl ?_
        refine w_bipush h (pc := 47) dX1_gather_47 (by decide) ?_
        refine w_iadd h (pc := 49) dX1_gather_49 ?_
        refine w_icmp_ge h (pc := 50) (tgt := 125) dX1_gather_50 (by decide) (by omega) (by omega) (fun c50 => ?_) (fun c50 => ?_)
        · have hend : ∀ j (hj : j < t.length), at' ≤ j → c * 14 + 14 ≤ (t[j]).1 := by
            intro j hj hle
            first
            | (exfalso; omega)
            | (have h2 := (List.getElem?_eq_some_iff.mp hb).2
               rcases Nat.eq_or_lt_of_le hle with e | e
               · subst e; rw [h2]; omega
               · have h1 := So_lt hs e hj
                 rw [h2] at h1
                 omega)
          exact w_vret h (pc := 125) rfl dX1_gather_125 (Nat.le_of_ble_eq_true rfl) (Nat.le_of_ble_eq_true rfl) ⟨rfl, hF, gather_fin hv hV hend hown hS hK⟩
        · refine w_aload_n h (pc := 53) dX1_gather_53 rfl ?_
          refine gT_keys h (pc := 54) (by omega) wm_286 dX1_gather_54 ?_
          refine w_iload h (pc := 57) dX1_gather_57 rfl ?_
          refine ld_keys h (pc := 59) (by omega) (by omega) hkv dX1_gather_59 ?_
          refine w_iload_n h (pc := 60) dX1_gather_60 rfl ?_
          refine w_isub h (pc := 61) dX1_gather_61 ?_
          refine w_iconst h (pc := 62) dX1_gather_62 ?_
          refine w_isub h (pc := 63) dX1_gather_63 ?_
          obtain ⟨wd, hwd⟩ : ∃ wd : Nat, b.1 = c * 14 + wd + 1 := ⟨b.1 - c * 14 - 1, by omega⟩
          have hix : ((b.1 : Int) - ((c * 14 : Nat) : Int) - 1).toNat = wd := by omega
          refine w_istore h (pc := 64) dX1_gather_64 (by decide) ?_
          refine w_iload h (pc := 66) dX1_gather_66 rfl ?_
          refine w_if_lt h (pc := 68) (tgt := 119) dX1_gather_68 (by decide) (by omega) (fun c68 => by exfalso; omega) (fun c68 => ?_)
          refine w_iload h (pc := 71) dX1_gather_71 rfl ?_
          refine w_bipush h (pc := 73) dX1_gather_73 (by decide) ?_
          refine w_icmp_gt h (pc := 75) (tgt := 119) dX1_gather_75 (by decide) (by omega) (by omega) (fun c75 => by exfalso; omega) (fun c75 => ?_)
          refine w_aload_n h (pc := 78) dX1_gather_78 rfl ?_
          refine g2_own h (pc := 79) wm_61 dX1_gather_79 ?_
          refine w_iload h (pc := 82) dX1_gather_82 rfl ?_
          refine w_aload_n h (pc := 84) dX1_gather_84 rfl ?_
          refine gT_counts h (pc := 85) (by omega) wm_287 dX1_gather_85 ?_
          refine w_iload h (pc := 88) dX1_gather_88 rfl ?_
          refine ld_counts h (pc := 90) (by omega) (by omega) hcv dX1_gather_90 ?_
          refine st_own h (pc := 91) (by omega) dX1_gather_91 ?_
          refine w_aload_n h (pc := 92) dX1_gather_92 rfl ?_
          refine w_dup h (pc := 93) dX1_gather_93 rfl ?_
          refine g2_sum h (pc := 94) hS wm_62 dX1_gather_94 ?_
          refine w_aload_n h (pc := 97) dX1_gather_97 rfl ?_
          refine gT_counts h (pc := 98) (by omega) wm_287 dX1_gather_98 ?_
          refine w_iload h (pc := 101) dX1_gather_101 rfl ?_
          refine ld_counts h (pc := 103) (by omega) (by omega) ((congrFun (uA_ne _ _ (by omega)) _).trans hcv) dX1_gather_103 ?_
          refine w_i2l h (pc := 104) dX1_gather_104 (by omega) ?_
          refine w_ladd h (pc := 105) dX1_gather_105 ?_
          refine p2_sum h (pc := 106) wm_62 dX1_gather_106 ?_
          refine w_aload_n h (pc := 109) dX1_gather_109 rfl ?_
          refine w_dup h (pc := 110) dX1_gather_110 rfl ?_
          refine g2_kinds h (pc := 111) hK wm_63 dX1_gather_111 ?_
          refine w_iconst h (pc := 114) dX1_gather_114 ?_
          refine w_iadd h (pc := 115) dX1_gather_115 ?_
          refine p2_kinds h (pc := 116) wm_63 dX1_gather_116 ?_
          have hw1 := ow_s hs hb hwd
          have hw2 := ow_sum (n := 13) hs hp hb hwd (by omega)
          refine w_iinc h (pc := 119) dX1_gather_119 rfl (by decide) ?_
          refine w_goto h (pc := 122) (tgt := 30) dX1_gather_122 (by decide) ?_
          refine WW.sub (by rfl) (ih (at' + 1) _ (by omega) (by omega) (by omega) (((hF.tr (Fr.A (by simp))).tr (Fr.S (by simp))).tr (Fr.S (by simp))) (fun j hj => ?_) ?_ ?_)
          · rw [uS_2, uS_2, uA_at, hix, hw1.1 j]
            unfold upI
            split
            · rfl
            · exact hown j hj
          · rw [hw2.1]; rfl
          · rw [hw2.2]; rfl
  refine WW.sub (by rfl) (lp30 (t.length + 1) (bw t (c * 14)) _ (by omega) (by omega) (by omega) hF0 (fun j hj => ?_) ?_ ?_)
  · rw [uS_2, uS_2, uA_at, ow_0]
    exact if_pos hj
  · rw [sm_cg (g := fun _ => 0) (fun i _ => ow_0 i), sm_const]; rfl
  · unfold kd
    rw [sm_cg (g := fun _ => 0) (fun i _ => by rw [ow_0]; rfl), sm_const]; rfl

set_option maxHeartbeats 4000000 in
set_option maxRecDepth 100000 in
theorem mX1_blend (l : Launch) (D : va_G) (κ a : Nat → Nat) (ε : EE) (V way num c S K p : Nat) (u : US) (hV : V ≤ 12) (hway : way ≤ 4) (hnum : 1 ≤ num ∧ num ≤ 1000) (hcS : c ≤ S) (hSm : S ≤ 1000000) (hKm : K ≤ 13) (hpm : p ≤ 1000000) (hS0 : way = 0 ∨ 0 < S) (eV : u.1 4 = (V : Int)) (ew : u.1 6 = (way : Int)) (en : u.1 7 = (num : Int)) (eS : u.1 8 = (S : Int)) (eK : u.1 9 = (K : Int)) : Ct (W0 κ a) l D κ ε yX1_blend cX1_blend 7 (some .long) 1 23 0 0 u [.ref (a 2), .long (lI (c : Int)), .long (lI (p : Int))] (fun v u' => v = some (.long (lI (bl 1000000 way num (V + 1) c S K p : Int))) ∧ u' = u) := by
  refine Ct.of (own := RX1) rfl (by decide +kernel) (Nat.le_of_ble_eq_true rfl) rfl (fun Γ h => ?_)
  refine w_aload_n h (pc := 0) dX1_blend_0 rfl ?_
  refine g2_way h (pc := 1) ew wm_58 dX1_blend_1 ?_
  rcases (by omega : way = 0 ∨ way = 1 ∨ way = 2 ∨ 3 ≤ way) with hw | hw | hw | hw
  · subst hw
    refine w_tabIn h (pc := 4) (tgt := 32) (off := 28) dX1_blend_4 (by omega) (by decide) (by decide) rfl (by decide) ?_
    refine w_lload_n h (pc := 32) dX1_blend_32 rfl ?_
    refine w_ldc2 h (pc := 33) (z := 1000) dX1_blend_33 wm_320 (by decide) ?_
    refine w_lmul h (pc := 36) dX1_blend_36 ?_
    refine w_aload_n h (pc := 37) dX1_blend_37 rfl ?_
    refine g2_number h (pc := 38) en wm_59 dX1_blend_38 ?_
    refine w_i2l h (pc := 41) dX1_blend_41 (by omega) ?_
    refine w_ladd h (pc := 42) dX1_blend_42 ?_
    refine w_ldc2 h (pc := 43) (z := 1000000) dX1_blend_43 wm_321 (by decide) ?_
    refine w_lmul h (pc := 46) dX1_blend_46 ?_
    refine w_aload_n h (pc := 47) dX1_blend_47 rfl ?_
    refine g2_sum h (pc := 48) eS wm_62 dX1_blend_48 ?_
    refine w_ldc2 h (pc := 51) (z := 1000) dX1_blend_51 wm_320 (by decide) ?_
    refine w_lmul h (pc := 54) dX1_blend_54 ?_
    refine w_aload_n h (pc := 55) dX1_blend_55 rfl ?_
    refine g2_number h (pc := 56) en wm_59 dX1_blend_56 ?_
    refine w_aload_n h (pc := 59) dX1_blend_59 rfl ?_
    refine g2_ledger h (pc := 60) wm_64 dX1_blend_60 ?_
    refine g1_words h (pc := 63) eV wm_307 dX1_blend_63 ?_
    refine w_iconst h (pc := 66) dX1_blend_66 ?_
    refine w_iadd h (pc := 67) dX1_blend_67 ?_
    refine w_imul h (pc := 68) dX1_blend_68 ?_
    obtain ⟨g, hg⟩ : ∃ g : Nat, g = num * (V + 1) := ⟨_, rfl⟩
    have hg1 : 1 ≤ g := by rw [hg]; exact Nat.mul_pos (by omega) (by omega)
    have hg2 : g ≤ 1000 * 13 := by rw [hg]; exact Nat.mul_le_mul (by omega) (by omega)
    rw [show ((num : Int) * ((V : Int) + 1)) = (g : Int) by rw [hg]; rfl]
    refine w_i2l h (pc := 69) dX1_blend_69 (by omega) ?_
    refine w_ladd h (pc := 70) dX1_blend_70 ?_
    refine w_ldiv h (pc := 71) dX1_blend_71 (by omega) (by omega) ?_
    have hres : bl 1000000 0 num (V + 1) c S K p = (c * 1000 + num) * 1000000 / (S * 1000 + g) := by unfold bl; rw [if_pos rfl, hg]
    exact w_lret h (pc := 72) rfl dX1_blend_72 (Nat.le_of_ble_eq_true rfl) (Nat.le_of_ble_eq_true rfl) ⟨by rw [hres]; rfl, rfl⟩
  · subst hw
    refine w_tabIn h (pc := 4) (tgt := 73) (off := 69) dX1_blend_4 (by omega) (by decide) (by decide) rfl (by decide) ?_
    refine w_aload_n h (pc := 73) dX1_blend_73 rfl ?_
    refine g2_number h (pc := 74) en wm_59 dX1_blend_74 ?_
    refine w_i2l h (pc := 77) dX1_blend_77 (by omega) ?_
    refine w_lload_n h (pc := 78) dX1_blend_78 rfl ?_
    refine w_ldc2 h (pc := 79) (z := 1000000) dX1_blend_79 wm_321 (by decide) ?_
    refine w_lmul h (pc := 82) dX1_blend_82 ?_
    refine w_aload_n h (pc := 83) dX1_blend_83 rfl ?_
    refine g2_sum h (pc := 84) eS wm_62 dX1_blend_84 ?_
    refine w_ldiv h (pc := 87) dX1_blend_87 (by omega) (by omega) ?_
    refine w_lmul h (pc := 88) dX1_blend_88 ?_
    refine w_sipush h (pc := 89) dX1_blend_89 (by decide) ?_
    refine w_aload_n h (pc := 92) dX1_blend_92 rfl ?_
    refine g2_number h (pc := 93) en wm_59 dX1_blend_93 ?_
    refine w_isub h (pc := 96) dX1_blend_96 ?_
    rw [show ((1000 : Int) - (num : Int)) = ((1000 - num : Nat) : Int) by omega]
    refine w_i2l h (pc := 97) dX1_blend_97 (by omega) ?_
    refine w_lload_n h (pc := 98) dX1_blend_98 rfl ?_
    refine w_lmul h (pc := 99) dX1_blend_99 ?_
    refine w_ladd h (pc := 100) dX1_blend_100 ?_
    obtain ⟨e1, he1⟩ : ∃ e1 : Nat, e1 = c * 1000000 / S := ⟨_, rfl⟩
    have hle1 : e1 ≤ 1000000 := by rw [he1]; exact Nat.div_le_of_le_mul (by rw [Nat.mul_comm c]; exact Nat.mul_comm 1000000 S ▸ Nat.mul_le_mul_left 1000000 hcS)
    obtain ⟨g1, hg1⟩ : ∃ g1 : Nat, g1 = num * e1 := ⟨_, rfl⟩
    obtain ⟨g2, hg2⟩ : ∃ g2 : Nat, g2 = (1000 - num) * p := ⟨_, rfl⟩
    have hb1 : g1 ≤ 1000 * 1000000 := by rw [hg1]; exact Nat.mul_le_mul (by omega) (by omega)
    have hb2 : g2 ≤ 1000 * 1000000 := by rw [hg2]; exact Nat.mul_le_mul (by omega) (by omega)
    rw [show ((num : Int) * ((c : Int) * 1000000 / (S : Int)) + ((1000 - num : Nat) : Int) * (p : Int)) = ((g1 + g2 : Nat) : Int) by rw [hg1, hg2, he1]; rfl]
    refine w_ldc2 h (pc := 101) (z := 1000) dX1_blend_101 wm_320 (by decide) ?_
    refine w_ldiv h (pc := 104) dX1_blend_104 (by omega) (by omega) ?_
    have hres : bl 1000000 1 num (V + 1) c S K p = (g1 + g2) / 1000 := by unfold bl; rw [if_neg (by decide), if_pos rfl, hg1, hg2, he1]
    exact w_lret h (pc := 105) rfl dX1_blend_105 (Nat.le_of_ble_eq_true rfl) (Nat.le_of_ble_eq_true rfl) ⟨by rw [hres]; rfl, rfl⟩
  · subst hw
    refine w_tabIn h (pc := 4) (tgt := 106) (off := 102) dX1_blend_4 (by omega) (by decide) (by decide) rfl (by decide) ?_
    refine w_lload_n h (pc := 106) dX1_blend_106 rfl ?_
    refine w_ldc2 h (pc := 107) (z := 1000000) dX1_blend_107 wm_321 (by decide) ?_
    refine w_lmul h (pc := 110) dX1_blend_110 ?_
    refine w_aload_n h (pc := 111) dX1_blend_111 rfl ?_
    refine g2_kinds h (pc := 112) eK wm_63 dX1_blend_112 ?_
    refine w_i2l h (pc := 115) dX1_blend_115 (by omega) ?_
    refine w_lload_n h (pc := 116) dX1_blend_116 rfl ?_
    refine w_lmul h (pc := 117) dX1_blend_117 ?_
    refine w_ladd h (pc := 118) dX1_blend_118 ?_
    obtain ⟨g, hg⟩ : ∃ g : Nat, g = K * p := ⟨_, rfl⟩
    have hg2 : g ≤ 13 * 1000000 := by rw [hg]; exact Nat.mul_le_mul (by omega) (by omega)
    rw [show ((K : Int) * (p : Int)) = (g : Int) by rw [hg]; rfl]
    refine w_aload_n h (pc := 119) dX1_blend_119 rfl ?_
    refine g2_sum h (pc := 120) eS wm_62 dX1_blend_120 ?_
    refine w_aload_n h (pc := 123) dX1_blend_123 rfl ?_
    refine g2_kinds h (pc := 124) eK wm_63 dX1_blend_124 ?_
    refine w_i2l h (pc := 127) dX1_blend_127 (by omega) ?_
    refine w_ladd h (pc := 128) dX1_blend_128 ?_
    refine w_ldiv h (pc := 129) dX1_blend_129 (by omega) (by omega) ?_
    have hres : bl 1000000 2 num (V + 1) c S K p = (c * 1000000 + g) / (S + K) := by unfold bl; rw [if_neg (by decide), if_neg (by decide), if_pos rfl, hg]
    exact w_lret h (pc := 130) rfl dX1_blend_130 (Nat.le_of_ble_eq_true rfl) (Nat.le_of_ble_eq_true rfl) ⟨by rw [hres]; rfl, rfl⟩
  · skip
    refine w_tabOut h (pc := 4) (tgt := 131) dX1_blend_4 (by omega) (by omega) (by decide) ?_
    refine w_lconst h (pc := 131) (z := 0) dX1_blend_131 (by decide) ?_
    refine w_lload_n h (pc := 132) dX1_blend_132 rfl ?_
    refine w_ldc2 h (pc := 133) (z := 1000) dX1_blend_133 wm_320 (by decide) ?_
    refine w_lmul h (pc := 136) dX1_blend_136 ?_
    refine w_aload_n h (pc := 137) dX1_blend_137 rfl ?_
    refine g2_number h (pc := 138) en wm_59 dX1_blend_138 ?_
    refine w_i2l h (pc := 141) dX1_blend_141 (by omega) ?_
    refine w_lsub h (pc := 142) dX1_blend_142 ?_
    refine w_lmax h (pc := 143) wm_322 wm_323 wm_125 wm_324 (Nat.le_of_ble_eq_true rfl) (Nat.le_of_ble_eq_true rfl) (Nat.le_of_ble_eq_true rfl) (Nat.le_of_ble_eq_true rfl) (by omega) (by omega) (z := ((c * 1000 - num : Nat) : Int)) (by split <;> omega) dX1_blend_143 ?_
    refine w_lstore h (pc := 146) dX1_blend_146 (by decide) ?_
    refine w_lload h (pc := 148) dX1_blend_148 rfl ?_
    refine w_ldc2 h (pc := 150) (z := 1000000) dX1_blend_150 wm_321 (by decide) ?_
    refine w_lmul h (pc := 153) dX1_blend_153 ?_
    refine w_aload_n h (pc := 154) dX1_blend_154 rfl ?_
    refine g2_number h (pc := 155) en wm_59 dX1_blend_155 ?_
    refine w_aload_n h (pc := 158) dX1_blend_158 rfl ?_
    refine g2_kinds h (pc := 159) eK wm_63 dX1_blend_159 ?_
    refine w_imul h (pc := 162) dX1_blend_162 ?_
    obtain ⟨g, hg⟩ : ∃ g : Nat, g = num * K := ⟨_, rfl⟩
    have hg2 : g ≤ 1000 * 13 := by rw [hg]; exact Nat.mul_le_mul (by omega) (by omega)
    rw [show ((num : Int) * (K : Int)) = (g : Int) by rw [hg]; rfl]
    refine w_i2l h (pc := 163) dX1_blend_163 (by omega) ?_
    refine w_lload_n h (pc := 164) dX1_blend_164 rfl ?_
    refine w_lmul h (pc := 165) dX1_blend_165 ?_
    obtain ⟨f, hf⟩ : ∃ f : Nat, f = g * p := ⟨_, rfl⟩
    have hf2 : f ≤ (1000 * 13) * 1000000 := by rw [hf]; exact Nat.mul_le_mul hg2 (by omega)
    rw [show ((g : Int) * (p : Int)) = (f : Int) by rw [hf]; rfl]
    refine w_ladd h (pc := 166) dX1_blend_166 ?_
    refine w_aload_n h (pc := 167) dX1_blend_167 rfl ?_
    refine g2_sum h (pc := 168) eS wm_62 dX1_blend_168 ?_
    refine w_ldc2 h (pc := 171) (z := 1000) dX1_blend_171 wm_320 (by decide) ?_
    refine w_lmul h (pc := 174) dX1_blend_174 ?_
    refine w_ldiv h (pc := 175) dX1_blend_175 (by omega) (by omega) ?_
    have hres : bl 1000000 way num (V + 1) c S K p = ((c * 1000 - num) * 1000000 + f) / (S * 1000) := by unfold bl; rw [if_neg (by omega), if_neg (by omega), if_neg (by omega), hf, hg]
    exact w_lret h (pc := 176) rfl dX1_blend_176 (Nat.le_of_ble_eq_true rfl) (Nat.le_of_ble_eq_true rfl) ⟨by rw [hres]; rfl, rfl⟩

set_option maxHeartbeats 4000000 in
set_option maxRecDepth 100000 in
theorem mX1_refine (l : Launch) (D : va_G) (κ a : Nat → Nat) (ε : EE) (V m N way num : Nat) (u : US) (T : Nat → List (Nat × Nat)) (hV : V ≤ 12) (hm : m ≤ 800) (hN : 1 ≤ N ∧ N ≤ 4) (hway : way ≤ 4) (hnum : 1 ≤ num ∧ num ≤ 1000) (hT : TA V m u T) (eV : u.1 4 = (V : Int)) (eN : u.1 5 = (N : Int)) (ew : u.1 6 = (way : Int)) (en : u.1 7 = (num : Int)) (n : Nat) (hn : 1 ≤ n ∧ n ≤ N) (c : Nat) (hc : c < 2744) (p : Nat → Nat) (hp : ∀ w, w ≤ V → u.2 9 w = (p w : Int) ∧ p w ≤ 1000000) : Ct (W0 κ a) l D κ ε yX1_refine cX1_refine 5 none 2 49 0 0 u [.ref (a 2), .int (iI (n : Int)), .int (iI (c : Int))] (fun v u' => v = none ∧ Fr [8, 9] [9, 10] u u' ∧ ∀ w, w ≤ V → u'.2 9 w = (rf way num V (tl way N (fun n => T (n - 1)) (fun n => T (n + 3)) n) c p w : Int)) := by
  refine Ct.of (own := RX1) rfl (by decide +kernel) (Nat.le_of_ble_eq_true rfl) rfl (fun Γ h => ?_)
  refine w_aload_n h (pc := 0) dX1_refine_0 rfl ?_
  refine g2_way h (pc := 1) ew wm_58 dX1_refine_1 ?_
  refine w_iconst h (pc := 4) dX1_refine_4 ?_
  refine w_icmp_ne h (pc := 5) (tgt := 23) dX1_refine_5 (by decide) (by omega) (by omega) (fun c5 => ?_) (fun c5 => ?_)
  · refine w_iconst h (pc := 23) dX1_refine_23 ?_
    refine w_istore_n h (pc := 24) dX1_refine_24 (by decide) ?_
    refine w_aload_n h (pc := 25) dX1_refine_25 rfl ?_
    refine w_iload_n h (pc := 26) dX1_refine_26 rfl ?_
    refine w_if_eq h (pc := 27) (tgt := 41) dX1_refine_27 (by decide) (by omega) (fun c27 => ?_) (fun c27 => by exfalso; omega)
    refine w_aload_n h (pc := 41) dX1_refine_41 rfl ?_
    refine g2_ledger h (pc := 42) wm_64 dX1_refine_42 ?_
    refine w_iload_n h (pc := 45) dX1_refine_45 rfl ?_
    refine w_callV1 h (pc := 46) (mX0_countsOf l D κ a ε u n (by omega)) 1 rfl rfl (gdV wm_314 wm_120 wm_121 wm_15 wm_122) (by decide +kernel) ⟨(Nat.le_of_ble_eq_true rfl), (Nat.le_of_ble_eq_true rfl)⟩ ⟨(Nat.le_of_ble_eq_true rfl), (Nat.le_of_ble_eq_true rfl)⟩ (fun _ _ _ => ⟨rfl, rfl⟩) (Nat.le_of_ble_eq_true rfl) dX1_refine_46 (fun v1 u1 hp1 => ?_)
    obtain ⟨rfl, e1⟩ := hp1
    obtain rfl := e1.symm
    simp only [Option.toList_some, List.cons_append, List.nil_append]
    first
    | (obtain ⟨i, hi, hTi, hix⟩ : ∃ i, i < 8 ∧ T i = (tl way N (fun n => T (n - 1)) (fun n => T (n + 3)) n) ∧ n - 1 = i := ⟨n - 1, by omega, by unfold tl; rw [if_neg (by omega)], rfl⟩
       rw [hix])
    | skip
    refine w_iload_n h (pc := 49) dX1_refine_49 rfl ?_
    refine w_callV2 h (pc := 50) (mX1_gather l D κ a ε V m u hV hm _ hi (T i) (hT i hi).1 (hT i hi).2 c hc) 2 rfl rfl (gdV wm_315 wm_282 wm_283 wm_19 wm_284) (by decide +kernel) ⟨(Nat.le_of_ble_eq_true rfl), (Nat.le_of_ble_eq_true rfl)⟩ ⟨(Nat.le_of_ble_eq_true rfl), (Nat.le_of_ble_eq_true rfl)⟩ (fun _ _ _ => ⟨rfl, rfl⟩) (Nat.le_of_ble_eq_true rfl) dX1_refine_50 (fun v2 u2 hp2 => ?_)
    obtain ⟨rfl, hF, hown, hS, hK⟩ := hp2
    rw [hTi] at hown hS hK
    have eV2 : u2.1 4 = (V : Int) := (hF.1 4 (by simp)).trans eV
    have ew2 : u2.1 6 = (way : Int) := (hF.1 6 (by simp)).trans ew
    have en2 : u2.1 7 = (num : Int) := (hF.1 7 (by simp)).trans en
    have hSb : rfS (tl way N (fun n => T (n - 1)) (fun n => T (n + 3)) n) c V ≤ 13 * (4 * m) := by rw [← hTi]; exact rfS_le (hT i hi).2 hV
    have hKb := kd_n (c := fun w => gt (tl way N (fun n => T (n - 1)) (fun n => T (n + 3)) n) (c * 14 + w + 1)) (V + 1)
    have hp2 : ∀ w, w ≤ V → u2.2 9 w = (p w : Int) := fun w hw => by rw [hF.2 9 (by simp)]; exact (hp w hw).1
    simp only [Option.toList_none, List.nil_append]
    refine w_aload_n h (pc := 53) dX1_refine_53 rfl ?_
    refine g2_way h (pc := 54) ew2 wm_58 dX1_refine_54 ?_
    refine w_if_eq h (pc := 57) (tgt := 70) dX1_refine_57 (by decide) (by omega) (fun c57 => ?_) (fun c57 => ?_)
    · have hnz : ¬ (way ≠ 0 ∧ rfS (tl way N (fun n => T (n - 1)) (fun n => T (n + 3)) n) c V = 0) := by omega
      have hS0 : way = 0 ∨ 0 < rfS (tl way N (fun n => T (n - 1)) (fun n => T (n + 3)) n) c V := by omega
      refine w_iconst h (pc := 70) dX1_refine_70 ?_
      refine w_istore h (pc := 71) dX1_refine_71 (by decide) ?_
      have lp73 : ∀ (n9 j : Nat) (w : US), V + 1 < j + n9 → j ≤ V + 1 → Fr [8, 9] [9, 10] u w → (∀ x, x ≤ V → w.2 10 x = (gt (tl way N (fun n => T (n - 1)) (fun n => T (n + 3)) n) (c * 14 + x + 1) : Int)) → w.1 8 = (rfS (tl way N (fun n => T (n - 1)) (fun n => T (n + 3)) n) c V : Int) → w.1 9 = (kd (fun w => gt (tl way N (fun n => T (n - 1)) (fun n => T (n + 3)) n) (c * 14 + w + 1)) (V + 1) : Int) → (∀ x, x ≤ V → w.2 9 x = if x < j then (rf way num V (tl way N (fun n => T (n - 1)) (fun n => T (n + 3)) n) c p x : Int) else (p x : Int)) → WW Γ 5 w 73 [(0, .ref (a 2)), (4, .int (iI (j : Int)))] [] := by
        intro n9
        induction n9 with
        | zero => intro j w hn9 hj hFw hownw hS3 hK3 hch; exfalso; omega
        | succ n9 ih =>
          intro j w hn9 hj hFw hownw hS3 hK3 hch
          have eV3 : w.1 4 = (V : Int) := (hFw.1 4 (by simp)).trans eV
          have ew3 : w.1 6 = (way : Int) := (hFw.1 6 (by simp)).trans ew
          have en3 : w.1 7 = (num : Int) := (hFw.1 7 (by simp)).trans en
          refine w_iload h (pc := 73) dX1_refine_73 rfl ?_
          refine w_aload_n h (pc := 75) dX1_refine_75 rfl ?_
          refine g2_ledger h (pc := 76) wm_64 dX1_refine_76 ?_
          refine g1_words h (pc := 79) eV3 wm_307 dX1_refine_79 ?_
          refine w_icmp_gt h (pc := 82) (tgt := 119) dX1_refine_82 (by decide) (by omega) (by omega) (fun c82 => ?_) (fun c82 => ?_)
          · exact w_vret h (pc := 119) rfl dX1_refine_119 (Nat.le_of_ble_eq_true rfl) (Nat.le_of_ble_eq_true rfl) ⟨rfl, hFw, fun w9 hw9 => (hch w9 hw9).trans (if_pos (by omega))⟩
          · have hgr := gt_rfS (t := (tl way N (fun n => T (n - 1)) (fun n => T (n + 3)) n)) (c := c) (w := j) (V := V) (by omega)
            have hpj := (hp j (by omega)).2
            refine w_aload_n h (pc := 85) dX1_refine_85 rfl ?_
            refine g2_chances h (pc := 86) wm_60 dX1_refine_86 ?_
            refine w_iload h (pc := 89) dX1_refine_89 rfl ?_
            refine w_aload_n h (pc := 91) dX1_refine_91 rfl ?_
            refine w_aload_n h (pc := 92) dX1_refine_92 rfl ?_
            refine g2_own h (pc := 93) wm_61 dX1_refine_93 ?_
            refine w_iload h (pc := 96) dX1_refine_96 rfl ?_
            refine ld_own h (pc := 98) (by omega) (hownw j (by omega)) dX1_refine_98 ?_
            refine w_i2l h (pc := 99) dX1_refine_99 (by omega) ?_
            refine w_aload_n h (pc := 100) dX1_refine_100 rfl ?_
            refine g2_chances h (pc := 101) wm_60 dX1_refine_101 ?_
            refine w_iload h (pc := 104) dX1_refine_104 rfl ?_
            refine ld_chances h (pc := 106) (by omega) ((hch j (by omega)).trans (if_neg (by omega))) dX1_refine_106 ?_
            refine w_i2l h (pc := 107) dX1_refine_107 (by omega) ?_
            refine w_callV2 h (pc := 108) (mX1_blend l D κ a ε V way num (gt (tl way N (fun n => T (n - 1)) (fun n => T (n + 3)) n) (c * 14 + j + 1)) (rfS (tl way N (fun n => T (n - 1)) (fun n => T (n + 3)) n) c V) (kd (fun w => gt (tl way N (fun n => T (n - 1)) (fun n => T (n + 3)) n) (c * 14 + w + 1)) (V + 1)) (p j) w hV hway hnum (gt_rfS (by omega)) (by omega) (by omega) (hp j (by omega)).2 hS0 eV3 ew3 en3 hS3 hK3) 2 rfl rfl (gdV wm_316 wm_317 wm_318 wm_19 wm_319) (by decide +kernel) ⟨(Nat.le_of_ble_eq_true rfl), (Nat.le_of_ble_eq_true rfl)⟩ ⟨(Nat.le_of_ble_eq_true rfl), (Nat.le_of_ble_eq_true rfl)⟩ (fun _ _ _ => ⟨rfl, rfl⟩) (Nat.le_of_ble_eq_true rfl) dX1_refine_108 (fun v3 u3 hp3 => ?_)
            obtain ⟨rfl, e3⟩ := hp3
            obtain rfl := e3.symm
            simp only [Option.toList_some, List.cons_append, List.nil_append]
            refine w_l2i h (pc := 111) dX1_refine_111 ?_
            refine st_chances h (pc := 112) (by omega) dX1_refine_112 ?_
            refine w_iinc h (pc := 113) dX1_refine_113 rfl (by decide) ?_
            refine w_goto h (pc := 116) (tgt := 73) dX1_refine_116 (by decide) ?_
            refine WW.sub (by rfl) (ih (j + 1) _ (by omega) (by omega) (hFw.tr (Fr.A (by simp))) (fun x hx => ?_) hS3 hK3 (fun x hx => ?_))
            · rw [uA_ne _ _ (by decide)]; exact hownw x hx
            · rw [uA_at]
              unfold upI
              by_cases e : x = j
              · subst e
                rw [if_pos (by omega), if_pos (by omega)]
                unfold rf
                rw [if_neg hnz, if_pos hx]
              · rw [if_neg (by omega), hch x hx]
                by_cases e2 : x < j
                · rw [if_pos e2, if_pos (by omega)]
                · rw [if_neg e2, if_neg (by omega)]
      exact WW.sub (by rfl) (lp73 (V + 2) 0 _ (by omega) (by omega) (hF.mono (by simp) (by simp)) hown hS hK (fun x hx => by rw [if_neg (by omega)]; exact hp2 x hx))
    · refine w_aload_n h (pc := 60) dX1_refine_60 rfl ?_
      refine g2_sum h (pc := 61) hS wm_62 dX1_refine_61 ?_
      refine w_lconst h (pc := 64) (z := 0) dX1_refine_64 (by decide) ?_
      refine w_lcmp h (pc := 65) dX1_refine_65 ?_
      refine w_lif_gt h (pc := 66) (tgt := 70) dX1_refine_66 (by decide) (by omega) (by omega) (fun c66 => ?_) (fun c66 => ?_)
      · have hnz : ¬ (way ≠ 0 ∧ rfS (tl way N (fun n => T (n - 1)) (fun n => T (n + 3)) n) c V = 0) := by omega
        have hS0 : way = 0 ∨ 0 < rfS (tl way N (fun n => T (n - 1)) (fun n => T (n + 3)) n) c V := by omega
        refine w_iconst h (pc := 70) dX1_refine_70 ?_
        refine w_istore h (pc := 71) dX1_refine_71 (by decide) ?_
        have lp73 : ∀ (n9 j : Nat) (w : US), V + 1 < j + n9 → j ≤ V + 1 → Fr [8, 9] [9, 10] u w → (∀ x, x ≤ V → w.2 10 x = (gt (tl way N (fun n => T (n - 1)) (fun n => T (n + 3)) n) (c * 14 + x + 1) : Int)) → w.1 8 = (rfS (tl way N (fun n => T (n - 1)) (fun n => T (n + 3)) n) c V : Int) → w.1 9 = (kd (fun w => gt (tl way N (fun n => T (n - 1)) (fun n => T (n + 3)) n) (c * 14 + w + 1)) (V + 1) : Int) → (∀ x, x ≤ V → w.2 9 x = if x < j then (rf way num V (tl way N (fun n => T (n - 1)) (fun n => T (n + 3)) n) c p x : Int) else (p x : Int)) → WW Γ 5 w 73 [(0, .ref (a 2)), (4, .int (iI (j : Int)))] [] := by
          intro n9
          induction n9 with
          | zero => intro j w hn9 hj hFw hownw hS3 hK3 hch; exfalso; omega
          | succ n9 ih =>
            intro j w hn9 hj hFw hownw hS3 hK3 hch
            have eV3 : w.1 4 = (V : Int) := (hFw.1 4 (by simp)).trans eV
            have ew3 : w.1 6 = (way : Int) := (hFw.1 6 (by simp)).trans ew
            have en3 : w.1 7 = (num : Int) := (hFw.1 7 (by simp)).trans en
            refine w_iload h (pc := 73) dX1_refine_73 rfl ?_
            refine w_aload_n h (pc := 75) dX1_refine_75 rfl ?_
            refine g2_ledger h (pc := 76) wm_64 dX1_refine_76 ?_
            refine g1_words h (pc := 79) eV3 wm_307 dX1_refine_79 ?_
            refine w_icmp_gt h (pc := 82) (tgt := 119) dX1_refine_82 (by decide) (by omega) (by omega) (fun c82 => ?_) (fun c82 => ?_)
            · exact w_vret h (pc := 119) rfl dX1_refine_119 (Nat.le_of_ble_eq_true rfl) (Nat.le_of_ble_eq_true rfl) ⟨rfl, hFw, fun w9 hw9 => (hch w9 hw9).trans (if_pos (by omega))⟩
            · have hgr := gt_rfS (t := (tl way N (fun n => T (n - 1)) (fun n => T (n + 3)) n)) (c := c) (w := j) (V := V) (by omega)
              have hpj := (hp j (by omega)).2
              refine w_aload_n h (pc := 85) dX1_refine_85 rfl ?_
              refine g2_chances h (pc := 86) wm_60 dX1_refine_86 ?_
              refine w_iload h (pc := 89) dX1_refine_89 rfl ?_
              refine w_aload_n h (pc := 91) dX1_refine_91 rfl ?_
              refine w_aload_n h (pc := 92) dX1_refine_92 rfl ?_
              refine g2_own h (pc := 93) wm_61 dX1_refine_93 ?_
              refine w_iload h (pc := 96) dX1_refine_96 rfl ?_
              refine ld_own h (pc := 98) (by omega) (hownw j (by omega)) dX1_refine_98 ?_
              refine w_i2l h (pc := 99) dX1_refine_99 (by omega) ?_
              refine w_aload_n h (pc := 100) dX1_refine_100 rfl ?_
              refine g2_chances h (pc := 101) wm_60 dX1_refine_101 ?_
              refine w_iload h (pc := 104) dX1_refine_104 rfl ?_
              refine ld_chances h (pc := 106) (by omega) ((hch j (by omega)).trans (if_neg (by omega))) dX1_refine_106 ?_
              refine w_i2l h (pc := 107) dX1_refine_107 (by omega) ?_
              refine w_callV2 h (pc := 108) (mX1_blend l D κ a ε V way num (gt (tl way N (fun n => T (n - 1)) (fun n => T (n + 3)) n) (c * 14 + j + 1)) (rfS (tl way N (fun n => T (n - 1)) (fun n => T (n + 3)) n) c V) (kd (fun w => gt (tl way N (fun n => T (n - 1)) (fun n => T (n + 3)) n) (c * 14 + w + 1)) (V + 1)) (p j) w hV hway hnum (gt_rfS (by omega)) (by omega) (by omega) (hp j (by omega)).2 hS0 eV3 ew3 en3 hS3 hK3) 2 rfl rfl (gdV wm_316 wm_317 wm_318 wm_19 wm_319) (by decide +kernel) ⟨(Nat.le_of_ble_eq_true rfl), (Nat.le_of_ble_eq_true rfl)⟩ ⟨(Nat.le_of_ble_eq_true rfl), (Nat.le_of_ble_eq_true rfl)⟩ (fun _ _ _ => ⟨rfl, rfl⟩) (Nat.le_of_ble_eq_true rfl) dX1_refine_108 (fun v3 u3 hp3 => ?_)
              obtain ⟨rfl, e3⟩ := hp3
              obtain rfl := e3.symm
              simp only [Option.toList_some, List.cons_append, List.nil_append]
              refine w_l2i h (pc := 111) dX1_refine_111 ?_
              refine st_chances h (pc := 112) (by omega) dX1_refine_112 ?_
              refine w_iinc h (pc := 113) dX1_refine_113 rfl (by decide) ?_
              refine w_goto h (pc := 116) (tgt := 73) dX1_refine_116 (by decide) ?_
              refine WW.sub (by rfl) (ih (j + 1) _ (by omega) (by omega) (hFw.tr (Fr.A (by simp))) (fun x hx => ?_) hS3 hK3 (fun x hx => ?_))
              · rw [uA_ne _ _ (by decide)]; exact hownw x hx
              · rw [uA_at]
                unfold upI
                by_cases e : x = j
                · subst e
                  rw [if_pos (by omega), if_pos (by omega)]
                  unfold rf
                  rw [if_neg hnz, if_pos hx]
                · rw [if_neg (by omega), hch x hx]
                  by_cases e2 : x < j
                  · rw [if_pos e2, if_pos (by omega)]
                  · rw [if_neg e2, if_neg (by omega)]
        exact WW.sub (by rfl) (lp73 (V + 2) 0 _ (by omega) (by omega) (hF.mono (by simp) (by simp)) hown hS hK (fun x hx => by rw [if_neg (by omega)]; exact hp2 x hx))
      · exact w_vret h (pc := 69) rfl dX1_refine_69 (Nat.le_of_ble_eq_true rfl) (Nat.le_of_ble_eq_true rfl) ⟨rfl, hF.mono (by simp) (by simp), fun w hw => by rw [hp2 w hw]; unfold rf; rw [if_pos ⟨by omega, by omega⟩]⟩
  · refine w_iload_n h (pc := 8) dX1_refine_8 rfl ?_
    refine w_aload_n h (pc := 9) dX1_refine_9 rfl ?_
    refine g2_ledger h (pc := 10) wm_64 dX1_refine_10 ?_
    refine g1_order h (pc := 13) eN wm_312 dX1_refine_13 ?_
    refine w_icmp_ge h (pc := 16) (tgt := 23) dX1_refine_16 (by decide) (by omega) (by omega) (fun c16 => ?_) (fun c16 => ?_)
    · refine w_iconst h (pc := 23) dX1_refine_23 ?_
      refine w_istore_n h (pc := 24) dX1_refine_24 (by decide) ?_
      refine w_aload_n h (pc := 25) dX1_refine_25 rfl ?_
      refine w_iload_n h (pc := 26) dX1_refine_26 rfl ?_
      refine w_if_eq h (pc := 27) (tgt := 41) dX1_refine_27 (by decide) (by omega) (fun c27 => ?_) (fun c27 => by exfalso; omega)
      refine w_aload_n h (pc := 41) dX1_refine_41 rfl ?_
      refine g2_ledger h (pc := 42) wm_64 dX1_refine_42 ?_
      refine w_iload_n h (pc := 45) dX1_refine_45 rfl ?_
      refine w_callV1 h (pc := 46) (mX0_countsOf l D κ a ε u n (by omega)) 1 rfl rfl (gdV wm_314 wm_120 wm_121 wm_15 wm_122) (by decide +kernel) ⟨(Nat.le_of_ble_eq_true rfl), (Nat.le_of_ble_eq_true rfl)⟩ ⟨(Nat.le_of_ble_eq_true rfl), (Nat.le_of_ble_eq_true rfl)⟩ (fun _ _ _ => ⟨rfl, rfl⟩) (Nat.le_of_ble_eq_true rfl) dX1_refine_46 (fun v1 u1 hp1 => ?_)
      obtain ⟨rfl, e1⟩ := hp1
      obtain rfl := e1.symm
      simp only [Option.toList_some, List.cons_append, List.nil_append]
      first
      | (obtain ⟨i, hi, hTi, hix⟩ : ∃ i, i < 8 ∧ T i = (tl way N (fun n => T (n - 1)) (fun n => T (n + 3)) n) ∧ n - 1 = i := ⟨n - 1, by omega, by unfold tl; rw [if_neg (by omega)], rfl⟩
         rw [hix])
      | skip
      refine w_iload_n h (pc := 49) dX1_refine_49 rfl ?_
      refine w_callV2 h (pc := 50) (mX1_gather l D κ a ε V m u hV hm _ hi (T i) (hT i hi).1 (hT i hi).2 c hc) 2 rfl rfl (gdV wm_315 wm_282 wm_283 wm_19 wm_284) (by decide +kernel) ⟨(Nat.le_of_ble_eq_true rfl), (Nat.le_of_ble_eq_true rfl)⟩ ⟨(Nat.le_of_ble_eq_true rfl), (Nat.le_of_ble_eq_true rfl)⟩ (fun _ _ _ => ⟨rfl, rfl⟩) (Nat.le_of_ble_eq_true rfl) dX1_refine_50 (fun v2 u2 hp2 => ?_)
      obtain ⟨rfl, hF, hown, hS, hK⟩ := hp2
      rw [hTi] at hown hS hK
      have eV2 : u2.1 4 = (V : Int) := (hF.1 4 (by simp)).trans eV
      have ew2 : u2.1 6 = (way : Int) := (hF.1 6 (by simp)).trans ew
      have en2 : u2.1 7 = (num : Int) := (hF.1 7 (by simp)).trans en
      have hSb : rfS (tl way N (fun n => T (n - 1)) (fun n => T (n + 3)) n) c V ≤ 13 * (4 * m) := by rw [← hTi]; exact rfS_le (hT i hi).2 hV
      have hKb := kd_n (c := fun w => gt (tl way N (fun n => T (n - 1)) (fun n => T (n + 3)) n) (c * 14 + w + 1)) (V + 1)
      have hp2 : ∀ w, w ≤ V → u2.2 9 w = (p w : Int) := fun w hw => by rw [hF.2 9 (by simp)]; exact (hp w hw).1
      simp only [Option.toList_none, List.nil_append]
      refine w_aload_n h (pc := 53) dX1_refine_53 rfl ?_
      refine g2_way h (pc := 54) ew2 wm_58 dX1_refine_54 ?_
      refine w_if_eq h (pc := 57) (tgt := 70) dX1_refine_57 (by decide) (by omega) (fun c57 => ?_) (fun c57 => ?_)
      · have hnz : ¬ (way ≠ 0 ∧ rfS (tl way N (fun n => T (n - 1)) (fun n => T (n + 3)) n) c V = 0) := by omega
        have hS0 : way = 0 ∨ 0 < rfS (tl way N (fun n => T (n - 1)) (fun n => T (n + 3)) n) c V := by omega
        refine w_iconst h (pc := 70) dX1_refine_70 ?_
        refine w_istore h (pc := 71) dX1_refine_71 (by decide) ?_
        have lp73 : ∀ (n9 j : Nat) (w : US), V + 1 < j + n9 → j ≤ V + 1 → Fr [8, 9] [9, 10] u w → (∀ x, x ≤ V → w.2 10 x = (gt (tl way N (fun n => T (n - 1)) (fun n => T (n + 3)) n) (c * 14 + x + 1) : Int)) → w.1 8 = (rfS (tl way N (fun n => T (n - 1)) (fun n => T (n + 3)) n) c V : Int) → w.1 9 = (kd (fun w => gt (tl way N (fun n => T (n - 1)) (fun n => T (n + 3)) n) (c * 14 + w + 1)) (V + 1) : Int) → (∀ x, x ≤ V → w.2 9 x = if x < j then (rf way num V (tl way N (fun n => T (n - 1)) (fun n => T (n + 3)) n) c p x : Int) else (p x : Int)) → WW Γ 5 w 73 [(0, .ref (a 2)), (4, .int (iI (j : Int)))] [] := by
          intro n9
          induction n9 with
          | zero => intro j w hn9 hj hFw hownw hS3 hK3 hch; exfalso; omega
          | succ n9 ih =>
            intro j w hn9 hj hFw hownw hS3 hK3 hch
            have eV3 : w.1 4 = (V : Int) := (hFw.1 4 (by simp)).trans eV
            have ew3 : w.1 6 = (way : Int) := (hFw.1 6 (by simp)).trans ew
            have en3 : w.1 7 = (num : Int) := (hFw.1 7 (by simp)).trans en
            refine w_iload h (pc := 73) dX1_refine_73 rfl ?_
            refine w_aload_n h (pc := 75) dX1_refine_75 rfl ?_
            refine g2_ledger h (pc := 76) wm_64 dX1_refine_76 ?_
            refine g1_words h (pc := 79) eV3 wm_307 dX1_refine_79 ?_
            refine w_icmp_gt h (pc := 82) (tgt := 119) dX1_refine_82 (by decide) (by omega) (by omega) (fun c82 => ?_) (fun c82 => ?_)
            · exact w_vret h (pc := 119) rfl dX1_refine_119 (Nat.le_of_ble_eq_true rfl) (Nat.le_of_ble_eq_true rfl) ⟨rfl, hFw, fun w9 hw9 => (hch w9 hw9).trans (if_pos (by omega))⟩
            · have hgr := gt_rfS (t := (tl way N (fun n => T (n - 1)) (fun n => T (n + 3)) n)) (c := c) (w := j) (V := V) (by omega)
              have hpj := (hp j (by omega)).2
              refine w_aload_n h (pc := 85) dX1_refine_85 rfl ?_
              refine g2_chances h (pc := 86) wm_60 dX1_refine_86 ?_
              refine w_iload h (pc := 89) dX1_refine_89 rfl ?_
              refine w_aload_n h (pc := 91) dX1_refine_91 rfl ?_
              refine w_aload_n h (pc := 92) dX1_refine_92 rfl ?_
              refine g2_own h (pc := 93) wm_61 dX1_refine_93 ?_
              refine w_iload h (pc := 96) dX1_refine_96 rfl ?_
              refine ld_own h (pc := 98) (by omega) (hownw j (by omega)) dX1_refine_98 ?_
              refine w_i2l h (pc := 99) dX1_refine_99 (by omega) ?_
              refine w_aload_n h (pc := 100) dX1_refine_100 rfl ?_
              refine g2_chances h (pc := 101) wm_60 dX1_refine_101 ?_
              refine w_iload h (pc := 104) dX1_refine_104 rfl ?_
              refine ld_chances h (pc := 106) (by omega) ((hch j (by omega)).trans (if_neg (by omega))) dX1_refine_106 ?_
              refine w_i2l h (pc := 107) dX1_refine_107 (by omega) ?_
              refine w_callV2 h (pc := 108) (mX1_blend l D κ a ε V way num (gt (tl way N (fun n => T (n - 1)) (fun n => T (n + 3)) n) (c * 14 + j + 1)) (rfS (tl way N (fun n => T (n - 1)) (fun n => T (n + 3)) n) c V) (kd (fun w => gt (tl way N (fun n => T (n - 1)) (fun n => T (n + 3)) n) (c * 14 + w + 1)) (V + 1)) (p j) w hV hway hnum (gt_rfS (by omega)) (by omega) (by omega) (hp j (by omega)).2 hS0 eV3 ew3 en3 hS3 hK3) 2 rfl rfl (gdV wm_316 wm_317 wm_318 wm_19 wm_319) (by decide +kernel) ⟨(Nat.le_of_ble_eq_true rfl), (Nat.le_of_ble_eq_true rfl)⟩ ⟨(Nat.le_of_ble_eq_true rfl), (Nat.le_of_ble_eq_true rfl)⟩ (fun _ _ _ => ⟨rfl, rfl⟩) (Nat.le_of_ble_eq_true rfl) dX1_refine_108 (fun v3 u3 hp3 => ?_)
              obtain ⟨rfl, e3⟩ := hp3
              obtain rfl := e3.symm
              simp only [Option.toList_some, List.cons_append, List.nil_append]
              refine w_l2i h (pc := 111) dX1_refine_111 ?_
              refine st_chances h (pc := 112) (by omega) dX1_refine_112 ?_
              refine w_iinc h (pc := 113) dX1_refine_113 rfl (by decide) ?_
              refine w_goto h (pc := 116) (tgt := 73) dX1_refine_116 (by decide) ?_
              refine WW.sub (by rfl) (ih (j + 1) _ (by omega) (by omega) (hFw.tr (Fr.A (by simp))) (fun x hx => ?_) hS3 hK3 (fun x hx => ?_))
              · rw [uA_ne _ _ (by decide)]; exact hownw x hx
              · rw [uA_at]
                unfold upI
                by_cases e : x = j
                · subst e
                  rw [if_pos (by omega), if_pos (by omega)]
                  unfold rf
                  rw [if_neg hnz, if_pos hx]
                · rw [if_neg (by omega), hch x hx]
                  by_cases e2 : x < j
                  · rw [if_pos e2, if_pos (by omega)]
                  · rw [if_neg e2, if_neg (by omega)]
        exact WW.sub (by rfl) (lp73 (V + 2) 0 _ (by omega) (by omega) (hF.mono (by simp) (by simp)) hown hS hK (fun x hx => by rw [if_neg (by omega)]; exact hp2 x hx))
      · refine w_aload_n h (pc := 60) dX1_refine_60 rfl ?_
        refine g2_sum h (pc := 61) hS wm_62 dX1_refine_61 ?_
        refine w_lconst h (pc := 64) (z := 0) dX1_refine_64 (by decide) ?_
        refine w_lcmp h (pc := 65) dX1_refine_65 ?_
        refine w_lif_gt h (pc := 66) (tgt := 70) dX1_refine_66 (by decide) (by omega) (by omega) (fun c66 => ?_) (fun c66 => ?_)
        · have hnz : ¬ (way ≠ 0 ∧ rfS (tl way N (fun n => T (n - 1)) (fun n => T (n + 3)) n) c V = 0) := by omega
          have hS0 : way = 0 ∨ 0 < rfS (tl way N (fun n => T (n - 1)) (fun n => T (n + 3)) n) c V := by omega
          refine w_iconst h (pc := 70) dX1_refine_70 ?_
          refine w_istore h (pc := 71) dX1_refine_71 (by decide) ?_
          have lp73 : ∀ (n9 j : Nat) (w : US), V + 1 < j + n9 → j ≤ V + 1 → Fr [8, 9] [9, 10] u w → (∀ x, x ≤ V → w.2 10 x = (gt (tl way N (fun n => T (n - 1)) (fun n => T (n + 3)) n) (c * 14 + x + 1) : Int)) → w.1 8 = (rfS (tl way N (fun n => T (n - 1)) (fun n => T (n + 3)) n) c V : Int) → w.1 9 = (kd (fun w => gt (tl way N (fun n => T (n - 1)) (fun n => T (n + 3)) n) (c * 14 + w + 1)) (V + 1) : Int) → (∀ x, x ≤ V → w.2 9 x = if x < j then (rf way num V (tl way N (fun n => T (n - 1)) (fun n => T (n + 3)) n) c p x : Int) else (p x : Int)) → WW Γ 5 w 73 [(0, .ref (a 2)), (4, .int (iI (j : Int)))] [] := by
            intro n9
            induction n9 with
            | zero => intro j w hn9 hj hFw hownw hS3 hK3 hch; exfalso; omega
            | succ n9 ih =>
              intro j w hn9 hj hFw hownw hS3 hK3 hch
              have eV3 : w.1 4 = (V : Int) := (hFw.1 4 (by simp)).trans eV
              have ew3 : w.1 6 = (way : Int) := (hFw.1 6 (by simp)).trans ew
              have en3 : w.1 7 = (num : Int) := (hFw.1 7 (by simp)).trans en
              refine w_iload h (pc := 73) dX1_refine_73 rfl ?_
              refine w_aload_n h (pc := 75) dX1_refine_75 rfl ?_
              refine g2_ledger h (pc := 76) wm_64 dX1_refine_76 ?_
              refine g1_words h (pc := 79) eV3 wm_307 dX1_refine_79 ?_
              refine w_icmp_gt h (pc := 82) (tgt := 119) dX1_refine_82 (by decide) (by omega) (by omega) (fun c82 => ?_) (fun c82 => ?_)
              · exact w_vret h (pc := 119) rfl dX1_refine_119 (Nat.le_of_ble_eq_true rfl) (Nat.le_of_ble_eq_true rfl) ⟨rfl, hFw, fun w9 hw9 => (hch w9 hw9).trans (if_pos (by omega))⟩
              · have hgr := gt_rfS (t := (tl way N (fun n => T (n - 1)) (fun n => T (n + 3)) n)) (c := c) (w := j) (V := V) (by omega)
                have hpj := (hp j (by omega)).2
                refine w_aload_n h (pc := 85) dX1_refine_85 rfl ?_
                refine g2_chances h (pc := 86) wm_60 dX1_refine_86 ?_
                refine w_iload h (pc := 89) dX1_refine_89 rfl ?_
                refine w_aload_n h (pc := 91) dX1_refine_91 rfl ?_
                refine w_aload_n h (pc := 92) dX1_refine_92 rfl ?_
                refine g2_own h (pc := 93) wm_61 dX1_refine_93 ?_
                refine w_iload h (pc := 96) dX1_refine_96 rfl ?_
                refine ld_own h (pc := 98) (by omega) (hownw j (by omega)) dX1_refine_98 ?_
                refine w_i2l h (pc := 99) dX1_refine_99 (by omega) ?_
                refine w_aload_n h (pc := 100) dX1_refine_100 rfl ?_
                refine g2_chances h (pc := 101) wm_60 dX1_refine_101 ?_
                refine w_iload h (pc := 104) dX1_refine_104 rfl ?_
                refine ld_chances h (pc := 106) (by omega) ((hch j (by omega)).trans (if_neg (by omega))) dX1_refine_106 ?_
                refine w_i2l h (pc := 107) dX1_refine_107 (by omega) ?_
                refine w_callV2 h (pc := 108) (mX1_blend l D κ a ε V way num (gt (tl way N (fun n => T (n - 1)) (fun n => T (n + 3)) n) (c * 14 + j + 1)) (rfS (tl way N (fun n => T (n - 1)) (fun n => T (n + 3)) n) c V) (kd (fun w => gt (tl way N (fun n => T (n - 1)) (fun n => T (n + 3)) n) (c * 14 + w + 1)) (V + 1)) (p j) w hV hway hnum (gt_rfS (by omega)) (by omega) (by omega) (hp j (by omega)).2 hS0 eV3 ew3 en3 hS3 hK3) 2 rfl rfl (gdV wm_316 wm_317 wm_318 wm_19 wm_319) (by decide +kernel) ⟨(Nat.le_of_ble_eq_true rfl), (Nat.le_of_ble_eq_true rfl)⟩ ⟨(Nat.le_of_ble_eq_true rfl), (Nat.le_of_ble_eq_true rfl)⟩ (fun _ _ _ => ⟨rfl, rfl⟩) (Nat.le_of_ble_eq_true rfl) dX1_refine_108 (fun v3 u3 hp3 => ?_)
                obtain ⟨rfl, e3⟩ := hp3
                obtain rfl := e3.symm
                simp only [Option.toList_some, List.cons_append, List.nil_append]
                refine w_l2i h (pc := 111) dX1_refine_111 ?_
                refine st_chances h (pc := 112) (by omega) dX1_refine_112 ?_
                refine w_iinc h (pc := 113) dX1_refine_113 rfl (by decide) ?_
                refine w_goto h (pc := 116) (tgt := 73) dX1_refine_116 (by decide) ?_
                refine WW.sub (by rfl) (ih (j + 1) _ (by omega) (by omega) (hFw.tr (Fr.A (by simp))) (fun x hx => ?_) hS3 hK3 (fun x hx => ?_))
                · rw [uA_ne _ _ (by decide)]; exact hownw x hx
                · rw [uA_at]
                  unfold upI
                  by_cases e : x = j
                  · subst e
                    rw [if_pos (by omega), if_pos (by omega)]
                    unfold rf
                    rw [if_neg hnz, if_pos hx]
                  · rw [if_neg (by omega), hch x hx]
                    by_cases e2 : x < j
                    · rw [if_pos e2, if_pos (by omega)]
                    · rw [if_neg e2, if_neg (by omega)]
          exact WW.sub (by rfl) (lp73 (V + 2) 0 _ (by omega) (by omega) (hF.mono (by simp) (by simp)) hown hS hK (fun x hx => by rw [if_neg (by omega)]; exact hp2 x hx))
        · exact w_vret h (pc := 69) rfl dX1_refine_69 (Nat.le_of_ble_eq_true rfl) (Nat.le_of_ble_eq_true rfl) ⟨rfl, hF.mono (by simp) (by simp), fun w hw => by rw [hp2 w hw]; unfold rf; rw [if_pos ⟨by omega, by omega⟩]⟩
    · refine w_iconst h (pc := 19) dX1_refine_19 ?_
      refine w_goto h (pc := 20) (tgt := 24) dX1_refine_20 (by decide) ?_
      refine w_istore_n h (pc := 24) dX1_refine_24 (by decide) ?_
      refine w_aload_n h (pc := 25) dX1_refine_25 rfl ?_
      refine w_iload_n h (pc := 26) dX1_refine_26 rfl ?_
      refine w_if_eq h (pc := 27) (tgt := 41) dX1_refine_27 (by decide) (by omega) (fun c27 => by exfalso; omega) (fun c27 => ?_)
      refine w_aload_n h (pc := 30) dX1_refine_30 rfl ?_
      refine g2_ledger h (pc := 31) wm_64 dX1_refine_31 ?_
      refine w_iload_n h (pc := 34) dX1_refine_34 rfl ?_
      refine w_callV1 h (pc := 35) (mX0_varietyOf l D κ a ε u n (by omega)) 1 rfl rfl (gdV wm_313 wm_131 wm_132 wm_15 wm_133) (by decide +kernel) ⟨(Nat.le_of_ble_eq_true rfl), (Nat.le_of_ble_eq_true rfl)⟩ ⟨(Nat.le_of_ble_eq_true rfl), (Nat.le_of_ble_eq_true rfl)⟩ (fun _ _ _ => ⟨rfl, rfl⟩) (Nat.le_of_ble_eq_true rfl) dX1_refine_35 (fun v1 u1 hp1 => ?_)
      obtain ⟨rfl, e1⟩ := hp1
      obtain rfl := e1.symm
      simp only [Option.toList_some, List.cons_append, List.nil_append]
      obtain ⟨i, hi, hTi, hix⟩ : ∃ i, i < 8 ∧ T i = (tl way N (fun n => T (n - 1)) (fun n => T (n + 3)) n) ∧ n + 3 = i := ⟨n + 3, by omega, by unfold tl; rw [if_pos (by omega)], rfl⟩
      rw [hix]
      refine w_goto h (pc := 38) (tgt := 49) dX1_refine_38 (by decide) ?_
      first
      | (obtain ⟨i, hi, hTi, hix⟩ : ∃ i, i < 8 ∧ T i = (tl way N (fun n => T (n - 1)) (fun n => T (n + 3)) n) ∧ n - 1 = i := ⟨n - 1, by omega, by unfold tl; rw [if_neg (by omega)], rfl⟩
         rw [hix])
      | skip
      refine w_iload_n h (pc := 49) dX1_refine_49 rfl ?_
      refine w_callV2 h (pc := 50) (mX1_gather l D κ a ε V m u hV hm _ hi (T i) (hT i hi).1 (hT i hi).2 c hc) 2 rfl rfl (gdV wm_315 wm_282 wm_283 wm_19 wm_284) (by decide +kernel) ⟨(Nat.le_of_ble_eq_true rfl), (Nat.le_of_ble_eq_true rfl)⟩ ⟨(Nat.le_of_ble_eq_true rfl), (Nat.le_of_ble_eq_true rfl)⟩ (fun _ _ _ => ⟨rfl, rfl⟩) (Nat.le_of_ble_eq_true rfl) dX1_refine_50 (fun v2 u2 hp2 => ?_)
      obtain ⟨rfl, hF, hown, hS, hK⟩ := hp2
      rw [hTi] at hown hS hK
      have eV2 : u2.1 4 = (V : Int) := (hF.1 4 (by simp)).trans eV
      have ew2 : u2.1 6 = (way : Int) := (hF.1 6 (by simp)).trans ew
      have en2 : u2.1 7 = (num : Int) := (hF.1 7 (by simp)).trans en
      have hSb : rfS (tl way N (fun n => T (n - 1)) (fun n => T (n + 3)) n) c V ≤ 13 * (4 * m) := by rw [← hTi]; exact rfS_le (hT i hi).2 hV
      have hKb := kd_n (c := fun w => gt (tl way N (fun n => T (n - 1)) (fun n => T (n + 3)) n) (c * 14 + w + 1)) (V + 1)
      have hp2 : ∀ w, w ≤ V → u2.2 9 w = (p w : Int) := fun w hw => by rw [hF.2 9 (by simp)]; exact (hp w hw).1
      simp only [Option.toList_none, List.nil_append]
      refine w_aload_n h (pc := 53) dX1_refine_53 rfl ?_
      refine g2_way h (pc := 54) ew2 wm_58 dX1_refine_54 ?_
      refine w_if_eq h (pc := 57) (tgt := 70) dX1_refine_57 (by decide) (by omega) (fun c57 => ?_) (fun c57 => ?_)
      · have hnz : ¬ (way ≠ 0 ∧ rfS (tl way N (fun n => T (n - 1)) (fun n => T (n + 3)) n) c V = 0) := by omega
        have hS0 : way = 0 ∨ 0 < rfS (tl way N (fun n => T (n - 1)) (fun n => T (n + 3)) n) c V := by omega
        refine w_iconst h (pc := 70) dX1_refine_70 ?_
        refine w_istore h (pc := 71) dX1_refine_71 (by decide) ?_
        have lp73 : ∀ (n9 j : Nat) (w : US), V + 1 < j + n9 → j ≤ V + 1 → Fr [8, 9] [9, 10] u w → (∀ x, x ≤ V → w.2 10 x = (gt (tl way N (fun n => T (n - 1)) (fun n => T (n + 3)) n) (c * 14 + x + 1) : Int)) → w.1 8 = (rfS (tl way N (fun n => T (n - 1)) (fun n => T (n + 3)) n) c V : Int) → w.1 9 = (kd (fun w => gt (tl way N (fun n => T (n - 1)) (fun n => T (n + 3)) n) (c * 14 + w + 1)) (V + 1) : Int) → (∀ x, x ≤ V → w.2 9 x = if x < j then (rf way num V (tl way N (fun n => T (n - 1)) (fun n => T (n + 3)) n) c p x : Int) else (p x : Int)) → WW Γ 5 w 73 [(0, .ref (a 2)), (4, .int (iI (j : Int)))] [] := by
          intro n9
          induction n9 with
          | zero => intro j w hn9 hj hFw hownw hS3 hK3 hch; exfalso; omega
          | succ n9 ih =>
            intro j w hn9 hj hFw hownw hS3 hK3 hch
            have eV3 : w.1 4 = (V : Int) := (hFw.1 4 (by simp)).trans eV
            have ew3 : w.1 6 = (way : Int) := (hFw.1 6 (by simp)).trans ew
            have en3 : w.1 7 = (num : Int) := (hFw.1 7 (by simp)).trans en
            refine w_iload h (pc := 73) dX1_refine_73 rfl ?_
            refine w_aload_n h (pc := 75) dX1_refine_75 rfl ?_
            refine g2_ledger h (pc := 76) wm_64 dX1_refine_76 ?_
            refine g1_words h (pc := 79) eV3 wm_307 dX1_refine_79 ?_
            refine w_icmp_gt h (pc := 82) (tgt := 119) dX1_refine_82 (by decide) (by omega) (by omega) (fun c82 => ?_) (fun c82 => ?_)
            · exact w_vret h (pc := 119) rfl dX1_refine_119 (Nat.le_of_ble_eq_true rfl) (Nat.le_of_ble_eq_true rfl) ⟨rfl, hFw, fun w9 hw9 => (hch w9 hw9).trans (if_pos (by omega))⟩
            · have hgr := gt_rfS (t := (tl way N (fun n => T (n - 1)) (fun n => T (n + 3)) n)) (c := c) (w := j) (V := V) (by omega)
              have hpj := (hp j (by omega)).2
              refine w_aload_n h (pc := 85) dX1_refine_85 rfl ?_
              refine g2_chances h (pc := 86) wm_60 dX1_refine_86 ?_
              refine w_iload h (pc := 89) dX1_refine_89 rfl ?_
              refine w_aload_n h (pc := 91) dX1_refine_91 rfl ?_
              refine w_aload_n h (pc := 92) dX1_refine_92 rfl ?_
              refine g2_own h (pc := 93) wm_61 dX1_refine_93 ?_
              refine w_iload h (pc := 96) dX1_refine_96 rfl ?_
              refine ld_own h (pc := 98) (by omega) (hownw j (by omega)) dX1_refine_98 ?_
              refine w_i2l h (pc := 99) dX1_refine_99 (by omega) ?_
              refine w_aload_n h (pc := 100) dX1_refine_100 rfl ?_
              refine g2_chances h (pc := 101) wm_60 dX1_refine_101 ?_
              refine w_iload h (pc := 104) dX1_refine_104 rfl ?_
              refine ld_chances h (pc := 106) (by omega) ((hch j (by omega)).trans (if_neg (by omega))) dX1_refine_106 ?_
              refine w_i2l h (pc := 107) dX1_refine_107 (by omega) ?_
              refine w_callV2 h (pc := 108) (mX1_blend l D κ a ε V way num (gt (tl way N (fun n => T (n - 1)) (fun n => T (n + 3)) n) (c * 14 + j + 1)) (rfS (tl way N (fun n => T (n - 1)) (fun n => T (n + 3)) n) c V) (kd (fun w => gt (tl way N (fun n => T (n - 1)) (fun n => T (n + 3)) n) (c * 14 + w + 1)) (V + 1)) (p j) w hV hway hnum (gt_rfS (by omega)) (by omega) (by omega) (hp j (by omega)).2 hS0 eV3 ew3 en3 hS3 hK3) 2 rfl rfl (gdV wm_316 wm_317 wm_318 wm_19 wm_319) (by decide +kernel) ⟨(Nat.le_of_ble_eq_true rfl), (Nat.le_of_ble_eq_true rfl)⟩ ⟨(Nat.le_of_ble_eq_true rfl), (Nat.le_of_ble_eq_true rfl)⟩ (fun _ _ _ => ⟨rfl, rfl⟩) (Nat.le_of_ble_eq_true rfl) dX1_refine_108 (fun v3 u3 hp3 => ?_)
              obtain ⟨rfl, e3⟩ := hp3
              obtain rfl := e3.symm
              simp only [Option.toList_some, List.cons_append, List.nil_append]
              refine w_l2i h (pc := 111) dX1_refine_111 ?_
              refine st_chances h (pc := 112) (by omega) dX1_refine_112 ?_
              refine w_iinc h (pc := 113) dX1_refine_113 rfl (by decide) ?_
              refine w_goto h (pc := 116) (tgt := 73) dX1_refine_116 (by decide) ?_
              refine WW.sub (by rfl) (ih (j + 1) _ (by omega) (by omega) (hFw.tr (Fr.A (by simp))) (fun x hx => ?_) hS3 hK3 (fun x hx => ?_))
              · rw [uA_ne _ _ (by decide)]; exact hownw x hx
              · rw [uA_at]
                unfold upI
                by_cases e : x = j
                · subst e
                  rw [if_pos (by omega), if_pos (by omega)]
                  unfold rf
                  rw [if_neg hnz, if_pos hx]
                · rw [if_neg (by omega), hch x hx]
                  by_cases e2 : x < j
                  · rw [if_pos e2, if_pos (by omega)]
                  · rw [if_neg e2, if_neg (by omega)]
        exact WW.sub (by rfl) (lp73 (V + 2) 0 _ (by omega) (by omega) (hF.mono (by simp) (by simp)) hown hS hK (fun x hx => by rw [if_neg (by omega)]; exact hp2 x hx))
      · refine w_aload_n h (pc := 60) dX1_refine_60 rfl ?_
        refine g2_sum h (pc := 61) hS wm_62 dX1_refine_61 ?_
        refine w_lconst h (pc := 64) (z := 0) dX1_refine_64 (by decide) ?_
        refine w_lcmp h (pc := 65) dX1_refine_65 ?_
        refine w_lif_gt h (pc := 66) (tgt := 70) dX1_refine_66 (by decide) (by omega) (by omega) (fun c66 => ?_) (fun c66 => ?_)
        · have hnz : ¬ (way ≠ 0 ∧ rfS (tl way N (fun n => T (n - 1)) (fun n => T (n + 3)) n) c V = 0) := by omega
          have hS0 : way = 0 ∨ 0 < rfS (tl way N (fun n => T (n - 1)) (fun n => T (n + 3)) n) c V := by omega
          refine w_iconst h (pc := 70) dX1_refine_70 ?_
          refine w_istore h (pc := 71) dX1_refine_71 (by decide) ?_
          have lp73 : ∀ (n9 j : Nat) (w : US), V + 1 < j + n9 → j ≤ V + 1 → Fr [8, 9] [9, 10] u w → (∀ x, x ≤ V → w.2 10 x = (gt (tl way N (fun n => T (n - 1)) (fun n => T (n + 3)) n) (c * 14 + x + 1) : Int)) → w.1 8 = (rfS (tl way N (fun n => T (n - 1)) (fun n => T (n + 3)) n) c V : Int) → w.1 9 = (kd (fun w => gt (tl way N (fun n => T (n - 1)) (fun n => T (n + 3)) n) (c * 14 + w + 1)) (V + 1) : Int) → (∀ x, x ≤ V → w.2 9 x = if x < j then (rf way num V (tl way N (fun n => T (n - 1)) (fun n => T (n + 3)) n) c p x : Int) else (p x : Int)) → WW Γ 5 w 73 [(0, .ref (a 2)), (4, .int (iI (j : Int)))] [] := by
            intro n9
            induction n9 with
            | zero => intro j w hn9 hj hFw hownw hS3 hK3 hch; exfalso; omega
            | succ n9 ih =>
              intro j w hn9 hj hFw hownw hS3 hK3 hch
              have eV3 : w.1 4 = (V : Int) := (hFw.1 4 (by simp)).trans eV
              have ew3 : w.1 6 = (way : Int) := (hFw.1 6 (by simp)).trans ew
              have en3 : w.1 7 = (num : Int) := (hFw.1 7 (by simp)).trans en
              refine w_iload h (pc := 73) dX1_refine_73 rfl ?_
              refine w_aload_n h (pc := 75) dX1_refine_75 rfl ?_
              refine g2_ledger h (pc := 76) wm_64 dX1_refine_76 ?_
              refine g1_words h (pc := 79) eV3 wm_307 dX1_refine_79 ?_
              refine w_icmp_gt h (pc := 82) (tgt := 119) dX1_refine_82 (by decide) (by omega) (by omega) (fun c82 => ?_) (fun c82 => ?_)
              · exact w_vret h (pc := 119) rfl dX1_refine_119 (Nat.le_of_ble_eq_true rfl) (Nat.le_of_ble_eq_true rfl) ⟨rfl, hFw, fun w9 hw9 => (hch w9 hw9).trans (if_pos (by omega))⟩
              · have hgr := gt_rfS (t := (tl way N (fun n => T (n - 1)) (fun n => T (n + 3)) n)) (c := c) (w := j) (V := V) (by omega)
                have hpj := (hp j (by omega)).2
                refine w_aload_n h (pc := 85) dX1_refine_85 rfl ?_
                refine g2_chances h (pc := 86) wm_60 dX1_refine_86 ?_
                refine w_iload h (pc := 89) dX1_refine_89 rfl ?_
                refine w_aload_n h (pc := 91) dX1_refine_91 rfl ?_
                refine w_aload_n h (pc := 92) dX1_refine_92 rfl ?_
                refine g2_own h (pc := 93) wm_61 dX1_refine_93 ?_
                refine w_iload h (pc := 96) dX1_refine_96 rfl ?_
                refine ld_own h (pc := 98) (by omega) (hownw j (by omega)) dX1_refine_98 ?_
                refine w_i2l h (pc := 99) dX1_refine_99 (by omega) ?_
                refine w_aload_n h (pc := 100) dX1_refine_100 rfl ?_
                refine g2_chances h (pc := 101) wm_60 dX1_refine_101 ?_
                refine w_iload h (pc := 104) dX1_refine_104 rfl ?_
                refine ld_chances h (pc := 106) (by omega) ((hch j (by omega)).trans (if_neg (by omega))) dX1_refine_106 ?_
                refine w_i2l h (pc := 107) dX1_refine_107 (by omega) ?_
                refine w_callV2 h (pc := 108) (mX1_blend l D κ a ε V way num (gt (tl way N (fun n => T (n - 1)) (fun n => T (n + 3)) n) (c * 14 + j + 1)) (rfS (tl way N (fun n => T (n - 1)) (fun n => T (n + 3)) n) c V) (kd (fun w => gt (tl way N (fun n => T (n - 1)) (fun n => T (n + 3)) n) (c * 14 + w + 1)) (V + 1)) (p j) w hV hway hnum (gt_rfS (by omega)) (by omega) (by omega) (hp j (by omega)).2 hS0 eV3 ew3 en3 hS3 hK3) 2 rfl rfl (gdV wm_316 wm_317 wm_318 wm_19 wm_319) (by decide +kernel) ⟨(Nat.le_of_ble_eq_true rfl), (Nat.le_of_ble_eq_true rfl)⟩ ⟨(Nat.le_of_ble_eq_true rfl), (Nat.le_of_ble_eq_true rfl)⟩ (fun _ _ _ => ⟨rfl, rfl⟩) (Nat.le_of_ble_eq_true rfl) dX1_refine_108 (fun v3 u3 hp3 => ?_)
                obtain ⟨rfl, e3⟩ := hp3
                obtain rfl := e3.symm
                simp only [Option.toList_some, List.cons_append, List.nil_append]
                refine w_l2i h (pc := 111) dX1_refine_111 ?_
                refine st_chances h (pc := 112) (by omega) dX1_refine_112 ?_
                refine w_iinc h (pc := 113) dX1_refine_113 rfl (by decide) ?_
                refine w_goto h (pc := 116) (tgt := 73) dX1_refine_116 (by decide) ?_
                refine WW.sub (by rfl) (ih (j + 1) _ (by omega) (by omega) (hFw.tr (Fr.A (by simp))) (fun x hx => ?_) hS3 hK3 (fun x hx => ?_))
                · rw [uA_ne _ _ (by decide)]; exact hownw x hx
                · rw [uA_at]
                  unfold upI
                  by_cases e : x = j
                  · subst e
                    rw [if_pos (by omega), if_pos (by omega)]
                    unfold rf
                    rw [if_neg hnz, if_pos hx]
                  · rw [if_neg (by omega), hch x hx]
                    by_cases e2 : x < j
                    · rw [if_pos e2, if_pos (by omega)]
                    · rw [if_neg e2, if_neg (by omega)]
          exact WW.sub (by rfl) (lp73 (V + 2) 0 _ (by omega) (by omega) (hF.mono (by simp) (by simp)) hown hS hK (fun x hx => by rw [if_neg (by omega)]; exact hp2 x hx))
        · exact w_vret h (pc := 69) rfl dX1_refine_69 (Nat.le_of_ble_eq_true rfl) (Nat.le_of_ble_eq_true rfl) ⟨rfl, hF.mono (by simp) (by simp), fun w hw => by rw [hp2 w hw]; unfold rf; rw [if_pos ⟨by omega, by omega⟩]⟩
