theorem dX5_digest_0 : decode cX5_digest 0 = .ok (.ldc2_w 253, 3) := by decide +kernel
theorem dX5_digest_3 : decode cX5_digest 3 = .ok (.lstore_n 1, 1) := by decide +kernel
theorem dX5_digest_4 : decode cX5_digest 4 = .ok (.lload_n 1, 1) := by decide +kernel
theorem dX5_digest_5 : decode cX5_digest 5 = .ok (.aload_n 0, 1) := by decide +kernel
theorem dX5_digest_6 : decode cX5_digest 6 = .ok (.getfield 10, 3) := by decide +kernel
theorem dX5_digest_9 : decode cX5_digest 9 = .ok (.getfield 65, 3) := by decide +kernel
theorem dX5_digest_12 : decode cX5_digest 12 = .ok (.i2l, 1) := by decide +kernel
theorem dX5_digest_13 : decode cX5_digest 13 = .ok (.invokestatic 255, 3) := by decide +kernel
theorem dX5_digest_16 : decode cX5_digest 16 = .ok (.lstore_n 1, 1) := by decide +kernel
theorem dX5_digest_17 : decode cX5_digest 17 = .ok (.lload_n 1, 1) := by decide +kernel
theorem dX5_digest_18 : decode cX5_digest 18 = .ok (.aload_n 0, 1) := by decide +kernel
theorem dX5_digest_19 : decode cX5_digest 19 = .ok (.getfield 10, 3) := by decide +kernel
theorem dX5_digest_22 : decode cX5_digest 22 = .ok (.getfield 83, 3) := by decide +kernel
theorem dX5_digest_25 : decode cX5_digest 25 = .ok (.i2l, 1) := by decide +kernel
theorem dX5_digest_26 : decode cX5_digest 26 = .ok (.invokestatic 255, 3) := by decide +kernel
theorem dX5_digest_29 : decode cX5_digest 29 = .ok (.lstore_n 1, 1) := by decide +kernel
theorem dX5_digest_30 : decode cX5_digest 30 = .ok (.lload_n 1, 1) := by decide +kernel
theorem dX5_digest_31 : decode cX5_digest 31 = .ok (.aload_n 0, 1) := by decide +kernel
theorem dX5_digest_32 : decode cX5_digest 32 = .ok (.getfield 51, 3) := by decide +kernel
theorem dX5_digest_35 : decode cX5_digest 35 = .ok (.i2l, 1) := by decide +kernel
theorem dX5_digest_36 : decode cX5_digest 36 = .ok (.invokestatic 255, 3) := by decide +kernel
theorem dX5_digest_39 : decode cX5_digest 39 = .ok (.lstore_n 1, 1) := by decide +kernel
theorem dX5_digest_40 : decode cX5_digest 40 = .ok (.iconst 0, 1) := by decide +kernel
theorem dX5_digest_41 : decode cX5_digest 41 = .ok (.istore_n 3, 1) := by decide +kernel
theorem dX5_digest_42 : decode cX5_digest 42 = .ok (.iload_n 3, 1) := by decide +kernel
theorem dX5_digest_43 : decode cX5_digest 43 = .ok (.aload_n 0, 1) := by decide +kernel
theorem dX5_digest_44 : decode cX5_digest 44 = .ok (.getfield 51, 3) := by decide +kernel
theorem dX5_digest_47 : decode cX5_digest 47 = .ok (.if_icmp .ge 21, 3) := by decide +kernel
theorem dX5_digest_50 : decode cX5_digest 50 = .ok (.lload_n 1, 1) := by decide +kernel
theorem dX5_digest_51 : decode cX5_digest 51 = .ok (.aload_n 0, 1) := by decide +kernel
theorem dX5_digest_52 : decode cX5_digest 52 = .ok (.getfield 47, 3) := by decide +kernel
theorem dX5_digest_55 : decode cX5_digest 55 = .ok (.iload_n 3, 1) := by decide +kernel
theorem dX5_digest_56 : decode cX5_digest 56 = .ok (.iaload, 1) := by decide +kernel
theorem dX5_digest_57 : decode cX5_digest 57 = .ok (.i2l, 1) := by decide +kernel
theorem dX5_digest_58 : decode cX5_digest 58 = .ok (.invokestatic 255, 3) := by decide +kernel
theorem dX5_digest_61 : decode cX5_digest 61 = .ok (.lstore_n 1, 1) := by decide +kernel
theorem dX5_digest_62 : decode cX5_digest 62 = .ok (.iinc 3 1, 3) := by decide +kernel
theorem dX5_digest_65 : decode cX5_digest 65 = .ok (.goto (-23), 3) := by decide +kernel
theorem dX5_digest_68 : decode cX5_digest 68 = .ok (.iconst 1, 1) := by decide +kernel
theorem dX5_digest_69 : decode cX5_digest 69 = .ok (.istore_n 3, 1) := by decide +kernel
theorem dX5_digest_70 : decode cX5_digest 70 = .ok (.iload_n 3, 1) := by decide +kernel
theorem dX5_digest_71 : decode cX5_digest 71 = .ok (.aload_n 0, 1) := by decide +kernel
theorem dX5_digest_72 : decode cX5_digest 72 = .ok (.getfield 10, 3) := by decide +kernel
theorem dX5_digest_75 : decode cX5_digest 75 = .ok (.getfield 83, 3) := by decide +kernel
theorem dX5_digest_78 : decode cX5_digest 78 = .ok (.if_icmp .gt 16, 3) := by decide +kernel
theorem dX5_digest_81 : decode cX5_digest 81 = .ok (.aload_n 0, 1) := by decide +kernel
theorem dX5_digest_82 : decode cX5_digest 82 = .ok (.lload_n 1, 1) := by decide +kernel
theorem dX5_digest_83 : decode cX5_digest 83 = .ok (.iload_n 3, 1) := by decide +kernel
theorem dX5_digest_84 : decode cX5_digest 84 = .ok (.invokevirtual 259, 3) := by decide +kernel
theorem dX5_digest_87 : decode cX5_digest 87 = .ok (.lstore_n 1, 1) := by decide +kernel
theorem dX5_digest_88 : decode cX5_digest 88 = .ok (.iinc 3 1, 3) := by decide +kernel
theorem dX5_digest_91 : decode cX5_digest 91 = .ok (.goto (-21), 3) := by decide +kernel
theorem dX5_digest_94 : decode cX5_digest 94 = .ok (.iconst 1, 1) := by decide +kernel
theorem dX5_digest_95 : decode cX5_digest 95 = .ok (.istore_n 3, 1) := by decide +kernel
theorem dX5_digest_96 : decode cX5_digest 96 = .ok (.iload_n 3, 1) := by decide +kernel
theorem dX5_digest_97 : decode cX5_digest 97 = .ok (.aload_n 0, 1) := by decide +kernel
theorem dX5_digest_98 : decode cX5_digest 98 = .ok (.getfield 10, 3) := by decide +kernel
theorem dX5_digest_101 : decode cX5_digest 101 = .ok (.getfield 83, 3) := by decide +kernel
theorem dX5_digest_104 : decode cX5_digest 104 = .ok (.if_icmp .gt 33, 3) := by decide +kernel
theorem dX5_digest_107 : decode cX5_digest 107 = .ok (.lload_n 1, 1) := by decide +kernel
theorem dX5_digest_108 : decode cX5_digest 108 = .ok (.aload_n 0, 1) := by decide +kernel
theorem dX5_digest_109 : decode cX5_digest 109 = .ok (.iload_n 3, 1) := by decide +kernel
theorem dX5_digest_110 : decode cX5_digest 110 = .ok (.iconst 0, 1) := by decide +kernel
theorem dX5_digest_111 : decode cX5_digest 111 = .ok (.invokevirtual 154, 3) := by decide +kernel
theorem dX5_digest_114 : decode cX5_digest 114 = .ok (.i2l, 1) := by decide +kernel
theorem dX5_digest_115 : decode cX5_digest 115 = .ok (.invokestatic 255, 3) := by decide +kernel
theorem dX5_digest_118 : decode cX5_digest 118 = .ok (.lstore_n 1, 1) := by decide +kernel
theorem dX5_digest_119 : decode cX5_digest 119 = .ok (.lload_n 1, 1) := by decide +kernel
theorem dX5_digest_120 : decode cX5_digest 120 = .ok (.aload_n 0, 1) := by decide +kernel
theorem dX5_digest_121 : decode cX5_digest 121 = .ok (.iload_n 3, 1) := by decide +kernel
theorem dX5_digest_122 : decode cX5_digest 122 = .ok (.iconst 1, 1) := by decide +kernel
theorem dX5_digest_123 : decode cX5_digest 123 = .ok (.invokevirtual 154, 3) := by decide +kernel
theorem dX5_digest_126 : decode cX5_digest 126 = .ok (.i2l, 1) := by decide +kernel
theorem dX5_digest_127 : decode cX5_digest 127 = .ok (.invokestatic 255, 3) := by decide +kernel
theorem dX5_digest_130 : decode cX5_digest 130 = .ok (.lstore_n 1, 1) := by decide +kernel
theorem dX5_digest_131 : decode cX5_digest 131 = .ok (.iinc 3 1, 3) := by decide +kernel
theorem dX5_digest_134 : decode cX5_digest 134 = .ok (.goto (-38), 3) := by decide +kernel
theorem dX5_digest_137 : decode cX5_digest 137 = .ok (.aload_n 0, 1) := by decide +kernel
theorem dX5_digest_138 : decode cX5_digest 138 = .ok (.lload_n 1, 1) := by decide +kernel
theorem dX5_digest_139 : decode cX5_digest 139 = .ok (.invokevirtual 263, 3) := by decide +kernel
theorem dX5_digest_142 : decode cX5_digest 142 = .ok (.lstore_n 1, 1) := by decide +kernel
theorem dX5_digest_143 : decode cX5_digest 143 = .ok (.lload_n 1, 1) := by decide +kernel
theorem dX5_digest_144 : decode cX5_digest 144 = .ok (.aload_n 0, 1) := by decide +kernel
theorem dX5_digest_145 : decode cX5_digest 145 = .ok (.invokevirtual 197, 3) := by decide +kernel
theorem dX5_digest_148 : decode cX5_digest 148 = .ok (.i2l, 1) := by decide +kernel
theorem dX5_digest_149 : decode cX5_digest 149 = .ok (.invokestatic 255, 3) := by decide +kernel
theorem dX5_digest_152 : decode cX5_digest 152 = .ok (.lstore_n 1, 1) := by decide +kernel
theorem dX5_digest_153 : decode cX5_digest 153 = .ok (.lload_n 1, 1) := by decide +kernel
theorem dX5_digest_154 : decode cX5_digest 154 = .ok (.aload_n 0, 1) := by decide +kernel
theorem dX5_digest_155 : decode cX5_digest 155 = .ok (.getfield 55, 3) := by decide +kernel
theorem dX5_digest_158 : decode cX5_digest 158 = .ok (.i2l, 1) := by decide +kernel
theorem dX5_digest_159 : decode cX5_digest 159 = .ok (.invokestatic 255, 3) := by decide +kernel
theorem dX5_digest_162 : decode cX5_digest 162 = .ok (.lstore_n 1, 1) := by decide +kernel
theorem dX5_digest_163 : decode cX5_digest 163 = .ok (.lload_n 1, 1) := by decide +kernel
theorem dX5_digest_164 : decode cX5_digest 164 = .ok (.aload_n 0, 1) := by decide +kernel
theorem dX5_digest_165 : decode cX5_digest 165 = .ok (.getfield 58, 3) := by decide +kernel
theorem dX5_digest_168 : decode cX5_digest 168 = .ok (.i2l, 1) := by decide +kernel
theorem dX5_digest_169 : decode cX5_digest 169 = .ok (.invokestatic 255, 3) := by decide +kernel
theorem dX5_digest_172 : decode cX5_digest 172 = .ok (.lstore_n 1, 1) := by decide +kernel
theorem dX5_digest_173 : decode cX5_digest 173 = .ok (.lload_n 1, 1) := by decide +kernel
theorem dX5_digest_174 : decode cX5_digest 174 = .ok (.aload_n 0, 1) := by decide +kernel
theorem dX5_digest_175 : decode cX5_digest 175 = .ok (.getfield 61, 3) := by decide +kernel
theorem dX5_digest_178 : decode cX5_digest 178 = .ok (.ifCond .eq 7, 3) := by decide +kernel
theorem dX5_digest_181 : decode cX5_digest 181 = .ok (.lconst 1, 1) := by decide +kernel
theorem dX5_digest_182 : decode cX5_digest 182 = .ok (.goto 4, 3) := by decide +kernel
theorem dX5_digest_185 : decode cX5_digest 185 = .ok (.lconst 0, 1) := by decide +kernel
theorem dX5_digest_186 : decode cX5_digest 186 = .ok (.invokestatic 255, 3) := by decide +kernel
theorem dX5_digest_189 : decode cX5_digest 189 = .ok (.lreturn, 1) := by decide +kernel
theorem dX5_runScript_0 : decode cX5_runScript 0 = .ok (.aload_n 0, 1) := by decide +kernel
theorem dX5_runScript_1 : decode cX5_runScript 1 = .ok (.getfield 10, 3) := by decide +kernel
theorem dX5_runScript_4 : decode cX5_runScript 4 = .ok (.getfield 65, 3) := by decide +kernel
theorem dX5_runScript_7 : decode cX5_runScript 7 = .ok (.ifCond .eq 13, 3) := by decide +kernel
theorem dX5_runScript_10 : decode cX5_runScript 10 = .ok (.aload_n 0, 1) := by decide +kernel
theorem dX5_runScript_11 : decode cX5_runScript 11 = .ok (.getfield 37, 3) := by decide +kernel
theorem dX5_runScript_14 : decode cX5_runScript 14 = .ok (.getfield 222, 3) := by decide +kernel
theorem dX5_runScript_17 : decode cX5_runScript 17 = .ok (.ifCond .ne 13, 3) := by decide +kernel
theorem dX5_runScript_30 : decode cX5_runScript 30 = .ok (.aload_n 0, 1) := by decide +kernel
theorem dX5_runScript_31 : decode cX5_runScript 31 = .ok (.iconst 0, 1) := by decide +kernel
theorem dX5_runScript_32 : decode cX5_runScript 32 = .ok (.putfield 61, 3) := by decide +kernel
theorem dX5_runScript_35 : decode cX5_runScript 35 = .ok (.aload_n 0, 1) := by decide +kernel
theorem dX5_runScript_36 : decode cX5_runScript 36 = .ok (.getfield 37, 3) := by decide +kernel
theorem dX5_runScript_39 : decode cX5_runScript 39 = .ok (.invokevirtual 229, 3) := by decide +kernel
theorem dX5_runScript_42 : decode cX5_runScript 42 = .ok (.iconst 0, 1) := by decide +kernel
theorem dX5_runScript_43 : decode cX5_runScript 43 = .ok (.istore_n 1, 1) := by decide +kernel
theorem dX5_runScript_44 : decode cX5_runScript 44 = .ok (.iconst 0, 1) := by decide +kernel
theorem dX5_runScript_45 : decode cX5_runScript 45 = .ok (.istore_n 2, 1) := by decide +kernel
theorem dX5_runScript_46 : decode cX5_runScript 46 = .ok (.iload_n 2, 1) := by decide +kernel
theorem dX5_runScript_47 : decode cX5_runScript 47 = .ok (.ldc 163, 2) := by decide +kernel
theorem dX5_runScript_49 : decode cX5_runScript 49 = .ok (.if_icmp .ge 89, 3) := by decide +kernel
theorem dX5_runScript_52 : decode cX5_runScript 52 = .ok (.iload_n 1, 1) := by decide +kernel
theorem dX5_runScript_53 : decode cX5_runScript 53 = .ok (.aload_n 0, 1) := by decide +kernel
theorem dX5_runScript_54 : decode cX5_runScript 54 = .ok (.getfield 37, 3) := by decide +kernel
theorem dX5_runScript_57 : decode cX5_runScript 57 = .ok (.getfield 222, 3) := by decide +kernel
theorem dX5_runScript_60 : decode cX5_runScript 60 = .ok (.if_icmp .ge 78, 3) := by decide +kernel
theorem dX5_runScript_63 : decode cX5_runScript 63 = .ok (.aload_n 0, 1) := by decide +kernel
theorem dX5_runScript_64 : decode cX5_runScript 64 = .ok (.getfield 61, 3) := by decide +kernel
theorem dX5_runScript_67 : decode cX5_runScript 67 = .ok (.ifCond .ne 71, 3) := by decide +kernel
theorem dX5_runScript_70 : decode cX5_runScript 70 = .ok (.aload_n 0, 1) := by decide +kernel
theorem dX5_runScript_71 : decode cX5_runScript 71 = .ok (.getfield 51, 3) := by decide +kernel
theorem dX5_runScript_74 : decode cX5_runScript 74 = .ok (.bipush 12, 2) := by decide +kernel
theorem dX5_runScript_76 : decode cX5_runScript 76 = .ok (.if_icmp .lt 6, 3) := by decide +kernel
theorem dX5_runScript_82 : decode cX5_runScript 82 = .ok (.aload_n 0, 1) := by decide +kernel
theorem dX5_runScript_83 : decode cX5_runScript 83 = .ok (.getfield 37, 3) := by decide +kernel
theorem dX5_runScript_86 : decode cX5_runScript 86 = .ok (.getfield 232, 3) := by decide +kernel
theorem dX5_runScript_89 : decode cX5_runScript 89 = .ok (.iload_n 1, 1) := by decide +kernel
theorem dX5_runScript_90 : decode cX5_runScript 90 = .ok (.iaload, 1) := by decide +kernel
theorem dX5_runScript_91 : decode cX5_runScript 91 = .ok (.iconst 5, 1) := by decide +kernel
theorem dX5_runScript_92 : decode cX5_runScript 92 = .ok (.if_icmp .ne 15, 3) := by decide +kernel
theorem dX5_runScript_107 : decode cX5_runScript 107 = .ok (.aload_n 0, 1) := by decide +kernel
theorem dX5_runScript_108 : decode cX5_runScript 108 = .ok (.aload_n 0, 1) := by decide +kernel
theorem dX5_runScript_109 : decode cX5_runScript 109 = .ok (.getfield 37, 3) := by decide +kernel
theorem dX5_runScript_112 : decode cX5_runScript 112 = .ok (.getfield 232, 3) := by decide +kernel
theorem dX5_runScript_115 : decode cX5_runScript 115 = .ok (.iload_n 1, 1) := by decide +kernel
theorem dX5_runScript_116 : decode cX5_runScript 116 = .ok (.iaload, 1) := by decide +kernel
theorem dX5_runScript_117 : decode cX5_runScript 117 = .ok (.aload_n 0, 1) := by decide +kernel
theorem dX5_runScript_118 : decode cX5_runScript 118 = .ok (.getfield 37, 3) := by decide +kernel
theorem dX5_runScript_121 : decode cX5_runScript 121 = .ok (.getfield 238, 3) := by decide +kernel
theorem dX5_runScript_124 : decode cX5_runScript 124 = .ok (.iload_n 1, 1) := by decide +kernel
theorem dX5_runScript_125 : decode cX5_runScript 125 = .ok (.iaload, 1) := by decide +kernel
theorem dX5_runScript_126 : decode cX5_runScript 126 = .ok (.invokevirtual 241, 3) := by decide +kernel
theorem dX5_runScript_129 : decode cX5_runScript 129 = .ok (.iinc 1 1, 3) := by decide +kernel
theorem dX5_runScript_132 : decode cX5_runScript 132 = .ok (.iinc 2 1, 3) := by decide +kernel
theorem dX5_runScript_135 : decode cX5_runScript 135 = .ok (.goto (-89), 3) := by decide +kernel
theorem dX5_runScript_138 : decode cX5_runScript 138 = .ok (.aload_n 0, 1) := by decide +kernel
theorem dX5_runScript_139 : decode cX5_runScript 139 = .ok (.getfield 51, 3) := by decide +kernel
theorem dX5_runScript_142 : decode cX5_runScript 142 = .ok (.ireturn, 1) := by decide +kernel
set_option maxHeartbeats 4000000 in
set_option maxRecDepth 100000 in
theorem mX5_digest (l : Launch) (D : va_G) (κ a : Nat → Nat) (ε : EE) (V N way num m : Nat) (S : List Nat) (T : Nat → List (Nat × Nat)) (u : US) (hA : AB V N way num m S T u) (lk9 dr ed : Nat) (hlk : lk9 < 10000) (hdr : dr ≤ 1000) (hed : ed ≤ 1) (elk : u.1 1 = (lk9 : Int)) (edr : u.1 2 = (dr : Int)) (eed : u.1 3 = (ed : Int)) : Ct (W0 κ a) l D κ ε yX5_digest cX5_digest 4 (some .long) 6 141 0 0 u [.ref (a 0)] (fun v u' => v = some (.long (lI (dgs V N way num S T lk9 dr ed))) ∧ Fr [8, 9] [9, 10] u u') := by
  obtain ⟨⟨hV, hN, hway, hnum, hm, hSl, hSV⟩, eV, eN, ew, en, ⟨eS, hS⟩, hT⟩ := id hA
  refine Ct.of (own := RX5) rfl (by decide +kernel) (Nat.le_of_ble_eq_true rfl) rfl (fun Γ h => ?_)
  refine w_ldc2 h (pc := 0) (z := 58041) dX5_digest_0 wm_257 (by decide) ?_
  refine w_lstore_n h (pc := 3) dX5_digest_3 (by decide) ?_
  refine w_lload_n h (pc := 4) dX5_digest_4 rfl ?_
  refine w_aload_n h (pc := 5) dX5_digest_5 rfl ?_
  refine g0_ledger h (pc := 6) wm_16 dX5_digest_6 ?_
  refine g1_words h (pc := 9) eV wm_113 dX5_digest_9 ?_
  refine w_i2l h (pc := 12) dX5_digest_12 (by omega) ?_
  refine w_callS2 h (pc := 13) (mX5_mix l D κ a ε u 58041 (V : Int)) (gdS wm_258 wm_259 wm_2 wm_260) (by decide +kernel) ⟨(Nat.le_of_ble_eq_true rfl), (Nat.le_of_ble_eq_true rfl)⟩ ⟨(Nat.le_of_ble_eq_true rfl), (Nat.le_of_ble_eq_true rfl)⟩ (fun _ _ _ => ⟨rfl, rfl⟩) (Nat.le_of_ble_eq_true rfl) dX5_digest_13 (fun v1 u1 hp1 => ?_)
  obtain ⟨rfl, e1⟩ := hp1
  obtain rfl := e1.symm
  simp only [Option.toList_some, List.cons_append, List.nil_append]
  refine w_lstore_n h (pc := 16) dX5_digest_16 (by decide) ?_
  refine w_lload_n h (pc := 17) dX5_digest_17 rfl ?_
  refine w_aload_n h (pc := 18) dX5_digest_18 rfl ?_
  refine g0_ledger h (pc := 19) wm_16 dX5_digest_19 ?_
  refine g1_order h (pc := 22) eN wm_140 dX5_digest_22 ?_
  refine w_i2l h (pc := 25) dX5_digest_25 (by omega) ?_
  refine w_callS2 h (pc := 26) (mX5_mix l D κ a ε u _ (N : Int)) (gdS wm_258 wm_259 wm_2 wm_260) (by decide +kernel) ⟨(Nat.le_of_ble_eq_true rfl), (Nat.le_of_ble_eq_true rfl)⟩ ⟨(Nat.le_of_ble_eq_true rfl), (Nat.le_of_ble_eq_true rfl)⟩ (fun _ _ _ => ⟨rfl, rfl⟩) (Nat.le_of_ble_eq_true rfl) dX5_digest_26 (fun v2 u2 hp2 => ?_)
  obtain ⟨rfl, e2⟩ := hp2
  obtain rfl := e2.symm
  simp only [Option.toList_some, List.cons_append, List.nil_append]
  refine w_lstore_n h (pc := 29) dX5_digest_29 (by decide) ?_
  refine w_lload_n h (pc := 30) dX5_digest_30 rfl ?_
  refine w_aload_n h (pc := 31) dX5_digest_31 rfl ?_
  refine g0_length h (pc := 32) eS wm_33 dX5_digest_32 ?_
  refine w_i2l h (pc := 35) dX5_digest_35 (by omega) ?_
  refine w_callS2 h (pc := 36) (mX5_mix l D κ a ε u _ (S.length : Int)) (gdS wm_258 wm_259 wm_2 wm_260) (by decide +kernel) ⟨(Nat.le_of_ble_eq_true rfl), (Nat.le_of_ble_eq_true rfl)⟩ ⟨(Nat.le_of_ble_eq_true rfl), (Nat.le_of_ble_eq_true rfl)⟩ (fun _ _ _ => ⟨rfl, rfl⟩) (Nat.le_of_ble_eq_true rfl) dX5_digest_36 (fun v3 u3 hp3 => ?_)
  obtain ⟨rfl, e3⟩ := hp3
  obtain rfl := e3.symm
  simp only [Option.toList_some, List.cons_append, List.nil_append]
  refine w_lstore_n h (pc := 39) dX5_digest_39 (by decide) ?_
  refine w_iconst h (pc := 40) dX5_digest_40 ?_
  refine w_istore_n h (pc := 41) dX5_digest_41 (by decide) ?_
  have lp42 : ∀ (n9 j : Nat) (d : Int), S.length < j + n9 → j ≤ S.length → d = fl (fun j d => d * 31 + (S.getD j 0 : Int)) j (((58041 * 31 + (V : Int)) * 31 + (N : Int)) * 31 + (S.length : Int)) → WW Γ 4 u 42 [(0, .ref (a 0)), (1, .long (lI d)), (3, .int (iI (j : Int)))] [] := by
    intro n9
    induction n9 with
    | zero => intro j d hn9 hj hd; exfalso; omega
    | succ n9 ih =>
      intro j d hn9 hj hd
      refine w_iload_n h (pc := 42) dX5_digest_42 rfl ?_
      refine w_aload_n h (pc := 43) dX5_digest_43 rfl ?_
      refine g0_length h (pc := 44) eS wm_33 dX5_digest_44 ?_
      refine w_icmp_ge h (pc := 47) (tgt := 68) dX5_digest_47 (by decide) (by omega) (by omega) (fun c47 => ?_) (fun c47 => ?_)
      · obtain rfl : j = S.length := by omega
        refine w_iconst h (pc := 68) dX5_digest_68 ?_
        refine w_istore_n h (pc := 69) dX5_digest_69 (by decide) ?_
        have lp70 : ∀ (n9 j : Nat) (d : Int), N < j + n9 → j ≤ N → d = fl (fun j d => mxE (T j) (j + 1) d) j (dg1 V N S) → WW Γ 4 u 70 [(0, .ref (a 0)), (1, .long (lI d)), (3, .int (iI ((j : Int) + 1)))] [] := by
          intro n9
          induction n9 with
          | zero => intro j d hn9 hj hd; exfalso; omega
          | succ n9 ih =>
            intro j d hn9 hj hd
            refine w_iload_n h (pc := 70) dX5_digest_70 rfl ?_
            refine w_aload_n h (pc := 71) dX5_digest_71 rfl ?_
            refine g0_ledger h (pc := 72) wm_16 dX5_digest_72 ?_
            refine g1_order h (pc := 75) eN wm_140 dX5_digest_75 ?_
            refine w_icmp_gt h (pc := 78) (tgt := 94) dX5_digest_78 (by decide) (by omega) (by omega) (fun c78 => ?_) (fun c78 => ?_)
            · obtain rfl : N = j := by omega
              refine w_iconst h (pc := 94) dX5_digest_94 ?_
              refine w_istore_n h (pc := 95) dX5_digest_95 (by decide) ?_
              have lp96 : ∀ (n9 j : Nat) (d : Int) (w : US), N < j + n9 → j ≤ N → Fr [8, 9] [10] u w → d = fl (fun j d => (d * 31 + (rfS (T j) (ofc V S T j) V : Int)) * 31 + (kd (fun w => gt (T j) (ofc V S T j * 14 + w + 1)) (V + 1) : Int)) j (dg2 V N S T) → WW Γ 4 w 96 [(0, .ref (a 0)), (1, .long (lI d)), (3, .int (iI ((j : Int) + 1)))] [] := by
                intro n9
                induction n9 with
                | zero => intro j d w hn9 hj hF hd; exfalso; omega
                | succ n9 ih =>
                  intro j d w hn9 hj hF hd
                  have hAw := hA.of hF (by simp [tS]) (by simp [tG]) (by simp) (by simp)
                  refine w_iload_n h (pc := 96) dX5_digest_96 rfl ?_
                  refine w_aload_n h (pc := 97) dX5_digest_97 rfl ?_
                  refine g0_ledger h (pc := 98) wm_16 dX5_digest_98 ?_
                  refine g1_order h (pc := 101) ((hF.1 5 (by simp)).trans eN) wm_140 dX5_digest_101 ?_
                  refine w_icmp_gt h (pc := 104) (tgt := 137) dX5_digest_104 (by decide) (by omega) (by omega) (fun c104 => ?_) (fun c104 => ?_)
                  · obtain rfl : N = j := by omega
                    refine w_aload_n h (pc := 137) dX5_digest_137 rfl ?_
                    refine w_lload_n h (pc := 138) dX5_digest_138 rfl ?_
                    refine w_callV1 h (pc := 139) (mX5_mixChances l D κ a ε V N way num m S T w hAw d) 0 rfl rfl (gdV wm_293 wm_294 wm_295 wm_2 wm_296) (by decide +kernel) ⟨(Nat.le_of_ble_eq_true rfl), (Nat.le_of_ble_eq_true rfl)⟩ ⟨(Nat.le_of_ble_eq_true rfl), (Nat.le_of_ble_eq_true rfl)⟩ (fun _ _ _ => ⟨rfl, rfl⟩) (Nat.le_of_ble_eq_true rfl) dX5_digest_139 (fun v1 u1 hp1 => ?_)
                    obtain ⟨rfl, hF1⟩ := hp1
                    have hA1 := hAw.of hF1 (by simp [tS]) (by simp [tG]) (by simp) (by simp)
                    simp only [Option.toList_some, List.cons_append, List.nil_append]
                    refine w_lstore_n h (pc := 142) dX5_digest_142 (by decide) ?_
                    refine w_lload_n h (pc := 143) dX5_digest_143 rfl ?_
                    refine w_aload_n h (pc := 144) dX5_digest_144 rfl ?_
                    refine w_callV0 h (pc := 145) (mX5_sumOfCosts l D κ a ε V N way num m S T u1 hA1) 0 rfl rfl (gdV wm_337 wm_338 wm_339 wm_2 wm_340) (by decide +kernel) ⟨(Nat.le_of_ble_eq_true rfl), (Nat.le_of_ble_eq_true rfl)⟩ ⟨(Nat.le_of_ble_eq_true rfl), (Nat.le_of_ble_eq_true rfl)⟩ (fun _ _ _ => ⟨rfl, rfl⟩) (Nat.le_of_ble_eq_true rfl) dX5_digest_145 (fun v2 u2 hp2 => ?_)
                    obtain ⟨rfl, hF2⟩ := hp2
                    have hF9 : Fr [8, 9] [9, 10] u u2 := ((hF.mono (by simp) (by simp)).tr hF1).tr hF2
                    have elk2 : u2.1 1 = (lk9 : Int) := (hF9.1 1 (by simp)).trans elk
                    have edr2 : u2.1 2 = (dr : Int) := (hF9.1 2 (by simp)).trans edr
                    have eed2 : u2.1 3 = (ed : Int) := (hF9.1 3 (by simp)).trans eed
                    have hsl := scr_le (V := V) (N := N) (way := way) (num := num) (S := S) (T := T) (S.length + 1)
                    have hsl2 : scr V N way num S T ≤ 13 * 32768 := Nat.le_trans hsl (Nat.mul_le_mul_right _ (by omega))
                    simp only [Option.toList_some, List.cons_append, List.nil_append]
                    refine w_i2l h (pc := 148) dX5_digest_148 (by omega) ?_
                    refine w_callS2 h (pc := 149) (mX5_mix l D κ a ε u2 _ (scr V N way num S T : Int)) (gdS wm_258 wm_259 wm_2 wm_260) (by decide +kernel) ⟨(Nat.le_of_ble_eq_true rfl), (Nat.le_of_ble_eq_true rfl)⟩ ⟨(Nat.le_of_ble_eq_true rfl), (Nat.le_of_ble_eq_true rfl)⟩ (fun _ _ _ => ⟨rfl, rfl⟩) (Nat.le_of_ble_eq_true rfl) dX5_digest_149 (fun v3 u3 hp3 => ?_)
                    obtain ⟨rfl, e3⟩ := hp3
                    obtain rfl := e3.symm
                    simp only [Option.toList_some, List.cons_append, List.nil_append]
                    refine w_lstore_n h (pc := 152) dX5_digest_152 (by decide) ?_
                    refine w_lload_n h (pc := 153) dX5_digest_153 rfl ?_
                    refine w_aload_n h (pc := 154) dX5_digest_154 rfl ?_
                    refine g0_luck h (pc := 155) elk2 wm_34 dX5_digest_155 ?_
                    refine w_i2l h (pc := 158) dX5_digest_158 (by omega) ?_
                    refine w_callS2 h (pc := 159) (mX5_mix l D κ a ε u2 _ (lk9 : Int)) (gdS wm_258 wm_259 wm_2 wm_260) (by decide +kernel) ⟨(Nat.le_of_ble_eq_true rfl), (Nat.le_of_ble_eq_true rfl)⟩ ⟨(Nat.le_of_ble_eq_true rfl), (Nat.le_of_ble_eq_true rfl)⟩ (fun _ _ _ => ⟨rfl, rfl⟩) (Nat.le_of_ble_eq_true rfl) dX5_digest_159 (fun v4 u4 hp4 => ?_)
                    obtain ⟨rfl, e4⟩ := hp4
                    obtain rfl := e4.symm
                    simp only [Option.toList_some, List.cons_append, List.nil_append]
                    refine w_lstore_n h (pc := 162) dX5_digest_162 (by decide) ?_
                    refine w_lload_n h (pc := 163) dX5_digest_163 rfl ?_
                    refine w_aload_n h (pc := 164) dX5_digest_164 rfl ?_
                    refine g0_draws h (pc := 165) edr2 wm_35 dX5_digest_165 ?_
                    refine w_i2l h (pc := 168) dX5_digest_168 (by omega) ?_
                    refine w_callS2 h (pc := 169) (mX5_mix l D κ a ε u2 _ (dr : Int)) (gdS wm_258 wm_259 wm_2 wm_260) (by decide +kernel) ⟨(Nat.le_of_ble_eq_true rfl), (Nat.le_of_ble_eq_true rfl)⟩ ⟨(Nat.le_of_ble_eq_true rfl), (Nat.le_of_ble_eq_true rfl)⟩ (fun _ _ _ => ⟨rfl, rfl⟩) (Nat.le_of_ble_eq_true rfl) dX5_digest_169 (fun v5 u5 hp5 => ?_)
                    obtain ⟨rfl, e5⟩ := hp5
                    obtain rfl := e5.symm
                    simp only [Option.toList_some, List.cons_append, List.nil_append]
                    refine w_lstore_n h (pc := 172) dX5_digest_172 (by decide) ?_
                    refine w_lload_n h (pc := 173) dX5_digest_173 rfl ?_
                    refine w_aload_n h (pc := 174) dX5_digest_174 rfl ?_
                    refine g0_ended h (pc := 175) eed2 wm_36 dX5_digest_175 ?_
                    refine w_if_eq h (pc := 178) (tgt := 185) dX5_digest_178 (by decide) (by omega) (fun c178 => ?_) (fun c178 => ?_)
                    · refine w_lconst h (pc := 185) (z := 0) dX5_digest_185 (by decide) ?_
                      refine w_callS2 h (pc := 186) (mX5_mix l D κ a ε u2 _ _) (gdS wm_258 wm_259 wm_2 wm_260) (by decide +kernel) ⟨(Nat.le_of_ble_eq_true rfl), (Nat.le_of_ble_eq_true rfl)⟩ ⟨(Nat.le_of_ble_eq_true rfl), (Nat.le_of_ble_eq_true rfl)⟩ (fun _ _ _ => ⟨rfl, rfl⟩) (Nat.le_of_ble_eq_true rfl) dX5_digest_186 (fun v6 u6 hp6 => ?_)
                      obtain ⟨rfl, e6⟩ := hp6
                      obtain rfl := e6.symm
                      simp only [Option.toList_some, List.cons_append, List.nil_append]
                      exact w_lret h (pc := 189) rfl dX5_digest_189 (Nat.le_of_ble_eq_true rfl) (Nat.le_of_ble_eq_true rfl) ⟨by rcases (by omega : ed = 0 ∨ ed = 1) with rfl | rfl <;> first | (exfalso; omega) | (rw [hd]; done) | (rw [hd]; rfl), hF9⟩
                    · refine w_lconst h (pc := 181) (z := 1) dX5_digest_181 (by decide) ?_
                      refine w_goto h (pc := 182) (tgt := 186) dX5_digest_182 (by decide) ?_
                      refine w_callS2 h (pc := 186) (mX5_mix l D κ a ε u2 _ _) (gdS wm_258 wm_259 wm_2 wm_260) (by decide +kernel) ⟨(Nat.le_of_ble_eq_true rfl), (Nat.le_of_ble_eq_true rfl)⟩ ⟨(Nat.le_of_ble_eq_true rfl), (Nat.le_of_ble_eq_true rfl)⟩ (fun _ _ _ => ⟨rfl, rfl⟩) (Nat.le_of_ble_eq_true rfl) dX5_digest_186 (fun v6 u6 hp6 => ?_)
                      obtain ⟨rfl, e6⟩ := hp6
                      obtain rfl := e6.symm
                      simp only [Option.toList_some, List.cons_append, List.nil_append]
                      exact w_lret h (pc := 189) rfl dX5_digest_189 (Nat.le_of_ble_eq_true rfl) (Nat.le_of_ble_eq_true rfl) ⟨by rcases (by omega : ed = 0 ∨ ed = 1) with rfl | rfl <;> first | (exfalso; omega) | (rw [hd]; done) | (rw [hd]; rfl), hF9⟩
                  · refine w_lload_n h (pc := 107) dX5_digest_107 rfl ?_
                    refine w_aload_n h (pc := 108) dX5_digest_108 rfl ?_
                    refine w_iload_n h (pc := 109) dX5_digest_109 rfl ?_
                    refine w_iconst h (pc := 110) dX5_digest_110 ?_
                    rw [show ((j : Int) + 1) = ((j + 1 : Nat) : Int) from rfl]
                    refine w_callV2 h (pc := 111) (mX5_totalBehind0 l D κ a ε V N way num m S T w hAw (j + 1) (by omega)) 0 rfl rfl (gdV wm_275 wm_276 wm_277 wm_2 wm_278) (by decide +kernel) ⟨(Nat.le_of_ble_eq_true rfl), (Nat.le_of_ble_eq_true rfl)⟩ ⟨(Nat.le_of_ble_eq_true rfl), (Nat.le_of_ble_eq_true rfl)⟩ (fun _ _ _ => ⟨rfl, rfl⟩) (Nat.le_of_ble_eq_true rfl) dX5_digest_111 (fun v6 u6 hp6 => ?_)
                    obtain ⟨rfl, hF6⟩ := hp6
                    have hTj := hT j (by omega)
                    have hrl := rfS_le (c := ky V S ((S.length : Int) - 1) j) hTj.2 hV
                    have hkl := kd_n (c := fun w => gt (T j) (ky V S ((S.length : Int) - 1) j * 14 + w + 1)) (V + 1)
                    rw [show (j + 1 - 1) = j by omega]
                    simp only [Option.toList_some, List.cons_append, List.nil_append]
                    refine w_i2l h (pc := 114) dX5_digest_114 (by omega) ?_
                    refine w_callS2 h (pc := 115) (mX5_mix l D κ a ε u6 d (rfS (T j) (ky V S ((S.length : Int) - 1) j) V : Int)) (gdS wm_258 wm_259 wm_2 wm_260) (by decide +kernel) ⟨(Nat.le_of_ble_eq_true rfl), (Nat.le_of_ble_eq_true rfl)⟩ ⟨(Nat.le_of_ble_eq_true rfl), (Nat.le_of_ble_eq_true rfl)⟩ (fun _ _ _ => ⟨rfl, rfl⟩) (Nat.le_of_ble_eq_true rfl) dX5_digest_115 (fun v7 u7 hp7 => ?_)
                    obtain ⟨rfl, e7⟩ := hp7
                    obtain rfl := e7.symm
                    simp only [Option.toList_some, List.cons_append, List.nil_append]
                    refine w_lstore_n h (pc := 118) dX5_digest_118 (by decide) ?_
                    refine w_lload_n h (pc := 119) dX5_digest_119 rfl ?_
                    refine w_aload_n h (pc := 120) dX5_digest_120 rfl ?_
                    refine w_iload_n h (pc := 121) dX5_digest_121 rfl ?_
                    refine w_iconst h (pc := 122) dX5_digest_122 ?_
                    refine w_callV2 h (pc := 123) (mX5_totalBehind1 l D κ a ε V N way num m S T u6 (hAw.of hF6 (by simp [tS]) (by simp [tG]) (by simp) (by simp)) (j + 1) (by omega)) 0 rfl rfl (gdV wm_275 wm_276 wm_277 wm_2 wm_278) (by decide +kernel) ⟨(Nat.le_of_ble_eq_true rfl), (Nat.le_of_ble_eq_true rfl)⟩ ⟨(Nat.le_of_ble_eq_true rfl), (Nat.le_of_ble_eq_true rfl)⟩ (fun _ _ _ => ⟨rfl, rfl⟩) (Nat.le_of_ble_eq_true rfl) dX5_digest_123 (fun v8 u8 hp8 => ?_)
                    obtain ⟨rfl, hF8⟩ := hp8
                    rw [show (j + 1 - 1) = j by omega]
                    simp only [Option.toList_some, List.cons_append, List.nil_append]
                    refine w_i2l h (pc := 126) dX5_digest_126 (by omega) ?_
                    refine w_callS2 h (pc := 127) (mX5_mix l D κ a ε u8 _ (kd (fun w => gt (T j) (ky V S ((S.length : Int) - 1) j * 14 + w + 1)) (V + 1) : Int)) (gdS wm_258 wm_259 wm_2 wm_260) (by decide +kernel) ⟨(Nat.le_of_ble_eq_true rfl), (Nat.le_of_ble_eq_true rfl)⟩ ⟨(Nat.le_of_ble_eq_true rfl), (Nat.le_of_ble_eq_true rfl)⟩ (fun _ _ _ => ⟨rfl, rfl⟩) (Nat.le_of_ble_eq_true rfl) dX5_digest_127 (fun v9 u9 hp9 => ?_)
                    obtain ⟨rfl, e9⟩ := hp9
                    obtain rfl := e9.symm
                    simp only [Option.toList_some, List.cons_append, List.nil_append]
                    refine w_lstore_n h (pc := 130) dX5_digest_130 (by decide) ?_
                    refine w_iinc h (pc := 131) dX5_digest_131 rfl (by decide) ?_
                    refine w_goto h (pc := 134) (tgt := 96) dX5_digest_134 (by decide) ?_
                    exact WW.sub (by rfl) (ih (j + 1) _ _ (by omega) (by omega) ((hF.tr hF6).tr hF8) (by show _ = (fl _ j _ * 31 + _) * 31 + _; rw [← hd]; rfl))
              exact WW.sub (by rfl) (lp96 (N + 1) 0 d u (by omega) (by omega) Fr.rfl (by rw [hd]; rfl))
            · refine w_aload_n h (pc := 81) dX5_digest_81 rfl ?_
              refine w_lload_n h (pc := 82) dX5_digest_82 rfl ?_
              refine w_iload_n h (pc := 83) dX5_digest_83 rfl ?_
              rw [show ((j : Int) + 1) = ((j + 1 : Nat) : Int) from rfl]
              refine w_callV2 h (pc := 84) (mX5_mixEntries l D κ a ε V N way num m S T u hA (j + 1) (by omega) d) 0 rfl rfl (gdV wm_262 wm_263 wm_264 wm_2 wm_265) (by decide +kernel) ⟨(Nat.le_of_ble_eq_true rfl), (Nat.le_of_ble_eq_true rfl)⟩ ⟨(Nat.le_of_ble_eq_true rfl), (Nat.le_of_ble_eq_true rfl)⟩ (fun _ _ _ => ⟨rfl, rfl⟩) (Nat.le_of_ble_eq_true rfl) dX5_digest_84 (fun v5 u5 hp5 => ?_)
              obtain ⟨rfl, e5⟩ := hp5
              obtain rfl := e5.symm
              simp only [Option.toList_some, List.cons_append, List.nil_append]
              refine w_lstore_n h (pc := 87) dX5_digest_87 (by decide) ?_
              refine w_iinc h (pc := 88) dX5_digest_88 rfl (by decide) ?_
              refine w_goto h (pc := 91) (tgt := 70) dX5_digest_91 (by decide) ?_
              exact WW.sub (by rfl) (ih (j + 1) _ (by omega) (by omega) (by show _ = mxE _ _ (fl _ j _); rw [← hd]; rfl))
        exact WW.sub (by rfl) (lp70 (N + 1) 0 d (by omega) (by omega) (by rw [hd]; rfl))
      · obtain ⟨w, hw⟩ : ∃ w, S[j]? = some w := ⟨S[j]'(by omega), List.getElem?_eq_getElem (by omega)⟩
        have hwV := hSV w (List.mem_of_getElem? hw)
        refine w_lload_n h (pc := 50) dX5_digest_50 rfl ?_
        refine w_aload_n h (pc := 51) dX5_digest_51 rfl ?_
        refine g0_sentence h (pc := 52) wm_32 dX5_digest_52 ?_
        refine w_iload_n h (pc := 55) dX5_digest_55 rfl ?_
        refine ld_sentence h (pc := 56) (by omega) (hS j w hw) dX5_digest_56 ?_
        refine w_i2l h (pc := 57) dX5_digest_57 (by omega) ?_
        refine w_callS2 h (pc := 58) (mX5_mix l D κ a ε u d (w : Int)) (gdS wm_258 wm_259 wm_2 wm_260) (by decide +kernel) ⟨(Nat.le_of_ble_eq_true rfl), (Nat.le_of_ble_eq_true rfl)⟩ ⟨(Nat.le_of_ble_eq_true rfl), (Nat.le_of_ble_eq_true rfl)⟩ (fun _ _ _ => ⟨rfl, rfl⟩) (Nat.le_of_ble_eq_true rfl) dX5_digest_58 (fun v4 u4 hp4 => ?_)
        obtain ⟨rfl, e4⟩ := hp4
        obtain rfl := e4.symm
        simp only [Option.toList_some, List.cons_append, List.nil_append]
        refine w_lstore_n h (pc := 61) dX5_digest_61 (by decide) ?_
        refine w_iinc h (pc := 62) dX5_digest_62 rfl (by decide) ?_
        refine w_goto h (pc := 65) (tgt := 42) dX5_digest_65 (by decide) ?_
        exact WW.sub (by rfl) (ih (j + 1) _ (by omega) (by omega) (by show _ = fl _ j _ * 31 + _; rw [← hd, getD_n hw]))
  exact WW.sub (by rfl) (lp42 (S.length + 1) 0 _ (by omega) (by omega) rfl)

set_option maxHeartbeats 4000000 in
set_option maxRecDepth 100000 in
theorem mX5_runScript (l : Launch) (D : va_G) (κ a : Nat → Nat) (ε : EE) (V N way num m : Nat) (S : List Nat) (T : Nat → List (Nat × Nat)) (u : US) (hA : AB V N way num m S T u) (hV1 : 1 ≤ V) (hl9 : S.length < 12) (lk9 dr : Nat) (hlk : lk9 < 10000) (elk : u.1 1 = (lk9 : Int)) (edr : u.1 2 = (dr : Int)) (e11 : u.1 11 = 1) (e15 : u.2 15 0 = 3) (e16 : u.2 16 0 = 1) : Ct (W0 κ a) l D κ ε yX5_runScript cX5_runScript 3 (some .int) 6 139 0 0 u [.ref (a 0)] (fun v u' => (fw (chz V N way num S T (S.length : Int)) V 0 = V ∧ v = some (.int (iI (S.length : Int))) ∧ u'.1 3 = 1 ∧ AB V N way num m S T u') ∨ (fw (chz V N way num S T (S.length : Int)) V 0 < V ∧ v = some (.int (iI ((S.length + 1 : Nat) : Int))) ∧ u'.1 3 = 0 ∧ AB V N way num m (S ++ [fw (chz V N way num S T (S.length : Int)) V 0]) T u')) := by
  obtain ⟨⟨hV, hN, hway, hnum, hm, hSl, hSV⟩, eV, eN, ew, en, ⟨eS, hS⟩, hT⟩ := id hA
  refine Ct.of (own := RX5) rfl (by decide +kernel) (Nat.le_of_ble_eq_true rfl) rfl (fun Γ h => ?_)
  refine w_aload_n h (pc := 0) dX5_runScript_0 rfl ?_
  refine g0_ledger h (pc := 1) wm_16 dX5_runScript_1 ?_
  refine g1_words h (pc := 4) eV wm_113 dX5_runScript_4 ?_
  refine w_if_eq h (pc := 7) (tgt := 20) dX5_runScript_7 (by decide) (by omega) (fun c7 => by exfalso; omega) (fun c7 => ?_)
  refine w_aload_n h (pc := 10) dX5_runScript_10 rfl ?_
  refine g0_script h (pc := 11) wm_28 dX5_runScript_11 ?_
  refine g4_size h (pc := 14) e11 wm_486 dX5_runScript_14 ?_
  refine w_if_ne h (pc := 17) (tgt := 30) dX5_runScript_17 (by decide) (by omega) (fun c17 => ?_) (fun c17 => by exfalso; omega)
  refine w_aload_n h (pc := 30) dX5_runScript_30 rfl ?_
  refine w_iconst h (pc := 31) dX5_runScript_31 ?_
  refine p0_ended h (pc := 32) (by omega) wm_36 dX5_runScript_32 ?_
  refine w_aload_n h (pc := 35) dX5_runScript_35 rfl ?_
  refine g0_script h (pc := 36) wm_28 dX5_runScript_36 ?_
  refine w_callV0 h (pc := 39) (mX2_forgetReturns l D κ a ε (uS u 3 0)) 4 rfl rfl (gdV wm_501 wm_502 wm_503 wm_27 wm_504) (by decide +kernel) ⟨(Nat.le_of_ble_eq_true rfl), (Nat.le_of_ble_eq_true rfl)⟩ ⟨(Nat.le_of_ble_eq_true rfl), (Nat.le_of_ble_eq_true rfl)⟩ (fun _ _ _ => ⟨rfl, rfl⟩) (Nat.le_of_ble_eq_true rfl) dX5_runScript_39 (fun v1 w hp1 => ?_)
  obtain ⟨rfl, hF1⟩ := hp1
  have hAw := (hA.of (Fr.S (ls := [3]) (gs := []) (v := 0) (by simp)) (by simp [tS]) (by simp [tG]) (by simp) (by simp)).of hF1 (by simp [tS]) (by simp [tG]) (by simp) (by simp)
  have e3w : w.1 3 = 0 := hF1.1 3 (by simp)
  have e11w : w.1 11 = 1 := (hF1.1 11 (by simp)).trans e11
  have eSw := hAw.2.2.2.2.2.1.1
  have e15w : w.2 15 0 = 3 := (congrFun (hF1.2 15 (by simp)) 0).trans e15
  have e16w : w.2 16 0 = 1 := (congrFun (hF1.2 16 (by simp)) 0).trans e16
  have elkw : w.1 1 = (lk9 : Int) := (hF1.1 1 (by simp)).trans elk
  have edrw : w.1 2 = (dr : Int) := (hF1.1 2 (by simp)).trans edr
  simp only [Option.toList_none, List.nil_append]
  refine w_iconst h (pc := 42) dX5_runScript_42 ?_
  refine w_istore_n h (pc := 43) dX5_runScript_43 (by decide) ?_
  refine w_iconst h (pc := 44) dX5_runScript_44 ?_
  refine w_istore_n h (pc := 45) dX5_runScript_45 (by decide) ?_
  refine w_iload_n h (pc := 46) dX5_runScript_46 rfl ?_
  refine w_ldc h (pc := 47) (z := 1000000) dX5_runScript_47 wm_345 (by decide) ?_
  refine w_icmp_ge h (pc := 49) (tgt := 138) dX5_runScript_49 (by decide) (by omega) (by omega) (fun c49 => by exfalso; omega) (fun c49 => ?_)
  refine w_iload_n h (pc := 52) dX5_runScript_52 rfl ?_
  refine w_aload_n h (pc := 53) dX5_runScript_53 rfl ?_
  refine g0_script h (pc := 54) wm_28 dX5_runScript_54 ?_
  refine g4_size h (pc := 57) (by first | exact e11w | exact e11x) wm_486 dX5_runScript_57 ?_
  refine w_icmp_ge h (pc := 60) (tgt := 138) dX5_runScript_60 (by decide) (by omega) (by omega) (fun c60 => by exfalso; omega) (fun c60 => ?_)
  refine w_aload_n h (pc := 63) dX5_runScript_63 rfl ?_
  refine g0_ended h (pc := 64) e3w wm_36 dX5_runScript_64 ?_
  refine w_if_ne h (pc := 67) (tgt := 138) dX5_runScript_67 (by decide) (by omega) (fun c67 => by exfalso; omega) (fun c67 => ?_)
  refine w_aload_n h (pc := 70) dX5_runScript_70 rfl ?_
  refine g0_length h (pc := 71) eSw wm_33 dX5_runScript_71 ?_
  refine w_bipush h (pc := 74) dX5_runScript_74 (by decide) ?_
  refine w_icmp_lt h (pc := 76) (tgt := 82) dX5_runScript_76 (by decide) (by omega) (by omega) (fun c76 => ?_) (fun c76 => by exfalso; omega)
  refine w_aload_n h (pc := 82) dX5_runScript_82 rfl ?_
  refine g0_script h (pc := 83) wm_28 dX5_runScript_83 ?_
  refine g4_codes h (pc := 86) wm_499 dX5_runScript_86 ?_
  refine w_iload_n h (pc := 89) dX5_runScript_89 rfl ?_
  refine ld_codes h (pc := 90) (by omega) e15w dX5_runScript_90 ?_
  refine w_iconst h (pc := 91) dX5_runScript_91 ?_
  refine w_icmp_ne h (pc := 92) (tgt := 107) dX5_runScript_92 (by decide) (by omega) (by omega) (fun c92 => ?_) (fun c92 => by exfalso; omega)
  refine w_aload_n h (pc := 107) dX5_runScript_107 rfl ?_
  refine w_aload_n h (pc := 108) dX5_runScript_108 rfl ?_
  refine g0_script h (pc := 109) wm_28 dX5_runScript_109 ?_
  refine g4_codes h (pc := 112) wm_499 dX5_runScript_112 ?_
  refine w_iload_n h (pc := 115) dX5_runScript_115 rfl ?_
  refine ld_codes h (pc := 116) (by omega) e15w dX5_runScript_116 ?_
  refine w_aload_n h (pc := 117) dX5_runScript_117 rfl ?_
  refine g0_script h (pc := 118) wm_28 dX5_runScript_118 ?_
  refine g4_numbers h (pc := 121) wm_500 dX5_runScript_121 ?_
  refine w_iload_n h (pc := 124) dX5_runScript_124 rfl ?_
  refine ld_numbers h (pc := 125) (by omega) e16w dX5_runScript_125 ?_
  refine w_callV2 h (pc := 126) (mX5_takeByStep l D κ a ε V N way num m S T w hAw lk9 dr 0 hlk elkw edrw e3w hl9) 0 rfl rfl (gdV wm_510 wm_511 wm_512 wm_2 wm_513) (by decide +kernel) ⟨(Nat.le_of_ble_eq_true rfl), (Nat.le_of_ble_eq_true rfl)⟩ ⟨(Nat.le_of_ble_eq_true rfl), (Nat.le_of_ble_eq_true rfl)⟩ (fun _ _ _ => ⟨rfl, rfl⟩) (Nat.le_of_ble_eq_true rfl) dX5_runScript_126 (fun v2 u2 hp2 => ?_)
  obtain ⟨rfl, hk2, hres⟩ := hp2
  have e11x : u2.1 11 = 1 := (hk2 11 (by omega)).trans e11w
  obtain ⟨L9, hL9, hLc⟩ : ∃ L9 : Nat, u2.1 0 = (L9 : Int) ∧ ((fw (chz V N way num S T (S.length : Int)) V 0 = V ∧ L9 = S.length) ∨ (fw (chz V N way num S T (S.length : Int)) V 0 < V ∧ L9 = S.length + 1)) := by
    rcases hres with ⟨q, -, h9⟩ | ⟨q, -, h9⟩
    · exact ⟨_, h9.2.2.2.2.2.1.1, Or.inl ⟨q, rfl⟩⟩
    · exact ⟨_, h9.2.2.2.2.2.1.1, Or.inr ⟨q, by rw [List.length_append]; rfl⟩⟩
  simp only [Option.toList_none, List.nil_append]
  refine w_iinc h (pc := 129) dX5_runScript_129 rfl (by decide) ?_
  refine w_iinc h (pc := 132) dX5_runScript_132 rfl (by decide) ?_
  refine w_goto h (pc := 135) (tgt := 46) dX5_runScript_135 (by decide) ?_
  refine w_iload_n h (pc := 46) dX5_runScript_46 rfl ?_
  refine w_ldc h (pc := 47) (z := 1000000) dX5_runScript_47 wm_345 (by decide) ?_
  refine w_icmp_ge h (pc := 49) (tgt := 138) dX5_runScript_49 (by decide) (by omega) (by omega) (fun c49 => by exfalso; omega) (fun c49 => ?_)
  refine w_iload_n h (pc := 52) dX5_runScript_52 rfl ?_
  refine w_aload_n h (pc := 53) dX5_runScript_53 rfl ?_
  refine g0_script h (pc := 54) wm_28 dX5_runScript_54 ?_
  refine g4_size h (pc := 57) (by first | exact e11w | exact e11x) wm_486 dX5_runScript_57 ?_
  refine w_icmp_ge h (pc := 60) (tgt := 138) dX5_runScript_60 (by decide) (by omega) (by omega) (fun c60 => ?_) (fun c60 => by exfalso; omega)
  refine w_aload_n h (pc := 138) dX5_runScript_138 rfl ?_
  refine g0_length h (pc := 139) hL9 wm_33 dX5_runScript_139 ?_
  rcases hres with ⟨q, r3, h9⟩ | ⟨q, r3, h9⟩
  · obtain rfl : L9 = S.length := by omega
    exact w_iret h (pc := 142) (ty := .int) rfl rfl dX5_runScript_142 (Nat.le_of_ble_eq_true rfl) (Nat.le_of_ble_eq_true rfl) (Or.inl ⟨q, rfl, r3, h9⟩)
  · obtain rfl : L9 = S.length + 1 := by omega
    exact w_iret h (pc := 142) (ty := .int) rfl rfl dX5_runScript_142 (Nat.le_of_ble_eq_true rfl) (Nat.le_of_ble_eq_true rfl) (Or.inr ⟨q, rfl, r3, h9⟩)
