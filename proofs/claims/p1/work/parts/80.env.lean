set_option maxRecDepth 20000 in
theorem ggL_law_X5_init : GoodIn wsL_law wsX5_init := goodIn_r _ [9, 10, 11, 12, 13, 14, 15, 16, 17, 18, 19, 20, 21, 22, 23, 24, 25, 26, 27, 28, 29, 30, 31, 32, 33, 34, 35, 36, 37, 38, 39, 40, 41, 42, 43, 44, 45, 46, 47, 48, 49, 50, 51, 52, 53, 54, 55, 56, 57, 58, 59, 60, 61, 62, 63, 64, 65, 66, 67, 68, 69, 70, 71, 72, 73, 74, 75, 76, 77, 78, 79, 80, 81, 82, 1017, 1018, 1019, 1020, 996, 997, 998, 999, 1000, 1001, 1002, 1003, 1004, 1005, 1021, 1022, 1023, 1024, 1025, 1026, 1027, 1028, 1029, 1030, 1031, 1032, 1033, 1034, 1035, 1036, 1037, 1038, 1039, 1040] (by decide +kernel) (by decide +kernel)
set_option maxRecDepth 20000 in
theorem ggL_law_X6_init : GoodIn wsL_law wsX6_init := goodIn_r _ [85, 86, 11, 12, 87, 88, 89, 90, 91, 92, 93, 94, 95, 96, 97, 98, 99, 100, 101, 102, 103, 104, 105, 106, 107, 108, 109, 110, 111, 5, 112, 113, 31, 1006, 1007, 1008, 1009, 1010, 1011, 1012, 1013, 1014, 1015, 1016, 1041, 1042, 1043] (by decide +kernel) (by decide +kernel)
theorem tw0 : (.instantiable RJ6 1 : Cond) ∈ lw_tbl := by decide +kernel
theorem tw1 : (.instantiable RJx4a65c 3 : Cond) ∈ lw_tbl := by decide +kernel
theorem tw2 : (.instantiable RX0 4 : Cond) ∈ lw_tbl := by decide +kernel
theorem tw3 : (.instantiable RX1 7 : Cond) ∈ lw_tbl := by decide +kernel
theorem tw4 : (.instantiable RX2 4 : Cond) ∈ lw_tbl := by decide +kernel
theorem tw5 : (.instantiable RX3 6 : Cond) ∈ lw_tbl := by decide +kernel
theorem tw6 : (.instantiable RX4 3 : Cond) ∈ lw_tbl := by decide +kernel
theorem tw7 : (.instantiable RX5 10 : Cond) ∈ lw_tbl := by decide +kernel
theorem tw8 : (.instantiable RX6 11 : Cond) ∈ lw_tbl := by decide +kernel
theorem tw9 : (.arrayClass .int : Cond) ∈ lw_tbl := by decide +kernel
theorem tw10 : (.arrayClass .boolean : Cond) ∈ lw_tbl := by decide +kernel
theorem tw11 : (.arrayClass .long : Cond) ∈ lw_tbl := by decide +kernel
theorem tw12 : (.arrayOver (.object "Canticle$Tally") : Cond) ∈ lw_tbl := by decide +kernel
theorem tw13 : (.arrayOver (.array .int) : Cond) ∈ lw_tbl := by decide +kernel
theorem tw14 : (.arrayOver (.object "java/lang/Object") : Cond) ∈ lw_tbl := by decide +kernel
theorem gw0 : (.arrayOf (.static "Canticle" "POWERS" "[I") .int : Cond) ∈ flatC (Jvm.Cond.and given_1 narrow_1) := by decide +kernel
theorem gw1 : (.eq (.length (.static "Canticle" "POWERS" "[I")) (.int 5) : Cond) ∈ flatC (Jvm.Cond.and given_1 narrow_1) := by decide +kernel
theorem gw2 : (.eq (.elem (.static "Canticle" "POWERS" "[I") (.int 0)) (.int 1) : Cond) ∈ flatC (Jvm.Cond.and given_1 narrow_1) := by decide +kernel
theorem gw3 : (.eq (.elem (.static "Canticle" "POWERS" "[I") (.int 1)) (.int 14) : Cond) ∈ flatC (Jvm.Cond.and given_1 narrow_1) := by decide +kernel
theorem gw4 : (.eq (.elem (.static "Canticle" "POWERS" "[I") (.int 2)) (.int 196) : Cond) ∈ flatC (Jvm.Cond.and given_1 narrow_1) := by decide +kernel
theorem gw5 : (.eq (.elem (.static "Canticle" "POWERS" "[I") (.int 3)) (.int 2744) : Cond) ∈ flatC (Jvm.Cond.and given_1 narrow_1) := by decide +kernel
theorem gw6 : (.eq (.elem (.static "Canticle" "POWERS" "[I") (.int 4)) (.int 38416) : Cond) ∈ flatC (Jvm.Cond.and given_1 narrow_1) := by decide +kernel
theorem gw7 : (.arrayOf (.static "java/util/ArrayList" "DEFAULTCAPACITY_EMPTY_ELEMENTDATA" "[Ljava/lang/Object;") (.object "java/lang/Object") : Cond) ∈ flatC (Jvm.Cond.and given_1 narrow_1) := by decide +kernel
theorem gw8 : (.eq (.length (.static "java/util/ArrayList" "DEFAULTCAPACITY_EMPTY_ELEMENTDATA" "[Ljava/lang/Object;")) (.int 0) : Cond) ∈ flatC (Jvm.Cond.and given_1 narrow_1) := by decide +kernel
theorem gw9 : (.exactly (.string "Canticle" 70) "java/lang/String" : Cond) ∈ flatC (Jvm.Cond.and given_1 narrow_1) := by decide +kernel
theorem gw10 : (.exactly (.string "Canticle" 80) "java/lang/String" : Cond) ∈ flatC (Jvm.Cond.and given_1 narrow_1) := by decide +kernel
theorem gw11 : (.exactly (.string "Canticle" 92) "java/lang/String" : Cond) ∈ flatC (Jvm.Cond.and given_1 narrow_1) := by decide +kernel
theorem gw12 : (.exactly (.string "Canticle" 95) "java/lang/String" : Cond) ∈ flatC (Jvm.Cond.and given_1 narrow_1) := by decide +kernel
theorem gw13 : (.exactly (.string "Canticle" 101) "java/lang/String" : Cond) ∈ flatC (Jvm.Cond.and given_1 narrow_1) := by decide +kernel
theorem gw14 : (.exactly (.string "Canticle" 103) "java/lang/String" : Cond) ∈ flatC (Jvm.Cond.and given_1 narrow_1) := by decide +kernel
theorem gw15 : (.exactly (.string "Canticle" 116) "java/lang/String" : Cond) ∈ flatC (Jvm.Cond.and given_1 narrow_1) := by decide +kernel
theorem gw16 : (.exactly (.string "Canticle" 122) "java/lang/String" : Cond) ∈ flatC (Jvm.Cond.and given_1 narrow_1) := by decide +kernel
theorem gw17 : (.exactly (.string "Canticle" 124) "java/lang/String" : Cond) ∈ flatC (Jvm.Cond.and given_1 narrow_1) := by decide +kernel
theorem gw18 : (.exactly (.string "Canticle" 129) "java/lang/String" : Cond) ∈ flatC (Jvm.Cond.and given_1 narrow_1) := by decide +kernel
theorem gw19 : (.exactly (.string "Canticle" 138) "java/lang/String" : Cond) ∈ flatC (Jvm.Cond.and given_1 narrow_1) := by decide +kernel
theorem gw20 : (.exactly (.string "Canticle" 147) "java/lang/String" : Cond) ∈ flatC (Jvm.Cond.and given_1 narrow_1) := by decide +kernel
theorem gw21 : (.exactly (.string "Canticle" 152) "java/lang/String" : Cond) ∈ flatC (Jvm.Cond.and given_1 narrow_1) := by decide +kernel
theorem gw22 : (.exactly (.string "Canticle" 158) "java/lang/String" : Cond) ∈ flatC (Jvm.Cond.and given_1 narrow_1) := by decide +kernel
theorem gw23 : (.exactly (.string "Canticle" 164) "java/lang/String" : Cond) ∈ flatC (Jvm.Cond.and given_1 narrow_1) := by decide +kernel
theorem gw24 : (.exactly (.string "Canticle" 173) "java/lang/String" : Cond) ∈ flatC (Jvm.Cond.and given_1 narrow_1) := by decide +kernel
theorem gw25 : (.exactly (.string "Canticle" 181) "java/lang/String" : Cond) ∈ flatC (Jvm.Cond.and given_1 narrow_1) := by decide +kernel
theorem gw26 : (.exactly (.string "Canticle" 189) "java/lang/String" : Cond) ∈ flatC (Jvm.Cond.and given_1 narrow_1) := by decide +kernel
theorem gw27 : (.exactly (.string "Canticle" 200) "java/lang/String" : Cond) ∈ flatC (Jvm.Cond.and given_1 narrow_1) := by decide +kernel
theorem gw28 : (.exactly (.string "Canticle" 215) "java/lang/String" : Cond) ∈ flatC (Jvm.Cond.and given_1 narrow_1) := by decide +kernel
theorem gw29 : (.exactly (.string "Canticle" 220) "java/lang/String" : Cond) ∈ flatC (Jvm.Cond.and given_1 narrow_1) := by decide +kernel
theorem gw30 : (.exactly (.string "Canticle" 223) "java/lang/String" : Cond) ∈ flatC (Jvm.Cond.and given_1 narrow_1) := by decide +kernel
theorem gw31 : (.exactly (.string "Canticle" 227) "java/lang/String" : Cond) ∈ flatC (Jvm.Cond.and given_1 narrow_1) := by decide +kernel
theorem tw15 : (.declares (Bundle.initS "java/lang/RuntimeException") : Cond) ∈ lw_tbl := by decide +kernel
theorem tw16 : (.declares (Bundle.initS "java/lang/Exception") : Cond) ∈ lw_tbl := by decide +kernel
theorem tw17 : (.declares (Bundle.initS "java/lang/Throwable") : Cond) ∈ lw_tbl := by decide +kernel
theorem tw18 : (.laysStatic Bundle.tN "UNASSIGNED_STACK" Bundle.steD : Cond) ∈ lw_tbl := by decide +kernel
theorem tw19 : (.initialized "java/lang/Throwable" : Cond) ∈ lw_tbl := by decide +kernel
theorem gw32 : (.isRef (.static Bundle.tN "UNASSIGNED_STACK" Bundle.steD) : Cond) ∈ flatC (Jvm.Cond.and given_1 narrow_1) := by decide +kernel
theorem tw20 : (.laysStatic Bundle.tN "SUPPRESSED_SENTINEL" Bundle.listD : Cond) ∈ lw_tbl := by decide +kernel
theorem gw33 : (.isRef (.static Bundle.tN "SUPPRESSED_SENTINEL" Bundle.listD) : Cond) ∈ flatC (Jvm.Cond.and given_1 narrow_1) := by decide +kernel
theorem tw21 : (.laysStatic "Canticle" "POWERS" "[I" : Cond) ∈ lw_tbl := by decide +kernel
theorem tw22 : (.initialized "Canticle" : Cond) ∈ lw_tbl := by decide +kernel
theorem tw23 : (.laysStatic "java/util/ArrayList" "DEFAULTCAPACITY_EMPTY_ELEMENTDATA" "[Ljava/lang/Object;" : Cond) ∈ lw_tbl := by decide +kernel
theorem tw24 : (.initialized "java/util/ArrayList" : Cond) ∈ lw_tbl := by decide +kernel
theorem tw25 : (.fieldLinkNest "Canticle$Reckoner" 48 "Canticle" "POWERS" "[I" "Canticle" : Cond) ∈ lw_tbl := by decide +kernel
theorem tw26 : (.fieldLinkNest "Canticle$Ledger" 48 "Canticle" "POWERS" "[I" "Canticle" : Cond) ∈ lw_tbl := by decide +kernel
theorem tw27 : (.fieldLinkNest "Canticle$Search" 67 "Canticle" "POWERS" "[I" "Canticle" : Cond) ∈ lw_tbl := by decide +kernel
theorem tw28 : (.castable "java/lang/IllegalStateException" "java/lang/IllegalStateException" : Cond) ∈ lw_tbl := by decide +kernel
theorem tw29 : (.castable "java/lang/IllegalArgumentException" "java/lang/IllegalArgumentException" : Cond) ∈ lw_tbl := by decide +kernel
theorem tw30 : (.castable "java/lang/IndexOutOfBoundsException" "java/lang/IndexOutOfBoundsException" : Cond) ∈ lw_tbl := by decide +kernel
theorem tw31 : (.castable "[I" "java/lang/Cloneable" : Cond) ∈ lw_tbl := by decide +kernel
theorem tw32 : (.methodLinkNest RX5 36 yX2_init "Canticle" : Cond) ∈ lw_tbl := by decide +kernel
theorem tw33 : (.methodLinkNest RX0 27 yX4_init "Canticle" : Cond) ∈ lw_tbl := by decide +kernel
theorem tw34 : (.methodLinkNest RX3 81 yX5_cost "Canticle" : Cond) ∈ lw_tbl := by decide +kernel
theorem tw35 : (.castable "[I" "java/lang/Object" : Cond) ∈ lw_tbl := by decide +kernel
theorem gw34 : (.not (.castable "java/lang/IllegalStateException" "java/lang/IllegalArgumentException") : Cond) ∈ flatC (Jvm.Cond.and given_1 narrow_1) := by decide +kernel
theorem gw35 : (.not (.castable "java/lang/IndexOutOfBoundsException" "java/lang/IllegalArgumentException") : Cond) ∈ flatC (Jvm.Cond.and given_1 narrow_1) := by decide +kernel
theorem gw36 : (.not (.castable "java/lang/IllegalStateException" "java/lang/IndexOutOfBoundsException") : Cond) ∈ flatC (Jvm.Cond.and given_1 narrow_1) := by decide +kernel
theorem tw36 : (.stringRef "Canticle" 70 "there are 12 WORDS" : Cond) ∈ lw_tbl := by decide +kernel
theorem tw37 : (.stringRef "Canticle" 80 "the order is not 1 to 4" : Cond) ∈ lw_tbl := by decide +kernel
theorem tw38 : (.stringRef "Canticle" 92 "there is no such WORD" : Cond) ∈ lw_tbl := by decide +kernel
theorem tw39 : (.stringRef "Canticle" 95 "the SENTENCE has 12 WORDS" : Cond) ∈ lw_tbl := by decide +kernel
theorem tw40 : (.stringRef "Canticle" 101 "times is not 1 to 100" : Cond) ∈ lw_tbl := by decide +kernel
theorem tw41 : (.stringRef "Canticle" 103 "there is no WORD" : Cond) ∈ lw_tbl := by decide +kernel
theorem tw42 : (.stringRef "Canticle" 116 "there would be more than 800 ENTRIES" : Cond) ∈ lw_tbl := by decide +kernel
theorem tw43 : (.stringRef "Canticle" 122 "an ENTRY has less than would be taken" : Cond) ∈ lw_tbl := by decide +kernel
theorem tw44 : (.stringRef "Canticle" 124 "there is no such place" : Cond) ∈ lw_tbl := by decide +kernel
theorem tw45 : (.stringRef "Canticle" 129 "the order is not 1 to the ORDER" : Cond) ∈ lw_tbl := by decide +kernel
theorem tw46 : (.stringRef "Canticle" 138 "there is no such ENTRY, or place" : Cond) ∈ lw_tbl := by decide +kernel
theorem tw47 : (.stringRef "Canticle" 147 "there is no such ENTRY" : Cond) ∈ lw_tbl := by decide +kernel
theorem tw48 : (.stringRef "Canticle" 152 "the order is not 1 to the ORDER, or what not 0 or 1" : Cond) ∈ lw_tbl := by decide +kernel
theorem tw49 : (.stringRef "Canticle" 158 "the order is not 2 to the ORDER, or least not 1 to 1000" : Cond) ∈ lw_tbl := by decide +kernel
theorem tw50 : (.stringRef "Canticle" 164 "the order is not 2 to the ORDER, or parts not 1 to UNIT" : Cond) ∈ lw_tbl := by decide +kernel
theorem tw51 : (.stringRef "Canticle" 173 "the way is not 0 to 4, or the number not 1 to 1000" : Cond) ∈ lw_tbl := by decide +kernel
theorem tw52 : (.stringRef "Canticle" 181 "there is no such WORD, and it is not V" : Cond) ∈ lw_tbl := by decide +kernel
theorem tw53 : (.stringRef "Canticle" 189 "there is no such rank" : Cond) ∈ lw_tbl := by decide +kernel
theorem tw54 : (.stringRef "Canticle" 200 "the length is below the SENTENCE's, or above 12" : Cond) ∈ lw_tbl := by decide +kernel
theorem tw55 : (.stringRef "Canticle" 215 "the luck is not 0 to 9999" : Cond) ∈ lw_tbl := by decide +kernel
theorem tw56 : (.stringRef "Canticle" 220 "there is no such code, or a does not fit it" : Cond) ∈ lw_tbl := by decide +kernel
theorem tw57 : (.stringRef "Canticle" 223 "there are 12 STEPS" : Cond) ∈ lw_tbl := by decide +kernel
theorem tw58 : (.stringRef "Canticle" 227 "there is no WORD, or no STEP" : Cond) ∈ lw_tbl := by decide +kernel
set_option maxHeartbeats 4000000 in
set_option maxRecDepth 100000 in
theorem start_env {p : Program} {s : State} {m : MethodId} {meth : Method} {c : Code} {b L : Nat} {xs : Nat → Int32} (C0 : lw_At p s m meth c b L xs) : ∃ (D : va_G) (κ ε : Nat → Nat), va_K D vwCl (tys κ) s ∧ En2 ε (fun q : Nat => s.heap.size ≤ q) s s.heap := by
  obtain ⟨hx, hb, hr, hml, hown0, hts0, hX, hbl, hlocks, hgv⟩ := C0
  have hfl := flat_of_before _ hgv
  have hA : ∀ a : Nat, a < s.heap.size → ¬ (fun q : Nat => s.heap.size ≤ q) a := fun a h => Nat.not_le.mpr h
  obtain ⟨c0, i0, hKn0⟩ := u_known (C := RJ6) (T := TJ6) (N := 1) (n := 1) hts0 wl_wsJ60 (hts0 _ tw0)
  obtain ⟨c1, i1, hKn1⟩ := u_known (C := RJx4a65c) (T := TJx4a65c) (N := 3) (n := 3) hts0 wl_wsJx4a65c0 (hts0 _ tw1)
  obtain ⟨c2, i2, hKn2⟩ := u_known (C := RX0) (T := TX0) (N := 4) (n := 4) hts0 wl_wsX00 (hts0 _ tw2)
  obtain ⟨c3, i3, hKn3⟩ := u_known (C := RX1) (T := TX1) (N := 7) (n := 7) hts0 wl_wsX10 (hts0 _ tw3)
  obtain ⟨c4, i4, hKn4⟩ := u_known (C := RX2) (T := TX2) (N := 4) (n := 4) hts0 wl_wsX20 (hts0 _ tw4)
  obtain ⟨c5, i5, hKn5⟩ := u_known (C := RX3) (T := TX3) (N := 6) (n := 6) hts0 wl_wsX30 (hts0 _ tw5)
  obtain ⟨c6, i6, hKn6⟩ := u_known (C := RX4) (T := TX4) (N := 3) (n := 3) hts0 wl_wsX40 (hts0 _ tw6)
  obtain ⟨c7, i7, hKn7⟩ := u_known (C := RX5) (T := TX5) (N := 10) (n := 10) hts0 wl_wsX50 (hts0 _ tw7)
  obtain ⟨c8, i8, hKn8⟩ := u_known (C := RX6) (T := TX6) (N := 11) (n := 11) hts0 wl_wsX60 (hts0 _ tw8)
  obtain ⟨a0, k0, m0, fa0, fk0, fm0⟩ := Cond.arrayClass_spec (hts0 _ tw9)
  obtain ⟨a1, k1, m1, fa1, fk1, fm1⟩ := Cond.arrayClass_spec (hts0 _ tw10)
  obtain ⟨a2, k2, m2, fa2, fk2, fm2⟩ := Cond.arrayClass_spec (hts0 _ tw11)
  obtain ⟨m3, a3, k3, fn3, -, fk3, fm3, fa3⟩ := Cond.arrayOver_spec (hts0 _ tw12)
  obtain ⟨m4, a4, k4, fn4, -, fk4, fm4, fa4⟩ := arrayOverA_spec (hts0 _ tw13)
  obtain ⟨m5, a5, k5, fn5, -, fk5, fm5, fa5⟩ := Cond.arrayOver_spec (hts0 _ tw14)
  obtain ⟨tp, hv0, hT0⟩ := va_Tof (tm := (.static "Canticle" "POWERS" "[I")) (ty := .int) (N := 5) (f := fun j => .int (pw j)) (A := (fun q : Nat => s.heap.size ≤ q)) (by decide) (hfl _ gw0) (va_eqt (hfl _ gw1)) (fun j hj => by
    rcases (show j = 0 ∨ j = 1 ∨ j = 2 ∨ j = 3 ∨ j = 4 by omega) with rfl | rfl | rfl | rfl | rfl
    · exact va_eqt (hfl _ gw2)
    · exact va_eqt (hfl _ gw3)
    · exact va_eqt (hfl _ gw4)
    · exact va_eqt (hfl _ gw5)
    · exact va_eqt (hfl _ gw6)) hA
  obtain ⟨td, hv1, hT1⟩ := va_Tof (tm := (.static "java/util/ArrayList" "DEFAULTCAPACITY_EMPTY_ELEMENTDATA" "[Ljava/lang/Object;")) (ty := .object "java/lang/Object") (N := 0) (f := fun _ => .null) (A := (fun q : Nat => s.heap.size ≤ q)) (by decide) (hfl _ gw7) (va_eqt (hfl _ gw8)) (fun j hj => absurd hj (Nat.not_lt_zero j)) hA
  obtain ⟨s10, -, -, -, hs10, -⟩ := Cond.exactly_spec (hfl _ gw9)
  obtain ⟨s11, -, -, -, hs11, -⟩ := Cond.exactly_spec (hfl _ gw10)
  obtain ⟨s12, -, -, -, hs12, -⟩ := Cond.exactly_spec (hfl _ gw11)
  obtain ⟨s13, -, -, -, hs13, -⟩ := Cond.exactly_spec (hfl _ gw12)
  obtain ⟨s14, -, -, -, hs14, -⟩ := Cond.exactly_spec (hfl _ gw13)
  obtain ⟨s15, -, -, -, hs15, -⟩ := Cond.exactly_spec (hfl _ gw14)
  obtain ⟨s16, -, -, -, hs16, -⟩ := Cond.exactly_spec (hfl _ gw15)
  obtain ⟨s17, -, -, -, hs17, -⟩ := Cond.exactly_spec (hfl _ gw16)
  obtain ⟨s18, -, -, -, hs18, -⟩ := Cond.exactly_spec (hfl _ gw17)
  obtain ⟨s19, -, -, -, hs19, -⟩ := Cond.exactly_spec (hfl _ gw18)
  obtain ⟨s20, -, -, -, hs20, -⟩ := Cond.exactly_spec (hfl _ gw19)
  obtain ⟨s21, -, -, -, hs21, -⟩ := Cond.exactly_spec (hfl _ gw20)
  obtain ⟨s22, -, -, -, hs22, -⟩ := Cond.exactly_spec (hfl _ gw21)
  obtain ⟨s23, -, -, -, hs23, -⟩ := Cond.exactly_spec (hfl _ gw22)
  obtain ⟨s24, -, -, -, hs24, -⟩ := Cond.exactly_spec (hfl _ gw23)
  obtain ⟨s25, -, -, -, hs25, -⟩ := Cond.exactly_spec (hfl _ gw24)
  obtain ⟨s26, -, -, -, hs26, -⟩ := Cond.exactly_spec (hfl _ gw25)
  obtain ⟨s27, -, -, -, hs27, -⟩ := Cond.exactly_spec (hfl _ gw26)
  obtain ⟨s28, -, -, -, hs28, -⟩ := Cond.exactly_spec (hfl _ gw27)
  obtain ⟨s29, -, -, -, hs29, -⟩ := Cond.exactly_spec (hfl _ gw28)
  obtain ⟨s30, -, -, -, hs30, -⟩ := Cond.exactly_spec (hfl _ gw29)
  obtain ⟨s31, -, -, -, hs31, -⟩ := Cond.exactly_spec (hfl _ gw30)
  obtain ⟨s32, -, -, -, hs32, -⟩ := Cond.exactly_spec (hfl _ gw31)
  refine ⟨(fun k => [c0, c1, c2, c3, c4, c5, c6, c7, c8].getD k 0, fun k => [i0, i1, i2, i3, i4, i5, i6, i7, i8].getD k (fun _ => 0)), (fun k => [a0, a1, a2, a3, a4, a5].getD k 0), (fun k => [tp, td, 0, 0, 0, 0, 0, 0, 0, 0, s10, s11, s12, s13, s14, s15, s16, s17, s18, s19, s20, s21, s22, s23, s24, s25, s26, s27, s28, s29, s30, s31, s32].getD k 0), ⟨?_, ?_⟩, ?_⟩
  · intro k q hq
    match k, hq with
    | 0, hq => cases hq; exact hKn0
    | 1, hq => cases hq; exact hKn1
    | 2, hq => cases hq; exact hKn2
    | 3, hq => cases hq; exact hKn3
    | 4, hq => cases hq; exact hKn4
    | 5, hq => cases hq; exact hKn5
    | 6, hq => cases hq; exact hKn6
    | 7, hq => cases hq; exact hKn7
    | 8, hq => cases hq; exact hKn8
    | k + 9, hq => simp [vwCl] at hq
  · intro k q hq
    match k, hq with
    | 0, hq => cases hq; exact ⟨fun N z => ⟨(fun q hq => by cases hq), k0, fk0, m0, fm0⟩, fa0⟩
    | 1, hq => cases hq; exact ⟨fun N z => ⟨(fun q hq => by cases hq), k1, fk1, m1, fm1⟩, fa1⟩
    | 2, hq => cases hq; exact ⟨fun N z => ⟨(fun q hq => by cases hq), k2, fk2, m2, fm2⟩, fa2⟩
    | 3, hq => cases hq; exact ⟨fun N z => ⟨(fun q hq => by cases hq), k3, fk3, m3, fm3⟩, k3, m3, fk3, fm3, fn3, fa3⟩
    | 4, hq => cases hq; exact ⟨fun N z => ⟨(fun q hq => by cases hq), k4, fk4, m4, fm4⟩, fa4⟩
    | 5, hq => cases hq; exact ⟨fun N z => ⟨(fun q hq => by cases hq), k5, fk5, m5, fm5⟩, k5, m5, fk5, fm5, fn5, fa5⟩
    | k + 6, hq => simp at hq
  · refine ⟨?_, va_Nw.of rfl (hts0 _ tw15), va_Nw.of rfl (hts0 _ tw16), va_Nw.of rfl (hts0 _ tw17)⟩
    refine ⟨vx_Zqof (hts0 _ tw18) (hts0 _ tw19) (hfl _ gw32) hA, vx_Zqof (hts0 _ tw20) (hts0 _ tw19) (hfl _ gw33) hA, va_Zof (hts0 _ tw21) (hts0 _ tw22) hv0 hA, hT0, va_Zof (hts0 _ tw23) (hts0 _ tw24) hv1 hA, hT1, ?_⟩
    refine ⟨?_, va_Nw.of rfl (hts0 _ tw25), va_Nw.of rfl (hts0 _ tw26), va_Nw.of rfl (hts0 _ tw27), va_AO.of (hts0 _ tw12), va_AO.of (hts0 _ tw14), va_AOA.of (hts0 _ tw13), va_Nw.of rfl (hts0 _ tw28), va_Nw.of rfl (hts0 _ tw29), va_Nw.of rfl (hts0 _ tw30), va_Nw.of rfl (hts0 _ tw31), va_Nw.of rfl (hts0 _ tw32), va_Nw.of rfl (hts0 _ tw33), va_Nw.of rfl (hts0 _ tw34), va_Nw.of rfl (hts0 _ tw35), va_Nc.of (hfl _ gw34), va_Nc.of (hfl _ gw35), va_Nc.of (hfl _ gw36)⟩
    simp only [stL, List.forall_mem_cons]
    exact ⟨vk_R.of (hts0 _ tw36) hs10, vk_R.of (hts0 _ tw37) hs11, vk_R.of (hts0 _ tw38) hs12, vk_R.of (hts0 _ tw39) hs13, vk_R.of (hts0 _ tw40) hs14, vk_R.of (hts0 _ tw41) hs15, vk_R.of (hts0 _ tw42) hs16, vk_R.of (hts0 _ tw43) hs17, vk_R.of (hts0 _ tw44) hs18, vk_R.of (hts0 _ tw45) hs19, vk_R.of (hts0 _ tw46) hs20, vk_R.of (hts0 _ tw47) hs21, vk_R.of (hts0 _ tw48) hs22, vk_R.of (hts0 _ tw49) hs23, vk_R.of (hts0 _ tw50) hs24, vk_R.of (hts0 _ tw51) hs25, vk_R.of (hts0 _ tw52) hs26, vk_R.of (hts0 _ tw53) hs27, vk_R.of (hts0 _ tw54) hs28, vk_R.of (hts0 _ tw55) hs29, vk_R.of (hts0 _ tw56) hs30, vk_R.of (hts0 _ tw57) hs31, vk_R.of (hts0 _ tw58) hs32, fun _ h => absurd h List.not_mem_nil⟩
