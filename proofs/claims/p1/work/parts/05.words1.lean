set_option maxRecDepth 20000 in
theorem ggX0_init_X4_init : GoodIn wsX0_init wsX4_init := goodIn_r _ [12, 13, 2, 3, 14, 15, 16, 17, 22, 23, 24] (by decide +kernel) (by decide +kernel)
set_option maxRecDepth 20000 in
theorem gX0_init_X4_init_n27 : GoodIn wsX0_init (wsX4_init) := ggX0_init_X4_init
set_option maxRecDepth 20000 in
theorem ggX0_forgetAll_X0_countsOf : GoodIn wsX0_forgetAll wsX0_countsOf := goodIn_r _ [6, 7, 8, 9, 10, 11, 12, 13, 14, 23, 24, 25, 26] (by decide +kernel) (by decide +kernel)
set_option maxRecDepth 20000 in
theorem gX0_forgetAll_X0_countsOf : GoodIn wsX0_forgetAll (wsV RX0 37 RX0 yX0_countsOf wsX0_countsOf) := goodIn_app (goodIn_of _ (by decide +kernel)) ggX0_forgetAll_X0_countsOf
set_option maxRecDepth 20000 in
theorem ggX0_forgetAll_X0_varietyOf : GoodIn wsX0_forgetAll wsX0_varietyOf := goodIn_r _ [18, 19, 8, 9, 10, 11, 12, 13, 14, 23, 24, 25, 26] (by decide +kernel) (by decide +kernel)
set_option maxRecDepth 20000 in
theorem gX0_forgetAll_X0_varietyOf : GoodIn wsX0_forgetAll (wsV RX0 45 RX0 yX0_varietyOf wsX0_varietyOf) := goodIn_app (goodIn_of _ (by decide +kernel)) ggX0_forgetAll_X0_varietyOf
set_option maxRecDepth 20000 in
theorem ggX1_reckon_J7_fill_53178 : GoodIn wsX1_reckon wsJ7_fill_53178 := goodIn_r _ [9] (by decide +kernel) (by decide +kernel)
set_option maxRecDepth 20000 in
theorem gX1_reckon_J7_fill_53178 : GoodIn wsX1_reckon (va_wsS RX1 42 yJ7_fill_53178 wsJ7_fill_53178) := goodIn_app (goodIn_of _ (by decide +kernel)) ggX1_reckon_J7_fill_53178
set_option maxRecDepth 20000 in
theorem ggX1_reckon_X1_refine : GoodIn wsX1_reckon wsX1_refine := goodIn_r _ [14, 5, 3, 15, 16, 4, 1, 17, 18, 19, 20, 21, 22, 23, 24, 25, 26, 27, 28, 29, 30, 31, 32, 33, 34, 35, 36, 37, 38, 13, 39, 40, 41, 42, 43, 6, 7, 8, 9, 44, 45, 46, 47, 48, 49, 50, 51, 52, 53, 54, 55, 56, 57, 58, 59, 60, 61, 62, 63, 64, 65, 66, 67, 68, 69, 70, 71, 72, 73, 74] (by decide +kernel) (by decide +kernel)
set_option maxRecDepth 20000 in
theorem gX1_reckon_X1_refine : GoodIn wsX1_reckon (wsV RX1 51 RX1 yX1_refine wsX1_refine) := goodIn_app (goodIn_of _ (by decide +kernel)) ggX1_reckon_X1_refine
set_option maxRecDepth 20000 in
theorem ggX1_refine_X0_varietyOf : GoodIn wsX1_refine wsX0_varietyOf := goodIn_r _ [12, 13, 14, 15, 16, 17, 18, 19, 20, 63, 64, 65, 66] (by decide +kernel) (by decide +kernel)
set_option maxRecDepth 20000 in
theorem gX1_refine_X0_varietyOf : GoodIn wsX1_refine (wsV RX1 58 RX0 yX0_varietyOf wsX0_varietyOf) := goodIn_app (goodIn_of _ (by decide +kernel)) ggX1_refine_X0_varietyOf
set_option maxRecDepth 20000 in
theorem ggX1_refine_X0_countsOf : GoodIn wsX1_refine wsX0_countsOf := goodIn_r _ [24, 25, 14, 15, 16, 17, 18, 19, 20, 63, 64, 65, 66] (by decide +kernel) (by decide +kernel)
set_option maxRecDepth 20000 in
theorem gX1_refine_X0_countsOf : GoodIn wsX1_refine (wsV RX1 62 RX0 yX0_countsOf wsX0_countsOf) := goodIn_app (goodIn_of _ (by decide +kernel)) ggX1_refine_X0_countsOf
set_option maxRecDepth 20000 in
theorem ggX1_refine_X1_gather : GoodIn wsX1_refine wsX1_gather := goodIn_r _ [30, 7, 4, 31, 32, 33, 34, 35, 36, 37, 38, 39, 40, 41, 42, 43, 44, 45, 56, 57, 58, 59, 60, 61, 62, 67, 68, 69] (by decide +kernel) (by decide +kernel)
set_option maxRecDepth 20000 in
theorem gX1_refine_X1_gather : GoodIn wsX1_refine (wsV RX1 65 RX1 yX1_gather wsX1_gather) := goodIn_app (goodIn_of _ (by decide +kernel)) ggX1_refine_X1_gather
set_option maxRecDepth 20000 in
theorem ggX1_refine_X1_blend : GoodIn wsX1_refine wsX1_blend := goodIn_r _ [49, 1, 50, 51, 52, 4, 2, 5, 31, 53, 54, 16, 55, 56, 57, 58, 59, 60, 61, 62, 63, 64, 65, 66] (by decide +kernel) (by decide +kernel)
set_option maxRecDepth 20000 in
theorem gX1_refine_X1_blend : GoodIn wsX1_refine (wsV RX1 69 RX1 yX1_blend wsX1_blend) := goodIn_app (goodIn_of _ (by decide +kernel)) ggX1_refine_X1_blend
set_option maxRecDepth 20000 in
theorem ggX1_gather_J7_fill_53178 : GoodIn wsX1_gather wsJ7_fill_53178 := goodIn_r _ [10] (by decide +kernel) (by decide +kernel)
set_option maxRecDepth 20000 in
theorem gX1_gather_J7_fill_53178 : GoodIn wsX1_gather (va_wsS RX1 42 yJ7_fill_53178 wsJ7_fill_53178) := goodIn_app (goodIn_of _ (by decide +kernel)) ggX1_gather_J7_fill_53178
set_option maxRecDepth 20000 in
theorem ggX1_gather_X4_keysBelow : GoodIn wsX1_gather wsX4_keysBelow := goodIn_r _ [15, 16, 17, 25, 26, 27] (by decide +kernel) (by decide +kernel)
set_option maxRecDepth 20000 in
theorem gX1_gather_X4_keysBelow : GoodIn wsX1_gather (wsV RX1 73 RX4 yX4_keysBelow wsX4_keysBelow) := goodIn_app (goodIn_of _ (by decide +kernel)) ggX1_gather_X4_keysBelow
set_option maxRecDepth 20000 in
theorem ggX4_numberOf_X4_keysBelow : GoodIn wsX4_numberOf wsX4_keysBelow := goodIn_r _ [6, 7, 8, 13, 14, 15] (by decide +kernel) (by decide +kernel)
set_option maxRecDepth 20000 in
theorem gX4_numberOf_X4_keysBelow : GoodIn wsX4_numberOf (wsV RX4 20 RX4 yX4_keysBelow wsX4_keysBelow) := goodIn_app (goodIn_of _ (by decide +kernel)) ggX4_numberOf_X4_keysBelow
set_option maxRecDepth 20000 in
theorem ggX4_numberOf_X4_standsAt : GoodIn wsX4_numberOf wsX4_standsAt := goodIn_r _ [12, 7, 8, 13, 14, 15] (by decide +kernel) (by decide +kernel)
set_option maxRecDepth 20000 in
theorem gX4_numberOf_X4_standsAt : GoodIn wsX4_numberOf (wsV RX4 24 RX4 yX4_standsAt wsX4_standsAt) := goodIn_app (goodIn_of _ (by decide +kernel)) ggX4_numberOf_X4_standsAt
set_option maxRecDepth 20000 in
theorem ggX5_init_X0_init : GoodIn wsX5_init wsX0_init := goodIn_r _ [30, 31, 2, 3, 32, 33, 34, 35, 36, 37, 38, 39, 40, 41, 22, 42, 43, 44, 74, 75, 76, 77, 105, 106, 107] (by decide +kernel) (by decide +kernel)
set_option maxRecDepth 20000 in
theorem ggX5_init_X1_init : GoodIn wsX5_init wsX1_init := goodIn_r _ [47, 48, 2, 3, 49, 50, 22, 51, 52, 53, 54, 55, 88, 89, 90, 91, 92, 93, 94] (by decide +kernel) (by decide +kernel)
set_option maxRecDepth 20000 in
theorem ggX5_init_X3_init : GoodIn wsX5_init wsX3_init := goodIn_r _ [58, 59, 2, 3, 22, 60, 61, 62, 63, 64, 65, 66, 95, 96, 97, 98, 99, 100] (by decide +kernel) (by decide +kernel)
set_option maxRecDepth 20000 in
theorem ggX5_init_X2_init : GoodIn wsX5_init wsX2_init := goodIn_r _ [68, 69, 2, 3, 22, 70, 71, 72, 73, 101, 102, 103, 104] (by decide +kernel) (by decide +kernel)
set_option maxRecDepth 20000 in
theorem gX5_init_X2_init_n36 : GoodIn wsX5_init (wsX2_init) := ggX5_init_X2_init
set_option maxRecDepth 20000 in
theorem ggX5_addWord_X0_forgetAll : GoodIn wsX5_addWord wsX0_forgetAll := goodIn_r _ [10, 11, 12, 13, 14, 9, 15, 16, 17, 18, 19, 20, 21, 22, 23, 24, 25, 26, 27, 28, 43, 44, 45, 39, 40, 41, 42] (by decide +kernel) (by decide +kernel)
set_option maxRecDepth 20000 in
theorem gX5_addWord_X0_forgetAll : GoodIn wsX5_addWord (wsV RX5 75 RX0 yX0_forgetAll wsX0_forgetAll) := goodIn_app (goodIn_of _ (by decide +kernel)) ggX5_addWord_X0_forgetAll
set_option maxRecDepth 20000 in
theorem ggX5_setOrder_X0_forgetAll : GoodIn wsX5_setOrder wsX0_forgetAll := goodIn_r _ [9, 10, 11, 12, 13, 8, 14, 15, 16, 17, 18, 19, 20, 21, 22, 23, 24, 25, 26, 27, 42, 43, 44, 38, 39, 40, 41] (by decide +kernel) (by decide +kernel)
set_option maxRecDepth 20000 in
theorem gX5_setOrder_X0_forgetAll : GoodIn wsX5_setOrder (wsV RX5 75 RX0 yX0_forgetAll wsX0_forgetAll) := goodIn_app (goodIn_of _ (by decide +kernel)) ggX5_setOrder_X0_forgetAll
set_option maxRecDepth 20000 in
theorem ggX5_say_X5_isWord : GoodIn wsX5_say wsX5_isWord := goodIn_r _ [10, 11, 12, 18, 19, 20, 21, 22, 23, 24, 25, 26, 27, 28, 29, 30, 31] (by decide +kernel) (by decide +kernel)
set_option maxRecDepth 20000 in
theorem gX5_say_X5_isWord : GoodIn wsX5_say (wsV RX5 86 RX5 yX5_isWord wsX5_isWord) := goodIn_app (goodIn_of _ (by decide +kernel)) ggX5_say_X5_isWord
set_option maxRecDepth 20000 in
theorem ggX5_unlearn_X5_canTakeSentence : GoodIn wsX5_unlearn wsX5_canTakeSentence := goodIn_r _ [7, 8, 9, 10, 11, 12, 13, 6, 14, 15, 16, 17, 18, 19, 20, 21, 22, 23, 24, 25, 26, 27, 28, 29, 30, 31, 32, 33, 34, 35, 36, 37, 38, 39, 40, 41, 42, 43, 44, 45, 46, 47, 48, 49, 50, 51, 52, 53, 84, 85, 86, 87, 88, 89, 90, 91, 92, 93, 94, 95, 96, 97, 98, 99, 100] (by decide +kernel) (by decide +kernel)
set_option maxRecDepth 20000 in
theorem gX5_unlearn_X5_canTakeSentence : GoodIn wsX5_unlearn (wsV RX5 118 RX5 yX5_canTakeSentence wsX5_canTakeSentence) := goodIn_app (goodIn_of _ (by decide +kernel)) ggX5_unlearn_X5_canTakeSentence
set_option maxRecDepth 20000 in
theorem ggX5_entries_X5_isOrder : GoodIn wsX5_entries wsX5_isOrder := goodIn_r _ [9, 3, 10, 24, 25, 26, 27, 28, 29, 30, 31, 32, 33, 37, 38, 39, 40] (by decide +kernel) (by decide +kernel)
set_option maxRecDepth 20000 in
theorem gX5_entries_X5_isOrder : GoodIn wsX5_entries (wsV RX5 126 RX5 yX5_isOrder wsX5_isOrder) := goodIn_app (goodIn_of _ (by decide +kernel)) ggX5_entries_X5_isOrder
set_option maxRecDepth 20000 in
theorem ggX5_entries_X0_countsOf : GoodIn wsX5_entries wsX0_countsOf := goodIn_r _ [15, 16, 17, 18, 19, 20, 21, 22, 23, 37, 38, 39, 40] (by decide +kernel) (by decide +kernel)
set_option maxRecDepth 20000 in
theorem gX5_entries_X0_countsOf : GoodIn wsX5_entries (wsV RX5 131 RX0 yX0_countsOf wsX0_countsOf) := goodIn_app (goodIn_of _ (by decide +kernel)) ggX5_entries_X0_countsOf
set_option maxRecDepth 20000 in
theorem ggX5_entryAt_X5_isOrder : GoodIn wsX5_entryAt wsX5_isOrder := goodIn_r _ [12, 5, 13, 32, 33, 34, 35, 36, 37, 38, 39, 40, 41, 45, 46, 47, 48] (by decide +kernel) (by decide +kernel)
set_option maxRecDepth 20000 in
theorem gX5_entryAt_X5_isOrder : GoodIn wsX5_entryAt (wsV RX5 126 RX5 yX5_isOrder wsX5_isOrder) := goodIn_app (goodIn_of _ (by decide +kernel)) ggX5_entryAt_X5_isOrder
set_option maxRecDepth 20000 in
theorem ggX5_entryAt_X0_countsOf : GoodIn wsX5_entryAt wsX0_countsOf := goodIn_r _ [18, 19, 20, 21, 22, 23, 24, 25, 26, 45, 46, 47, 48] (by decide +kernel) (by decide +kernel)
set_option maxRecDepth 20000 in
theorem gX5_entryAt_X0_countsOf : GoodIn wsX5_entryAt (wsV RX5 131 RX0 yX0_countsOf wsX0_countsOf) := goodIn_app (goodIn_of _ (by decide +kernel)) ggX5_entryAt_X0_countsOf
set_option maxRecDepth 20000 in
theorem ggX5_countOf_X5_isOrder : GoodIn wsX5_countOf wsX5_isOrder := goodIn_r _ [12, 5, 13, 27, 28, 29, 30, 31, 32, 33, 34, 35, 36, 40, 41, 42, 43] (by decide +kernel) (by decide +kernel)
set_option maxRecDepth 20000 in
theorem gX5_countOf_X5_isOrder : GoodIn wsX5_countOf (wsV RX5 126 RX5 yX5_isOrder wsX5_isOrder) := goodIn_app (goodIn_of _ (by decide +kernel)) ggX5_countOf_X5_isOrder
set_option maxRecDepth 20000 in
theorem ggX5_countOf_X0_countsOf : GoodIn wsX5_countOf wsX0_countsOf := goodIn_r _ [18, 19, 20, 21, 22, 23, 24, 25, 26, 40, 41, 42, 43] (by decide +kernel) (by decide +kernel)
set_option maxRecDepth 20000 in
theorem gX5_countOf_X0_countsOf : GoodIn wsX5_countOf (wsV RX5 131 RX0 yX0_countsOf wsX0_countsOf) := goodIn_app (goodIn_of _ (by decide +kernel)) ggX5_countOf_X0_countsOf
set_option maxRecDepth 20000 in
theorem ggX5_ofContext_X5_isOrder : GoodIn wsX5_ofContext wsX5_isOrder := goodIn_r _ [7, 8, 9, 63, 64, 65, 66, 67, 68, 69, 70, 71, 72, 73, 74, 75, 76] (by decide +kernel) (by decide +kernel)
set_option maxRecDepth 20000 in
theorem gX5_ofContext_X5_isOrder : GoodIn wsX5_ofContext (wsV RX5 126 RX5 yX5_isOrder wsX5_isOrder) := goodIn_app (goodIn_of _ (by decide +kernel)) ggX5_ofContext_X5_isOrder
set_option maxRecDepth 20000 in
theorem ggX5_ofContext_X5_totalBehind : GoodIn wsX5_ofContext wsX5_totalBehind := goodIn_r _ [13, 14, 8, 15, 16, 17, 18, 19, 20, 21, 22, 23, 24, 25, 26, 27, 28, 29, 30, 31, 32, 33, 6, 34, 35, 36, 37, 38, 39, 40, 41, 42, 43, 44, 45, 46, 47, 48, 49, 50, 51, 52, 53, 54, 55, 56, 57, 58, 59, 60, 61, 62, 63, 64, 65, 66, 67, 68, 69, 70, 71, 72, 77, 78, 79, 80, 81, 82, 83, 73, 74, 75, 76, 84, 85, 86] (by decide +kernel) (by decide +kernel)
set_option maxRecDepth 20000 in
theorem gX5_ofContext_X5_totalBehind : GoodIn wsX5_ofContext (wsV RX5 154 RX5 yX5_totalBehind wsX5_totalBehind) := goodIn_app (goodIn_of _ (by decide +kernel)) ggX5_ofContext_X5_totalBehind
set_option maxRecDepth 20000 in
theorem ggX5_prune_X0_countsOf : GoodIn wsX5_prune wsX0_countsOf := goodIn_r _ [12, 13, 14, 15, 16, 17, 18, 19, 20, 77, 78, 79, 80] (by decide +kernel) (by decide +kernel)
set_option maxRecDepth 20000 in
theorem gX5_prune_X0_countsOf : GoodIn wsX5_prune (wsV RX5 131 RX0 yX0_countsOf wsX0_countsOf) := goodIn_app (goodIn_of _ (by decide +kernel)) ggX5_prune_X0_countsOf
set_option maxRecDepth 20000 in
theorem ggX5_prune_X5_dropDoomed : GoodIn wsX5_prune wsX5_dropDoomed := goodIn_r _ [25, 3, 5, 6, 8, 9, 10, 11, 12, 13, 14, 15, 16, 17, 18, 19, 20, 26, 27, 28, 29, 30, 31, 32, 33, 34, 35, 36, 37, 38, 39, 40, 41, 42, 43, 44, 45, 46, 47, 48, 49, 50, 51, 52, 53, 54, 55, 56, 57, 58, 59, 60, 61, 62, 63, 64, 65, 66, 67, 68, 69, 70, 71, 72, 73, 74, 75, 76, 81, 82, 83, 77, 78, 79, 80] (by decide +kernel) (by decide +kernel)
set_option maxRecDepth 20000 in
theorem gX5_prune_X5_dropDoomed : GoodIn wsX5_prune (wsV RX5 160 RX5 yX5_dropDoomed wsX5_dropDoomed) := goodIn_app (goodIn_of _ (by decide +kernel)) ggX5_prune_X5_dropDoomed
set_option maxRecDepth 20000 in
theorem ggX5_pruneBy_X0_countsOf : GoodIn wsX5_pruneBy wsX0_countsOf := goodIn_r _ [13, 14, 15, 16, 17, 18, 19, 20, 21, 129, 130, 131, 132] (by decide +kernel) (by decide +kernel)
set_option maxRecDepth 20000 in
theorem gX5_pruneBy_X0_countsOf : GoodIn wsX5_pruneBy (wsV RX5 131 RX0 yX0_countsOf wsX0_countsOf) := goodIn_app (goodIn_of _ (by decide +kernel)) ggX5_pruneBy_X0_countsOf
set_option maxRecDepth 20000 in
theorem ggX5_pruneBy_X5_dropDoomed : GoodIn wsX5_pruneBy wsX5_dropDoomed := goodIn_r _ [87, 3, 6, 7, 9, 10, 11, 12, 13, 14, 15, 16, 17, 18, 19, 20, 21, 88, 89, 90, 91, 92, 93, 94, 95, 96, 97, 70, 98, 72, 73, 99, 100, 101, 102, 103, 104, 105, 106, 107, 108, 54, 55, 56, 57, 109, 110, 111, 112, 113, 68, 69, 71, 114, 115, 116, 117, 118, 119, 120, 121, 122, 123, 124, 125, 126, 127, 128, 133, 134, 135, 129, 130, 131, 132] (by decide +kernel) (by decide +kernel)
set_option maxRecDepth 20000 in
theorem gX5_pruneBy_X5_dropDoomed : GoodIn wsX5_pruneBy (wsV RX5 160 RX5 yX5_dropDoomed wsX5_dropDoomed) := goodIn_app (goodIn_of _ (by decide +kernel)) ggX5_pruneBy_X5_dropDoomed
set_option maxRecDepth 20000 in
theorem ggX5_setWay_X5_isWay : GoodIn wsX5_setWay wsX5_isWay := goodIn_r _ [9] (by decide +kernel) (by decide +kernel)
set_option maxRecDepth 20000 in
theorem gX5_setWay_X5_isWay : GoodIn wsX5_setWay (va_wsS RX5 169 yX5_isWay wsX5_isWay) := goodIn_app (goodIn_of _ (by decide +kernel)) ggX5_setWay_X5_isWay
set_option maxRecDepth 20000 in
theorem ggX5_chance_X5_reckonBehindSentence : GoodIn wsX5_chance wsX5_reckonBehindSentence := goodIn_r _ [11, 5, 3, 12, 13, 14, 15, 16, 10, 17, 18, 19, 20, 21, 22, 4, 23, 24, 25, 26, 27, 28, 29, 30, 31, 32, 33, 34, 35, 36, 37, 38, 39, 40, 41, 42, 43, 44, 45, 46, 47, 48, 49, 50, 51, 52, 53, 54, 55, 56, 57, 58, 59, 60, 61, 62, 63, 64, 65, 66, 67, 68, 69, 70, 71, 72, 73, 74, 75, 76, 77, 78, 79, 80, 81, 82, 83, 84, 85, 86, 87, 88, 89, 90, 91, 92, 93, 94, 95, 96, 97, 98, 99, 100, 101, 102, 103, 104, 105, 106, 107, 108, 109, 110] (by decide +kernel) (by decide +kernel)
set_option maxRecDepth 20000 in
theorem gX5_chance_X5_reckonBehindSentence : GoodIn wsX5_chance (wsV RX5 183 RX5 yX5_reckonBehindSentence wsX5_reckonBehindSentence) := goodIn_app (goodIn_of _ (by decide +kernel)) ggX5_chance_X5_reckonBehindSentence
set_option maxRecDepth 20000 in
theorem ggX5_ranked_X5_reckonBehindSentence : GoodIn wsX5_ranked wsX5_reckonBehindSentence := goodIn_r _ [10, 5, 3, 11, 12, 13, 14, 15, 9, 16, 17, 18, 19, 20, 21, 4, 22, 23, 24, 25, 26, 27, 28, 29, 30, 31, 32, 33, 34, 35, 36, 37, 38, 39, 40, 41, 42, 43, 44, 45, 46, 47, 48, 49, 50, 51, 52, 53, 54, 55, 56, 57, 58, 59, 60, 61, 62, 63, 64, 65, 66, 67, 68, 69, 70, 71, 72, 73, 74, 75, 76, 77, 78, 79, 80, 81, 82, 83, 84, 85, 98, 99, 100, 101, 102, 103, 104, 105, 106, 107, 108, 109, 110, 111, 112, 113, 114, 115, 116, 117, 118, 119, 120, 121] (by decide +kernel) (by decide +kernel)
set_option maxRecDepth 20000 in
theorem gX5_ranked_X5_reckonBehindSentence : GoodIn wsX5_ranked (wsV RX5 183 RX5 yX5_reckonBehindSentence wsX5_reckonBehindSentence) := goodIn_app (goodIn_of _ (by decide +kernel)) ggX5_ranked_X5_reckonBehindSentence
set_option maxRecDepth 20000 in
theorem ggX5_ranked_X1_withRank : GoodIn wsX5_ranked wsX1_withRank := goodIn_r _ [89, 29, 30, 90, 91, 92, 25, 93, 94, 95, 96, 97, 27, 112, 113, 114, 115, 116, 117, 118, 108, 109, 110, 111] (by decide +kernel) (by decide +kernel)
set_option maxRecDepth 20000 in
theorem gX5_ranked_X1_withRank : GoodIn wsX5_ranked (wsV RX5 191 RX1 yX1_withRank wsX1_withRank) := goodIn_app (goodIn_of _ (by decide +kernel)) ggX5_ranked_X1_withRank
set_option maxRecDepth 20000 in
theorem ggX5_costOf_X5_cost : GoodIn wsX5_costOf wsX5_cost := goodIn_r _ [4, 5, 6] (by decide +kernel) (by decide +kernel)
set_option maxRecDepth 20000 in
theorem gX5_costOf_X5_cost : GoodIn wsX5_costOf (va_wsS RX5 194 yX5_cost wsX5_cost) := goodIn_app (goodIn_of _ (by decide +kernel)) ggX5_costOf_X5_cost
set_option maxRecDepth 20000 in
theorem ggX5_score_X5_sumOfCosts : GoodIn wsX5_score wsX5_sumOfCosts := goodIn_r _ [5, 6, 7, 8, 9, 10, 11, 12, 13, 4, 14, 15, 16, 17, 18, 19, 20, 21, 22, 23, 24, 25, 26, 27, 28, 29, 30, 31, 32, 33, 34, 35, 36, 37, 38, 39, 40, 41, 42, 43, 44, 45, 46, 47, 48, 49, 50, 51, 52, 53, 54, 55, 56, 57, 58, 59, 60, 61, 62, 63, 64, 65, 66, 67, 68, 69, 70, 71, 72, 73, 74, 75, 76, 77, 78, 79, 80, 81, 82, 83, 84, 85, 86, 87, 88, 89, 90, 91, 92, 93, 94, 95, 96, 97, 98, 99, 100, 101, 102, 103, 104, 105, 106, 107, 108, 109, 110, 111, 112, 113] (by decide +kernel) (by decide +kernel)
set_option maxRecDepth 20000 in
theorem gX5_score_X5_sumOfCosts : GoodIn wsX5_score (wsV RX5 197 RX5 yX5_sumOfCosts wsX5_sumOfCosts) := goodIn_app (goodIn_of _ (by decide +kernel)) ggX5_score_X5_sumOfCosts
set_option maxRecDepth 20000 in
theorem ggX5_meanCost_X5_sumOfCosts : GoodIn wsX5_meanCost wsX5_sumOfCosts := goodIn_r _ [6, 1, 7, 8, 9, 10, 11, 12, 13, 5, 14, 15, 16, 17, 18, 19, 20, 21, 22, 23, 24, 25, 26, 27, 28, 29, 30, 31, 32, 33, 34, 35, 36, 37, 38, 39, 40, 41, 42, 43, 44, 45, 46, 47, 48, 49, 50, 51, 52, 53, 54, 55, 56, 57, 58, 59, 60, 61, 62, 63, 64, 65, 66, 67, 68, 69, 70, 71, 72, 73, 74, 75, 76, 77, 78, 79, 80, 81, 82, 83, 84, 85, 86, 87, 88, 89, 90, 91, 92, 93, 94, 95, 96, 97, 98, 99, 100, 101, 102, 103, 104, 105, 106, 107, 108, 109, 110, 111, 112, 113] (by decide +kernel) (by decide +kernel)
set_option maxRecDepth 20000 in
theorem gX5_meanCost_X5_sumOfCosts : GoodIn wsX5_meanCost (wsV RX5 197 RX5 yX5_sumOfCosts wsX5_sumOfCosts) := goodIn_app (goodIn_of _ (by decide +kernel)) ggX5_meanCost_X5_sumOfCosts
set_option maxRecDepth 20000 in
theorem ggX5_addStep_X5_isStep : GoodIn wsX5_addStep wsX5_isStep := goodIn_r _ [11, 12, 13, 14, 15, 16, 10, 17, 26, 27, 28, 29, 30, 31, 32, 33, 34, 35, 40, 41, 42, 43] (by decide +kernel) (by decide +kernel)
set_option maxRecDepth 20000 in
theorem gX5_addStep_X5_isStep : GoodIn wsX5_addStep (wsV RX5 217 RX5 yX5_isStep wsX5_isStep) := goodIn_app (goodIn_of _ (by decide +kernel)) ggX5_addStep_X5_isStep
set_option maxRecDepth 20000 in
theorem ggX5_addStep_X2_append : GoodIn wsX5_addStep wsX2_append := goodIn_r _ [22, 23, 24, 25, 36, 37, 38, 39] (by decide +kernel) (by decide +kernel)
set_option maxRecDepth 20000 in
theorem gX5_addStep_X2_append : GoodIn wsX5_addStep (wsV RX5 225 RX2 yX2_append wsX2_append) := goodIn_app (goodIn_of _ (by decide +kernel)) ggX5_addStep_X2_append
set_option maxRecDepth 20000 in
theorem ggX5_scoreBy_X5_isWay : GoodIn wsX5_scoreBy wsX5_isWay := goodIn_r _ [9] (by decide +kernel) (by decide +kernel)
set_option maxRecDepth 20000 in
theorem gX5_scoreBy_X5_isWay : GoodIn wsX5_scoreBy (va_wsS RX5 169 yX5_isWay wsX5_isWay) := goodIn_app (goodIn_of _ (by decide +kernel)) ggX5_scoreBy_X5_isWay
set_option maxRecDepth 20000 in
theorem ggX5_scoreBy_X5_sumOfCosts : GoodIn wsX5_scoreBy wsX5_sumOfCosts := goodIn_r _ [13, 14, 3, 15, 16, 17, 18, 19, 20, 8, 21, 22, 23, 24, 25, 26, 27, 28, 29, 30, 31, 32, 33, 34, 35, 36, 37, 38, 39, 40, 41, 42, 43, 44, 45, 46, 47, 48, 49, 50, 51, 52, 53, 54, 55, 56, 57, 58, 59, 60, 61, 62, 63, 64, 65, 66, 67, 68, 69, 70, 71, 72, 73, 74, 75, 76, 77, 78, 79, 80, 81, 82, 83, 84, 85, 86, 87, 88, 89, 90, 91, 92, 93, 94, 95, 96, 97, 98, 99, 100, 101, 102, 103, 104, 105, 106, 114, 115, 116, 117, 107, 108, 109, 110, 111, 112, 113, 118, 119, 120] (by decide +kernel) (by decide +kernel)
set_option maxRecDepth 20000 in
theorem gX5_scoreBy_X5_sumOfCosts : GoodIn wsX5_scoreBy (wsV RX5 197 RX5 yX5_sumOfCosts wsX5_sumOfCosts) := goodIn_app (goodIn_of _ (by decide +kernel)) ggX5_scoreBy_X5_sumOfCosts
set_option maxRecDepth 20000 in
theorem ggX5_digest_X5_mix : GoodIn wsX5_digest wsX5_mix := goodIn_r _ [13, 14] (by decide +kernel) (by decide +kernel)
set_option maxRecDepth 20000 in
theorem gX5_digest_X5_mix : GoodIn wsX5_digest (va_wsS RX5 255 yX5_mix wsX5_mix) := goodIn_app (goodIn_of _ (by decide +kernel)) ggX5_digest_X5_mix
set_option maxRecDepth 20000 in
theorem ggX5_digest_X5_mixEntries : GoodIn wsX5_digest wsX5_mixEntries := goodIn_r _ [18, 2, 19, 20, 21, 22, 23, 24, 25, 26, 27, 28, 29, 30, 31, 32, 33, 34, 10, 11, 12, 13, 14, 35, 36, 37, 38, 39, 138, 139, 140, 141, 142, 143, 144, 145, 146, 147, 152, 153, 154, 148, 149, 150, 151] (by decide +kernel) (by decide +kernel)
set_option maxRecDepth 20000 in
theorem gX5_digest_X5_mixEntries : GoodIn wsX5_digest (wsV RX5 259 RX5 yX5_mixEntries wsX5_mixEntries) := goodIn_app (goodIn_of _ (by decide +kernel)) ggX5_digest_X5_mixEntries
set_option maxRecDepth 20000 in
theorem ggX5_digest_X5_totalBehind : GoodIn wsX5_digest wsX5_totalBehind := goodIn_r _ [43, 44, 2, 5, 45, 46, 22, 23, 24, 25, 26, 27, 28, 29, 30, 31, 32, 33, 34, 47, 48, 49, 12, 50, 51, 52, 53, 54, 6, 3, 55, 56, 57, 58, 59, 60, 61, 62, 63, 64, 65, 66, 67, 68, 69, 70, 71, 72, 73, 74, 75, 76, 138, 139, 140, 141, 142, 143, 144, 145, 146, 147, 155, 156, 157, 158, 159, 160, 161, 148, 149, 150, 151, 152, 153, 154] (by decide +kernel) (by decide +kernel)
set_option maxRecDepth 20000 in
theorem gX5_digest_X5_totalBehind : GoodIn wsX5_digest (wsV RX5 154 RX5 yX5_totalBehind wsX5_totalBehind) := goodIn_app (goodIn_of _ (by decide +kernel)) ggX5_digest_X5_totalBehind
set_option maxRecDepth 20000 in
theorem ggX5_digest_X5_mixChances : GoodIn wsX5_digest wsX5_mixChances := goodIn_r _ [80, 2, 3, 44, 81, 82, 83, 84, 12, 85, 4, 5, 47, 48, 49, 50, 51, 52, 53, 54, 6, 86, 87, 88, 58, 89, 90, 91, 92, 93, 94, 66, 67, 68, 69, 95, 96, 97, 98, 99, 61, 60, 100, 101, 102, 25, 103, 104, 28, 29, 30, 31, 32, 33, 34, 105, 23, 24, 26, 27, 106, 56, 57, 59, 62, 63, 64, 65, 70, 71, 72, 73, 74, 75, 76, 107, 108, 109, 110, 111, 112, 113, 114, 115, 116, 10, 11, 13, 14, 117, 118, 119, 120, 121, 122, 123, 124, 125, 126, 127, 128, 138, 139, 140, 141, 142, 143, 144, 145, 146, 147, 148, 149, 150, 151, 155, 156, 157, 158, 159, 160, 161, 152, 153, 154] (by decide +kernel) (by decide +kernel)
set_option maxRecDepth 20000 in
theorem gX5_digest_X5_mixChances : GoodIn wsX5_digest (wsV RX5 263 RX5 yX5_mixChances wsX5_mixChances) := goodIn_app (goodIn_of _ (by decide +kernel)) ggX5_digest_X5_mixChances
set_option maxRecDepth 20000 in
theorem ggX5_digest_X5_sumOfCosts : GoodIn wsX5_digest wsX5_sumOfCosts := goodIn_r _ [132, 5, 44, 2, 4, 81, 47, 48, 49, 12, 50, 51, 52, 53, 54, 6, 3, 86, 87, 88, 58, 89, 90, 91, 92, 93, 94, 66, 67, 68, 69, 95, 96, 97, 98, 99, 61, 60, 100, 101, 102, 25, 103, 104, 28, 29, 30, 31, 32, 33, 34, 105, 23, 24, 26, 27, 106, 56, 57, 59, 62, 63, 64, 65, 70, 71, 72, 73, 74, 75, 76, 107, 108, 109, 110, 111, 112, 113, 114, 115, 116, 133, 134, 135, 136, 137, 138, 139, 140, 141, 142, 143, 144, 145, 146, 147, 148, 149, 150, 151, 155, 156, 157, 158, 159, 160, 161, 152, 153, 154] (by decide +kernel) (by decide +kernel)
set_option maxRecDepth 20000 in
theorem gX5_digest_X5_sumOfCosts : GoodIn wsX5_digest (wsV RX5 197 RX5 yX5_sumOfCosts wsX5_sumOfCosts) := goodIn_app (goodIn_of _ (by decide +kernel)) ggX5_digest_X5_sumOfCosts
set_option maxRecDepth 20000 in
theorem ggX5_isStep_X5_isWord : GoodIn wsX5_isStep wsX5_isWord := goodIn_r _ [7, 1, 2, 8, 9, 10, 11, 12, 13, 14, 15, 16, 17, 18, 19, 20, 21] (by decide +kernel) (by decide +kernel)
set_option maxRecDepth 20000 in
theorem gX5_isStep_X5_isWord : GoodIn wsX5_isStep (wsV RX5 86 RX5 yX5_isWord wsX5_isWord) := goodIn_app (goodIn_of _ (by decide +kernel)) ggX5_isStep_X5_isWord
set_option maxRecDepth 20000 in
theorem ggX5_keyUpTo_X5_digitAt : GoodIn wsX5_keyUpTo wsX5_digitAt := goodIn_r _ [5, 6, 7, 8, 9, 10, 11, 12, 13, 14, 15, 16, 17, 18, 19, 20, 21, 22, 23] (by decide +kernel) (by decide +kernel)
set_option maxRecDepth 20000 in
theorem gX5_keyUpTo_X5_digitAt : GoodIn wsX5_keyUpTo (wsV RX5 267 RX5 yX5_digitAt wsX5_digitAt) := goodIn_app (goodIn_of _ (by decide +kernel)) ggX5_keyUpTo_X5_digitAt
set_option maxRecDepth 20000 in
theorem ggX5_canTakeSentence_X5_keyUpTo : GoodIn wsX5_canTakeSentence wsX5_keyUpTo := goodIn_r _ [8, 9, 10, 11, 7, 12, 3, 13, 1, 14, 48, 49, 50, 51, 52, 53, 54, 55, 56, 57, 58, 59, 60, 61] (by decide +kernel) (by decide +kernel)
set_option maxRecDepth 20000 in
theorem gX5_canTakeSentence_X5_keyUpTo : GoodIn wsX5_canTakeSentence (wsV RX5 202 RX5 yX5_keyUpTo wsX5_keyUpTo) := goodIn_app (goodIn_of _ (by decide +kernel)) ggX5_canTakeSentence_X5_keyUpTo
set_option maxRecDepth 20000 in
theorem ggX5_canTakeSentence_X0_countsOf : GoodIn wsX5_canTakeSentence wsX0_countsOf := goodIn_r _ [19, 20, 21, 22, 23, 24, 25, 26, 27, 58, 59, 60, 61] (by decide +kernel) (by decide +kernel)
set_option maxRecDepth 20000 in
theorem gX5_canTakeSentence_X0_countsOf : GoodIn wsX5_canTakeSentence (wsV RX5 131 RX0 yX0_countsOf wsX0_countsOf) := goodIn_app (goodIn_of _ (by decide +kernel)) ggX5_canTakeSentence_X0_countsOf
set_option maxRecDepth 20000 in
theorem ggX5_canTakeSentence_X4_numberOf : GoodIn wsX5_canTakeSentence wsX4_numberOf := goodIn_r _ [32, 33, 34, 35, 36, 31, 37, 38, 39, 40, 41, 42, 43, 62, 63, 64] (by decide +kernel) (by decide +kernel)
set_option maxRecDepth 20000 in
theorem gX5_canTakeSentence_X4_numberOf : GoodIn wsX5_canTakeSentence (wsV RX5 278 RX4 yX4_numberOf wsX4_numberOf) := goodIn_app (goodIn_of _ (by decide +kernel)) ggX5_canTakeSentence_X4_numberOf
set_option maxRecDepth 20000 in
theorem ggX5_canTakeSentence_X5_timesInSentence : GoodIn wsX5_canTakeSentence wsX5_timesInSentence := goodIn_r _ [47, 3, 4, 5, 6, 7, 8, 9, 10, 11, 12, 13, 1, 14, 48, 49, 50, 51, 52, 53, 54, 55, 56, 57, 58, 59, 60, 61] (by decide +kernel) (by decide +kernel)
set_option maxRecDepth 20000 in
theorem gX5_canTakeSentence_X5_timesInSentence : GoodIn wsX5_canTakeSentence (wsV RX5 281 RX5 yX5_timesInSentence wsX5_timesInSentence) := goodIn_app (goodIn_of _ (by decide +kernel)) ggX5_canTakeSentence_X5_timesInSentence
set_option maxRecDepth 20000 in
theorem ggX5_timesInSentence_X5_keyUpTo : GoodIn wsX5_timesInSentence wsX5_keyUpTo := goodIn_r _ [6, 7, 8, 9, 5, 10, 1, 11, 12, 13, 14, 15, 16, 17, 18, 19, 20, 21, 22, 23, 24, 25, 26, 27] (by decide +kernel) (by decide +kernel)
set_option maxRecDepth 20000 in
theorem gX5_timesInSentence_X5_keyUpTo : GoodIn wsX5_timesInSentence (wsV RX5 202 RX5 yX5_keyUpTo wsX5_keyUpTo) := goodIn_app (goodIn_of _ (by decide +kernel)) ggX5_timesInSentence_X5_keyUpTo
set_option maxRecDepth 20000 in
theorem ggX5_totalBehind_X0_countsOf : GoodIn wsX5_totalBehind wsX0_countsOf := goodIn_r _ [10, 11, 12, 13, 14, 15, 16, 17, 18, 69, 70, 71, 72] (by decide +kernel) (by decide +kernel)
set_option maxRecDepth 20000 in
theorem gX5_totalBehind_X0_countsOf : GoodIn wsX5_totalBehind (wsV RX5 131 RX0 yX0_countsOf wsX0_countsOf) := goodIn_app (goodIn_of _ (by decide +kernel)) ggX5_totalBehind_X0_countsOf
set_option maxRecDepth 20000 in
theorem ggX5_totalBehind_X5_keyUpTo : GoodIn wsX5_totalBehind wsX5_keyUpTo := goodIn_r _ [23, 24, 25, 26, 22, 27, 3, 28, 2, 29, 52, 53, 54, 55, 56, 57, 58, 59, 60, 61, 69, 70, 71, 72] (by decide +kernel) (by decide +kernel)
set_option maxRecDepth 20000 in
theorem gX5_totalBehind_X5_keyUpTo : GoodIn wsX5_totalBehind (wsV RX5 202 RX5 yX5_keyUpTo wsX5_keyUpTo) := goodIn_app (goodIn_of _ (by decide +kernel)) ggX5_totalBehind_X5_keyUpTo
set_option maxRecDepth 20000 in
theorem ggX5_totalBehind_X1_gather : GoodIn wsX5_totalBehind wsX1_gather := goodIn_r _ [34, 35, 36, 37, 38, 39, 40, 41, 42, 43, 44, 45, 46, 47, 48, 49, 50, 51, 62, 63, 64, 65, 66, 67, 68, 73, 74, 75] (by decide +kernel) (by decide +kernel)
set_option maxRecDepth 20000 in
theorem gX5_totalBehind_X1_gather : GoodIn wsX5_totalBehind (wsV RX5 287 RX1 yX1_gather wsX1_gather) := goodIn_app (goodIn_of _ (by decide +kernel)) ggX5_totalBehind_X1_gather
set_option maxRecDepth 20000 in
theorem ggX5_dropDoomed_X0_countsOf : GoodIn wsX5_dropDoomed wsX0_countsOf := goodIn_r _ [8, 9, 10, 11, 12, 13, 14, 15, 16, 71, 72, 73, 74] (by decide +kernel) (by decide +kernel)
set_option maxRecDepth 20000 in
theorem gX5_dropDoomed_X0_countsOf : GoodIn wsX5_dropDoomed (wsV RX5 131 RX0 yX0_countsOf wsX0_countsOf) := goodIn_app (goodIn_of _ (by decide +kernel)) ggX5_dropDoomed_X0_countsOf
set_option maxRecDepth 20000 in
theorem ggX5_sumOfCosts_X5_keyUpTo : GoodIn wsX5_sumOfCosts wsX5_keyUpTo := goodIn_r _ [10, 11, 12, 13, 9, 14, 1, 15, 3, 16, 86, 87, 88, 89, 90, 91, 92, 93, 94, 95, 96, 97, 98, 99] (by decide +kernel) (by decide +kernel)
set_option maxRecDepth 20000 in
theorem gX5_sumOfCosts_X5_keyUpTo : GoodIn wsX5_sumOfCosts (wsV RX5 202 RX5 yX5_keyUpTo wsX5_keyUpTo) := goodIn_app (goodIn_of _ (by decide +kernel)) ggX5_sumOfCosts_X5_keyUpTo
set_option maxRecDepth 20000 in
theorem ggX5_sumOfCosts_X1_reckon : GoodIn wsX5_sumOfCosts wsX1_reckon := goodIn_r _ [21, 22, 23, 24, 25, 26, 27, 28, 29, 30, 31, 32, 33, 20, 34, 35, 36, 37, 38, 39, 40, 41, 42, 43, 44, 45, 46, 47, 48, 49, 50, 51, 52, 53, 54, 55, 56, 57, 58, 59, 60, 61, 62, 63, 64, 65, 66, 67, 68, 69, 70, 71, 72, 73, 74, 75, 76, 77, 78, 79, 80, 100, 101, 102, 103, 104, 105, 106, 96, 97, 98, 99, 107, 108, 109] (by decide +kernel) (by decide +kernel)
set_option maxRecDepth 20000 in
theorem gX5_sumOfCosts_X1_reckon : GoodIn wsX5_sumOfCosts (wsV RX5 298 RX1 yX1_reckon wsX1_reckon) := goodIn_app (goodIn_of _ (by decide +kernel)) ggX5_sumOfCosts_X1_reckon
set_option maxRecDepth 20000 in
theorem ggX5_sumOfCosts_X5_digitAt : GoodIn wsX5_sumOfCosts wsX5_digitAt := goodIn_r _ [14, 1, 15, 3, 16, 86, 87, 88, 89, 90, 91, 92, 93, 94, 95, 96, 97, 98, 99] (by decide +kernel) (by decide +kernel)
set_option maxRecDepth 20000 in
theorem gX5_sumOfCosts_X5_digitAt : GoodIn wsX5_sumOfCosts (wsV RX5 267 RX5 yX5_digitAt wsX5_digitAt) := goodIn_app (goodIn_of _ (by decide +kernel)) ggX5_sumOfCosts_X5_digitAt
set_option maxRecDepth 20000 in
theorem ggX5_sumOfCosts_X5_cost : GoodIn wsX5_sumOfCosts wsX5_cost := goodIn_r _ [83, 84, 85] (by decide +kernel) (by decide +kernel)
set_option maxRecDepth 20000 in
theorem gX5_sumOfCosts_X5_cost : GoodIn wsX5_sumOfCosts (va_wsS RX5 194 yX5_cost wsX5_cost) := goodIn_app (goodIn_of _ (by decide +kernel)) ggX5_sumOfCosts_X5_cost
set_option maxRecDepth 20000 in
theorem ggX5_reckonBehindSentence_X5_keyUpTo : GoodIn wsX5_reckonBehindSentence wsX5_keyUpTo := goodIn_r _ [9, 10, 11, 12, 8, 13, 4, 14, 2, 15, 80, 81, 82, 83, 84, 85, 86, 87, 88, 89, 90, 91, 92, 93] (by decide +kernel) (by decide +kernel)
set_option maxRecDepth 20000 in
theorem gX5_reckonBehindSentence_X5_keyUpTo : GoodIn wsX5_reckonBehindSentence (wsV RX5 202 RX5 yX5_keyUpTo wsX5_keyUpTo) := goodIn_app (goodIn_of _ (by decide +kernel)) ggX5_reckonBehindSentence_X5_keyUpTo
set_option maxRecDepth 20000 in
theorem ggX5_reckonBehindSentence_X1_reckon : GoodIn wsX5_reckonBehindSentence wsX1_reckon := goodIn_r _ [20, 21, 22, 23, 24, 25, 26, 27, 28, 29, 30, 31, 32, 19, 33, 34, 35, 36, 37, 38, 39, 40, 41, 42, 43, 44, 45, 46, 47, 48, 49, 50, 51, 52, 53, 54, 55, 56, 57, 58, 59, 60, 61, 62, 63, 64, 65, 66, 67, 68, 69, 70, 71, 72, 73, 74, 75, 76, 77, 78, 79, 94, 95, 96, 97, 98, 99, 100, 90, 91, 92, 93, 101, 102, 103] (by decide +kernel) (by decide +kernel)
set_option maxRecDepth 20000 in
theorem gX5_reckonBehindSentence_X1_reckon : GoodIn wsX5_reckonBehindSentence (wsV RX5 298 RX1 yX1_reckon wsX1_reckon) := goodIn_app (goodIn_of _ (by decide +kernel)) ggX5_reckonBehindSentence_X1_reckon
set_option maxRecDepth 20000 in
theorem ggX5_mixEntries_X0_countsOf : GoodIn wsX5_mixEntries wsX0_countsOf := goodIn_r _ [9, 10, 11, 12, 13, 14, 15, 16, 17, 41, 42, 43, 44] (by decide +kernel) (by decide +kernel)
set_option maxRecDepth 20000 in
theorem gX5_mixEntries_X0_countsOf : GoodIn wsX5_mixEntries (wsV RX5 131 RX0 yX0_countsOf wsX0_countsOf) := goodIn_app (goodIn_of _ (by decide +kernel)) ggX5_mixEntries_X0_countsOf
set_option maxRecDepth 20000 in
theorem ggX5_mixEntries_X5_mix : GoodIn wsX5_mixEntries wsX5_mix := goodIn_r _ [21, 22] (by decide +kernel) (by decide +kernel)
set_option maxRecDepth 20000 in
theorem gX5_mixEntries_X5_mix : GoodIn wsX5_mixEntries (va_wsS RX5 255 yX5_mix wsX5_mix) := goodIn_app (goodIn_of _ (by decide +kernel)) ggX5_mixEntries_X5_mix
set_option maxRecDepth 20000 in
theorem ggX5_mixChances_X5_reckonBehindSentence : GoodIn wsX5_mixChances wsX5_reckonBehindSentence := goodIn_r _ [9, 3, 1, 10, 11, 12, 13, 14, 8, 15, 16, 17, 18, 19, 20, 2, 21, 22, 23, 24, 25, 26, 27, 28, 29, 30, 31, 32, 33, 34, 35, 36, 37, 38, 39, 40, 41, 42, 43, 44, 45, 46, 47, 48, 49, 50, 51, 52, 53, 54, 55, 56, 57, 58, 59, 60, 61, 62, 63, 64, 65, 66, 67, 68, 69, 70, 71, 72, 73, 74, 75, 76, 77, 78, 79, 80, 81, 82, 83, 84, 101, 102, 103, 104, 105, 106, 107, 108, 109, 110, 111, 112, 113, 114, 115, 116, 117, 118, 119, 120, 121, 122, 123, 124] (by decide +kernel) (by decide +kernel)
set_option maxRecDepth 20000 in
theorem gX5_mixChances_X5_reckonBehindSentence : GoodIn wsX5_mixChances (wsV RX5 183 RX5 yX5_reckonBehindSentence wsX5_reckonBehindSentence) := goodIn_app (goodIn_of _ (by decide +kernel)) ggX5_mixChances_X5_reckonBehindSentence
set_option maxRecDepth 20000 in
theorem ggX5_mixChances_X5_mix : GoodIn wsX5_mixChances wsX5_mix := goodIn_r _ [87, 88] (by decide +kernel) (by decide +kernel)
set_option maxRecDepth 20000 in
theorem gX5_mixChances_X5_mix : GoodIn wsX5_mixChances (va_wsS RX5 255 yX5_mix wsX5_mix) := goodIn_app (goodIn_of _ (by decide +kernel)) ggX5_mixChances_X5_mix
set_option maxRecDepth 20000 in
theorem ggX5_mixChances_X1_withRank : GoodIn wsX5_mixChances wsX1_withRank := goodIn_r _ [92, 28, 29, 93, 94, 95, 24, 96, 97, 98, 99, 100, 26, 115, 116, 117, 118, 119, 120, 121, 111, 112, 113, 114] (by decide +kernel) (by decide +kernel)
set_option maxRecDepth 20000 in
theorem gX5_mixChances_X1_withRank : GoodIn wsX5_mixChances (wsV RX5 191 RX1 yX1_withRank wsX1_withRank) := goodIn_app (goodIn_of _ (by decide +kernel)) ggX5_mixChances_X1_withRank
set_option maxRecDepth 20000 in
theorem ggX6_init_Jx4a65c_init_da8c8 : GoodIn wsX6_init wsJx4a65c_init_da8c8 := goodIn_r _ [14, 15, 16, 17, 18, 19, 20, 21, 22, 23, 24, 25, 26, 2, 3, 44, 45, 46] (by decide +kernel) (by decide +kernel)
set_option maxRecDepth 20000 in
theorem ggX6_init_X6_tables : GoodIn wsX6_init wsX6_tables := goodIn_r _ [30, 31, 32] (by decide +kernel) (by decide +kernel)
set_option maxRecDepth 20000 in
theorem gX6_init_X6_tables : GoodIn wsX6_init (va_wsS RX6 20 yX6_tables wsX6_tables) := goodIn_app (goodIn_of _ (by decide +kernel)) ggX6_init_X6_tables
set_option maxRecDepth 20000 in
theorem ggX6_start_X6_refuse : GoodIn wsX6_start wsX6_refuse := goodIn_r _ [6, 1, 7, 8, 9, 10, 11, 12, 13, 14, 15, 16, 17] (by decide +kernel) (by decide +kernel)
set_option maxRecDepth 20000 in
theorem gX6_start_X6_refuse : GoodIn wsX6_start (wsV RX6 39 RX6 yX6_refuse wsX6_refuse) := goodIn_app (goodIn_of _ (by decide +kernel)) ggX6_start_X6_refuse
set_option maxRecDepth 20000 in
theorem ggX6_at_Jx4a65c_size_8abf5 : GoodIn wsX6_at wsJx4a65c_size_8abf5 := goodIn_r _ [7, 8, 43, 44, 45] (by decide +kernel) (by decide +kernel)
set_option maxRecDepth 20000 in
theorem gX6_at_Jx4a65c_size_8abf5 : GoodIn wsX6_at (wsV RX6 53 RJx4a65c yJx4a65c_size_8abf5 wsJx4a65c_size_8abf5) := goodIn_app (goodIn_of _ (by decide +kernel)) ggX6_at_Jx4a65c_size_8abf5
set_option maxRecDepth 20000 in
theorem ggX6_add_Jx4a65c_size_8abf5 : GoodIn wsX6_add wsJx4a65c_size_8abf5 := goodIn_r _ [6, 7, 52, 53, 54] (by decide +kernel) (by decide +kernel)
set_option maxRecDepth 20000 in
theorem gX6_add_Jx4a65c_size_8abf5 : GoodIn wsX6_add (wsV RX6 53 RJx4a65c yJx4a65c_size_8abf5 wsJx4a65c_size_8abf5) := goodIn_app (goodIn_of _ (by decide +kernel)) ggX6_add_Jx4a65c_size_8abf5
set_option maxRecDepth 20000 in
theorem ggX6_add_X6_ahead : GoodIn wsX6_add wsX6_ahead := goodIn_r _ [11, 12, 13, 14, 15, 5, 16, 7, 17, 18, 19, 20, 21, 22, 23, 24, 25, 26, 27, 28, 29, 30, 31, 32, 33, 34, 35, 52, 53, 54, 55] (by decide +kernel) (by decide +kernel)
set_option maxRecDepth 20000 in
theorem gX6_add_X6_ahead : GoodIn wsX6_add (va_wsS RX6 59 yX6_ahead wsX6_ahead) := goodIn_app (goodIn_of _ (by decide +kernel)) ggX6_add_X6_ahead
set_option maxRecDepth 20000 in
theorem ggX6_add_X6_at : GoodIn wsX6_add wsX6_at := goodIn_r _ [39, 12, 40, 2, 3, 4, 5, 6, 7, 13, 14, 15, 16, 17, 18, 19, 20, 21, 22, 23, 24, 25, 26, 27, 28, 29, 30, 31, 32, 33, 34, 35, 41, 42, 43, 44, 45, 46, 47, 48, 49, 50, 51, 52, 53, 54, 55] (by decide +kernel) (by decide +kernel)
set_option maxRecDepth 20000 in
theorem gX6_add_X6_at : GoodIn wsX6_add (wsV RX6 63 RX6 yX6_at wsX6_at) := goodIn_app (goodIn_of _ (by decide +kernel)) ggX6_add_X6_at
set_option maxRecDepth 20000 in
theorem ggX6_copy_X6_tables : GoodIn wsX6_copy wsX6_tables := goodIn_r _ [8, 9, 10] (by decide +kernel) (by decide +kernel)
set_option maxRecDepth 20000 in
theorem gX6_copy_X6_tables : GoodIn wsX6_copy (va_wsS RX6 20 yX6_tables wsX6_tables) := goodIn_app (goodIn_of _ (by decide +kernel)) ggX6_copy_X6_tables
set_option maxRecDepth 20000 in
theorem ggX6_addWord_X6_start : GoodIn wsX6_addWord wsX6_start := goodIn_r _ [11, 12, 13, 14, 15, 10, 16, 39, 40, 41, 42, 43, 44, 45, 46, 47, 48, 49] (by decide +kernel) (by decide +kernel)
set_option maxRecDepth 20000 in
theorem gX6_addWord_X6_start : GoodIn wsX6_addWord (wsV RX6 77 RX6 yX6_start wsX6_start) := goodIn_app (goodIn_of _ (by decide +kernel)) ggX6_addWord_X6_start
