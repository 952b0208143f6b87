set_option maxRecDepth 20000 in
theorem ggX6_addWord_X6_tables : GoodIn wsX6_addWord wsX6_tables := goodIn_r _ [19, 20, 21] (by decide +kernel) (by decide +kernel)
set_option maxRecDepth 20000 in
theorem gX6_addWord_X6_tables : GoodIn wsX6_addWord (va_wsS RX6 20 yX6_tables wsX6_tables) := goodIn_app (goodIn_of _ (by decide +kernel)) ggX6_addWord_X6_tables
set_option maxRecDepth 20000 in
theorem ggX6_addWord_Jx4a65c_init_da8c8 : GoodIn wsX6_addWord wsJx4a65c_init_da8c8 := goodIn_r _ [24, 25, 26, 27, 28, 29, 30, 31, 32, 33, 34, 35, 36, 37, 38, 50, 51, 52] (by decide +kernel) (by decide +kernel)
set_option maxRecDepth 20000 in
theorem ggX6_setOrder_X6_isIn : GoodIn wsX6_setOrder wsX6_isIn := goodIn_r _ [6] (by decide +kernel) (by decide +kernel)
set_option maxRecDepth 20000 in
theorem gX6_setOrder_X6_isIn : GoodIn wsX6_setOrder (va_wsS RX6 80 yX6_isIn wsX6_isIn) := goodIn_app (goodIn_of _ (by decide +kernel)) ggX6_setOrder_X6_isIn
set_option maxRecDepth 20000 in
theorem ggX6_setOrder_X6_start : GoodIn wsX6_setOrder wsX6_start := goodIn_r _ [10, 11, 12, 13, 14, 5, 15, 21, 22, 23, 24, 25, 26, 27, 28, 29, 30, 31] (by decide +kernel) (by decide +kernel)
set_option maxRecDepth 20000 in
theorem gX6_setOrder_X6_start : GoodIn wsX6_setOrder (wsV RX6 77 RX6 yX6_start wsX6_start) := goodIn_app (goodIn_of _ (by decide +kernel)) ggX6_setOrder_X6_start
set_option maxRecDepth 20000 in
theorem ggX6_setOrder_X6_tables : GoodIn wsX6_setOrder wsX6_tables := goodIn_r _ [18, 19, 20] (by decide +kernel) (by decide +kernel)
set_option maxRecDepth 20000 in
theorem gX6_setOrder_X6_tables : GoodIn wsX6_setOrder (va_wsS RX6 20 yX6_tables wsX6_tables) := goodIn_app (goodIn_of _ (by decide +kernel)) ggX6_setOrder_X6_tables
set_option maxRecDepth 20000 in
theorem ggX6_say_X6_isIn : GoodIn wsX6_say wsX6_isIn := goodIn_r _ [6] (by decide +kernel) (by decide +kernel)
set_option maxRecDepth 20000 in
theorem gX6_say_X6_isIn : GoodIn wsX6_say (va_wsS RX6 80 yX6_isIn wsX6_isIn) := goodIn_app (goodIn_of _ (by decide +kernel)) ggX6_say_X6_isIn
set_option maxRecDepth 20000 in
theorem ggX6_say_X6_start : GoodIn wsX6_say wsX6_start := goodIn_r _ [10, 11, 12, 13, 14, 5, 15, 95, 96, 97, 98, 99, 100, 101, 102, 103, 104, 105] (by decide +kernel) (by decide +kernel)
set_option maxRecDepth 20000 in
theorem gX6_say_X6_start : GoodIn wsX6_say (wsV RX6 77 RX6 yX6_start wsX6_start) := goodIn_app (goodIn_of _ (by decide +kernel)) ggX6_say_X6_start
set_option maxRecDepth 20000 in
theorem ggX6_hush_Jx4a65c_size_8abf5 : GoodIn wsX6_hush wsJx4a65c_size_8abf5 := goodIn_r _ [9, 10, 39, 40, 41] (by decide +kernel) (by decide +kernel)
set_option maxRecDepth 20000 in
theorem gX6_hush_Jx4a65c_size_8abf5 : GoodIn wsX6_hush (wsV RX6 53 RJx4a65c yJx4a65c_size_8abf5 wsJx4a65c_size_8abf5) := goodIn_app (goodIn_of _ (by decide +kernel)) ggX6_hush_Jx4a65c_size_8abf5
set_option maxRecDepth 20000 in
theorem ggX6_hush_Jx4a65c_init_da8c8 : GoodIn wsX6_hush wsJx4a65c_init_da8c8 := goodIn_r _ [13, 14, 15, 16, 17, 18, 19, 20, 21, 22, 23, 24, 25, 26, 27, 39, 40, 41] (by decide +kernel) (by decide +kernel)
set_option maxRecDepth 20000 in
theorem ggX6_learn_X6_isIn : GoodIn wsX6_learn wsX6_isIn := goodIn_r _ [7] (by decide +kernel) (by decide +kernel)
set_option maxRecDepth 20000 in
theorem gX6_learn_X6_isIn : GoodIn wsX6_learn (va_wsS RX6 80 yX6_isIn wsX6_isIn) := goodIn_app (goodIn_of _ (by decide +kernel)) ggX6_learn_X6_isIn
set_option maxRecDepth 20000 in
theorem ggX6_learn_X6_start : GoodIn wsX6_learn wsX6_start := goodIn_r _ [11, 12, 13, 14, 15, 6, 16, 77, 78, 79, 80, 81, 82, 83, 84, 85, 86, 87] (by decide +kernel) (by decide +kernel)
set_option maxRecDepth 20000 in
theorem gX6_learn_X6_start : GoodIn wsX6_learn (wsV RX6 77 RX6 yX6_start wsX6_start) := goodIn_app (goodIn_of _ (by decide +kernel)) ggX6_learn_X6_start
set_option maxRecDepth 20000 in
theorem ggX6_learn_X6_refuse : GoodIn wsX6_learn wsX6_refuse := goodIn_r _ [16, 12, 77, 78, 79, 80, 81, 82, 83, 84, 85, 86, 87] (by decide +kernel) (by decide +kernel)
set_option maxRecDepth 20000 in
theorem gX6_learn_X6_refuse : GoodIn wsX6_learn (wsV RX6 39 RX6 yX6_refuse wsX6_refuse) := goodIn_app (goodIn_of _ (by decide +kernel)) ggX6_learn_X6_refuse
set_option maxRecDepth 20000 in
theorem ggX6_unlearn_X6_copy : GoodIn wsX6_unlearn wsX6_copy := goodIn_r _ [6, 7, 8, 9, 10, 11, 12, 5, 13, 14, 15] (by decide +kernel) (by decide +kernel)
set_option maxRecDepth 20000 in
theorem gX6_unlearn_X6_copy : GoodIn wsX6_unlearn (va_wsS RX6 92 yX6_copy wsX6_copy) := goodIn_app (goodIn_of _ (by decide +kernel)) ggX6_unlearn_X6_copy
set_option maxRecDepth 20000 in
theorem ggX6_unlearn_X6_add : GoodIn wsX6_unlearn wsX6_add := goodIn_r _ [19, 20, 21, 22, 23, 24, 25, 26, 27, 28, 5, 29, 30, 31, 32, 33, 34, 35, 36, 37, 38, 39, 40, 41, 42, 43, 44, 45, 46, 47, 48, 49, 50, 51, 52, 53, 54, 55, 56, 57, 58, 74, 75, 76, 77, 78, 79, 80, 81, 82, 83, 84, 85, 86, 87, 88] (by decide +kernel) (by decide +kernel)
set_option maxRecDepth 20000 in
theorem gX6_unlearn_X6_add : GoodIn wsX6_unlearn (wsV RX6 96 RX6 yX6_add wsX6_add) := goodIn_app (goodIn_of _ (by decide +kernel)) ggX6_unlearn_X6_add
set_option maxRecDepth 20000 in
theorem ggX6_unlearn_X6_start : GoodIn wsX6_unlearn wsX6_start := goodIn_r _ [62, 63, 64, 65, 66, 5, 67, 74, 75, 76, 77, 78, 79, 80, 81, 82, 83, 84] (by decide +kernel) (by decide +kernel)
set_option maxRecDepth 20000 in
theorem gX6_unlearn_X6_start : GoodIn wsX6_unlearn (wsV RX6 77 RX6 yX6_start wsX6_start) := goodIn_app (goodIn_of _ (by decide +kernel)) ggX6_unlearn_X6_start
set_option maxRecDepth 20000 in
theorem ggX6_words_X6_plain : GoodIn wsX6_words wsX6_plain := goodIn_r _ [6, 7, 8, 9, 10, 11, 12, 13, 14, 15, 16, 17, 18] (by decide +kernel) (by decide +kernel)
set_option maxRecDepth 20000 in
theorem gX6_words_X6_plain : GoodIn wsX6_words (wsV RX6 103 RX6 yX6_plain wsX6_plain) := goodIn_app (goodIn_of _ (by decide +kernel)) ggX6_words_X6_plain
set_option maxRecDepth 20000 in
theorem ggX6_order_X6_plain : GoodIn wsX6_order wsX6_plain := goodIn_r _ [6, 7, 8, 9, 10, 11, 12, 13, 14, 15, 16, 17, 18] (by decide +kernel) (by decide +kernel)
set_option maxRecDepth 20000 in
theorem gX6_order_X6_plain : GoodIn wsX6_order (wsV RX6 103 RX6 yX6_plain wsX6_plain) := goodIn_app (goodIn_of _ (by decide +kernel)) ggX6_order_X6_plain
set_option maxRecDepth 20000 in
theorem ggX6_length_Jx4a65c_size_8abf5 : GoodIn wsX6_length wsJx4a65c_size_8abf5 := goodIn_r _ [6, 7, 25, 26, 27] (by decide +kernel) (by decide +kernel)
set_option maxRecDepth 20000 in
theorem gX6_length_Jx4a65c_size_8abf5 : GoodIn wsX6_length (wsV RX6 53 RJx4a65c yJx4a65c_size_8abf5 wsJx4a65c_size_8abf5) := goodIn_app (goodIn_of _ (by decide +kernel)) ggX6_length_Jx4a65c_size_8abf5
set_option maxRecDepth 20000 in
theorem ggX6_length_X6_plain : GoodIn wsX6_length wsX6_plain := goodIn_r _ [12, 13, 14, 15, 16, 17, 18, 19, 20, 21, 22, 23, 24] (by decide +kernel) (by decide +kernel)
set_option maxRecDepth 20000 in
theorem gX6_length_X6_plain : GoodIn wsX6_length (wsV RX6 103 RX6 yX6_plain wsX6_plain) := goodIn_app (goodIn_of _ (by decide +kernel)) ggX6_length_X6_plain
set_option maxRecDepth 20000 in
theorem ggX6_wordAt_Jx4a65c_size_8abf5 : GoodIn wsX6_wordAt wsJx4a65c_size_8abf5 := goodIn_r _ [7, 8, 56, 57, 58] (by decide +kernel) (by decide +kernel)
set_option maxRecDepth 20000 in
theorem gX6_wordAt_Jx4a65c_size_8abf5 : GoodIn wsX6_wordAt (wsV RX6 53 RJx4a65c yJx4a65c_size_8abf5 wsJx4a65c_size_8abf5) := goodIn_app (goodIn_of _ (by decide +kernel)) ggX6_wordAt_Jx4a65c_size_8abf5
set_option maxRecDepth 20000 in
theorem ggX6_wordAt_X6_isIn : GoodIn wsX6_wordAt wsX6_isIn := goodIn_r _ [12] (by decide +kernel) (by decide +kernel)
set_option maxRecDepth 20000 in
theorem gX6_wordAt_X6_isIn : GoodIn wsX6_wordAt (va_wsS RX6 80 yX6_isIn wsX6_isIn) := goodIn_app (goodIn_of _ (by decide +kernel)) ggX6_wordAt_X6_isIn
set_option maxRecDepth 20000 in
theorem ggX6_wordAt_X6_start : GoodIn wsX6_wordAt wsX6_start := goodIn_r _ [16, 17, 18, 19, 20, 11, 21, 45, 46, 47, 48, 49, 50, 51, 52, 53, 54, 55] (by decide +kernel) (by decide +kernel)
set_option maxRecDepth 20000 in
theorem gX6_wordAt_X6_start : GoodIn wsX6_wordAt (wsV RX6 77 RX6 yX6_start wsX6_start) := goodIn_app (goodIn_of _ (by decide +kernel)) ggX6_wordAt_X6_start
set_option maxRecDepth 20000 in
theorem ggX6_isNoOrder_X6_isIn : GoodIn wsX6_isNoOrder wsX6_isIn := goodIn_r _ [5] (by decide +kernel) (by decide +kernel)
set_option maxRecDepth 20000 in
theorem gX6_isNoOrder_X6_isIn : GoodIn wsX6_isNoOrder (va_wsS RX6 80 yX6_isIn wsX6_isIn) := goodIn_app (goodIn_of _ (by decide +kernel)) ggX6_isNoOrder_X6_isIn
set_option maxRecDepth 20000 in
theorem ggX6_isNoOrder_X6_start : GoodIn wsX6_isNoOrder wsX6_start := goodIn_r _ [9, 10, 11, 12, 13, 4, 14, 15, 16, 17, 18, 19, 20, 21, 22, 23, 24, 25] (by decide +kernel) (by decide +kernel)
set_option maxRecDepth 20000 in
theorem gX6_isNoOrder_X6_start : GoodIn wsX6_isNoOrder (wsV RX6 77 RX6 yX6_start wsX6_start) := goodIn_app (goodIn_of _ (by decide +kernel)) ggX6_isNoOrder_X6_start
set_option maxRecDepth 20000 in
theorem ggX6_entries_X6_isNoOrder : GoodIn wsX6_entries wsX6_isNoOrder := goodIn_r _ [6, 7, 8, 9, 5, 10, 11, 12, 13, 14, 15, 16, 17, 18, 19, 23, 24, 25, 26, 27, 28, 29, 30, 31, 32, 33] (by decide +kernel) (by decide +kernel)
set_option maxRecDepth 20000 in
theorem gX6_entries_X6_isNoOrder : GoodIn wsX6_entries (wsV RX6 107 RX6 yX6_isNoOrder wsX6_isNoOrder) := goodIn_app (goodIn_of _ (by decide +kernel)) ggX6_entries_X6_isNoOrder
set_option maxRecDepth 20000 in
theorem ggX6_entries_X6_many : GoodIn wsX6_entries wsX6_many := goodIn_r _ [22] (by decide +kernel) (by decide +kernel)
set_option maxRecDepth 20000 in
theorem gX6_entries_X6_many : GoodIn wsX6_entries (va_wsS RX6 67 yX6_many wsX6_many) := goodIn_app (goodIn_of _ (by decide +kernel)) ggX6_entries_X6_many
set_option maxRecDepth 20000 in
theorem ggX6_isNoEntry_X6_isNoOrder : GoodIn wsX6_isNoEntry wsX6_isNoOrder := goodIn_r _ [6, 7, 8, 9, 5, 10, 11, 12, 13, 14, 15, 16, 17, 18, 19, 23, 24, 25, 26, 27, 28, 29, 30, 31, 32, 33] (by decide +kernel) (by decide +kernel)
set_option maxRecDepth 20000 in
theorem gX6_isNoEntry_X6_isNoOrder : GoodIn wsX6_isNoEntry (wsV RX6 107 RX6 yX6_isNoOrder wsX6_isNoOrder) := goodIn_app (goodIn_of _ (by decide +kernel)) ggX6_isNoEntry_X6_isNoOrder
set_option maxRecDepth 20000 in
theorem ggX6_isNoEntry_X6_many : GoodIn wsX6_isNoEntry wsX6_many := goodIn_r _ [22] (by decide +kernel) (by decide +kernel)
set_option maxRecDepth 20000 in
theorem gX6_isNoEntry_X6_many : GoodIn wsX6_isNoEntry (va_wsS RX6 67 yX6_many wsX6_many) := goodIn_app (goodIn_of _ (by decide +kernel)) ggX6_isNoEntry_X6_many
set_option maxRecDepth 20000 in
theorem ggX6_isNoEntry_X6_isIn : GoodIn wsX6_isNoEntry wsX6_isIn := goodIn_r _ [10] (by decide +kernel) (by decide +kernel)
set_option maxRecDepth 20000 in
theorem gX6_isNoEntry_X6_isIn : GoodIn wsX6_isNoEntry (va_wsS RX6 80 yX6_isIn wsX6_isIn) := goodIn_app (goodIn_of _ (by decide +kernel)) ggX6_isNoEntry_X6_isIn
set_option maxRecDepth 20000 in
theorem ggX6_isNoEntry_X6_refuse : GoodIn wsX6_isNoEntry wsX6_refuse := goodIn_r _ [19, 15, 23, 24, 25, 26, 27, 28, 29, 30, 31, 32, 33] (by decide +kernel) (by decide +kernel)
set_option maxRecDepth 20000 in
theorem gX6_isNoEntry_X6_refuse : GoodIn wsX6_isNoEntry (wsV RX6 39 RX6 yX6_refuse wsX6_refuse) := goodIn_app (goodIn_of _ (by decide +kernel)) ggX6_isNoEntry_X6_refuse
set_option maxRecDepth 20000 in
theorem ggX6_entryAt_X6_isNoEntry : GoodIn wsX6_entryAt wsX6_isNoEntry := goodIn_r _ [5, 6, 7, 8, 9, 4, 10, 11, 12, 13, 14, 15, 16, 17, 18, 19, 20, 21, 22, 23, 24, 25, 26, 34, 35, 36, 37, 38, 39, 40, 41, 42, 43, 44] (by decide +kernel) (by decide +kernel)
set_option maxRecDepth 20000 in
theorem gX6_entryAt_X6_isNoEntry : GoodIn wsX6_entryAt (wsV RX6 111 RX6 yX6_isNoEntry wsX6_isNoEntry) := goodIn_app (goodIn_of _ (by decide +kernel)) ggX6_entryAt_X6_isNoEntry
set_option maxRecDepth 20000 in
theorem ggX6_countOf_X6_isNoEntry : GoodIn wsX6_countOf wsX6_isNoEntry := goodIn_r _ [6, 1, 7, 8, 9, 5, 10, 11, 12, 13, 14, 15, 16, 17, 18, 19, 20, 21, 22, 23, 24, 25, 26, 31, 32, 33, 34, 35, 36, 37, 38, 39, 40, 41] (by decide +kernel) (by decide +kernel)
set_option maxRecDepth 20000 in
theorem gX6_countOf_X6_isNoEntry : GoodIn wsX6_countOf (wsV RX6 111 RX6 yX6_isNoEntry wsX6_isNoEntry) := goodIn_app (goodIn_of _ (by decide +kernel)) ggX6_countOf_X6_isNoEntry
set_option maxRecDepth 20000 in
theorem ggX6_context_Jx4a65c_size_8abf5 : GoodIn wsX6_context wsJx4a65c_size_8abf5 := goodIn_r _ [7, 8, 54, 55, 56] (by decide +kernel) (by decide +kernel)
set_option maxRecDepth 20000 in
theorem gX6_context_Jx4a65c_size_8abf5 : GoodIn wsX6_context (wsV RX6 53 RJx4a65c yJx4a65c_size_8abf5 wsJx4a65c_size_8abf5) := goodIn_app (goodIn_of _ (by decide +kernel)) ggX6_context_Jx4a65c_size_8abf5
set_option maxRecDepth 20000 in
theorem ggX6_context_X6_ahead : GoodIn wsX6_context wsX6_ahead := goodIn_r _ [12, 13, 14, 15, 16, 6, 17, 8, 18, 19, 20, 21, 22, 23, 24, 25, 26, 27, 28, 29, 30, 31, 32, 33, 34, 35, 36, 54, 55, 56, 57] (by decide +kernel) (by decide +kernel)
set_option maxRecDepth 20000 in
theorem gX6_context_X6_ahead : GoodIn wsX6_context (va_wsS RX6 59 yX6_ahead wsX6_ahead) := goodIn_app (goodIn_of _ (by decide +kernel)) ggX6_context_X6_ahead
set_option maxRecDepth 20000 in
theorem ggX6_context_X6_sum : GoodIn wsX6_context wsX6_sum := goodIn_r _ [39] (by decide +kernel) (by decide +kernel)
set_option maxRecDepth 20000 in
theorem gX6_context_X6_sum : GoodIn wsX6_context (va_wsS RX6 122 yX6_sum wsX6_sum) := goodIn_app (goodIn_of _ (by decide +kernel)) ggX6_context_X6_sum
set_option maxRecDepth 20000 in
theorem ggX6_context_X6_sorts : GoodIn wsX6_context wsX6_sorts := goodIn_r _ [42] (by decide +kernel) (by decide +kernel)
set_option maxRecDepth 20000 in
theorem gX6_context_X6_sorts : GoodIn wsX6_context (va_wsS RX6 126 yX6_sorts wsX6_sorts) := goodIn_app (goodIn_of _ (by decide +kernel)) ggX6_context_X6_sorts
set_option maxRecDepth 20000 in
theorem ggX6_ofContext_X6_isIn : GoodIn wsX6_ofContext wsX6_isIn := goodIn_r _ [5] (by decide +kernel) (by decide +kernel)
set_option maxRecDepth 20000 in
theorem gX6_ofContext_X6_isIn : GoodIn wsX6_ofContext (va_wsS RX6 80 yX6_isIn wsX6_isIn) := goodIn_app (goodIn_of _ (by decide +kernel)) ggX6_ofContext_X6_isIn
set_option maxRecDepth 20000 in
theorem ggX6_ofContext_X6_start : GoodIn wsX6_ofContext wsX6_start := goodIn_r _ [9, 10, 11, 12, 13, 4, 14, 60, 61, 62, 63, 64, 65, 66, 67, 68, 69, 70] (by decide +kernel) (by decide +kernel)
set_option maxRecDepth 20000 in
theorem gX6_ofContext_X6_start : GoodIn wsX6_ofContext (wsV RX6 77 RX6 yX6_start wsX6_start) := goodIn_app (goodIn_of _ (by decide +kernel)) ggX6_ofContext_X6_start
set_option maxRecDepth 20000 in
theorem ggX6_ofContext_X6_context : GoodIn wsX6_ofContext wsX6_context := goodIn_r _ [18, 19, 20, 21, 22, 23, 24, 25, 26, 27, 28, 4, 29, 30, 31, 32, 33, 34, 35, 36, 37, 38, 39, 40, 41, 42, 43, 44, 45, 46, 47, 48, 49, 50, 51, 52, 53, 54, 55, 56, 57, 58, 59, 60, 61, 62, 63, 64, 65, 66, 67, 68, 69, 70, 71, 72, 73, 74] (by decide +kernel) (by decide +kernel)
set_option maxRecDepth 20000 in
theorem gX6_ofContext_X6_context : GoodIn wsX6_ofContext (wsV RX6 129 RX6 yX6_context wsX6_context) := goodIn_app (goodIn_of _ (by decide +kernel)) ggX6_ofContext_X6_context
set_option maxRecDepth 20000 in
theorem ggX6_prune_X6_isIn : GoodIn wsX6_prune wsX6_isIn := goodIn_r _ [6] (by decide +kernel) (by decide +kernel)
set_option maxRecDepth 20000 in
theorem gX6_prune_X6_isIn : GoodIn wsX6_prune (va_wsS RX6 80 yX6_isIn wsX6_isIn) := goodIn_app (goodIn_of _ (by decide +kernel)) ggX6_prune_X6_isIn
set_option maxRecDepth 20000 in
theorem ggX6_prune_X6_start : GoodIn wsX6_prune wsX6_start := goodIn_r _ [10, 11, 12, 13, 14, 5, 15, 16, 17, 18, 19, 20, 21, 22, 23, 24, 25, 26] (by decide +kernel) (by decide +kernel)
set_option maxRecDepth 20000 in
theorem gX6_prune_X6_start : GoodIn wsX6_prune (wsV RX6 77 RX6 yX6_start wsX6_start) := goodIn_app (goodIn_of _ (by decide +kernel)) ggX6_prune_X6_start
set_option maxRecDepth 20000 in
theorem ggX6_pruneBy_X6_isIn : GoodIn wsX6_pruneBy wsX6_isIn := goodIn_r _ [19] (by decide +kernel) (by decide +kernel)
set_option maxRecDepth 20000 in
theorem gX6_pruneBy_X6_isIn : GoodIn wsX6_pruneBy (va_wsS RX6 80 yX6_isIn wsX6_isIn) := goodIn_app (goodIn_of _ (by decide +kernel)) ggX6_pruneBy_X6_isIn
set_option maxRecDepth 20000 in
theorem ggX6_pruneBy_X6_start : GoodIn wsX6_pruneBy wsX6_start := goodIn_r _ [23, 24, 25, 26, 27, 18, 28, 51, 52, 53, 54, 55, 56, 57, 58, 59, 60, 61] (by decide +kernel) (by decide +kernel)
set_option maxRecDepth 20000 in
theorem gX6_pruneBy_X6_start : GoodIn wsX6_pruneBy (wsV RX6 77 RX6 yX6_start wsX6_start) := goodIn_app (goodIn_of _ (by decide +kernel)) ggX6_pruneBy_X6_start
set_option maxRecDepth 20000 in
theorem ggX6_chance_X6_power : GoodIn wsX6_chance wsX6_power := goodIn_r _ [13] (by decide +kernel) (by decide +kernel)
set_option maxRecDepth 20000 in
theorem gX6_chance_X6_power : GoodIn wsX6_chance (va_wsS RX6 144 yX6_power wsX6_power) := goodIn_app (goodIn_of _ (by decide +kernel)) ggX6_chance_X6_power
set_option maxRecDepth 20000 in
theorem ggX6_chance_X6_ways : GoodIn wsX6_chance wsX6_ways := goodIn_r _ [16] (by decide +kernel) (by decide +kernel)
set_option maxRecDepth 20000 in
theorem gX6_chance_X6_ways : GoodIn wsX6_chance (va_wsS RX6 153 yX6_ways wsX6_ways) := goodIn_app (goodIn_of _ (by decide +kernel)) ggX6_chance_X6_ways
set_option maxRecDepth 20000 in
theorem ggX6_chance_X6_sum : GoodIn wsX6_chance wsX6_sum := goodIn_r _ [19] (by decide +kernel) (by decide +kernel)
set_option maxRecDepth 20000 in
theorem gX6_chance_X6_sum : GoodIn wsX6_chance (va_wsS RX6 122 yX6_sum wsX6_sum) := goodIn_app (goodIn_of _ (by decide +kernel)) ggX6_chance_X6_sum
set_option maxRecDepth 20000 in
theorem ggX6_chance_X6_sorts : GoodIn wsX6_chance wsX6_sorts := goodIn_r _ [22] (by decide +kernel) (by decide +kernel)
set_option maxRecDepth 20000 in
theorem gX6_chance_X6_sorts : GoodIn wsX6_chance (va_wsS RX6 126 yX6_sorts wsX6_sorts) := goodIn_app (goodIn_of _ (by decide +kernel)) ggX6_chance_X6_sorts
set_option maxRecDepth 20000 in
theorem ggX6_chance_X6_chance : GoodIn wsX6_chance wsX6_chance := goodIn_r _ [0, 1, 2, 3, 4, 5, 6, 7, 8, 9, 10, 11, 12, 13, 14, 15, 16, 17, 18, 19, 20, 21, 22, 23, 24, 25, 26, 27, 28, 29, 30, 31, 32, 33, 34, 35, 36] (by decide +kernel) (by decide +kernel)
set_option maxRecDepth 20000 in
theorem gX6_chance_X6_chance : GoodIn wsX6_chance (wsV RX6 140 RX6 yX6_chance wsX6_chance) := goodIn_app (goodIn_of _ (by decide +kernel)) ggX6_chance_X6_chance
set_option maxRecDepth 20000 in
theorem ggX6_behind_Jx4a65c_size_8abf5 : GoodIn wsX6_behind wsJx4a65c_size_8abf5 := goodIn_r _ [9, 10, 74, 75, 76] (by decide +kernel) (by decide +kernel)
set_option maxRecDepth 20000 in
theorem gX6_behind_Jx4a65c_size_8abf5 : GoodIn wsX6_behind (wsV RX6 53 RJx4a65c yJx4a65c_size_8abf5 wsJx4a65c_size_8abf5) := goodIn_app (goodIn_of _ (by decide +kernel)) ggX6_behind_Jx4a65c_size_8abf5
set_option maxRecDepth 20000 in
theorem ggX6_behind_X6_ahead : GoodIn wsX6_behind wsX6_ahead := goodIn_r _ [14, 15, 16, 17, 18, 8, 19, 10, 20, 21, 22, 23, 24, 25, 26, 27, 28, 29, 30, 31, 32, 33, 34, 35, 36, 37, 38, 74, 75, 76, 77] (by decide +kernel) (by decide +kernel)
set_option maxRecDepth 20000 in
theorem gX6_behind_X6_ahead : GoodIn wsX6_behind (va_wsS RX6 59 yX6_ahead wsX6_ahead) := goodIn_app (goodIn_of _ (by decide +kernel)) ggX6_behind_X6_ahead
set_option maxRecDepth 20000 in
theorem ggX6_behind_X6_chance : GoodIn wsX6_behind wsX6_chance := goodIn_r _ [42, 4, 43, 44, 45, 46, 47, 48, 49, 50, 51, 52, 13, 53, 54, 55, 56, 57, 58, 59, 60, 61, 62, 39, 40, 41, 63, 64, 65, 66, 67, 68, 69, 70, 71, 72, 73] (by decide +kernel) (by decide +kernel)
set_option maxRecDepth 20000 in
theorem gX6_behind_X6_chance : GoodIn wsX6_behind (wsV RX6 140 RX6 yX6_chance wsX6_chance) := goodIn_app (goodIn_of _ (by decide +kernel)) ggX6_behind_X6_chance
set_option maxRecDepth 20000 in
theorem ggX6_setWay_X6_isIn : GoodIn wsX6_setWay wsX6_isIn := goodIn_r _ [6] (by decide +kernel) (by decide +kernel)
set_option maxRecDepth 20000 in
theorem gX6_setWay_X6_isIn : GoodIn wsX6_setWay (va_wsS RX6 80 yX6_isIn wsX6_isIn) := goodIn_app (goodIn_of _ (by decide +kernel)) ggX6_setWay_X6_isIn
set_option maxRecDepth 20000 in
theorem ggX6_setWay_X6_start : GoodIn wsX6_setWay wsX6_start := goodIn_r _ [10, 11, 12, 13, 14, 5, 15, 16, 17, 18, 19, 20, 21, 22, 23, 24, 25, 26] (by decide +kernel) (by decide +kernel)
set_option maxRecDepth 20000 in
theorem gX6_setWay_X6_start : GoodIn wsX6_setWay (wsV RX6 77 RX6 yX6_start wsX6_start) := goodIn_app (goodIn_of _ (by decide +kernel)) ggX6_setWay_X6_start
set_option maxRecDepth 20000 in
theorem ggX6_chance__X6_isIn : GoodIn wsX6_chance_ wsX6_isIn := goodIn_r _ [6] (by decide +kernel) (by decide +kernel)
set_option maxRecDepth 20000 in
theorem gX6_chance__X6_isIn : GoodIn wsX6_chance_ (va_wsS RX6 80 yX6_isIn wsX6_isIn) := goodIn_app (goodIn_of _ (by decide +kernel)) ggX6_chance__X6_isIn
set_option maxRecDepth 20000 in
theorem ggX6_chance__X6_start : GoodIn wsX6_chance_ wsX6_start := goodIn_r _ [10, 11, 12, 13, 14, 5, 15, 80, 81, 82, 83, 84, 85, 86, 87, 88, 89, 90] (by decide +kernel) (by decide +kernel)
set_option maxRecDepth 20000 in
theorem gX6_chance__X6_start : GoodIn wsX6_chance_ (wsV RX6 77 RX6 yX6_start wsX6_start) := goodIn_app (goodIn_of _ (by decide +kernel)) ggX6_chance__X6_start
set_option maxRecDepth 20000 in
theorem ggX6_chance__X6_behind : GoodIn wsX6_chance_ wsX6_behind := goodIn_r _ [19, 20, 21, 22, 23, 24, 25, 26, 27, 28, 29, 30, 31, 5, 32, 33, 34, 35, 36, 37, 38, 39, 40, 41, 42, 43, 44, 45, 46, 47, 48, 49, 50, 51, 52, 53, 54, 55, 56, 57, 58, 59, 60, 1, 61, 62, 63, 64, 65, 66, 67, 68, 69, 70, 71, 72, 73, 74, 75, 76, 77, 78, 79, 80, 81, 82, 83, 84, 85, 86, 87, 88, 89, 90, 91, 92, 93, 94] (by decide +kernel) (by decide +kernel)
set_option maxRecDepth 20000 in
theorem gX6_chance__X6_behind : GoodIn wsX6_chance_ (wsV RX6 165 RX6 yX6_behind wsX6_behind) := goodIn_app (goodIn_of _ (by decide +kernel)) ggX6_chance__X6_behind
set_option maxRecDepth 20000 in
theorem ggX6_ranked_X6_isIn : GoodIn wsX6_ranked wsX6_isIn := goodIn_r _ [6] (by decide +kernel) (by decide +kernel)
set_option maxRecDepth 20000 in
theorem gX6_ranked_X6_isIn : GoodIn wsX6_ranked (va_wsS RX6 80 yX6_isIn wsX6_isIn) := goodIn_app (goodIn_of _ (by decide +kernel)) ggX6_ranked_X6_isIn
set_option maxRecDepth 20000 in
theorem ggX6_ranked_X6_start : GoodIn wsX6_ranked wsX6_start := goodIn_r _ [10, 11, 12, 13, 14, 5, 15, 85, 86, 87, 88, 89, 90, 91, 92, 93, 94, 95] (by decide +kernel) (by decide +kernel)
set_option maxRecDepth 20000 in
theorem gX6_ranked_X6_start : GoodIn wsX6_ranked (wsV RX6 77 RX6 yX6_start wsX6_start) := goodIn_app (goodIn_of _ (by decide +kernel)) ggX6_ranked_X6_start
set_option maxRecDepth 20000 in
theorem ggX6_ranked_X6_order_ : GoodIn wsX6_ranked wsX6_order_ := goodIn_r _ [19, 1, 20, 21, 22, 23, 5, 24, 25, 26, 27, 28, 29, 30, 31, 32, 33, 34, 35, 36, 37, 38, 39, 40, 41, 42, 43, 44, 45, 46, 47, 48, 49, 50, 51, 52, 53, 54, 55, 56, 57, 58, 59, 60, 61, 62, 63, 64, 65, 66, 67, 68, 69, 70, 71, 72, 73, 74, 75, 76, 77, 78, 79, 80, 81, 82, 83, 84, 85, 86, 87, 88, 89, 90, 91, 92, 93, 94, 95, 96, 97, 98, 99] (by decide +kernel) (by decide +kernel)
set_option maxRecDepth 20000 in
theorem gX6_ranked_X6_order_ : GoodIn wsX6_ranked (wsV RX6 169 RX6 yX6_order_ wsX6_order_) := goodIn_app (goodIn_of _ (by decide +kernel)) ggX6_ranked_X6_order_
set_option maxRecDepth 20000 in
theorem ggX6_costOf_X6_cost : GoodIn wsX6_costOf wsX6_cost := goodIn_r _ [4, 5, 6, 7, 8] (by decide +kernel) (by decide +kernel)
set_option maxRecDepth 20000 in
theorem gX6_costOf_X6_cost : GoodIn wsX6_costOf (va_wsS RX6 175 yX6_cost wsX6_cost) := goodIn_app (goodIn_of _ (by decide +kernel)) ggX6_costOf_X6_cost
set_option maxRecDepth 20000 in
theorem ggX6_costOf_X6_plain : GoodIn wsX6_costOf wsX6_plain := goodIn_r _ [12, 13, 14, 15, 16, 17, 18, 19, 20, 21, 22, 23, 24] (by decide +kernel) (by decide +kernel)
set_option maxRecDepth 20000 in
theorem gX6_costOf_X6_plain : GoodIn wsX6_costOf (wsV RX6 103 RX6 yX6_plain wsX6_plain) := goodIn_app (goodIn_of _ (by decide +kernel)) ggX6_costOf_X6_plain
set_option maxRecDepth 20000 in
theorem ggX6_score_Jx4a65c_size_8abf5 : GoodIn wsX6_score wsJx4a65c_size_8abf5 := goodIn_r _ [7, 8, 81, 82, 83] (by decide +kernel) (by decide +kernel)
set_option maxRecDepth 20000 in
theorem gX6_score_Jx4a65c_size_8abf5 : GoodIn wsX6_score (wsV RX6 53 RJx4a65c yJx4a65c_size_8abf5 wsJx4a65c_size_8abf5) := goodIn_app (goodIn_of _ (by decide +kernel)) ggX6_score_Jx4a65c_size_8abf5
set_option maxRecDepth 20000 in
theorem ggX6_score_X6_at : GoodIn wsX6_score wsX6_at := goodIn_r _ [13, 14, 15, 3, 4, 5, 6, 7, 8, 16, 17, 18, 19, 20, 21, 22, 23, 24, 25, 26, 27, 28, 29, 30, 31, 32, 33, 34, 35, 36, 37, 38, 70, 71, 72, 73, 74, 75, 76, 77, 78, 79, 80, 81, 82, 83, 84] (by decide +kernel) (by decide +kernel)
set_option maxRecDepth 20000 in
theorem gX6_score_X6_at : GoodIn wsX6_score (wsV RX6 63 RX6 yX6_at wsX6_at) := goodIn_app (goodIn_of _ (by decide +kernel)) ggX6_score_X6_at
set_option maxRecDepth 20000 in
theorem ggX6_score_X6_ahead : GoodIn wsX6_score wsX6_ahead := goodIn_r _ [41, 14, 16, 17, 18, 6, 19, 8, 20, 21, 22, 23, 24, 25, 26, 27, 28, 29, 30, 31, 32, 33, 34, 35, 36, 37, 38, 81, 82, 83, 84] (by decide +kernel) (by decide +kernel)
set_option maxRecDepth 20000 in
theorem gX6_score_X6_ahead : GoodIn wsX6_score (va_wsS RX6 59 yX6_ahead wsX6_ahead) := goodIn_app (goodIn_of _ (by decide +kernel)) ggX6_score_X6_ahead
set_option maxRecDepth 20000 in
theorem ggX6_score_X6_chance : GoodIn wsX6_score wsX6_chance := goodIn_r _ [45, 2, 15, 46, 47, 48, 49, 50, 51, 52, 53, 54, 12, 55, 56, 57, 58, 59, 60, 61, 62, 63, 64, 42, 43, 44, 70, 71, 72, 73, 74, 75, 76, 77, 78, 79, 80] (by decide +kernel) (by decide +kernel)
set_option maxRecDepth 20000 in
theorem gX6_score_X6_chance : GoodIn wsX6_score (wsV RX6 140 RX6 yX6_chance wsX6_chance) := goodIn_app (goodIn_of _ (by decide +kernel)) ggX6_score_X6_chance
set_option maxRecDepth 20000 in
theorem ggX6_score_X6_cost : GoodIn wsX6_score wsX6_cost := goodIn_r _ [67, 68, 47, 48, 69] (by decide +kernel) (by decide +kernel)
set_option maxRecDepth 20000 in
theorem gX6_score_X6_cost : GoodIn wsX6_score (va_wsS RX6 175 yX6_cost wsX6_cost) := goodIn_app (goodIn_of _ (by decide +kernel)) ggX6_score_X6_cost
set_option maxRecDepth 20000 in
theorem ggX6_scoreNow_X6_score : GoodIn wsX6_scoreNow wsX6_score := goodIn_r _ [8, 9, 10, 11, 12, 13, 14, 15, 16, 17, 18, 19, 7, 20, 21, 22, 23, 24, 25, 26, 27, 28, 29, 30, 31, 32, 33, 34, 35, 36, 37, 38, 39, 40, 41, 42, 43, 44, 45, 46, 47, 48, 49, 50, 51, 52, 53, 54, 55, 56, 57, 58, 59, 60, 61, 62, 63, 64, 65, 66, 67, 68, 69, 70, 71, 72, 73, 74, 75, 76, 77, 78, 79, 80, 81, 82, 83, 84, 85, 86, 87, 88, 89, 90, 91] (by decide +kernel) (by decide +kernel)
set_option maxRecDepth 20000 in
theorem gX6_scoreNow_X6_score : GoodIn wsX6_scoreNow (wsV RX6 179 RX6 yX6_score wsX6_score) := goodIn_app (goodIn_of _ (by decide +kernel)) ggX6_scoreNow_X6_score
set_option maxRecDepth 20000 in
theorem ggX6_score__X6_scoreNow : GoodIn wsX6_score_ wsX6_scoreNow := goodIn_r _ [5, 6, 7, 8, 9, 10, 11, 4, 12, 13, 14, 15, 16, 17, 18, 19, 20, 21, 22, 23, 24, 25, 26, 27, 28, 29, 30, 31, 32, 33, 34, 35, 36, 37, 38, 39, 40, 41, 42, 43, 44, 45, 46, 47, 48, 49, 50, 51, 52, 53, 54, 55, 56, 57, 58, 59, 60, 61, 62, 63, 64, 65, 66, 67, 68, 69, 70, 71, 72, 73, 74, 75, 76, 77, 78, 79, 80, 86, 87, 88, 89, 90, 91, 92, 93, 94, 95, 96, 97, 98, 99, 100] (by decide +kernel) (by decide +kernel)
set_option maxRecDepth 20000 in
theorem gX6_score__X6_scoreNow : GoodIn wsX6_score_ (wsV RX6 183 RX6 yX6_scoreNow wsX6_scoreNow) := goodIn_app (goodIn_of _ (by decide +kernel)) ggX6_score__X6_scoreNow
set_option maxRecDepth 20000 in
theorem ggX6_score__X6_plain : GoodIn wsX6_score_ wsX6_plain := goodIn_r _ [84, 85, 86, 87, 88, 89, 90, 91, 92, 93, 94, 95, 96] (by decide +kernel) (by decide +kernel)
set_option maxRecDepth 20000 in
theorem gX6_score__X6_plain : GoodIn wsX6_score_ (wsV RX6 103 RX6 yX6_plain wsX6_plain) := goodIn_app (goodIn_of _ (by decide +kernel)) ggX6_score__X6_plain
set_option maxRecDepth 20000 in
theorem ggX6_meanCost_X6_scoreNow : GoodIn wsX6_meanCost wsX6_scoreNow := goodIn_r _ [7, 8, 9, 10, 11, 12, 13, 6, 14, 2, 15, 16, 17, 18, 19, 20, 21, 22, 23, 24, 25, 26, 27, 28, 29, 30, 31, 32, 33, 34, 35, 36, 37, 38, 39, 40, 41, 42, 43, 44, 45, 46, 47, 48, 49, 50, 51, 52, 53, 54, 55, 56, 57, 58, 59, 60, 61, 62, 63, 64, 65, 66, 67, 68, 69, 70, 71, 72, 73, 74, 75, 76, 77, 78, 79, 80, 81, 82, 83, 84, 85, 86, 87, 88, 89, 90, 91, 92, 93, 94, 95, 96] (by decide +kernel) (by decide +kernel)
set_option maxRecDepth 20000 in
theorem gX6_meanCost_X6_scoreNow : GoodIn wsX6_meanCost (wsV RX6 183 RX6 yX6_scoreNow wsX6_scoreNow) := goodIn_app (goodIn_of _ (by decide +kernel)) ggX6_meanCost_X6_scoreNow
set_option maxRecDepth 20000 in
theorem ggX6_meanCost_Jx4a65c_size_8abf5 : GoodIn wsX6_meanCost wsJx4a65c_size_8abf5 := goodIn_r _ [20, 21, 93, 94, 95] (by decide +kernel) (by decide +kernel)
set_option maxRecDepth 20000 in
theorem gX6_meanCost_Jx4a65c_size_8abf5 : GoodIn wsX6_meanCost (wsV RX6 53 RJx4a65c yJx4a65c_size_8abf5 wsJx4a65c_size_8abf5) := goodIn_app (goodIn_of _ (by decide +kernel)) ggX6_meanCost_Jx4a65c_size_8abf5
set_option maxRecDepth 20000 in
theorem ggX6_complete_Jx4a65c_size_8abf5 : GoodIn wsX6_complete wsJx4a65c_size_8abf5 := goodIn_r _ [14, 15, 185, 186, 187] (by decide +kernel) (by decide +kernel)
set_option maxRecDepth 20000 in
theorem gX6_complete_Jx4a65c_size_8abf5 : GoodIn wsX6_complete (wsV RX6 53 RJx4a65c yJx4a65c_size_8abf5 wsJx4a65c_size_8abf5) := goodIn_app (goodIn_of _ (by decide +kernel)) ggX6_complete_Jx4a65c_size_8abf5
set_option maxRecDepth 20000 in
theorem ggX6_complete_X6_isIn : GoodIn wsX6_complete wsX6_isIn := goodIn_r _ [19] (by decide +kernel) (by decide +kernel)
set_option maxRecDepth 20000 in
theorem gX6_complete_X6_isIn : GoodIn wsX6_complete (va_wsS RX6 80 yX6_isIn wsX6_isIn) := goodIn_app (goodIn_of _ (by decide +kernel)) ggX6_complete_X6_isIn
set_option maxRecDepth 20000 in
theorem ggX6_complete_X6_start : GoodIn wsX6_complete wsX6_start := goodIn_r _ [23, 24, 25, 26, 27, 18, 28, 174, 175, 176, 177, 178, 179, 180, 181, 182, 183, 184] (by decide +kernel) (by decide +kernel)
set_option maxRecDepth 20000 in
theorem gX6_complete_X6_start : GoodIn wsX6_complete (wsV RX6 77 RX6 yX6_start wsX6_start) := goodIn_app (goodIn_of _ (by decide +kernel)) ggX6_complete_X6_start
set_option maxRecDepth 20000 in
theorem ggX6_complete_X6_refuse : GoodIn wsX6_complete wsX6_refuse := goodIn_r _ [28, 24, 174, 175, 176, 177, 178, 179, 180, 181, 182, 183, 184] (by decide +kernel) (by decide +kernel)
set_option maxRecDepth 20000 in
theorem gX6_complete_X6_refuse : GoodIn wsX6_complete (wsV RX6 39 RX6 yX6_refuse wsX6_refuse) := goodIn_app (goodIn_of _ (by decide +kernel)) ggX6_complete_X6_refuse
set_option maxRecDepth 20000 in
theorem ggX6_setLuck_X6_isIn : GoodIn wsX6_setLuck wsX6_isIn := goodIn_r _ [5] (by decide +kernel) (by decide +kernel)
set_option maxRecDepth 20000 in
theorem gX6_setLuck_X6_isIn : GoodIn wsX6_setLuck (va_wsS RX6 80 yX6_isIn wsX6_isIn) := goodIn_app (goodIn_of _ (by decide +kernel)) ggX6_setLuck_X6_isIn
set_option maxRecDepth 20000 in
theorem ggX6_setLuck_X6_start : GoodIn wsX6_setLuck wsX6_start := goodIn_r _ [9, 10, 11, 12, 13, 4, 14, 15, 16, 17, 18, 19, 20, 21, 22, 23, 24, 25] (by decide +kernel) (by decide +kernel)
set_option maxRecDepth 20000 in
theorem gX6_setLuck_X6_start : GoodIn wsX6_setLuck (wsV RX6 77 RX6 yX6_start wsX6_start) := goodIn_app (goodIn_of _ (by decide +kernel)) ggX6_setLuck_X6_start
set_option maxRecDepth 20000 in
theorem ggX6_addStep_X6_isIn : GoodIn wsX6_addStep wsX6_isIn := goodIn_r _ [7] (by decide +kernel) (by decide +kernel)
set_option maxRecDepth 20000 in
theorem gX6_addStep_X6_isIn : GoodIn wsX6_addStep (va_wsS RX6 80 yX6_isIn wsX6_isIn) := goodIn_app (goodIn_of _ (by decide +kernel)) ggX6_addStep_X6_isIn
set_option maxRecDepth 20000 in
theorem ggX6_addStep_X6_start : GoodIn wsX6_addStep wsX6_start := goodIn_r _ [11, 12, 13, 14, 15, 6, 16, 77, 78, 79, 80, 81, 82, 83, 84, 85, 86, 87] (by decide +kernel) (by decide +kernel)
set_option maxRecDepth 20000 in
theorem gX6_addStep_X6_start : GoodIn wsX6_addStep (wsV RX6 77 RX6 yX6_start wsX6_start) := goodIn_app (goodIn_of _ (by decide +kernel)) ggX6_addStep_X6_start
set_option maxRecDepth 20000 in
theorem ggX6_addStep_Jx4a65c_size_8abf5 : GoodIn wsX6_addStep wsJx4a65c_size_8abf5 := goodIn_r _ [21, 22, 88, 89, 90] (by decide +kernel) (by decide +kernel)
set_option maxRecDepth 20000 in
theorem gX6_addStep_Jx4a65c_size_8abf5 : GoodIn wsX6_addStep (wsV RX6 53 RJx4a65c yJx4a65c_size_8abf5 wsJx4a65c_size_8abf5) := goodIn_app (goodIn_of _ (by decide +kernel)) ggX6_addStep_Jx4a65c_size_8abf5
set_option maxRecDepth 20000 in
theorem ggX6_addStep_X6_refuse : GoodIn wsX6_addStep wsX6_refuse := goodIn_r _ [16, 12, 77, 78, 79, 80, 81, 82, 83, 84, 85, 86, 87] (by decide +kernel) (by decide +kernel)
set_option maxRecDepth 20000 in
theorem gX6_addStep_X6_refuse : GoodIn wsX6_addStep (wsV RX6 39 RX6 yX6_refuse wsX6_refuse) := goodIn_app (goodIn_of _ (by decide +kernel)) ggX6_addStep_X6_refuse
set_option maxRecDepth 20000 in
theorem ggX6_addStep_Jx4a65c_add_9ea2d : GoodIn wsX6_addStep wsJx4a65c_add_9ea2d := goodIn_r _ [26, 27, 28, 29, 22, 30, 31, 32, 20, 33, 34, 35, 36, 37, 38, 39, 40, 41, 42, 43, 44, 45, 46, 47, 48, 49, 50, 51, 52, 53, 54, 55, 56, 57, 58, 59, 60, 61, 62, 63, 64, 65, 66, 67, 68, 69, 70, 71, 72, 73, 74, 75, 76, 88, 89, 90] (by decide +kernel) (by decide +kernel)
set_option maxRecDepth 20000 in
theorem gX6_addStep_Jx4a65c_add_9ea2d : GoodIn wsX6_addStep (wsV RX6 88 RJx4a65c yJx4a65c_add_9ea2d wsJx4a65c_add_9ea2d) := goodIn_app (goodIn_of _ (by decide +kernel)) ggX6_addStep_Jx4a65c_add_9ea2d
set_option maxRecDepth 20000 in
theorem ggX6_clearScript_Jx4a65c_size_8abf5 : GoodIn wsX6_clearScript wsJx4a65c_size_8abf5 := goodIn_r _ [7, 8, 27, 28, 29] (by decide +kernel) (by decide +kernel)
set_option maxRecDepth 20000 in
theorem gX6_clearScript_Jx4a65c_size_8abf5 : GoodIn wsX6_clearScript (wsV RX6 53 RJx4a65c yJx4a65c_size_8abf5 wsJx4a65c_size_8abf5) := goodIn_app (goodIn_of _ (by decide +kernel)) ggX6_clearScript_Jx4a65c_size_8abf5
set_option maxRecDepth 20000 in
theorem ggX6_clearScript_Jx4a65c_clear_da8c8 : GoodIn wsX6_clearScript wsJx4a65c_clear_da8c8 := goodIn_r _ [12, 13, 14, 15, 8, 27, 28, 29] (by decide +kernel) (by decide +kernel)
set_option maxRecDepth 20000 in
theorem gX6_clearScript_Jx4a65c_clear_da8c8 : GoodIn wsX6_clearScript (wsV RX6 199 RJx4a65c yJx4a65c_clear_da8c8 wsJx4a65c_clear_da8c8) := goodIn_app (goodIn_of _ (by decide +kernel)) ggX6_clearScript_Jx4a65c_clear_da8c8
set_option maxRecDepth 20000 in
theorem ggX6_runScript_X6_start : GoodIn wsX6_runScript wsX6_start := goodIn_r _ [17, 18, 19, 20, 21, 16, 22, 170, 171, 172, 173, 174, 175, 176, 177, 178, 179, 180] (by decide +kernel) (by decide +kernel)
set_option maxRecDepth 20000 in
theorem gX6_runScript_X6_start : GoodIn wsX6_runScript (wsV RX6 77 RX6 yX6_start wsX6_start) := goodIn_app (goodIn_of _ (by decide +kernel)) ggX6_runScript_X6_start
set_option maxRecDepth 20000 in
theorem ggX6_luck_X6_plain : GoodIn wsX6_luck wsX6_plain := goodIn_r _ [6, 7, 8, 9, 10, 11, 12, 13, 14, 15, 16, 17, 18] (by decide +kernel) (by decide +kernel)
set_option maxRecDepth 20000 in
theorem gX6_luck_X6_plain : GoodIn wsX6_luck (wsV RX6 103 RX6 yX6_plain wsX6_plain) := goodIn_app (goodIn_of _ (by decide +kernel)) ggX6_luck_X6_plain
set_option maxRecDepth 20000 in
theorem ggX6_draws_X6_plain : GoodIn wsX6_draws wsX6_plain := goodIn_r _ [6, 7, 8, 9, 10, 11, 12, 13, 14, 15, 16, 17, 18] (by decide +kernel) (by decide +kernel)
set_option maxRecDepth 20000 in
theorem gX6_draws_X6_plain : GoodIn wsX6_draws (wsV RX6 103 RX6 yX6_plain wsX6_plain) := goodIn_app (goodIn_of _ (by decide +kernel)) ggX6_draws_X6_plain
set_option maxRecDepth 20000 in
theorem ggX6_scoreLearned_X6_isIn : GoodIn wsX6_scoreLearned wsX6_isIn := goodIn_r _ [9] (by decide +kernel) (by decide +kernel)
set_option maxRecDepth 20000 in
theorem gX6_scoreLearned_X6_isIn : GoodIn wsX6_scoreLearned (va_wsS RX6 80 yX6_isIn wsX6_isIn) := goodIn_app (goodIn_of _ (by decide +kernel)) ggX6_scoreLearned_X6_isIn
set_option maxRecDepth 20000 in
theorem ggX6_scoreLearned_X6_start : GoodIn wsX6_scoreLearned wsX6_start := goodIn_r _ [13, 14, 15, 16, 17, 8, 18, 105, 106, 107, 108, 109, 110, 111, 112, 113, 114, 115] (by decide +kernel) (by decide +kernel)
set_option maxRecDepth 20000 in
theorem gX6_scoreLearned_X6_start : GoodIn wsX6_scoreLearned (wsV RX6 77 RX6 yX6_start wsX6_start) := goodIn_app (goodIn_of _ (by decide +kernel)) ggX6_scoreLearned_X6_start
set_option maxRecDepth 20000 in
theorem ggX6_scoreLearned_X6_refuse : GoodIn wsX6_scoreLearned wsX6_refuse := goodIn_r _ [18, 14, 105, 106, 107, 108, 109, 110, 111, 112, 113, 114, 115] (by decide +kernel) (by decide +kernel)
set_option maxRecDepth 20000 in
theorem gX6_scoreLearned_X6_refuse : GoodIn wsX6_scoreLearned (wsV RX6 39 RX6 yX6_refuse wsX6_refuse) := goodIn_app (goodIn_of _ (by decide +kernel)) ggX6_scoreLearned_X6_refuse
set_option maxRecDepth 20000 in
theorem ggX6_scoreBy_X6_isIn : GoodIn wsX6_scoreBy wsX6_isIn := goodIn_r _ [5] (by decide +kernel) (by decide +kernel)
set_option maxRecDepth 20000 in
theorem gX6_scoreBy_X6_isIn : GoodIn wsX6_scoreBy (va_wsS RX6 80 yX6_isIn wsX6_isIn) := goodIn_app (goodIn_of _ (by decide +kernel)) ggX6_scoreBy_X6_isIn
set_option maxRecDepth 20000 in
theorem ggX6_scoreBy_X6_start : GoodIn wsX6_scoreBy wsX6_start := goodIn_r _ [9, 10, 11, 12, 13, 4, 14, 87, 88, 89, 90, 91, 92, 93, 94, 95, 96, 97] (by decide +kernel) (by decide +kernel)
set_option maxRecDepth 20000 in
theorem gX6_scoreBy_X6_start : GoodIn wsX6_scoreBy (wsV RX6 77 RX6 yX6_start wsX6_start) := goodIn_app (goodIn_of _ (by decide +kernel)) ggX6_scoreBy_X6_start
