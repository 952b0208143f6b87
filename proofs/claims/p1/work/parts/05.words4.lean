set_option maxRecDepth 20000 in
theorem gL_law_X6_wordAt : GoodIn wsL_law (wsV RL 129 RX6 yX6_wordAt wsX6_wordAt) := goodIn_app (goodIn_of _ (by decide +kernel)) ggL_law_X6_wordAt
set_option maxRecDepth 20000 in
theorem ggL_law_L_entries : GoodIn wsL_law wsL_entries := goodIn_ca (goodIn_r _ [454, 167, 455, 456, 457, 2, 458, 172, 173, 16, 459, 460, 461, 462, 463, 174, 400, 132, 133, 15, 134, 44, 135, 136, 137, 138, 139, 140, 141, 996, 997, 998, 999, 1000, 1001, 1002, 1003, 1004, 1005, 1038, 1039, 1040, 1017, 1018, 1019, 1020] (by decide +kernel) (by decide +kernel)) (goodIn_sub (fun _ h => List.mem_append_left _ (List.mem_append_right _ h)) (by decide +kernel))
set_option maxRecDepth 20000 in
theorem gL_law_L_entries : GoodIn wsL_law (va_wsS RL 130 yL_entries wsL_entries) := goodIn_app (goodIn_of _ (by decide +kernel)) ggL_law_L_entries
set_option maxRecDepth 20000 in
theorem ggL_law_X6_entries : GoodIn wsL_law wsX6_entries := goodIn_r _ [467, 92, 468, 469, 470, 5, 471, 87, 179, 180, 181, 151, 152, 153, 154, 155, 156, 157, 158, 159, 386, 387, 388, 1006, 1007, 1008, 1009, 1010, 1011, 1012, 1013, 1014, 1015, 1016] (by decide +kernel) (by decide +kernel)
set_option maxRecDepth 20000 in
theorem gL_law_X6_entries : GoodIn wsL_law (wsV RL 132 RX6 yX6_entries wsX6_entries) := goodIn_app (goodIn_of _ (by decide +kernel)) ggL_law_X6_entries
set_option maxRecDepth 20000 in
theorem ggL_law_L_entryAt : GoodIn wsL_law wsL_entryAt := goodIn_ca (goodIn_ca (goodIn_r _ [474, 167, 475, 476, 477, 2, 478, 172, 173, 190, 191, 16, 459, 479, 460, 461, 462, 463, 174, 400, 132, 133, 15, 134, 44, 135, 136, 137, 138, 139, 140, 141, 480, 481, 482, 483, 484, 996, 997, 998, 999, 1000, 1001, 1002, 1003, 1004, 1005, 1038, 1039, 1040, 1017, 1018, 1019, 1020] (by decide +kernel) (by decide +kernel)) (goodIn_sub (fun _ h => List.mem_append_left _ (List.mem_append_right _ h)) (by decide +kernel))) (goodIn_sub (fun _ h => List.mem_append_right _ h) (by decide +kernel))
set_option maxRecDepth 20000 in
theorem gL_law_L_entryAt : GoodIn wsL_law (va_wsS RL 133 yL_entryAt wsL_entryAt) := goodIn_app (goodIn_of _ (by decide +kernel)) ggL_law_L_entryAt
set_option maxRecDepth 20000 in
theorem ggL_law_X6_entryAt : GoodIn wsL_law wsX6_entryAt := goodIn_r _ [488, 489, 490, 491, 5, 492, 92, 468, 469, 470, 471, 87, 179, 180, 181, 151, 152, 153, 154, 155, 156, 157, 158, 159, 386, 387, 388, 493, 494, 495, 496, 497, 498, 499, 1006, 1007, 1008, 1009, 1010, 1011, 1012, 1013, 1014, 1015, 1016] (by decide +kernel) (by decide +kernel)
set_option maxRecDepth 20000 in
theorem gL_law_X6_entryAt : GoodIn wsL_law (wsV RL 136 RX6 yX6_entryAt wsX6_entryAt) := goodIn_app (goodIn_of _ (by decide +kernel)) ggL_law_X6_entryAt
set_option maxRecDepth 20000 in
theorem ggL_law_L_countOf : GoodIn wsL_law wsL_countOf := goodIn_ca (goodIn_ca (goodIn_r _ [502, 167, 503, 504, 505, 2, 506, 172, 173, 190, 191, 16, 459, 507, 460, 461, 462, 463, 174, 400, 132, 133, 15, 134, 44, 135, 136, 137, 138, 139, 140, 141, 996, 997, 998, 999, 1000, 1001, 1002, 1003, 1004, 1005, 1038, 1039, 1040, 1017, 1018, 1019, 1020] (by decide +kernel) (by decide +kernel)) (goodIn_sub (fun _ h => List.mem_append_left _ (List.mem_append_right _ h)) (by decide +kernel))) (goodIn_sub (fun _ h => List.mem_append_right _ h) (by decide +kernel))
set_option maxRecDepth 20000 in
theorem gL_law_L_countOf : GoodIn wsL_law (va_wsS RL 137 yL_countOf wsL_countOf) := goodIn_app (goodIn_of _ (by decide +kernel)) ggL_law_L_countOf
set_option maxRecDepth 20000 in
theorem ggL_law_X6_countOf : GoodIn wsL_law wsX6_countOf := goodIn_r _ [511, 92, 489, 490, 491, 5, 492, 468, 469, 470, 471, 87, 179, 180, 181, 151, 152, 153, 154, 155, 156, 157, 158, 159, 386, 387, 388, 493, 494, 495, 496, 1006, 1007, 1008, 1009, 1010, 1011, 1012, 1013, 1014, 1015, 1016] (by decide +kernel) (by decide +kernel)
set_option maxRecDepth 20000 in
theorem gL_law_X6_countOf : GoodIn wsL_law (wsV RL 140 RX6 yX6_countOf wsX6_countOf) := goodIn_app (goodIn_of _ (by decide +kernel)) ggL_law_X6_countOf
set_option maxRecDepth 20000 in
theorem ggL_law_L_ofContext : GoodIn wsL_law wsL_ofContext := goodIn_ca (goodIn_r _ [514, 167, 515, 516, 517, 2, 518, 172, 173, 460, 461, 462, 463, 16, 174, 519, 520, 521, 522, 20, 33, 523, 524, 400, 132, 133, 15, 134, 44, 135, 136, 137, 138, 139, 140, 141, 292, 293, 294, 295, 296, 297, 298, 299, 32, 125, 525, 526, 527, 19, 528, 61, 62, 63, 529, 530, 531, 532, 533, 257, 534, 535, 312, 313, 47, 314, 53, 51, 996, 997, 998, 999, 1000, 1001, 1002, 1003, 1004, 1005, 1017, 1018, 1019, 1020, 1021, 1022, 1023, 1024, 1025, 1026, 1027, 1038, 1039, 1040] (by decide +kernel) (by decide +kernel)) (goodIn_sub (fun _ h => List.mem_append_left _ (List.mem_append_right _ h)) (by decide +kernel))
set_option maxRecDepth 20000 in
theorem gL_law_L_ofContext : GoodIn wsL_law (va_wsS RL 141 yL_ofContext wsL_ofContext) := goodIn_app (goodIn_of _ (by decide +kernel)) ggL_law_L_ofContext
set_option maxRecDepth 20000 in
theorem ggL_law_X6_ofContext : GoodIn wsL_law wsX6_ofContext := goodIn_r _ [539, 87, 179, 180, 5, 181, 151, 152, 153, 154, 155, 156, 157, 158, 159, 540, 541, 542, 543, 91, 92, 204, 205, 206, 90, 207, 208, 355, 356, 357, 358, 359, 360, 361, 362, 363, 364, 365, 366, 367, 368, 369, 370, 371, 372, 373, 374, 99, 375, 376, 377, 211, 378, 220, 544, 545, 546, 547, 548, 549, 1006, 1007, 1008, 1009, 1010, 1011, 1012, 1013, 1014, 1015, 1016, 1041, 1042, 1043, 1044] (by decide +kernel) (by decide +kernel)
set_option maxRecDepth 20000 in
theorem gL_law_X6_ofContext : GoodIn wsL_law (wsV RL 143 RX6 yX6_ofContext wsX6_ofContext) := goodIn_app (goodIn_of _ (by decide +kernel)) ggL_law_X6_ofContext
set_option maxRecDepth 20000 in
theorem ggL_law_L_prune : GoodIn wsL_law wsL_prune := goodIn_ca (goodIn_r _ [552, 167, 553, 554, 555, 2, 556, 172, 173, 16, 174, 459, 30, 507, 400, 132, 133, 15, 134, 44, 135, 136, 137, 138, 139, 140, 141, 557, 558, 559, 560, 561, 562, 563, 564, 130, 565, 131, 566, 336, 337, 47, 338, 53, 51, 310, 270, 271, 272, 52, 339, 340, 341, 342, 142, 143, 144, 145, 45, 331, 332, 333, 334, 311, 312, 313, 314, 315, 316, 317, 318, 335, 996, 997, 998, 999, 1000, 1001, 1002, 1003, 1004, 1005, 1017, 1018, 1019, 1020, 1038, 1039, 1040] (by decide +kernel) (by decide +kernel)) (goodIn_sub (fun _ h => List.mem_append_left _ (List.mem_append_right _ h)) (by decide +kernel))
set_option maxRecDepth 20000 in
theorem gL_law_L_prune : GoodIn wsL_law (va_wsS RL 144 yL_prune wsL_prune) := goodIn_app (goodIn_of _ (by decide +kernel)) ggL_law_L_prune
set_option maxRecDepth 20000 in
theorem ggL_law_X6_prune : GoodIn wsL_law wsX6_prune := goodIn_r _ [570, 87, 92, 179, 180, 5, 181, 151, 152, 153, 154, 155, 156, 157, 158, 159, 1006, 1007, 1008, 1009, 1010, 1011, 1012, 1013, 1014, 1015, 1016] (by decide +kernel) (by decide +kernel)
set_option maxRecDepth 20000 in
theorem gL_law_X6_prune : GoodIn wsL_law (wsV RL 146 RX6 yX6_prune wsX6_prune) := goodIn_app (goodIn_of _ (by decide +kernel)) ggL_law_X6_prune
set_option maxRecDepth 20000 in
theorem ggL_law_L_pruneBy : GoodIn wsL_law wsL_pruneBy := goodIn_ca (goodIn_r _ [573, 167, 574, 575, 576, 2, 577, 172, 173, 16, 174, 578, 459, 30, 479, 400, 132, 133, 15, 134, 44, 135, 136, 137, 138, 139, 140, 141, 579, 580, 581, 582, 20, 583, 584, 585, 586, 587, 588, 589, 19, 590, 60, 591, 64, 592, 58, 532, 533, 257, 534, 593, 594, 595, 596, 597, 62, 61, 598, 143, 144, 145, 45, 599, 600, 526, 527, 528, 63, 529, 530, 531, 535, 312, 313, 47, 314, 53, 51, 601, 602, 603, 604, 605, 59, 606, 607, 608, 609, 557, 558, 559, 560, 561, 562, 563, 564, 130, 565, 131, 566, 336, 337, 338, 310, 270, 271, 272, 52, 339, 340, 341, 342, 142, 331, 332, 333, 334, 311, 315, 316, 317, 318, 335, 996, 997, 998, 999, 1000, 1001, 1002, 1003, 1004, 1005, 1017, 1018, 1019, 1020, 1038, 1039, 1040, 1021, 1022, 1023, 1024, 1025, 1026, 1027] (by decide +kernel) (by decide +kernel)) (goodIn_sub (fun _ h => List.mem_append_left _ (List.mem_append_right _ h)) (by decide +kernel))
set_option maxRecDepth 20000 in
theorem gL_law_L_pruneBy : GoodIn wsL_law (va_wsS RL 147 yL_pruneBy wsL_pruneBy) := goodIn_app (goodIn_of _ (by decide +kernel)) ggL_law_L_pruneBy
set_option maxRecDepth 20000 in
theorem ggL_law_X6_pruneBy : GoodIn wsL_law wsX6_pruneBy := goodIn_r _ [613, 87, 614, 92, 615, 616, 617, 618, 619, 113, 620, 93, 621, 622, 137, 623, 179, 180, 5, 181, 151, 152, 153, 154, 155, 156, 157, 158, 159, 624, 625, 626, 627, 150, 628, 629, 630, 608, 609, 631, 632, 633, 634, 635, 636, 544, 545, 546, 547, 548, 549, 1006, 1007, 1008, 1009, 1010, 1011, 1012, 1013, 1014, 1015, 1016] (by decide +kernel) (by decide +kernel)
set_option maxRecDepth 20000 in
theorem gL_law_X6_pruneBy : GoodIn wsL_law (wsV RL 149 RX6 yX6_pruneBy wsX6_pruneBy) := goodIn_app (goodIn_of _ (by decide +kernel)) ggL_law_X6_pruneBy
set_option maxRecDepth 20000 in
theorem ggL_law_L_setWay : GoodIn wsL_law wsL_setWay := goodIn_ca (goodIn_r _ [639, 167, 640, 641, 642, 2, 643, 172, 173, 20, 644, 645, 646, 647, 648, 996, 997, 998, 999, 1000, 1001, 1002, 1003, 1004, 1005, 1021, 1022, 1023, 1024, 1025, 1026, 1027] (by decide +kernel) (by decide +kernel)) (goodIn_sub (fun _ h => List.mem_append_left _ (List.mem_append_right _ h)) (by decide +kernel))
set_option maxRecDepth 20000 in
theorem gL_law_L_setWay : GoodIn wsL_law (va_wsS RL 150 yL_setWay wsL_setWay) := goodIn_app (goodIn_of _ (by decide +kernel)) ggL_law_L_setWay
set_option maxRecDepth 20000 in
theorem ggL_law_X6_setWay : GoodIn wsL_law wsX6_setWay := goodIn_r _ [652, 620, 93, 179, 180, 5, 181, 151, 152, 153, 154, 155, 156, 157, 158, 159, 1006, 1007, 1008, 1009, 1010, 1011, 1012, 1013, 1014, 1015, 1016] (by decide +kernel) (by decide +kernel)
set_option maxRecDepth 20000 in
theorem gL_law_X6_setWay : GoodIn wsL_law (wsV RL 152 RX6 yX6_setWay wsX6_setWay) := goodIn_app (goodIn_of _ (by decide +kernel)) ggL_law_X6_setWay
set_option maxRecDepth 20000 in
theorem ggL_law_L_chance : GoodIn wsL_law wsL_chance := goodIn_ca (goodIn_r _ [655, 185, 656, 657, 658, 2, 659, 190, 191, 16, 125, 20, 583, 660, 661, 662, 663, 174, 33, 292, 293, 294, 295, 296, 297, 298, 299, 32, 587, 588, 589, 19, 590, 60, 591, 64, 592, 58, 532, 533, 257, 534, 593, 594, 595, 596, 597, 62, 61, 598, 143, 144, 15, 145, 45, 135, 136, 137, 138, 139, 140, 141, 599, 132, 133, 134, 44, 600, 526, 527, 528, 63, 529, 530, 531, 535, 312, 313, 47, 314, 53, 51, 601, 602, 603, 604, 605, 59, 606, 607, 608, 609, 996, 997, 998, 999, 1000, 1001, 1002, 1003, 1004, 1005, 1017, 1018, 1019, 1020, 1021, 1022, 1023, 1024, 1025, 1026, 1027, 1038, 1039, 1040] (by decide +kernel) (by decide +kernel)) (goodIn_sub (fun _ h => List.mem_append_right _ h) (by decide +kernel))
set_option maxRecDepth 20000 in
theorem gL_law_L_chance : GoodIn wsL_law (va_wsS RL 153 yL_chance wsL_chance) := goodIn_app (goodIn_of _ (by decide +kernel)) ggL_law_L_chance
set_option maxRecDepth 20000 in
theorem ggL_law_X6_chance_ : GoodIn wsL_law wsX6_chance_ := goodIn_r _ [667, 150, 91, 179, 180, 5, 181, 151, 152, 153, 154, 155, 156, 157, 158, 159, 668, 669, 670, 671, 92, 620, 93, 87, 204, 205, 206, 90, 207, 208, 355, 356, 357, 358, 359, 360, 361, 362, 363, 364, 365, 366, 367, 368, 369, 370, 371, 372, 373, 374, 99, 375, 376, 377, 211, 378, 220, 624, 625, 626, 627, 628, 629, 614, 630, 608, 137, 609, 631, 632, 633, 634, 635, 636, 544, 545, 546, 547, 548, 549, 1006, 1007, 1008, 1009, 1010, 1011, 1012, 1013, 1014, 1015, 1016, 1041, 1042, 1043, 1044] (by decide +kernel) (by decide +kernel)
set_option maxRecDepth 20000 in
theorem gL_law_X6_chance_ : GoodIn wsL_law (wsV RL 155 RX6 yX6_chance_ wsX6_chance_) := goodIn_app (goodIn_of _ (by decide +kernel)) ggL_law_X6_chance_
set_option maxRecDepth 20000 in
theorem ggL_law_L_ranked : GoodIn wsL_law wsL_ranked := goodIn_ca (goodIn_r _ [674, 185, 675, 676, 677, 2, 678, 190, 191, 16, 125, 20, 660, 661, 662, 663, 174, 33, 292, 293, 294, 295, 296, 297, 298, 299, 32, 587, 588, 589, 19, 590, 60, 591, 64, 592, 58, 532, 533, 257, 534, 593, 594, 595, 596, 597, 62, 61, 598, 143, 144, 15, 145, 45, 135, 136, 137, 138, 139, 140, 141, 599, 132, 133, 134, 44, 600, 526, 527, 528, 63, 529, 530, 531, 535, 312, 313, 47, 314, 53, 51, 601, 602, 603, 604, 605, 59, 606, 607, 608, 609, 679, 680, 681, 682, 683, 684, 685, 686, 687, 688, 689, 690, 996, 997, 998, 999, 1000, 1001, 1002, 1003, 1004, 1005, 1017, 1018, 1019, 1020, 1021, 1022, 1023, 1024, 1025, 1026, 1027, 1038, 1039, 1040] (by decide +kernel) (by decide +kernel)) (goodIn_sub (fun _ h => List.mem_append_right _ h) (by decide +kernel))
set_option maxRecDepth 20000 in
theorem gL_law_L_ranked : GoodIn wsL_law (va_wsS RL 156 yL_ranked wsL_ranked) := goodIn_app (goodIn_of _ (by decide +kernel)) ggL_law_L_ranked
set_option maxRecDepth 20000 in
theorem ggL_law_X6_ranked : GoodIn wsL_law wsX6_ranked := goodIn_r _ [694, 150, 91, 179, 180, 5, 181, 151, 152, 153, 154, 155, 156, 157, 158, 159, 695, 696, 697, 698, 31, 668, 669, 670, 671, 92, 620, 93, 87, 204, 205, 206, 90, 207, 208, 355, 356, 357, 358, 359, 360, 361, 362, 363, 364, 365, 366, 367, 368, 369, 370, 371, 372, 373, 374, 99, 375, 376, 377, 211, 378, 220, 624, 625, 626, 627, 628, 629, 614, 630, 608, 137, 609, 631, 632, 633, 634, 635, 636, 544, 545, 546, 547, 548, 549, 1006, 1007, 1008, 1009, 1010, 1011, 1012, 1013, 1014, 1015, 1016, 1041, 1042, 1043, 1044] (by decide +kernel) (by decide +kernel)
set_option maxRecDepth 20000 in
theorem gL_law_X6_ranked : GoodIn wsL_law (wsV RL 158 RX6 yX6_ranked wsX6_ranked) := goodIn_app (goodIn_of _ (by decide +kernel)) ggL_law_X6_ranked
set_option maxRecDepth 20000 in
theorem ggL_law_X5_costOf : GoodIn wsL_law wsX5_costOf := goodIn_r _ [702, 703, 704, 2, 705, 706, 578] (by decide +kernel) (by decide +kernel)
set_option maxRecDepth 20000 in
theorem gL_law_X5_costOf : GoodIn wsL_law (wsV RL 159 RX5 yX5_costOf wsX5_costOf) := goodIn_app (goodIn_of _ (by decide +kernel)) ggL_law_X5_costOf
set_option maxRecDepth 20000 in
theorem ggL_law_X6_costOf : GoodIn wsL_law wsX6_costOf := goodIn_r _ [710, 711, 712, 5, 713, 714, 629, 614, 715, 421, 422, 423, 424, 155, 1006, 1007, 1008, 1009, 1010, 1011, 1012, 1013, 1014, 1015, 1016] (by decide +kernel) (by decide +kernel)
set_option maxRecDepth 20000 in
theorem gL_law_X6_costOf : GoodIn wsL_law (wsV RL 162 RX6 yX6_costOf wsX6_costOf) := goodIn_app (goodIn_of _ (by decide +kernel)) ggL_law_X6_costOf
set_option maxRecDepth 20000 in
theorem ggL_law_X5_score : GoodIn wsL_law wsX5_score := goodIn_r _ [719, 720, 721, 722, 2, 723, 33, 20, 16, 174, 583, 292, 293, 294, 295, 296, 297, 298, 299, 32, 125, 587, 588, 589, 19, 590, 60, 591, 64, 592, 58, 532, 533, 257, 534, 593, 594, 595, 596, 597, 62, 61, 598, 143, 144, 15, 145, 45, 135, 136, 137, 138, 139, 140, 141, 599, 132, 133, 134, 44, 600, 526, 527, 528, 63, 529, 530, 531, 535, 312, 313, 47, 314, 53, 51, 601, 602, 603, 604, 605, 59, 606, 607, 608, 609, 703, 704, 705, 706, 578, 996, 997, 998, 999, 1000, 1001, 1002, 1003, 1004, 1005, 1017, 1018, 1019, 1020, 1021, 1022, 1023, 1024, 1025, 1026, 1027, 1038, 1039, 1040] (by decide +kernel) (by decide +kernel)
set_option maxRecDepth 20000 in
theorem gL_law_X5_score : GoodIn wsL_law (wsV RL 163 RX5 yX5_score wsX5_score) := goodIn_app (goodIn_of _ (by decide +kernel)) ggL_law_X5_score
set_option maxRecDepth 20000 in
theorem ggL_law_X6_score_ : GoodIn wsL_law wsX6_score_ := goodIn_r _ [727, 728, 729, 730, 5, 731, 92, 620, 93, 732, 733, 734, 735, 91, 87, 204, 205, 206, 90, 207, 208, 379, 380, 381, 382, 358, 150, 359, 360, 361, 362, 363, 364, 365, 366, 367, 368, 369, 370, 371, 372, 373, 374, 99, 375, 376, 377, 211, 378, 220, 355, 356, 357, 624, 625, 626, 627, 628, 629, 614, 630, 608, 137, 609, 631, 632, 633, 634, 635, 636, 544, 545, 546, 547, 548, 549, 711, 712, 713, 714, 715, 421, 422, 423, 424, 155, 1006, 1007, 1008, 1009, 1010, 1011, 1012, 1013, 1014, 1015, 1016, 1041, 1042, 1043, 1044] (by decide +kernel) (by decide +kernel)
set_option maxRecDepth 20000 in
theorem gL_law_X6_score_ : GoodIn wsL_law (wsV RL 166 RX6 yX6_score_ wsX6_score_) := goodIn_app (goodIn_of _ (by decide +kernel)) ggL_law_X6_score_
set_option maxRecDepth 20000 in
theorem ggL_law_X5_meanCost : GoodIn wsL_law wsX5_meanCost := goodIn_r _ [739, 33, 720, 721, 722, 2, 723, 20, 16, 174, 583, 292, 293, 294, 295, 296, 297, 298, 299, 32, 125, 587, 588, 589, 19, 590, 60, 591, 64, 592, 58, 532, 533, 257, 534, 593, 594, 595, 596, 597, 62, 61, 598, 143, 144, 15, 145, 45, 135, 136, 137, 138, 139, 140, 141, 599, 132, 133, 134, 44, 600, 526, 527, 528, 63, 529, 530, 531, 535, 312, 313, 47, 314, 53, 51, 601, 602, 603, 604, 605, 59, 606, 607, 608, 609, 703, 704, 705, 706, 578, 996, 997, 998, 999, 1000, 1001, 1002, 1003, 1004, 1005, 1017, 1018, 1019, 1020, 1021, 1022, 1023, 1024, 1025, 1026, 1027, 1038, 1039, 1040] (by decide +kernel) (by decide +kernel)
set_option maxRecDepth 20000 in
theorem gL_law_X5_meanCost : GoodIn wsL_law (wsV RL 167 RX5 yX5_meanCost wsX5_meanCost) := goodIn_app (goodIn_of _ (by decide +kernel)) ggL_law_X5_meanCost
set_option maxRecDepth 20000 in
theorem ggL_law_X6_meanCost : GoodIn wsL_law wsX6_meanCost := goodIn_r _ [743, 155, 91, 728, 729, 730, 5, 731, 92, 620, 93, 732, 733, 734, 735, 87, 204, 205, 206, 90, 207, 208, 379, 380, 381, 382, 358, 150, 359, 360, 361, 362, 363, 364, 365, 366, 367, 368, 369, 370, 371, 372, 373, 374, 99, 375, 376, 377, 211, 378, 220, 355, 356, 357, 624, 625, 626, 627, 628, 629, 614, 630, 608, 137, 609, 631, 632, 633, 634, 635, 636, 544, 545, 546, 547, 548, 549, 711, 712, 713, 714, 715, 1006, 1007, 1008, 1009, 1010, 1011, 1012, 1013, 1014, 1015, 1016, 1041, 1042, 1043, 1044] (by decide +kernel) (by decide +kernel)
set_option maxRecDepth 20000 in
theorem gL_law_X6_meanCost : GoodIn wsL_law (wsV RL 171 RX6 yX6_meanCost wsX6_meanCost) := goodIn_app (goodIn_of _ (by decide +kernel)) ggL_law_X6_meanCost
set_option maxRecDepth 20000 in
theorem ggL_law_L_complete : GoodIn wsL_law wsL_complete := goodIn_ca (goodIn_ca (goodIn_r _ [746, 167, 747, 748, 749, 2, 750, 172, 173, 123, 124, 33, 16, 125, 24, 174, 292, 293, 294, 295, 296, 297, 298, 299, 32, 751, 752, 753, 23, 754, 72, 69, 74, 755, 756, 73, 757, 758, 759, 760, 75, 761, 762, 763, 764, 765, 766, 136, 137, 138, 767, 768, 769, 770, 771, 140, 141, 772, 773, 774, 775, 776, 588, 589, 19, 590, 60, 591, 64, 592, 58, 532, 533, 257, 534, 593, 594, 595, 596, 597, 62, 61, 598, 143, 144, 15, 145, 45, 135, 139, 599, 132, 133, 134, 44, 600, 526, 527, 528, 63, 529, 530, 531, 535, 312, 313, 47, 314, 53, 51, 601, 602, 603, 604, 605, 59, 606, 607, 608, 609, 704, 705, 706, 578, 777, 778, 779, 780, 71, 781, 782, 783, 784, 196, 197, 198, 199, 785, 786, 787, 788, 720, 721, 722, 723, 20, 583, 587, 703, 996, 997, 998, 999, 1000, 1001, 1002, 1003, 1004, 1005, 1017, 1018, 1019, 1020, 1028, 1029, 1030, 1031, 1032, 1033, 1021, 1022, 1023, 1024, 1025, 1026, 1027, 1038, 1039, 1040] (by decide +kernel) (by decide +kernel)) (goodIn_sub (fun _ h => List.mem_append_left _ (List.mem_append_right _ h)) (by decide +kernel))) (goodIn_sub (fun _ h => List.mem_append_left _ (List.mem_append_left _ (List.mem_append_right _ h))) (by decide +kernel))
set_option maxRecDepth 20000 in
theorem gL_law_L_complete : GoodIn wsL_law (va_wsS RL 172 yL_complete wsL_complete) := goodIn_app (goodIn_of _ (by decide +kernel)) ggL_law_L_complete
set_option maxRecDepth 20000 in
theorem ggL_law_X6_complete : GoodIn wsL_law wsX6_complete := goodIn_r _ [792, 91, 150, 87, 793, 31, 794, 92, 620, 93, 204, 205, 206, 90, 207, 208, 179, 180, 5, 181, 151, 152, 153, 154, 155, 156, 157, 158, 159, 631, 632, 633, 355, 356, 357, 358, 359, 360, 361, 362, 363, 364, 365, 366, 367, 368, 369, 370, 371, 372, 373, 374, 99, 375, 376, 377, 211, 378, 220, 624, 625, 626, 627, 628, 629, 614, 630, 608, 137, 609, 634, 635, 636, 544, 545, 546, 547, 548, 549, 711, 712, 713, 714, 715, 795, 796, 797, 798, 799, 800, 801, 802, 803, 136, 138, 209, 210, 212, 213, 214, 215, 216, 217, 218, 219, 221, 222, 223, 224, 225, 11, 12, 226, 227, 228, 229, 230, 231, 232, 233, 234, 235, 236, 237, 238, 239, 240, 241, 242, 243, 98, 244, 140, 141, 245, 246, 247, 248, 249, 250, 251, 252, 253, 254, 255, 256, 257, 258, 259, 260, 261, 262, 263, 264, 265, 266, 267, 268, 269, 270, 271, 272, 728, 729, 730, 731, 732, 733, 734, 735, 379, 380, 381, 382, 1006, 1007, 1008, 1009, 1010, 1011, 1012, 1013, 1014, 1015, 1016, 1041, 1042, 1043, 1044] (by decide +kernel) (by decide +kernel)
set_option maxRecDepth 20000 in
theorem gL_law_X6_complete : GoodIn wsL_law (wsV RL 174 RX6 yX6_complete wsX6_complete) := goodIn_app (goodIn_of _ (by decide +kernel)) ggL_law_X6_complete
set_option maxRecDepth 20000 in
theorem ggL_law_L_setLuck : GoodIn wsL_law wsL_setLuck := goodIn_ca (goodIn_r _ [806, 167, 807, 808, 809, 2, 810, 172, 173, 34, 996, 997, 998, 999, 1000, 1001, 1002, 1003, 1004, 1005] (by decide +kernel) (by decide +kernel)) (goodIn_sub (fun _ h => List.mem_append_left _ (List.mem_append_right _ h)) (by decide +kernel))
set_option maxRecDepth 20000 in
theorem gL_law_L_setLuck : GoodIn wsL_law (va_wsS RL 175 yL_setLuck wsL_setLuck) := goodIn_app (goodIn_of _ (by decide +kernel)) ggL_law_L_setLuck
set_option maxRecDepth 20000 in
theorem ggL_law_X6_setLuck : GoodIn wsL_law wsX6_setLuck := goodIn_r _ [814, 815, 179, 180, 5, 181, 151, 152, 153, 154, 155, 156, 157, 158, 159, 1006, 1007, 1008, 1009, 1010, 1011, 1012, 1013, 1014, 1015, 1016] (by decide +kernel) (by decide +kernel)
set_option maxRecDepth 20000 in
theorem gL_law_X6_setLuck : GoodIn wsL_law (wsV RL 177 RX6 yX6_setLuck wsX6_setLuck) := goodIn_app (goodIn_of _ (by decide +kernel)) ggL_law_X6_setLuck
set_option maxRecDepth 20000 in
theorem ggL_law_L_addStep : GoodIn wsL_law wsL_addStep := goodIn_ca (goodIn_ca (goodIn_r _ [818, 167, 819, 820, 821, 2, 822, 172, 173, 123, 124, 28, 823, 824, 825, 826, 827, 16, 125, 192, 193, 194, 195, 828, 829, 830, 27, 831, 82, 79, 80, 996, 997, 998, 999, 1000, 1001, 1002, 1003, 1004, 1005, 1034, 1035, 1036, 1037, 1017, 1018, 1019, 1020] (by decide +kernel) (by decide +kernel)) (goodIn_sub (fun _ h => List.mem_append_left _ (List.mem_append_right _ h)) (by decide +kernel))) (goodIn_sub (fun _ h => List.mem_append_left _ (List.mem_append_left _ (List.mem_append_right _ h))) (by decide +kernel))
set_option maxRecDepth 20000 in
theorem gL_law_L_addStep : GoodIn wsL_law (va_wsS RL 178 yL_addStep wsL_addStep) := goodIn_app (goodIn_of _ (by decide +kernel)) ggL_law_L_addStep
set_option maxRecDepth 20000 in
theorem ggL_law_X6_addStep : GoodIn wsL_law wsX6_addStep := goodIn_r _ [835, 150, 94, 31, 179, 180, 5, 181, 151, 152, 153, 154, 155, 156, 157, 158, 159, 204, 205, 206, 90, 207, 208, 226, 227, 228, 229, 230, 231, 99, 232, 233, 234, 235, 236, 237, 238, 239, 240, 241, 242, 243, 98, 244, 140, 137, 141, 245, 246, 247, 248, 249, 250, 251, 252, 253, 254, 255, 256, 257, 258, 259, 260, 261, 262, 263, 264, 265, 266, 267, 268, 136, 138, 269, 270, 271, 272, 1006, 1007, 1008, 1009, 1010, 1011, 1012, 1013, 1014, 1015, 1016, 1041, 1042, 1043] (by decide +kernel) (by decide +kernel)
set_option maxRecDepth 20000 in
theorem gL_law_X6_addStep : GoodIn wsL_law (wsV RL 180 RX6 yX6_addStep wsX6_addStep) := goodIn_app (goodIn_of _ (by decide +kernel)) ggL_law_X6_addStep
set_option maxRecDepth 20000 in
theorem ggL_law_X5_clearScript : GoodIn wsL_law wsX5_clearScript := goodIn_r _ [839, 28, 823, 996, 997, 998, 999, 1000, 1001, 1002, 1003, 1004, 1005, 1034, 1035, 1036, 1037] (by decide +kernel) (by decide +kernel)
set_option maxRecDepth 20000 in
theorem gL_law_X5_clearScript : GoodIn wsL_law (wsV RL 181 RX5 yX5_clearScript wsX5_clearScript) := goodIn_app (goodIn_of _ (by decide +kernel)) ggL_law_X5_clearScript
set_option maxRecDepth 20000 in
theorem ggL_law_X6_clearScript : GoodIn wsL_law wsX6_clearScript := goodIn_r _ [843, 155, 94, 204, 205, 206, 90, 207, 208, 844, 845, 846, 847, 230, 231, 99, 1006, 1007, 1008, 1009, 1010, 1011, 1012, 1013, 1014, 1015, 1016, 1041, 1042, 1043] (by decide +kernel) (by decide +kernel)
set_option maxRecDepth 20000 in
theorem gL_law_X6_clearScript : GoodIn wsL_law (wsV RL 184 RX6 yX6_clearScript wsX6_clearScript) := goodIn_app (goodIn_of _ (by decide +kernel)) ggL_law_X6_clearScript
set_option maxRecDepth 20000 in
theorem ggL_law_L_runScript : GoodIn wsL_law wsL_runScript := goodIn_ca (goodIn_r _ [850, 118, 851, 852, 853, 2, 854, 123, 124, 16, 125, 28, 823, 36, 578, 33, 855, 856, 857, 858, 859, 27, 860, 81, 861, 533, 257, 534, 862, 863, 864, 865, 80, 866, 867, 868, 869, 660, 661, 662, 663, 20, 174, 292, 293, 294, 295, 296, 297, 298, 299, 32, 587, 588, 589, 19, 590, 60, 591, 64, 592, 58, 532, 593, 594, 595, 596, 597, 62, 61, 598, 143, 144, 15, 145, 45, 135, 136, 137, 138, 139, 140, 141, 599, 132, 133, 134, 44, 600, 526, 527, 528, 63, 529, 530, 531, 535, 312, 313, 47, 314, 53, 51, 601, 602, 603, 604, 605, 59, 606, 607, 608, 609, 870, 871, 872, 873, 679, 680, 681, 682, 683, 684, 685, 686, 687, 688, 689, 690, 874, 875, 876, 877, 878, 879, 880, 881, 34, 35, 882, 883, 884, 885, 886, 887, 888, 889, 890, 891, 892, 893, 196, 197, 198, 199, 996, 997, 998, 999, 1000, 1001, 1002, 1003, 1004, 1005, 1017, 1018, 1019, 1020, 1034, 1035, 1036, 1037, 1021, 1022, 1023, 1024, 1025, 1026, 1027, 1038, 1039, 1040] (by decide +kernel) (by decide +kernel)) (goodIn_sub (fun _ h => List.mem_append_left _ (List.mem_append_left _ (List.mem_append_right _ h))) (by decide +kernel))
set_option maxRecDepth 20000 in
theorem gL_law_L_runScript : GoodIn wsL_law (va_wsS RL 185 yL_runScript wsL_runScript) := goodIn_app (goodIn_of _ (by decide +kernel)) ggL_law_L_runScript
set_option maxRecDepth 20000 in
theorem ggL_law_X6_runScript : GoodIn wsL_law wsX6_runScript := goodIn_r _ [897, 150, 94, 898, 31, 91, 113, 899, 900, 901, 90, 902, 208, 151, 152, 153, 5, 154, 155, 156, 157, 158, 159, 204, 205, 206, 207, 359, 360, 361, 362, 363, 364, 365, 366, 367, 368, 369, 370, 371, 372, 373, 374, 99, 903, 904, 905, 906, 29, 907, 695, 696, 697, 698, 668, 669, 670, 671, 92, 620, 93, 87, 355, 356, 357, 358, 375, 376, 377, 211, 378, 220, 624, 625, 626, 627, 628, 629, 614, 630, 608, 137, 609, 631, 632, 633, 634, 635, 636, 544, 545, 546, 547, 548, 549, 908, 909, 910, 911, 815, 912, 209, 210, 212, 213, 214, 215, 216, 217, 218, 219, 221, 222, 223, 224, 225, 11, 12, 226, 227, 228, 229, 230, 231, 232, 233, 234, 235, 236, 237, 238, 239, 240, 241, 242, 243, 98, 244, 140, 141, 245, 246, 247, 248, 249, 250, 251, 252, 253, 254, 255, 256, 257, 258, 259, 260, 261, 262, 263, 264, 265, 266, 267, 268, 136, 138, 269, 270, 271, 272, 1006, 1007, 1008, 1009, 1010, 1011, 1012, 1013, 1014, 1015, 1016, 1041, 1042, 1043, 1044] (by decide +kernel) (by decide +kernel)
set_option maxRecDepth 20000 in
theorem gL_law_X6_runScript : GoodIn wsL_law (wsV RL 187 RX6 yX6_runScript wsX6_runScript) := goodIn_app (goodIn_of _ (by decide +kernel)) ggL_law_X6_runScript
set_option maxRecDepth 20000 in
theorem ggL_law_X5_hasEnded : GoodIn wsL_law wsX5_hasEnded := goodIn_r _ [916, 36, 996, 997, 998, 999, 1000, 1001, 1002, 1003, 1004, 1005] (by decide +kernel) (by decide +kernel)
set_option maxRecDepth 20000 in
theorem gL_law_X5_hasEnded : GoodIn wsL_law (wsV RL 188 RX5 yX5_hasEnded wsX5_hasEnded) := goodIn_app (goodIn_of _ (by decide +kernel)) ggL_law_X5_hasEnded
set_option maxRecDepth 20000 in
theorem ggL_law_X6_hasEnded : GoodIn wsL_law wsX6_hasEnded := goodIn_r _ [920, 155, 898, 1006, 1007, 1008, 1009, 1010, 1011, 1012, 1013, 1014, 1015, 1016] (by decide +kernel) (by decide +kernel)
set_option maxRecDepth 20000 in
theorem gL_law_X6_hasEnded : GoodIn wsL_law (wsV RL 192 RX6 yX6_hasEnded wsX6_hasEnded) := goodIn_app (goodIn_of _ (by decide +kernel)) ggL_law_X6_hasEnded
set_option maxRecDepth 20000 in
theorem ggL_law_X5_luck : GoodIn wsL_law wsX5_luck := goodIn_r _ [924, 34, 996, 997, 998, 999, 1000, 1001, 1002, 1003, 1004, 1005] (by decide +kernel) (by decide +kernel)
set_option maxRecDepth 20000 in
theorem gL_law_X5_luck : GoodIn wsL_law (wsV RL 193 RX5 yX5_luck wsX5_luck) := goodIn_app (goodIn_of _ (by decide +kernel)) ggL_law_X5_luck
set_option maxRecDepth 20000 in
theorem ggL_law_X6_luck : GoodIn wsL_law wsX6_luck := goodIn_r _ [928, 815, 421, 422, 423, 5, 424, 155, 1006, 1007, 1008, 1009, 1010, 1011, 1012, 1013, 1014, 1015, 1016] (by decide +kernel) (by decide +kernel)
set_option maxRecDepth 20000 in
theorem gL_law_X6_luck : GoodIn wsL_law (wsV RL 196 RX6 yX6_luck wsX6_luck) := goodIn_app (goodIn_of _ (by decide +kernel)) ggL_law_X6_luck
set_option maxRecDepth 20000 in
theorem ggL_law_X5_draws : GoodIn wsL_law wsX5_draws := goodIn_r _ [932, 35, 996, 997, 998, 999, 1000, 1001, 1002, 1003, 1004, 1005] (by decide +kernel) (by decide +kernel)
set_option maxRecDepth 20000 in
theorem gL_law_X5_draws : GoodIn wsL_law (wsV RL 197 RX5 yX5_draws wsX5_draws) := goodIn_app (goodIn_of _ (by decide +kernel)) ggL_law_X5_draws
set_option maxRecDepth 20000 in
theorem ggL_law_X6_draws : GoodIn wsL_law wsX6_draws := goodIn_r _ [936, 907, 421, 422, 423, 5, 424, 155, 1006, 1007, 1008, 1009, 1010, 1011, 1012, 1013, 1014, 1015, 1016] (by decide +kernel) (by decide +kernel)
set_option maxRecDepth 20000 in
theorem gL_law_X6_draws : GoodIn wsL_law (wsV RL 200 RX6 yX6_draws wsX6_draws) := goodIn_app (goodIn_of _ (by decide +kernel)) ggL_law_X6_draws
set_option maxRecDepth 20000 in
theorem ggL_law_L_scoreLearned : GoodIn wsL_law wsL_scoreLearned := goodIn_ca (goodIn_ca (goodIn_r _ [939, 167, 940, 941, 942, 2, 943, 172, 173, 123, 124, 16, 125, 288, 289, 290, 291, 174, 33, 292, 293, 294, 295, 296, 297, 298, 299, 32, 300, 301, 302, 15, 303, 131, 132, 133, 134, 44, 135, 136, 137, 138, 139, 140, 141, 304, 305, 306, 47, 307, 52, 308, 309, 53, 51, 310, 270, 271, 272, 311, 312, 313, 314, 315, 316, 317, 318, 142, 143, 144, 145, 45, 720, 721, 722, 723, 20, 583, 587, 588, 589, 19, 590, 60, 591, 64, 592, 58, 532, 533, 257, 534, 593, 594, 595, 596, 597, 62, 61, 598, 599, 600, 526, 527, 528, 63, 529, 530, 531, 535, 601, 602, 603, 604, 605, 59, 606, 607, 608, 609, 703, 704, 705, 706, 578, 323, 324, 325, 326, 327, 328, 329, 330, 331, 332, 333, 334, 335, 336, 337, 338, 339, 340, 341, 342, 996, 997, 998, 999, 1000, 1001, 1002, 1003, 1004, 1005, 1017, 1018, 1019, 1020, 1038, 1039, 1040, 1021, 1022, 1023, 1024, 1025, 1026, 1027] (by decide +kernel) (by decide +kernel)) (goodIn_sub (fun _ h => List.mem_append_left _ (List.mem_append_right _ h)) (by decide +kernel))) (goodIn_sub (fun _ h => List.mem_append_left _ (List.mem_append_left _ (List.mem_append_right _ h))) (by decide +kernel))
set_option maxRecDepth 20000 in
theorem gL_law_L_scoreLearned : GoodIn wsL_law (va_wsS RL 201 yL_scoreLearned wsL_scoreLearned) := goodIn_app (goodIn_of _ (by decide +kernel)) ggL_law_L_scoreLearned
set_option maxRecDepth 20000 in
theorem ggL_law_X6_scoreLearned : GoodIn wsL_law wsX6_scoreLearned := goodIn_r _ [947, 150, 92, 91, 620, 93, 179, 180, 5, 181, 151, 152, 153, 154, 155, 156, 157, 158, 159, 347, 348, 349, 350, 270, 271, 272, 110, 111, 112, 113, 31, 351, 352, 353, 354, 87, 204, 205, 206, 90, 207, 208, 355, 356, 357, 358, 359, 360, 361, 362, 363, 364, 365, 366, 367, 368, 369, 370, 371, 372, 373, 374, 99, 375, 376, 377, 211, 378, 220, 379, 380, 381, 382, 732, 733, 734, 735, 624, 625, 626, 627, 628, 629, 614, 630, 608, 137, 609, 631, 632, 633, 634, 635, 636, 544, 545, 546, 547, 548, 549, 711, 712, 713, 714, 715, 1006, 1007, 1008, 1009, 1010, 1011, 1012, 1013, 1014, 1015, 1016, 1041, 1042, 1043, 1044] (by decide +kernel) (by decide +kernel)
set_option maxRecDepth 20000 in
theorem gL_law_X6_scoreLearned : GoodIn wsL_law (wsV RL 203 RX6 yX6_scoreLearned wsX6_scoreLearned) := goodIn_app (goodIn_of _ (by decide +kernel)) ggL_law_X6_scoreLearned
set_option maxRecDepth 20000 in
theorem ggL_law_L_scoreBy : GoodIn wsL_law wsL_scoreBy := goodIn_ca (goodIn_r _ [950, 167, 951, 952, 953, 2, 954, 172, 173, 20, 644, 645, 646, 647, 648, 720, 721, 722, 723, 33, 16, 174, 583, 292, 293, 294, 295, 296, 297, 298, 299, 32, 125, 587, 588, 589, 19, 590, 60, 591, 64, 592, 58, 532, 533, 257, 534, 593, 594, 595, 596, 597, 62, 61, 598, 143, 144, 15, 145, 45, 135, 136, 137, 138, 139, 140, 141, 599, 132, 133, 134, 44, 600, 526, 527, 528, 63, 529, 530, 531, 535, 312, 313, 47, 314, 53, 51, 601, 602, 603, 604, 605, 59, 606, 607, 608, 609, 703, 704, 705, 706, 578, 996, 997, 998, 999, 1000, 1001, 1002, 1003, 1004, 1005, 1021, 1022, 1023, 1024, 1025, 1026, 1027, 1017, 1018, 1019, 1020, 1038, 1039, 1040] (by decide +kernel) (by decide +kernel)) (goodIn_sub (fun _ h => List.mem_append_left _ (List.mem_append_right _ h)) (by decide +kernel))
set_option maxRecDepth 20000 in
theorem gL_law_L_scoreBy : GoodIn wsL_law (va_wsS RL 204 yL_scoreBy wsL_scoreBy) := goodIn_app (goodIn_of _ (by decide +kernel)) ggL_law_L_scoreBy
set_option maxRecDepth 20000 in
theorem ggL_law_X6_scoreBy : GoodIn wsL_law wsX6_scoreBy := goodIn_r _ [958, 92, 179, 180, 5, 181, 151, 152, 153, 154, 155, 156, 157, 158, 159, 732, 733, 734, 735, 91, 87, 204, 205, 206, 90, 207, 208, 379, 380, 381, 382, 358, 150, 359, 360, 361, 362, 363, 364, 365, 366, 367, 368, 369, 370, 371, 372, 373, 374, 99, 375, 376, 377, 211, 378, 220, 355, 356, 357, 624, 625, 626, 627, 628, 629, 614, 630, 608, 137, 609, 631, 632, 633, 634, 635, 636, 544, 545, 546, 547, 548, 549, 711, 712, 713, 714, 715, 1006, 1007, 1008, 1009, 1010, 1011, 1012, 1013, 1014, 1015, 1016, 1041, 1042, 1043, 1044] (by decide +kernel) (by decide +kernel)
set_option maxRecDepth 20000 in
theorem gL_law_X6_scoreBy : GoodIn wsL_law (wsV RL 206 RX6 yX6_scoreBy wsX6_scoreBy) := goodIn_app (goodIn_of _ (by decide +kernel)) ggL_law_X6_scoreBy
set_option maxRecDepth 20000 in
theorem ggL_law_L_wouldDraw : GoodIn wsL_law wsL_wouldDraw := goodIn_ca (goodIn_r _ [961, 118, 962, 963, 964, 2, 965, 123, 124, 16, 125, 20, 34, 660, 661, 662, 663, 174, 33, 292, 293, 294, 295, 296, 297, 298, 299, 32, 587, 588, 589, 19, 590, 60, 591, 64, 592, 58, 532, 533, 257, 534, 593, 594, 595, 596, 597, 62, 61, 598, 143, 144, 15, 145, 45, 135, 136, 137, 138, 139, 140, 141, 599, 132, 133, 134, 44, 600, 526, 527, 528, 63, 529, 530, 531, 535, 312, 313, 47, 314, 53, 51, 601, 602, 603, 604, 605, 59, 606, 607, 608, 609, 882, 883, 884, 890, 891, 892, 893, 885, 886, 887, 888, 889, 996, 997, 998, 999, 1000, 1001, 1002, 1003, 1004, 1005, 1017, 1018, 1019, 1020, 1021, 1022, 1023, 1024, 1025, 1026, 1027, 1038, 1039, 1040] (by decide +kernel) (by decide +kernel)) (goodIn_sub (fun _ h => List.mem_append_left _ (List.mem_append_left _ (List.mem_append_right _ h))) (by decide +kernel))
set_option maxRecDepth 20000 in
theorem gL_law_L_wouldDraw : GoodIn wsL_law (va_wsS RL 207 yL_wouldDraw wsL_wouldDraw) := goodIn_app (goodIn_of _ (by decide +kernel)) ggL_law_L_wouldDraw
set_option maxRecDepth 20000 in
theorem ggL_law_X6_wouldDraw : GoodIn wsL_law wsX6_wouldDraw := goodIn_r _ [969, 150, 29, 815, 151, 152, 153, 5, 154, 155, 156, 157, 158, 159, 908, 909, 910, 911, 91, 912, 668, 669, 670, 671, 92, 620, 93, 87, 204, 205, 206, 90, 207, 208, 355, 356, 357, 358, 359, 360, 361, 362, 363, 364, 365, 366, 367, 368, 369, 370, 371, 372, 373, 374, 99, 375, 376, 377, 211, 378, 220, 624, 625, 626, 627, 628, 629, 614, 630, 608, 137, 609, 631, 632, 633, 634, 635, 636, 544, 545, 546, 547, 548, 549, 1006, 1007, 1008, 1009, 1010, 1011, 1012, 1013, 1014, 1015, 1016, 1041, 1042, 1043, 1044] (by decide +kernel) (by decide +kernel)
set_option maxRecDepth 20000 in
theorem gL_law_X6_wouldDraw : GoodIn wsL_law (wsV RL 209 RX6 yX6_wouldDraw wsX6_wouldDraw) := goodIn_app (goodIn_of _ (by decide +kernel)) ggL_law_X6_wouldDraw
set_option maxRecDepth 20000 in
theorem ggL_law_X5_digest : GoodIn wsL_law wsX5_digest := goodIn_r _ [973, 974, 16, 125, 174, 33, 32, 34, 35, 36, 975, 976, 2, 977, 978, 979, 980, 981, 982, 459, 479, 507, 400, 132, 133, 15, 134, 44, 135, 136, 137, 138, 139, 140, 141, 480, 481, 482, 483, 484, 519, 520, 521, 522, 20, 523, 524, 292, 293, 294, 295, 296, 297, 298, 299, 525, 526, 527, 19, 528, 61, 62, 63, 529, 530, 531, 532, 533, 257, 534, 535, 312, 313, 47, 314, 53, 51, 983, 984, 985, 986, 583, 660, 661, 662, 663, 587, 588, 589, 590, 60, 591, 64, 592, 58, 593, 594, 595, 596, 597, 598, 143, 144, 145, 45, 599, 600, 601, 602, 603, 604, 605, 59, 606, 607, 608, 609, 679, 680, 681, 682, 683, 684, 685, 686, 687, 688, 689, 690, 720, 721, 722, 723, 703, 704, 705, 706, 578, 996, 997, 998, 999, 1000, 1001, 1002, 1003, 1004, 1005, 1017, 1018, 1019, 1020, 1038, 1039, 1040, 1021, 1022, 1023, 1024, 1025, 1026, 1027] (by decide +kernel) (by decide +kernel)
set_option maxRecDepth 20000 in
theorem gL_law_X5_digest : GoodIn wsL_law (wsV RL 210 RX5 yX5_digest wsX5_digest) := goodIn_app (goodIn_of _ (by decide +kernel)) ggL_law_X5_digest
set_option maxRecDepth 20000 in
theorem ggL_law_X6_digest : GoodIn wsL_law wsX6_digest := goodIn_r _ [990, 155, 991, 150, 87, 91, 358, 92, 815, 907, 898, 992, 993, 5, 994, 995, 204, 205, 206, 90, 207, 208, 359, 360, 361, 362, 363, 364, 365, 366, 367, 368, 369, 370, 371, 372, 373, 374, 99, 375, 376, 377, 211, 378, 220, 386, 387, 388, 497, 498, 499, 540, 541, 542, 543, 355, 356, 357, 544, 545, 546, 547, 548, 549, 695, 696, 697, 698, 31, 668, 669, 670, 671, 620, 93, 624, 625, 626, 627, 628, 629, 614, 630, 608, 137, 609, 631, 632, 633, 634, 635, 636, 728, 729, 730, 731, 732, 733, 734, 735, 379, 380, 381, 382, 711, 712, 713, 714, 715, 1006, 1007, 1008, 1009, 1010, 1011, 1012, 1013, 1014, 1015, 1016, 1041, 1042, 1043, 1044] (by decide +kernel) (by decide +kernel)
set_option maxRecDepth 20000 in
theorem gL_law_X6_digest : GoodIn wsL_law (wsV RL 214 RX6 yX6_digest wsX6_digest) := goodIn_app (goodIn_of _ (by decide +kernel)) ggL_law_X6_digest
