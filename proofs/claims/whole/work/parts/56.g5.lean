/-! The words of the methods that the law calls. -/
set_option maxRecDepth 20000 in
theorem gL_law_X6_bestPhase : GoodIn wsL_law (wsV RL 153 RX6 yX6_bestPhase wsX6_bestPhase) := goodIn_app (goodIn_of _ (by decide +kernel)) ggL_law_X6_bestPhase
set_option maxRecDepth 20000 in
theorem ggL_law_X5_bestPitch : GoodIn wsL_law wsX5_bestPitch := goodIn_r _ [801, 20, 702, 703, 704, 19, 705, 706, 484, 485, 486, 46, 164, 155, 15, 156, 165, 116, 117, 118, 39, 487, 2, 488, 489, 167, 168, 889, 890, 891, 892, 893, 894, 912, 909, 910, 911] (by decide +kernel) (by decide +kernel)
set_option maxRecDepth 20000 in
theorem gL_law_X5_bestPitch : GoodIn wsL_law (wsV RL 154 RX5 yX5_bestPitch wsX5_bestPitch) := goodIn_app (goodIn_of _ (by decide +kernel)) ggL_law_X5_bestPitch
set_option maxRecDepth 20000 in
theorem ggL_law_X6_bestPitch : GoodIn wsL_law wsX6_bestPitch := goodIn_r _ [805, 127, 806, 807, 808, 5, 809, 747, 748, 749, 750, 70, 895, 896, 897, 898, 899, 900, 901, 902, 903, 904, 905, 906, 907, 908] (by decide +kernel) (by decide +kernel)
set_option maxRecDepth 20000 in
theorem gL_law_X6_bestPitch : GoodIn wsL_law (wsV RL 157 RX6 yX6_bestPitch wsX6_bestPitch) := goodIn_app (goodIn_of _ (by decide +kernel)) ggL_law_X6_bestPitch
set_option maxRecDepth 20000 in
theorem ggL_law_L_standsOut : GoodIn wsL_law wsL_standsOut := goodIn_ca (goodIn_r _ [812, 79, 813, 814, 815, 2, 816, 24, 789, 615, 110, 616, 92, 93, 94, 95, 96, 97, 98, 99, 513, 514, 515, 23, 516, 54, 51, 280, 109, 111, 281, 282, 283, 52, 53, 517, 333, 15, 334, 518, 116, 117, 118, 39, 519, 520, 521, 522, 523, 158, 159, 524, 155, 156, 167, 168, 525, 113, 114, 526, 217, 218, 817, 598, 599, 600, 601, 278, 279, 602, 603, 604, 605, 606, 607, 608, 609, 889, 890, 891, 892, 893, 894, 913, 914, 915, 916, 909, 910, 911] (by decide +kernel) (by decide +kernel)) (goodIn_sub (fun _ h => List.mem_append_left _ (List.mem_append_right _ h)) (by decide +kernel))
set_option maxRecDepth 20000 in
theorem gL_law_L_standsOut : GoodIn wsL_law (va_wsS RL 158 yL_standsOut wsL_standsOut) := goodIn_app (goodIn_of _ (by decide +kernel)) ggL_law_L_standsOut
set_option maxRecDepth 20000 in
theorem ggL_law_X6_standsOut : GoodIn wsL_law wsX6_standsOut := goodIn_r _ [821, 127, 131, 132, 5, 133, 822, 823, 824, 825, 226, 227, 228, 229, 230, 231, 232, 233, 234, 235, 236, 651, 652, 653, 654, 655, 656, 657, 658, 237, 238, 239, 240, 566, 567, 568, 569, 550, 551, 552, 553, 554, 555, 556, 557, 70, 558, 559, 560, 561, 139, 140, 141, 142, 562, 563, 564, 565, 303, 304, 305, 306, 299, 300, 301, 302, 635, 636, 637, 638, 659, 660, 661, 895, 896, 897, 898, 899, 900, 901, 902, 903, 904, 905, 906, 907, 908] (by decide +kernel) (by decide +kernel)
set_option maxRecDepth 20000 in
theorem gL_law_X6_standsOut : GoodIn wsL_law (wsV RL 161 RX6 yX6_standsOut wsX6_standsOut) := goodIn_app (goodIn_of _ (by decide +kernel)) ggL_law_X6_standsOut
set_option maxRecDepth 20000 in
theorem ggL_law_X5_goodness : GoodIn wsL_law wsX5_goodness := goodIn_r _ [829, 29, 830, 689, 690, 691, 28, 692, 693, 315, 316, 317, 269, 270, 271, 272, 59, 252, 253, 15, 254, 264, 116, 117, 118, 39, 698, 699, 700, 701, 622, 582, 583, 584, 585, 109, 110, 111, 586, 282, 283, 260, 261, 262, 263, 265, 266, 267, 268, 587, 217, 218, 273, 274, 275, 276, 592, 593, 594, 595, 60, 596, 514, 515, 23, 516, 54, 51, 280, 281, 52, 53, 517, 333, 334, 518, 519, 520, 521, 522, 523, 158, 159, 524, 155, 156, 167, 2, 168, 525, 113, 114, 526, 597, 598, 599, 600, 601, 278, 279, 602, 603, 604, 605, 606, 607, 608, 609, 610, 611, 612, 613, 614, 615, 616, 617, 889, 890, 891, 892, 893, 894, 917, 918, 909, 910, 911, 913, 914, 915, 916] (by decide +kernel) (by decide +kernel)
set_option maxRecDepth 20000 in
theorem gL_law_X5_goodness : GoodIn wsL_law (wsV RL 162 RX5 yX5_goodness wsX5_goodness) := goodIn_app (goodIn_of _ (by decide +kernel)) ggL_law_X5_goodness
set_option maxRecDepth 20000 in
theorem ggL_law_X6_goodness : GoodIn wsL_law wsX6_goodness := goodIn_r _ [834, 127, 835, 836, 837, 5, 838, 839, 735, 736, 737, 738, 295, 296, 297, 298, 70, 743, 744, 745, 746, 291, 292, 293, 294, 229, 230, 231, 232, 233, 234, 235, 236, 631, 632, 633, 634, 662, 663, 664, 665, 639, 640, 641, 642, 562, 563, 564, 565, 303, 304, 305, 306, 131, 132, 133, 647, 648, 649, 650, 651, 652, 653, 654, 655, 656, 657, 658, 237, 238, 239, 240, 566, 567, 568, 569, 550, 551, 552, 553, 554, 555, 556, 557, 558, 559, 560, 561, 139, 140, 141, 142, 299, 300, 301, 302, 635, 636, 637, 638, 659, 660, 661, 895, 896, 897, 898, 899, 900, 901, 902, 903, 904, 905, 906, 907, 908] (by decide +kernel) (by decide +kernel)
set_option maxRecDepth 20000 in
theorem gL_law_X6_goodness : GoodIn wsL_law (wsV RL 166 RX6 yX6_goodness wsX6_goodness) := goodIn_app (goodIn_of _ (by decide +kernel)) ggL_law_X6_goodness
