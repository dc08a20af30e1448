/-! The words of the methods that the law calls. -/
set_option maxRecDepth 20000 in
theorem gL_law_L_bend : GoodIn wsL_law (va_wsS RL 126 yL_bend wsL_bend) := goodIn_app (goodIn_of _ (by decide +kernel)) ggL_law_L_bend
set_option maxRecDepth 20000 in
theorem ggL_law_X6_bend : GoodIn wsL_law wsX6_bend := goodIn_r _ [444, 127, 407, 371, 445, 446, 447, 5, 448, 408, 403, 404, 405, 406, 72, 409, 410, 411, 412, 73, 413, 414, 415, 416, 417, 418, 131, 132, 133, 134, 135, 136, 137, 138, 71, 70, 449, 450, 451, 452, 205, 206, 207, 208, 139, 140, 141, 142, 895, 896, 897, 898, 899, 900, 901, 902, 903, 904, 905, 906, 907, 908] (by decide +kernel) (by decide +kernel)
set_option maxRecDepth 20000 in
theorem gL_law_X6_bend : GoodIn wsL_law (wsV RL 129 RX6 yX6_bend wsX6_bend) := goodIn_app (goodIn_of _ (by decide +kernel)) ggL_law_X6_bend
set_option maxRecDepth 20000 in
theorem ggL_law_L_undo : GoodIn wsL_law wsL_undo := goodIn_ca (goodIn_r _ [455, 348, 456, 457, 458, 2, 459, 353, 354, 16, 460, 461, 462, 15, 463, 41, 464, 465, 466, 467, 40, 39, 104, 105, 106, 107, 889, 890, 891, 892, 893, 894, 909, 910, 911] (by decide +kernel) (by decide +kernel)) (goodIn_sub (fun _ h => List.mem_append_right _ h) (by decide +kernel))
set_option maxRecDepth 20000 in
theorem gL_law_L_undo : GoodIn wsL_law (va_wsS RL 130 yL_undo wsL_undo) := goodIn_app (goodIn_of _ (by decide +kernel)) ggL_law_L_undo
set_option maxRecDepth 20000 in
theorem ggL_law_X6_undo : GoodIn wsL_law wsX6_undo := goodIn_r _ [471, 138, 127, 70, 71, 895, 896, 897, 898, 899, 900, 901, 902, 903, 904, 905, 906, 907, 908] (by decide +kernel) (by decide +kernel)
set_option maxRecDepth 20000 in
theorem gL_law_X6_undo : GoodIn wsL_law (wsV RL 132 RX6 yX6_undo wsX6_undo) := goodIn_app (goodIn_of _ (by decide +kernel)) ggL_law_X6_undo
set_option maxRecDepth 20000 in
theorem ggL_law_L_roll : GoodIn wsL_law wsL_roll := goodIn_ca (goodIn_ca (goodIn_r _ [474, 78, 79, 475, 476, 477, 2, 478, 16, 20, 84, 85, 86, 87, 88, 89, 90, 91, 92, 93, 94, 95, 96, 97, 98, 99, 154, 155, 15, 156, 115, 116, 117, 118, 39, 157, 158, 159, 192, 193, 194, 19, 195, 46, 196, 113, 114, 165, 479, 480, 481, 482, 332, 333, 334, 483, 484, 485, 486, 164, 487, 488, 489, 167, 168, 889, 890, 891, 892, 893, 894, 909, 910, 911, 912] (by decide +kernel) (by decide +kernel)) (goodIn_sub (fun _ h => List.mem_append_left _ (List.mem_append_left _ (List.mem_append_right _ h))) (by decide +kernel))) (goodIn_sub (fun _ h => List.mem_append_left _ (List.mem_append_right _ h)) (by decide +kernel))
set_option maxRecDepth 20000 in
theorem gL_law_L_roll : GoodIn wsL_law (va_wsS RL 133 yL_roll wsL_roll) := goodIn_app (goodIn_of _ (by decide +kernel)) ggL_law_L_roll
set_option maxRecDepth 20000 in
theorem ggL_law_X6_roll : GoodIn wsL_law wsX6_roll := goodIn_r _ [493, 127, 128, 129, 5, 130, 131, 132, 133, 494, 495, 496, 497, 70, 205, 206, 207, 208, 139, 140, 141, 142, 498, 499, 500, 501, 502, 503, 504, 505, 895, 896, 897, 898, 899, 900, 901, 902, 903, 904, 905, 906, 907, 908] (by decide +kernel) (by decide +kernel)
set_option maxRecDepth 20000 in
theorem gL_law_X6_roll : GoodIn wsL_law (wsV RL 135 RX6 yX6_roll wsX6_roll) := goodIn_app (goodIn_of _ (by decide +kernel)) ggL_law_X6_roll
set_option maxRecDepth 20000 in
theorem ggL_law_L_cell : GoodIn wsL_law wsL_cell := goodIn_ca (goodIn_ca (goodIn_r _ [508, 78, 79, 509, 510, 511, 2, 512, 24, 16, 84, 85, 86, 87, 88, 89, 90, 91, 92, 93, 94, 95, 96, 97, 98, 99, 513, 514, 515, 23, 516, 54, 51, 280, 109, 110, 111, 281, 282, 283, 52, 53, 517, 333, 15, 334, 518, 116, 117, 118, 39, 519, 520, 521, 522, 523, 158, 159, 524, 155, 156, 167, 168, 525, 113, 114, 526, 217, 218, 527, 528, 529, 530, 216, 115, 531, 532, 533, 534, 535, 536, 537, 538, 889, 890, 891, 892, 893, 894, 913, 914, 915, 916, 909, 910, 911] (by decide +kernel) (by decide +kernel)) (goodIn_sub (fun _ h => List.mem_append_left _ (List.mem_append_left _ (List.mem_append_right _ h))) (by decide +kernel))) (goodIn_sub (fun _ h => List.mem_append_left _ (List.mem_append_right _ h)) (by decide +kernel))
set_option maxRecDepth 20000 in
theorem gL_law_L_cell : GoodIn wsL_law (va_wsS RL 136 yL_cell wsL_cell) := goodIn_app (goodIn_of _ (by decide +kernel)) ggL_law_L_cell
set_option maxRecDepth 20000 in
theorem ggL_law_X6_cell : GoodIn wsL_law wsX6_cell := goodIn_r _ [542, 127, 543, 544, 5, 545, 131, 132, 133, 223, 224, 225, 546, 547, 548, 549, 550, 551, 552, 553, 554, 555, 556, 557, 70, 558, 559, 560, 561, 139, 140, 141, 142, 562, 563, 564, 565, 566, 567, 568, 569, 895, 896, 897, 898, 899, 900, 901, 902, 903, 904, 905, 906, 907, 908] (by decide +kernel) (by decide +kernel)
set_option maxRecDepth 20000 in
theorem gL_law_X6_cell : GoodIn wsL_law (wsV RL 138 RX6 yX6_cell wsX6_cell) := goodIn_app (goodIn_of _ (by decide +kernel)) ggL_law_X6_cell
set_option maxRecDepth 20000 in
theorem ggL_law_L_figureOf : GoodIn wsL_law wsL_figureOf := goodIn_ca (goodIn_ca (goodIn_r _ [572, 78, 79, 573, 574, 575, 2, 576, 29, 84, 85, 86, 87, 88, 89, 90, 91, 92, 93, 94, 95, 96, 97, 98, 99, 314, 315, 316, 28, 317, 269, 270, 271, 272, 59, 252, 253, 15, 254, 264, 116, 117, 118, 39, 577, 578, 579, 580, 273, 274, 275, 276, 256, 257, 258, 259, 260, 261, 262, 263, 265, 266, 267, 268, 277, 278, 23, 279, 280, 109, 110, 111, 281, 282, 283, 581, 582, 583, 584, 585, 586, 587, 217, 218, 588, 589, 590, 591, 592, 593, 594, 595, 60, 596, 514, 515, 516, 54, 51, 52, 53, 517, 333, 334, 518, 519, 520, 521, 522, 523, 158, 159, 524, 155, 156, 167, 168, 525, 113, 114, 526, 597, 598, 599, 600, 601, 602, 603, 604, 605, 606, 607, 608, 609, 610, 611, 612, 613, 614, 615, 616, 617, 618, 619, 620, 621, 622, 889, 890, 891, 892, 893, 894, 917, 918, 909, 910, 911, 913, 914, 915, 916] (by decide +kernel) (by decide +kernel)) (goodIn_sub (fun _ h => List.mem_append_left _ (List.mem_append_left _ (List.mem_append_right _ h))) (by decide +kernel))) (goodIn_sub (fun _ h => List.mem_append_left _ (List.mem_append_right _ h)) (by decide +kernel))
set_option maxRecDepth 20000 in
theorem gL_law_L_figureOf : GoodIn wsL_law (va_wsS RL 139 yL_figureOf wsL_figureOf) := goodIn_app (goodIn_of _ (by decide +kernel)) ggL_law_L_figureOf
