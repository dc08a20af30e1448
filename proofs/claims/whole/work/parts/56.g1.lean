/-! The words of the methods that the law calls. -/
set_option maxRecDepth 20000 in
theorem gL_law_X6_turn : GoodIn wsL_law (wsV RL 97 RX6 yX6_turn wsX6_turn) := goodIn_app (goodIn_of _ (by decide +kernel)) ggL_law_X6_turn
set_option maxRecDepth 20000 in
theorem ggL_law_L_clear : GoodIn wsL_law wsL_clear := goodIn_ca (goodIn_r _ [187, 78, 188, 189, 190, 2, 191, 16, 20, 84, 85, 86, 87, 88, 89, 90, 91, 100, 101, 102, 15, 103, 40, 104, 105, 106, 107, 39, 41, 108, 109, 110, 111, 192, 193, 194, 19, 195, 46, 196, 113, 114, 165, 116, 117, 118, 197, 198, 199, 200, 169, 120, 121, 122, 889, 890, 891, 892, 893, 894, 909, 910, 911, 912] (by decide +kernel) (by decide +kernel)) (goodIn_sub (fun _ h => List.mem_append_left _ (List.mem_append_left _ (List.mem_append_right _ h))) (by decide +kernel))
set_option maxRecDepth 20000 in
theorem gL_law_L_clear : GoodIn wsL_law (va_wsS RL 98 yL_clear wsL_clear) := goodIn_app (goodIn_of _ (by decide +kernel)) ggL_law_L_clear
set_option maxRecDepth 20000 in
theorem ggL_law_X6_clear : GoodIn wsL_law wsX6_clear := goodIn_r _ [204, 127, 70, 128, 129, 5, 130, 131, 132, 133, 134, 135, 136, 137, 138, 71, 205, 206, 207, 208, 139, 140, 141, 142, 895, 896, 897, 898, 899, 900, 901, 902, 903, 904, 905, 906, 907, 908] (by decide +kernel) (by decide +kernel)
set_option maxRecDepth 20000 in
theorem gL_law_X6_clear : GoodIn wsL_law (wsV RL 101 RX6 yX6_clear wsX6_clear) := goodIn_app (goodIn_of _ (by decide +kernel)) ggL_law_X6_clear
set_option maxRecDepth 20000 in
theorem ggL_law_L_ink : GoodIn wsL_law wsL_ink := goodIn_ca (goodIn_ca (goodIn_r _ [211, 78, 79, 212, 213, 214, 2, 215, 16, 84, 85, 86, 87, 88, 89, 90, 91, 92, 93, 94, 95, 96, 97, 98, 99, 100, 101, 102, 15, 103, 40, 104, 105, 106, 107, 39, 41, 108, 109, 110, 111, 216, 217, 218, 115, 116, 117, 118, 119, 120, 121, 122, 889, 890, 891, 892, 893, 894, 909, 910, 911] (by decide +kernel) (by decide +kernel)) (goodIn_sub (fun _ h => List.mem_append_left _ (List.mem_append_left _ (List.mem_append_right _ h))) (by decide +kernel))) (goodIn_sub (fun _ h => List.mem_append_left _ (List.mem_append_right _ h)) (by decide +kernel))
set_option maxRecDepth 20000 in
theorem gL_law_L_ink : GoodIn wsL_law (va_wsS RL 102 yL_ink wsL_ink) := goodIn_app (goodIn_of _ (by decide +kernel)) ggL_law_L_ink
set_option maxRecDepth 20000 in
theorem ggL_law_X6_ink : GoodIn wsL_law wsX6_ink := goodIn_r _ [222, 127, 70, 223, 224, 5, 225, 131, 132, 133, 226, 227, 228, 134, 135, 136, 137, 138, 71, 229, 230, 231, 232, 233, 234, 235, 236, 237, 238, 239, 240, 895, 896, 897, 898, 899, 900, 901, 902, 903, 904, 905, 906, 907, 908] (by decide +kernel) (by decide +kernel)
set_option maxRecDepth 20000 in
theorem gL_law_X6_ink : GoodIn wsL_law (wsV RL 105 RX6 yX6_ink wsX6_ink) := goodIn_app (goodIn_of _ (by decide +kernel)) ggL_law_X6_ink
set_option maxRecDepth 20000 in
theorem ggL_law_L_figure : GoodIn wsL_law wsL_figure := goodIn_ca (goodIn_ca (goodIn_r _ [243, 78, 79, 244, 245, 246, 2, 247, 16, 29, 84, 85, 86, 87, 88, 89, 90, 91, 92, 93, 94, 95, 96, 97, 98, 99, 100, 101, 102, 15, 103, 40, 104, 105, 106, 107, 39, 41, 108, 109, 110, 111, 248, 249, 250, 28, 251, 59, 252, 253, 254, 255, 120, 121, 122, 256, 257, 258, 259, 260, 261, 262, 263, 264, 116, 117, 118, 265, 266, 267, 268, 269, 270, 271, 272, 273, 274, 275, 276, 277, 278, 23, 279, 280, 281, 282, 283, 889, 890, 891, 892, 893, 894, 909, 910, 911, 917, 918] (by decide +kernel) (by decide +kernel)) (goodIn_sub (fun _ h => List.mem_append_left _ (List.mem_append_left _ (List.mem_append_right _ h))) (by decide +kernel))) (goodIn_sub (fun _ h => List.mem_append_left _ (List.mem_append_right _ h)) (by decide +kernel))
set_option maxRecDepth 20000 in
theorem gL_law_L_figure : GoodIn wsL_law (va_wsS RL 106 yL_figure wsL_figure) := goodIn_app (goodIn_of _ (by decide +kernel)) ggL_law_L_figure
set_option maxRecDepth 20000 in
theorem ggL_law_X6_figure : GoodIn wsL_law wsX6_figure := goodIn_r _ [287, 127, 70, 288, 289, 5, 290, 131, 132, 133, 223, 224, 225, 226, 227, 228, 134, 135, 136, 137, 138, 71, 291, 292, 293, 294, 295, 296, 297, 298, 229, 230, 231, 232, 233, 234, 235, 236, 299, 300, 301, 302, 303, 304, 305, 306, 237, 238, 239, 240, 895, 896, 897, 898, 899, 900, 901, 902, 903, 904, 905, 906, 907, 908] (by decide +kernel) (by decide +kernel)
set_option maxRecDepth 20000 in
theorem gL_law_X6_figure : GoodIn wsL_law (wsV RL 108 RX6 yX6_figure wsX6_figure) := goodIn_app (goodIn_of _ (by decide +kernel)) ggL_law_X6_figure
set_option maxRecDepth 20000 in
theorem ggL_law_L_drop : GoodIn wsL_law wsL_drop := goodIn_ca (goodIn_r _ [309, 78, 310, 311, 312, 2, 313, 16, 29, 84, 85, 86, 87, 88, 89, 90, 91, 100, 101, 102, 15, 103, 40, 104, 105, 106, 107, 39, 41, 108, 109, 110, 111, 314, 315, 316, 28, 317, 269, 270, 271, 272, 59, 252, 253, 254, 264, 116, 117, 118, 248, 249, 250, 251, 255, 120, 121, 122, 889, 890, 891, 892, 893, 894, 909, 910, 911, 917, 918] (by decide +kernel) (by decide +kernel)) (goodIn_sub (fun _ h => List.mem_append_left _ (List.mem_append_left _ (List.mem_append_right _ h))) (by decide +kernel))
set_option maxRecDepth 20000 in
theorem gL_law_L_drop : GoodIn wsL_law (va_wsS RL 109 yL_drop wsL_drop) := goodIn_app (goodIn_of _ (by decide +kernel)) ggL_law_L_drop
set_option maxRecDepth 20000 in
theorem ggL_law_X6_drop : GoodIn wsL_law wsX6_drop := goodIn_r _ [321, 127, 70, 288, 289, 5, 290, 131, 132, 133, 134, 135, 136, 137, 138, 71, 295, 296, 297, 298, 895, 896, 897, 898, 899, 900, 901, 902, 903, 904, 905, 906, 907, 908] (by decide +kernel) (by decide +kernel)
set_option maxRecDepth 20000 in
theorem gL_law_X6_drop : GoodIn wsL_law (wsV RL 111 RX6 yX6_drop wsX6_drop) := goodIn_app (goodIn_of _ (by decide +kernel)) ggL_law_X6_drop
