/-! The words of the methods that the law calls. -/
set_option maxRecDepth 20000 in
theorem ggL_law_L_set : GoodIn wsL_law wsL_set := goodIn_ca (goodIn_ca (goodIn_r _ [324, 78, 79, 325, 326, 327, 2, 328, 16, 84, 85, 86, 87, 88, 89, 90, 91, 329, 330, 331, 92, 93, 94, 95, 96, 97, 98, 99, 100, 101, 102, 15, 103, 40, 104, 105, 106, 107, 39, 41, 108, 109, 110, 111, 332, 333, 334, 115, 116, 117, 118, 119, 120, 121, 122, 889, 890, 891, 892, 893, 894, 909, 910, 911] (by decide +kernel) (by decide +kernel)) (goodIn_sub (fun _ h => List.mem_append_left _ (List.mem_append_left _ (List.mem_append_right _ h))) (by decide +kernel))) (goodIn_sub (fun _ h => List.mem_append_left _ (List.mem_append_right _ h)) (by decide +kernel))
set_option maxRecDepth 20000 in
theorem gL_law_L_set : GoodIn wsL_law (va_wsS RL 112 yL_set wsL_set) := goodIn_app (goodIn_of _ (by decide +kernel)) ggL_law_L_set
set_option maxRecDepth 20000 in
theorem ggL_law_X6_set : GoodIn wsL_law wsX6_set := goodIn_r _ [338, 127, 70, 131, 132, 5, 133, 339, 340, 341, 342, 343, 344, 134, 135, 136, 137, 138, 71, 895, 896, 897, 898, 899, 900, 901, 902, 903, 904, 905, 906, 907, 908] (by decide +kernel) (by decide +kernel)
set_option maxRecDepth 20000 in
theorem gL_law_X6_set : GoodIn wsL_law (wsV RL 114 RX6 yX6_set wsX6_set) := goodIn_app (goodIn_of _ (by decide +kernel)) ggL_law_X6_set
set_option maxRecDepth 20000 in
theorem ggL_law_L_append : GoodIn wsL_law wsL_append := goodIn_ca (goodIn_ca (goodIn_r _ [347, 79, 348, 349, 350, 351, 2, 352, 353, 354, 33, 92, 93, 94, 95, 96, 97, 98, 99, 355, 356, 357, 32, 358, 65, 359, 360, 361, 362, 64, 85, 86, 363, 364, 365, 366, 889, 890, 891, 892, 893, 894, 919, 920] (by decide +kernel) (by decide +kernel)) (goodIn_sub (fun _ h => List.mem_append_right _ h) (by decide +kernel))) (goodIn_sub (fun _ h => List.mem_append_left _ (List.mem_append_right _ h)) (by decide +kernel))
set_option maxRecDepth 20000 in
theorem gL_law_L_append : GoodIn wsL_law (va_wsS RL 115 yL_append wsL_append) := goodIn_app (goodIn_of _ (by decide +kernel)) ggL_law_L_append
set_option maxRecDepth 20000 in
theorem ggL_law_X6_append : GoodIn wsL_law wsX6_append := goodIn_r _ [370, 371, 127, 72, 131, 132, 5, 133, 895, 896, 897, 898, 899, 900, 901, 902, 903, 904, 905, 906, 907, 908] (by decide +kernel) (by decide +kernel)
set_option maxRecDepth 20000 in
theorem gL_law_X6_append : GoodIn wsL_law (wsV RL 117 RX6 yX6_append wsX6_append) := goodIn_app (goodIn_of _ (by decide +kernel)) ggL_law_X6_append
set_option maxRecDepth 20000 in
theorem ggL_law_X5_clearBuffer : GoodIn wsL_law wsX5_clearBuffer := goodIn_r _ [375, 33, 363, 364, 365, 32, 366, 65, 376, 377, 378, 379, 889, 890, 891, 892, 893, 894, 919, 920] (by decide +kernel) (by decide +kernel)
set_option maxRecDepth 20000 in
theorem gL_law_X5_clearBuffer : GoodIn wsL_law (wsV RL 118 RX5 yX5_clearBuffer wsX5_clearBuffer) := goodIn_app (goodIn_of _ (by decide +kernel)) ggL_law_X5_clearBuffer
set_option maxRecDepth 20000 in
theorem ggL_law_X6_clearBuffer : GoodIn wsL_law wsX6_clearBuffer := goodIn_r _ [383, 127, 371, 895, 896, 897, 898, 899, 900, 901, 902, 903, 904, 905, 906, 907, 908] (by decide +kernel) (by decide +kernel)
set_option maxRecDepth 20000 in
theorem gL_law_X6_clearBuffer : GoodIn wsL_law (wsV RL 121 RX6 yX6_clearBuffer wsX6_clearBuffer) := goodIn_app (goodIn_of _ (by decide +kernel)) ggL_law_X6_clearBuffer
set_option maxRecDepth 20000 in
theorem ggL_law_X5_firstError : GoodIn wsL_law wsX5_firstError := goodIn_r _ [387, 33, 388, 389, 390, 32, 391, 65, 392, 393, 394, 395, 64, 85, 2, 86, 396, 397, 398, 93, 94, 889, 890, 891, 892, 893, 894, 919, 920] (by decide +kernel) (by decide +kernel)
set_option maxRecDepth 20000 in
theorem gL_law_X5_firstError : GoodIn wsL_law (wsV RL 122 RX5 yX5_firstError wsX5_firstError) := goodIn_app (goodIn_of _ (by decide +kernel)) ggL_law_X5_firstError
set_option maxRecDepth 20000 in
theorem ggL_law_X6_firstError : GoodIn wsL_law wsX6_firstError := goodIn_r _ [402, 127, 403, 404, 405, 5, 406, 407, 408, 371, 72, 409, 410, 411, 412, 73, 413, 414, 415, 416, 417, 418, 131, 132, 133, 895, 896, 897, 898, 899, 900, 901, 902, 903, 904, 905, 906, 907, 908] (by decide +kernel) (by decide +kernel)
set_option maxRecDepth 20000 in
theorem gL_law_X6_firstError : GoodIn wsL_law (wsV RL 125 RX6 yX6_firstError wsX6_firstError) := goodIn_app (goodIn_of _ (by decide +kernel)) ggL_law_X6_firstError
set_option maxRecDepth 20000 in
theorem ggL_law_L_bend : GoodIn wsL_law wsL_bend := goodIn_ca (goodIn_r _ [421, 79, 422, 423, 424, 2, 425, 33, 16, 20, 426, 427, 428, 32, 429, 65, 392, 393, 394, 395, 64, 85, 86, 396, 397, 398, 93, 94, 95, 96, 97, 98, 99, 100, 101, 102, 15, 103, 40, 104, 105, 106, 107, 39, 41, 108, 109, 110, 111, 430, 431, 432, 433, 434, 435, 436, 437, 438, 439, 113, 114, 440, 120, 121, 122, 376, 377, 378, 379, 192, 193, 194, 19, 195, 46, 196, 165, 116, 117, 118, 889, 890, 891, 892, 893, 894, 919, 920, 909, 910, 911, 912] (by decide +kernel) (by decide +kernel)) (goodIn_sub (fun _ h => List.mem_append_left _ (List.mem_append_right _ h)) (by decide +kernel))
