/-! The words of the methods that the law calls. -/
set_option maxRecDepth 20000 in
theorem ggL_law_X5_init : GoodIn wsL_law wsX5_init := goodIn_r _ [6, 7, 8, 9, 10, 11, 12, 13, 14, 15, 16, 17, 18, 19, 20, 21, 22, 23, 24, 25, 26, 27, 28, 29, 30, 31, 32, 33, 34, 3, 35, 36, 37, 38, 39, 40, 41, 42, 43, 44, 45, 46, 47, 48, 49, 50, 51, 52, 53, 54, 55, 56, 57, 58, 59, 60, 61, 400, 401, 402, 394, 395, 396, 397, 398, 399, 403, 404, 405, 406, 407, 408, 409, 410, 411] (by decide +kernel) (by decide +kernel)
set_option maxRecDepth 20000 in
theorem gL_law_X5_init : GoodIn wsL_law (wsX5_init) := ggL_law_X5_init
set_option maxRecDepth 20000 in
theorem ggL_law_L_wires : GoodIn wsL_law wsL_wires := goodIn_ca (goodIn_ca (goodIn_r _ [65, 66, 67, 64, 68, 69, 70, 71, 72, 73, 74, 75, 76, 77, 78, 79, 80, 2, 81, 13, 82, 83, 84, 85, 86, 87, 88, 89, 90, 91, 92, 93, 94, 95, 96, 97, 98, 99, 100, 12, 101, 36, 102, 103, 104, 105, 35, 37, 106, 107, 108, 109, 110, 111, 112, 113, 114, 115, 116, 117, 118, 119, 120, 394, 395, 396, 397, 398, 399, 400, 401, 402] (by decide +kernel) (by decide +kernel)) (goodIn_sub (fun _ h => List.mem_append_left _ (List.mem_append_right _ h)) (by decide +kernel))) (goodIn_sub (fun _ h => List.mem_append_right _ h) (by decide +kernel))
set_option maxRecDepth 20000 in
theorem gL_law_L_wires : GoodIn wsL_law (va_wsS RL 87 yL_wires wsL_wires) := goodIn_app (goodIn_of _ (by decide +kernel)) ggL_law_L_wires
set_option maxRecDepth 20000 in
theorem ggL_law_L_setUp : GoodIn wsL_law wsL_setUp := goodIn_ca (goodIn_ca (goodIn_r _ [123, 69, 70, 64, 71, 72, 73, 74, 75, 76, 77, 124, 125, 126, 2, 127, 13, 17, 82, 83, 84, 85, 86, 87, 88, 89, 90, 91, 92, 93, 94, 95, 96, 97, 98, 99, 100, 12, 101, 36, 102, 103, 104, 105, 35, 37, 106, 107, 108, 109, 128, 129, 130, 113, 114, 115, 116, 117, 118, 119, 120, 131, 132, 133, 134, 135, 136, 16, 137, 42, 138, 139, 140, 141, 142, 143, 144, 145, 146, 147, 148, 149, 150, 151, 152, 111, 112, 153, 154, 155, 156, 157, 158, 159, 160, 161, 162, 163, 164, 165, 166, 167, 168, 169, 170, 171, 172, 173, 174, 175, 176, 177, 394, 395, 396, 397, 398, 399, 400, 401, 402, 403] (by decide +kernel) (by decide +kernel)) (goodIn_sub (fun _ h => List.mem_append_left _ (List.mem_append_right _ h)) (by decide +kernel))) (goodIn_sub (fun _ h => List.mem_append_right _ h) (by decide +kernel))
set_option maxRecDepth 20000 in
theorem gL_law_L_setUp : GoodIn wsL_law (va_wsS RL 90 yL_setUp wsL_setUp) := goodIn_app (goodIn_of _ (by decide +kernel)) ggL_law_L_setUp
set_option maxRecDepth 20000 in
theorem ggL_law_L_cell : GoodIn wsL_law wsL_cell := goodIn_r _ [71, 72, 73] (by decide +kernel) (by decide +kernel)
set_option maxRecDepth 20000 in
theorem gL_law_L_cell : GoodIn wsL_law (va_wsS RL 10 yL_cell wsL_cell) := goodIn_app (goodIn_of _ (by decide +kernel)) ggL_law_L_cell
set_option maxRecDepth 20000 in
theorem ggL_law_L_tells : GoodIn wsL_law wsL_tells := goodIn_ca (goodIn_ca (goodIn_r _ [180, 181, 182, 64, 183, 144, 145, 146, 2, 147, 13, 17, 82, 83, 84, 85, 86, 87, 88, 89, 90, 91, 92, 93, 94, 95, 96, 97, 128, 129, 12, 130, 113, 114, 115, 116, 35, 131, 132, 133, 148, 149, 150, 16, 151, 42, 152, 111, 112, 139, 153, 154, 155, 156, 157, 158, 159, 160, 161, 162, 163, 138, 164, 165, 166, 141, 142, 184, 185, 186, 187, 26, 21, 188, 189, 190, 25, 191, 192, 193, 194, 195, 196, 197, 198, 199, 55, 200, 201, 202, 203, 204, 205, 206, 207, 208, 209, 210, 211, 212, 107, 108, 109, 213, 214, 215, 216, 217, 218, 219, 220, 221, 222, 223, 224, 225, 226, 227, 228, 229, 230, 231, 232, 233, 234, 235, 236, 237, 238, 56, 239, 240, 241, 20, 242, 50, 47, 243, 244, 48, 49, 245, 246, 247, 248, 249, 250, 251, 252, 253, 254, 255, 256, 257, 258, 259, 260, 261, 262, 263, 264, 265, 266, 267, 268, 269, 270, 271, 272, 273, 274, 275, 276, 277, 278, 279, 280, 281, 282, 283, 284, 285, 286, 22, 287, 288, 289, 290, 291, 292, 293, 294, 295, 296, 297, 298, 299, 300, 301, 302, 303, 304, 305, 306, 307, 308, 37, 309, 310, 311, 312, 74, 75, 76, 77, 313, 314, 315, 316, 317, 318, 66, 67, 68, 69, 70, 71, 72, 73, 319, 320, 321, 322, 323, 324, 325, 326, 327, 328, 329, 330, 331, 332, 333, 334, 335, 336, 337, 394, 395, 396, 397, 398, 399, 400, 401, 402, 403, 408, 409, 404, 405, 406, 407] (by decide +kernel) (by decide +kernel)) (goodIn_sub (fun _ h => List.mem_append_left _ (List.mem_append_right _ h)) (by decide +kernel))) (goodIn_sub (fun _ h => List.mem_append_right _ h) (by decide +kernel))
set_option maxRecDepth 20000 in
theorem gL_law_L_tells : GoodIn wsL_law (va_wsS RL 94 yL_tells wsL_tells) := goodIn_app (goodIn_of _ (by decide +kernel)) ggL_law_L_tells
set_option maxRecDepth 20000 in
theorem ggL_law_L_low : GoodIn wsL_law wsL_low := goodIn_r _ [76, 77] (by decide +kernel) (by decide +kernel)
set_option maxRecDepth 20000 in
theorem gL_law_L_low : GoodIn wsL_law (va_wsS RL 16 yL_low wsL_low) := goodIn_app (goodIn_of _ (by decide +kernel)) ggL_law_L_low
set_option maxRecDepth 20000 in
theorem ggL_law_X5_cell : GoodIn wsL_law wsX5_cell := goodIn_ca (goodIn_ca (goodIn_r _ [325, 21, 13, 82, 83, 2, 84, 85, 86, 87, 88, 89, 90, 91, 92, 93, 94, 95, 96, 97, 287, 240, 241, 20, 242, 50, 47, 243, 107, 108, 109, 244, 214, 215, 48, 49, 245, 158, 12, 159, 246, 114, 115, 116, 35, 247, 248, 249, 250, 251, 132, 133, 252, 129, 130, 141, 142, 253, 111, 112, 254, 225, 226, 326, 327, 328, 329, 296, 113, 330, 331, 332, 333, 334, 335, 336, 337, 394, 395, 396, 397, 398, 399, 404, 405, 406, 407, 400, 401, 402] (by decide +kernel) (by decide +kernel)) (goodIn_sub (fun _ h => List.mem_append_left _ (List.mem_append_right _ h)) (by decide +kernel))) (goodIn_sub (fun _ h => List.mem_append_right _ h) (by decide +kernel))
set_option maxRecDepth 20000 in
theorem gL_law_X5_cell : GoodIn wsL_law (wsV RL 49 RX5 yX5_cell wsX5_cell) := goodIn_app (goodIn_of _ (by decide +kernel)) ggL_law_X5_cell
set_option maxRecDepth 20000 in
theorem ggL_law_X5_ink : GoodIn wsL_law wsX5_ink := goodIn_ca (goodIn_ca (goodIn_r _ [341, 13, 82, 83, 2, 84, 85, 86, 87, 88, 89, 90, 91, 92, 93, 94, 95, 96, 97, 98, 99, 100, 12, 101, 36, 102, 103, 104, 105, 35, 37, 106, 107, 108, 109, 296, 225, 226, 113, 114, 115, 116, 117, 118, 119, 120, 394, 395, 396, 397, 398, 399, 400, 401, 402] (by decide +kernel) (by decide +kernel)) (goodIn_sub (fun _ h => List.mem_append_left _ (List.mem_append_right _ h)) (by decide +kernel))) (goodIn_sub (fun _ h => List.mem_append_right _ h) (by decide +kernel))
set_option maxRecDepth 20000 in
theorem gL_law_X5_ink : GoodIn wsL_law (wsV RL 98 RX5 yX5_ink wsX5_ink) := goodIn_app (goodIn_of _ (by decide +kernel)) ggL_law_X5_ink
