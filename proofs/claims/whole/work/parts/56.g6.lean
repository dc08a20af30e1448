/-! The words of the methods that the law calls. -/
theorem goodIn_cons {big a : List Cond} {c : Cond} (hc : GoodIn big [c]) (ha : GoodIn big a) : GoodIn big (c :: a) := fun w h => (List.mem_cons.mp h).elim (fun e => hc w (List.mem_singleton.mpr e)) (ha w)
set_option maxRecDepth 20000 in
theorem kl_d5_0 : GoodIn wsL_law [Cond.code yX5_digest cX5_digest 5 (some .long)] := goodIn_r _ [843] (by decide +kernel) (by decide +kernel)
set_option maxRecDepth 20000 in
theorem kl_d5_1 : GoodIn wsL_law wsX5_digest_r1 := goodIn_r _ [844, 845, 33, 846, 686, 687, 2, 688, 29, 20, 16, 24, 92, 93, 94, 95, 96, 97, 98, 99, 689, 690, 691, 28] (by decide +kernel) (by decide +kernel)
set_option maxRecDepth 20000 in
theorem kl_d5_2 : GoodIn wsL_law wsX5_digest_r2 := goodIn_r _ [692, 693, 315, 316, 317, 269, 270, 271, 272, 59, 252, 253, 15, 254, 264, 116, 117, 118, 39, 694, 695, 696, 697, 622] (by decide +kernel) (by decide +kernel)
set_option maxRecDepth 20000 in
theorem kl_d5_3 : GoodIn wsL_law wsX5_digest_r3 := goodIn_r _ [582, 583, 584, 585, 109, 110, 111, 586, 282, 283, 260, 261, 262, 263, 265, 266, 267, 268, 587, 217, 218, 273, 274, 275] (by decide +kernel) (by decide +kernel)
set_option maxRecDepth 20000 in
theorem kl_d5_4 : GoodIn wsL_law wsX5_digest_r4 := goodIn_r _ [276, 698, 699, 700, 701, 592, 593, 594, 595, 60, 596, 514, 515, 23, 516, 54, 51, 280, 281, 52, 53, 517, 333, 334] (by decide +kernel) (by decide +kernel)
set_option maxRecDepth 20000 in
theorem kl_d5_5 : GoodIn wsL_law wsX5_digest_r5 := goodIn_r _ [518, 519, 520, 521, 522, 523, 158, 159, 524, 155, 156, 167, 168, 525, 113, 114, 526, 597, 598, 599, 600, 601, 278, 279] (by decide +kernel) (by decide +kernel)
set_option maxRecDepth 20000 in
theorem kl_d5_6 : GoodIn wsL_law wsX5_digest_r6 := goodIn_r _ [602, 603, 604, 605, 606, 607, 608, 609, 610, 611, 612, 613, 614, 615, 616, 617, 332, 115, 702, 703, 704, 19, 705, 706] (by decide +kernel) (by decide +kernel)
set_option maxRecDepth 20000 in
theorem kl_d5_7 : GoodIn wsL_law wsX5_digest_r7 := goodIn_r _ [484, 485, 486, 46, 164, 165, 487, 488, 489, 707, 708, 709, 710, 25, 513, 711, 712, 713, 714, 715, 716, 717, 718, 216] (by decide +kernel) (by decide +kernel)
set_option maxRecDepth 20000 in
theorem kl_d5_8 : GoodIn wsL_law wsX5_digest_r8 := goodIn_r _ [719, 720, 721, 722, 723, 724, 725, 726, 460, 461, 462, 463, 41, 847, 775, 776, 777, 84, 85, 86, 87, 88, 89, 90] (by decide +kernel) (by decide +kernel)
set_option maxRecDepth 20000 in
theorem kl_d5_9 : GoodIn wsL_law wsX5_digest_r9 := goodIn_r _ [91, 848, 476, 477, 478, 154, 157, 192, 193, 194, 195, 196, 479, 480, 481, 482, 483, 849, 786, 787, 788, 789, 314, 119] (by decide +kernel) (by decide +kernel)
set_option maxRecDepth 20000 in
theorem kl_d5_10 : GoodIn wsL_law wsX5_digest_r10 := goodIn_r _ [120, 121, 122, 673, 850, 851, 852, 853, 527, 528, 529, 530, 531, 532, 533, 534, 854, 574, 575, 576, 577, 578, 579, 580] (by decide +kernel) (by decide +kernel)
set_option maxRecDepth 20000 in
theorem kl_d5_11 : GoodIn wsL_law wsX5_digest_r11 := goodIn_r _ [256, 257, 258, 259, 277, 581, 588, 589, 590, 591, 618, 619, 620, 621, 855, 670, 671, 672, 856, 799, 800, 801, 857, 814] (by decide +kernel) (by decide +kernel)
set_option maxRecDepth 20000 in
theorem kl_d5_12 : GoodIn wsL_law wsX5_digest_r12 := goodIn_r _ [815, 816, 817, 858, 827, 828, 829, 830, 859, 860, 861, 862, 863, 864, 865, 363, 364, 365, 32, 366, 65, 866, 393, 394] (by decide +kernel) (by decide +kernel)
set_option maxRecDepth 20000 in
theorem kl_d5_13 : GoodIn wsL_law wsX5_digest_r13 := goodIn_r _ [395, 64] (by decide +kernel) (by decide +kernel)
set_option maxRecDepth 20000 in
theorem kl_d5_X5 : GoodIn wsL_law wsX50 := goodIn_r _ [889, 890, 891, 892, 893, 894] (by decide +kernel) (by decide +kernel)
set_option maxRecDepth 20000 in
theorem kl_d5_X0 : GoodIn wsL_law wsX00 := goodIn_r _ [917, 918] (by decide +kernel) (by decide +kernel)
set_option maxRecDepth 20000 in
theorem kl_d5_X3 : GoodIn wsL_law wsX30 := goodIn_r _ [909, 910, 911] (by decide +kernel) (by decide +kernel)
set_option maxRecDepth 20000 in
theorem kl_d5_X1 : GoodIn wsL_law wsX10 := goodIn_r _ [913, 914, 915, 916] (by decide +kernel) (by decide +kernel)
set_option maxRecDepth 20000 in
theorem kl_d5_X2 : GoodIn wsL_law wsX20 := goodIn_r _ [912] (by decide +kernel) (by decide +kernel)
set_option maxRecDepth 20000 in
theorem kl_d5_X4 : GoodIn wsL_law wsX40 := goodIn_r _ [919, 920] (by decide +kernel) (by decide +kernel)
set_option maxRecDepth 20000 in
theorem ggL_law_X5_digest : GoodIn wsL_law wsX5_digest := goodIn_cons kl_d5_0 (goodIn_app (goodIn_app (goodIn_app (goodIn_app (goodIn_app (goodIn_app (goodIn_app (goodIn_app (goodIn_app kl_d5_1 (goodIn_app kl_d5_2 (goodIn_app kl_d5_3 (goodIn_app kl_d5_4 (goodIn_app kl_d5_5 (goodIn_app kl_d5_6 (goodIn_app kl_d5_7 (goodIn_app kl_d5_8 (goodIn_app kl_d5_9 (goodIn_app kl_d5_10 (goodIn_app kl_d5_11 (goodIn_app kl_d5_12 (kl_d5_13))))))))))))) kl_d5_X5) kl_d5_X0) kl_d5_X3) kl_d5_X1) kl_d5_X2) kl_d5_X4) (goodIn_sub (fun _ h => List.mem_append_left _ (List.mem_append_right _ h)) (by decide +kernel))) (goodIn_sub (fun _ h => List.mem_append_left _ (List.mem_append_left _ (List.mem_append_right _ h))) (by decide +kernel)))
set_option maxRecDepth 20000 in
theorem gL_law_X5_digest : GoodIn wsL_law (wsV RL 167 RX5 yX5_digest wsX5_digest) := goodIn_app (goodIn_of _ (by decide +kernel)) ggL_law_X5_digest
