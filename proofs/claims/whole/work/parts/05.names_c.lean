theorem dX6_init_0 : decode cX6_init 0 = .ok (.aload_n 0, 1) := by decide +kernel
theorem dX6_init_1 : decode cX6_init 1 = .ok (.invokespecial 1, 3) := by decide +kernel
theorem dX6_init_4 : decode cX6_init 4 = .ok (.aload_n 0, 1) := by decide +kernel
theorem dX6_init_5 : decode cX6_init 5 = .ok (.sipush 389, 3) := by decide +kernel
theorem dX6_init_8 : decode cX6_init 8 = .ok (.newarray .int, 2) := by decide +kernel
theorem dX6_init_10 : decode cX6_init 10 = .ok (.putfield 7, 3) := by decide +kernel
theorem dX6_init_13 : decode cX6_init 13 = .ok (.aload_n 0, 1) := by decide +kernel
theorem dX6_init_14 : decode cX6_init 14 = .ok (.sipush 2334, 3) := by decide +kernel
theorem dX6_init_17 : decode cX6_init 17 = .ok (.newarray .int, 2) := by decide +kernel
theorem dX6_init_19 : decode cX6_init 19 = .ok (.putfield 13, 3) := by decide +kernel
theorem dX6_init_22 : decode cX6_init 22 = .ok (.aload_n 0, 1) := by decide +kernel
theorem dX6_init_23 : decode cX6_init 23 = .ok (.bipush 60, 2) := by decide +kernel
theorem dX6_init_25 : decode cX6_init 25 = .ok (.newarray .int, 2) := by decide +kernel
theorem dX6_init_27 : decode cX6_init 27 = .ok (.putfield 16, 3) := by decide +kernel
theorem dX6_init_30 : decode cX6_init 30 = .ok (.aload_n 0, 1) := by decide +kernel
theorem dX6_init_31 : decode cX6_init 31 = .ok (.bipush 72, 2) := by decide +kernel
theorem dX6_init_33 : decode cX6_init 33 = .ok (.newarray .int, 2) := by decide +kernel
theorem dX6_init_35 : decode cX6_init 35 = .ok (.putfield 19, 3) := by decide +kernel
theorem dX6_init_38 : decode cX6_init 38 = .ok (.aload_n 0, 1) := by decide +kernel
theorem dX6_init_39 : decode cX6_init 39 = .ok (.getfield 7, 3) := by decide +kernel
theorem dX6_init_42 : decode cX6_init 42 = .ok (.iconst 1, 1) := by decide +kernel
theorem dX6_init_43 : decode cX6_init 43 = .ok (.bipush 12, 2) := by decide +kernel
theorem dX6_init_45 : decode cX6_init 45 = .ok (.iastore, 1) := by decide +kernel
theorem dX6_init_46 : decode cX6_init 46 = .ok (.aload_n 0, 1) := by decide +kernel
theorem dX6_init_47 : decode cX6_init 47 = .ok (.getfield 7, 3) := by decide +kernel
theorem dX6_init_50 : decode cX6_init 50 = .ok (.iconst 2, 1) := by decide +kernel
theorem dX6_init_51 : decode cX6_init 51 = .ok (.iconst 2, 1) := by decide +kernel
theorem dX6_init_52 : decode cX6_init 52 = .ok (.iastore, 1) := by decide +kernel
theorem dX6_init_53 : decode cX6_init 53 = .ok (.iconst 0, 1) := by decide +kernel
theorem dX6_init_54 : decode cX6_init 54 = .ok (.istore_n 1, 1) := by decide +kernel
theorem dX6_init_55 : decode cX6_init 55 = .ok (.iload_n 1, 1) := by decide +kernel
theorem dX6_init_56 : decode cX6_init 56 = .ok (.iconst 3, 1) := by decide +kernel
theorem dX6_init_57 : decode cX6_init 57 = .ok (.if_icmp .ge 19, 3) := by decide +kernel
theorem dX6_init_60 : decode cX6_init 60 = .ok (.aload_n 0, 1) := by decide +kernel
theorem dX6_init_61 : decode cX6_init 61 = .ok (.getfield 7, 3) := by decide +kernel
theorem dX6_init_64 : decode cX6_init 64 = .ok (.iconst 3, 1) := by decide +kernel
theorem dX6_init_65 : decode cX6_init 65 = .ok (.iload_n 1, 1) := by decide +kernel
theorem dX6_init_66 : decode cX6_init 66 = .ok (.iadd, 1) := by decide +kernel
theorem dX6_init_67 : decode cX6_init 67 = .ok (.bipush 12, 2) := by decide +kernel
theorem dX6_init_69 : decode cX6_init 69 = .ok (.iastore, 1) := by decide +kernel
theorem dX6_init_70 : decode cX6_init 70 = .ok (.iinc 1 1, 3) := by decide +kernel
theorem dX6_init_73 : decode cX6_init 73 = .ok (.goto (-18), 3) := by decide +kernel
theorem dX6_init_76 : decode cX6_init 76 = .ok (.return_, 1) := by decide +kernel
theorem dX6_thrown_0 : decode cX6_thrown 0 = .ok (.aload_n 0, 1) := by decide +kernel
theorem dX6_thrown_1 : decode cX6_thrown 1 = .ok (.getfield 22, 3) := by decide +kernel
theorem dX6_thrown_4 : decode cX6_thrown 4 = .ok (.ireturn, 1) := by decide +kernel
theorem dX6_in_0 : decode cX6_in 0 = .ok (.iload_n 0, 1) := by decide +kernel
theorem dX6_in_1 : decode cX6_in 1 = .ok (.iload_n 1, 1) := by decide +kernel
theorem dX6_in_2 : decode cX6_in 2 = .ok (.if_icmp .lt 12, 3) := by decide +kernel
theorem dX6_in_5 : decode cX6_in 5 = .ok (.iload_n 0, 1) := by decide +kernel
theorem dX6_in_6 : decode cX6_in 6 = .ok (.iload_n 2, 1) := by decide +kernel
theorem dX6_in_7 : decode cX6_in 7 = .ok (.if_icmp .gt 7, 3) := by decide +kernel
theorem dX6_in_10 : decode cX6_in 10 = .ok (.iconst 1, 1) := by decide +kernel
theorem dX6_in_11 : decode cX6_in 11 = .ok (.goto 4, 3) := by decide +kernel
theorem dX6_in_14 : decode cX6_in 14 = .ok (.iconst 0, 1) := by decide +kernel
theorem dX6_in_15 : decode cX6_in 15 = .ok (.ireturn, 1) := by decide +kernel
set_option maxRecDepth 20000 in
theorem ggX6_isRoll_X6_in : GoodIn wsX6_isRoll wsX6_in := goodIn_r _ [4] (by decide +kernel) (by decide +kernel)
set_option maxRecDepth 20000 in
theorem gX6_isRoll_X6_in : GoodIn wsX6_isRoll (va_wsS RX6 26 yX6_in wsX6_in) := goodIn_app (goodIn_of _ (by decide +kernel)) ggX6_isRoll_X6_in
theorem dX6_isRoll_0 : decode cX6_isRoll 0 = .ok (.iload_n 0, 1) := by decide +kernel
theorem dX6_isRoll_1 : decode cX6_isRoll 1 = .ok (.iconst 0, 1) := by decide +kernel
theorem dX6_isRoll_2 : decode cX6_isRoll 2 = .ok (.iconst 2, 1) := by decide +kernel
theorem dX6_isRoll_3 : decode cX6_isRoll 3 = .ok (.invokestatic 26, 3) := by decide +kernel
theorem dX6_isRoll_6 : decode cX6_isRoll 6 = .ok (.ireturn, 1) := by decide +kernel
set_option maxRecDepth 20000 in
theorem ggX6_isCell_X6_in : GoodIn wsX6_isCell wsX6_in := goodIn_r _ [4] (by decide +kernel) (by decide +kernel)
set_option maxRecDepth 20000 in
theorem gX6_isCell_X6_in : GoodIn wsX6_isCell (va_wsS RX6 26 yX6_in wsX6_in) := goodIn_app (goodIn_of _ (by decide +kernel)) ggX6_isCell_X6_in
theorem dX6_isCell_0 : decode cX6_isCell 0 = .ok (.iload_n 0, 1) := by decide +kernel
theorem dX6_isCell_1 : decode cX6_isCell 1 = .ok (.iconst 0, 1) := by decide +kernel
theorem dX6_isCell_2 : decode cX6_isCell 2 = .ok (.iconst 5, 1) := by decide +kernel
theorem dX6_isCell_3 : decode cX6_isCell 3 = .ok (.invokestatic 26, 3) := by decide +kernel
theorem dX6_isCell_6 : decode cX6_isCell 6 = .ok (.ifCond .eq 17, 3) := by decide +kernel
theorem dX6_isCell_9 : decode cX6_isCell 9 = .ok (.iload_n 1, 1) := by decide +kernel
theorem dX6_isCell_10 : decode cX6_isCell 10 = .ok (.iconst 0, 1) := by decide +kernel
theorem dX6_isCell_11 : decode cX6_isCell 11 = .ok (.bipush 11, 2) := by decide +kernel
theorem dX6_isCell_13 : decode cX6_isCell 13 = .ok (.invokestatic 26, 3) := by decide +kernel
theorem dX6_isCell_16 : decode cX6_isCell 16 = .ok (.ifCond .eq 7, 3) := by decide +kernel
theorem dX6_isCell_19 : decode cX6_isCell 19 = .ok (.iconst 1, 1) := by decide +kernel
theorem dX6_isCell_20 : decode cX6_isCell 20 = .ok (.goto 4, 3) := by decide +kernel
theorem dX6_isCell_23 : decode cX6_isCell 23 = .ok (.iconst 0, 1) := by decide +kernel
theorem dX6_isCell_24 : decode cX6_isCell 24 = .ok (.ireturn, 1) := by decide +kernel
set_option maxRecDepth 20000 in
theorem ggX6_isFigure_X6_in : GoodIn wsX6_isFigure wsX6_in := goodIn_r _ [4] (by decide +kernel) (by decide +kernel)
set_option maxRecDepth 20000 in
theorem gX6_isFigure_X6_in : GoodIn wsX6_isFigure (va_wsS RX6 26 yX6_in wsX6_in) := goodIn_app (goodIn_of _ (by decide +kernel)) ggX6_isFigure_X6_in
theorem dX6_isFigure_0 : decode cX6_isFigure 0 = .ok (.iload_n 0, 1) := by decide +kernel
theorem dX6_isFigure_1 : decode cX6_isFigure 1 = .ok (.iconst 0, 1) := by decide +kernel
theorem dX6_isFigure_2 : decode cX6_isFigure 2 = .ok (.iconst 3, 1) := by decide +kernel
theorem dX6_isFigure_3 : decode cX6_isFigure 3 = .ok (.invokestatic 26, 3) := by decide +kernel
theorem dX6_isFigure_6 : decode cX6_isFigure 6 = .ok (.ireturn, 1) := by decide +kernel
set_option maxRecDepth 20000 in
theorem ggX6_isNote_X6_in : GoodIn wsX6_isNote wsX6_in := goodIn_r _ [4] (by decide +kernel) (by decide +kernel)
set_option maxRecDepth 20000 in
theorem gX6_isNote_X6_in : GoodIn wsX6_isNote (va_wsS RX6 26 yX6_in wsX6_in) := goodIn_app (goodIn_of _ (by decide +kernel)) ggX6_isNote_X6_in
theorem dX6_isNote_0 : decode cX6_isNote 0 = .ok (.iload_n 0, 1) := by decide +kernel
theorem dX6_isNote_1 : decode cX6_isNote 1 = .ok (.iconst 0, 1) := by decide +kernel
theorem dX6_isNote_2 : decode cX6_isNote 2 = .ok (.sipush 999, 3) := by decide +kernel
theorem dX6_isNote_5 : decode cX6_isNote 5 = .ok (.invokestatic 26, 3) := by decide +kernel
theorem dX6_isNote_8 : decode cX6_isNote 8 = .ok (.ireturn, 1) := by decide +kernel
theorem dX6_wireAt_0 : decode cX6_wireAt 0 = .ok (.aload_n 0, 1) := by decide +kernel
theorem dX6_wireAt_1 : decode cX6_wireAt 1 = .ok (.getfield 7, 3) := by decide +kernel
theorem dX6_wireAt_4 : decode cX6_wireAt 4 = .ok (.bipush 9, 2) := by decide +kernel
theorem dX6_wireAt_6 : decode cX6_wireAt 6 = .ok (.bipush 6, 2) := by decide +kernel
theorem dX6_wireAt_8 : decode cX6_wireAt 8 = .ok (.iload_n 1, 1) := by decide +kernel
theorem dX6_wireAt_9 : decode cX6_wireAt 9 = .ok (.imul, 1) := by decide +kernel
theorem dX6_wireAt_10 : decode cX6_wireAt 10 = .ok (.iload_n 2, 1) := by decide +kernel
theorem dX6_wireAt_11 : decode cX6_wireAt 11 = .ok (.iadd, 1) := by decide +kernel
theorem dX6_wireAt_12 : decode cX6_wireAt 12 = .ok (.bipush 16, 2) := by decide +kernel
theorem dX6_wireAt_14 : decode cX6_wireAt 14 = .ok (.imul, 1) := by decide +kernel
theorem dX6_wireAt_15 : decode cX6_wireAt 15 = .ok (.iadd, 1) := by decide +kernel
theorem dX6_wireAt_16 : decode cX6_wireAt 16 = .ok (.iload_n 3, 1) := by decide +kernel
theorem dX6_wireAt_17 : decode cX6_wireAt 17 = .ok (.iadd, 1) := by decide +kernel
theorem dX6_wireAt_18 : decode cX6_wireAt 18 = .ok (.iaload, 1) := by decide +kernel
theorem dX6_wireAt_19 : decode cX6_wireAt 19 = .ok (.ireturn, 1) := by decide +kernel
theorem dX6_inkAt_0 : decode cX6_inkAt 0 = .ok (.aload_n 0, 1) := by decide +kernel
theorem dX6_inkAt_1 : decode cX6_inkAt 1 = .ok (.getfield 7, 3) := by decide +kernel
theorem dX6_inkAt_4 : decode cX6_inkAt 4 = .ok (.sipush 297, 3) := by decide +kernel
theorem dX6_inkAt_7 : decode cX6_inkAt 7 = .ok (.bipush 12, 2) := by decide +kernel
theorem dX6_inkAt_9 : decode cX6_inkAt 9 = .ok (.iload_n 1, 1) := by decide +kernel
theorem dX6_inkAt_10 : decode cX6_inkAt 10 = .ok (.imul, 1) := by decide +kernel
theorem dX6_inkAt_11 : decode cX6_inkAt 11 = .ok (.iadd, 1) := by decide +kernel
theorem dX6_inkAt_12 : decode cX6_inkAt 12 = .ok (.iload_n 2, 1) := by decide +kernel
theorem dX6_inkAt_13 : decode cX6_inkAt 13 = .ok (.iadd, 1) := by decide +kernel
theorem dX6_inkAt_14 : decode cX6_inkAt 14 = .ok (.iaload, 1) := by decide +kernel
theorem dX6_inkAt_15 : decode cX6_inkAt 15 = .ok (.ireturn, 1) := by decide +kernel
theorem dX6_of_0 : decode cX6_of 0 = .ok (.aload_n 0, 1) := by decide +kernel
theorem dX6_of_1 : decode cX6_of 1 = .ok (.getfield 7, 3) := by decide +kernel
theorem dX6_of_4 : decode cX6_of 4 = .ok (.sipush 369, 3) := by decide +kernel
theorem dX6_of_7 : decode cX6_of 7 = .ok (.iconst 5, 1) := by decide +kernel
theorem dX6_of_8 : decode cX6_of 8 = .ok (.iload_n 1, 1) := by decide +kernel
theorem dX6_of_9 : decode cX6_of 9 = .ok (.imul, 1) := by decide +kernel
theorem dX6_of_10 : decode cX6_of 10 = .ok (.iadd, 1) := by decide +kernel
theorem dX6_of_11 : decode cX6_of 11 = .ok (.iload_n 2, 1) := by decide +kernel
theorem dX6_of_12 : decode cX6_of 12 = .ok (.iadd, 1) := by decide +kernel
theorem dX6_of_13 : decode cX6_of 13 = .ok (.iaload, 1) := by decide +kernel
theorem dX6_of_14 : decode cX6_of 14 = .ok (.ireturn, 1) := by decide +kernel
set_option maxRecDepth 20000 in
theorem ggX6_isThere_X6_of : GoodIn wsX6_isThere wsX6_of := goodIn_r _ [5, 6, 7, 8, 9, 10, 11, 12, 13, 14, 15, 16, 17, 18, 19, 20] (by decide +kernel) (by decide +kernel)
set_option maxRecDepth 20000 in
theorem gX6_isThere_X6_of : GoodIn wsX6_isThere (wsV RX6 30 RX6 yX6_of wsX6_of) := goodIn_app (goodIn_of _ (by decide +kernel)) ggX6_isThere_X6_of
theorem dX6_isThere_0 : decode cX6_isThere 0 = .ok (.aload_n 0, 1) := by decide +kernel
theorem dX6_isThere_1 : decode cX6_isThere 1 = .ok (.iload_n 1, 1) := by decide +kernel
theorem dX6_isThere_2 : decode cX6_isThere 2 = .ok (.iconst 0, 1) := by decide +kernel
theorem dX6_isThere_3 : decode cX6_isThere 3 = .ok (.invokevirtual 30, 3) := by decide +kernel
theorem dX6_isThere_6 : decode cX6_isThere 6 = .ok (.iconst 1, 1) := by decide +kernel
theorem dX6_isThere_7 : decode cX6_isThere 7 = .ok (.if_icmp .ne 7, 3) := by decide +kernel
theorem dX6_isThere_10 : decode cX6_isThere 10 = .ok (.iconst 1, 1) := by decide +kernel
theorem dX6_isThere_11 : decode cX6_isThere 11 = .ok (.goto 4, 3) := by decide +kernel
theorem dX6_isThere_14 : decode cX6_isThere 14 = .ok (.iconst 0, 1) := by decide +kernel
theorem dX6_isThere_15 : decode cX6_isThere 15 = .ok (.ireturn, 1) := by decide +kernel
theorem dX6_save_0 : decode cX6_save 0 = .ok (.aload_n 0, 1) := by decide +kernel
theorem dX6_save_1 : decode cX6_save 1 = .ok (.getfield 34, 3) := by decide +kernel
theorem dX6_save_4 : decode cX6_save 4 = .ok (.bipush 6, 2) := by decide +kernel
theorem dX6_save_6 : decode cX6_save 6 = .ok (.if_icmp .ne 44, 3) := by decide +kernel
theorem dX6_save_9 : decode cX6_save 9 = .ok (.iconst 0, 1) := by decide +kernel
theorem dX6_save_10 : decode cX6_save 10 = .ok (.istore_n 1, 1) := by decide +kernel
theorem dX6_save_11 : decode cX6_save 11 = .ok (.iload_n 1, 1) := by decide +kernel
theorem dX6_save_12 : decode cX6_save 12 = .ok (.sipush 1945, 3) := by decide +kernel
theorem dX6_save_15 : decode cX6_save 15 = .ok (.if_icmp .ge 25, 3) := by decide +kernel
theorem dX6_save_18 : decode cX6_save 18 = .ok (.aload_n 0, 1) := by decide +kernel
theorem dX6_save_19 : decode cX6_save 19 = .ok (.getfield 13, 3) := by decide +kernel
theorem dX6_save_22 : decode cX6_save 22 = .ok (.iload_n 1, 1) := by decide +kernel
theorem dX6_save_23 : decode cX6_save 23 = .ok (.aload_n 0, 1) := by decide +kernel
theorem dX6_save_24 : decode cX6_save 24 = .ok (.getfield 13, 3) := by decide +kernel
theorem dX6_save_27 : decode cX6_save 27 = .ok (.iload_n 1, 1) := by decide +kernel
theorem dX6_save_28 : decode cX6_save 28 = .ok (.sipush 389, 3) := by decide +kernel
theorem dX6_save_31 : decode cX6_save 31 = .ok (.iadd, 1) := by decide +kernel
theorem dX6_save_32 : decode cX6_save 32 = .ok (.iaload, 1) := by decide +kernel
theorem dX6_save_33 : decode cX6_save 33 = .ok (.iastore, 1) := by decide +kernel
theorem dX6_save_34 : decode cX6_save 34 = .ok (.iinc 1 1, 3) := by decide +kernel
theorem dX6_save_37 : decode cX6_save 37 = .ok (.goto (-26), 3) := by decide +kernel
theorem dX6_save_40 : decode cX6_save 40 = .ok (.aload_n 0, 1) := by decide +kernel
theorem dX6_save_41 : decode cX6_save 41 = .ok (.dup, 1) := by decide +kernel
theorem dX6_save_42 : decode cX6_save 42 = .ok (.getfield 34, 3) := by decide +kernel
theorem dX6_save_45 : decode cX6_save 45 = .ok (.iconst 1, 1) := by decide +kernel
theorem dX6_save_46 : decode cX6_save 46 = .ok (.isub, 1) := by decide +kernel
theorem dX6_save_47 : decode cX6_save 47 = .ok (.putfield 34, 3) := by decide +kernel
theorem dX6_save_50 : decode cX6_save 50 = .ok (.iconst 0, 1) := by decide +kernel
theorem dX6_save_51 : decode cX6_save 51 = .ok (.istore_n 1, 1) := by decide +kernel
theorem dX6_save_52 : decode cX6_save 52 = .ok (.iload_n 1, 1) := by decide +kernel
theorem dX6_save_53 : decode cX6_save 53 = .ok (.sipush 389, 3) := by decide +kernel
theorem dX6_save_56 : decode cX6_save 56 = .ok (.if_icmp .ge 30, 3) := by decide +kernel
theorem dX6_save_59 : decode cX6_save 59 = .ok (.aload_n 0, 1) := by decide +kernel
theorem dX6_save_60 : decode cX6_save 60 = .ok (.getfield 13, 3) := by decide +kernel
theorem dX6_save_63 : decode cX6_save 63 = .ok (.aload_n 0, 1) := by decide +kernel
theorem dX6_save_64 : decode cX6_save 64 = .ok (.getfield 34, 3) := by decide +kernel
theorem dX6_save_67 : decode cX6_save 67 = .ok (.sipush 389, 3) := by decide +kernel
theorem dX6_save_70 : decode cX6_save 70 = .ok (.imul, 1) := by decide +kernel
theorem dX6_save_71 : decode cX6_save 71 = .ok (.iload_n 1, 1) := by decide +kernel
theorem dX6_save_72 : decode cX6_save 72 = .ok (.iadd, 1) := by decide +kernel
theorem dX6_save_73 : decode cX6_save 73 = .ok (.aload_n 0, 1) := by decide +kernel
theorem dX6_save_74 : decode cX6_save 74 = .ok (.getfield 7, 3) := by decide +kernel
theorem dX6_save_77 : decode cX6_save 77 = .ok (.iload_n 1, 1) := by decide +kernel
theorem dX6_save_78 : decode cX6_save 78 = .ok (.iaload, 1) := by decide +kernel
theorem dX6_save_79 : decode cX6_save 79 = .ok (.iastore, 1) := by decide +kernel
theorem dX6_save_80 : decode cX6_save 80 = .ok (.iinc 1 1, 3) := by decide +kernel
theorem dX6_save_83 : decode cX6_save 83 = .ok (.goto (-31), 3) := by decide +kernel
theorem dX6_save_86 : decode cX6_save 86 = .ok (.aload_n 0, 1) := by decide +kernel
theorem dX6_save_87 : decode cX6_save 87 = .ok (.dup, 1) := by decide +kernel
theorem dX6_save_88 : decode cX6_save 88 = .ok (.getfield 34, 3) := by decide +kernel
theorem dX6_save_91 : decode cX6_save 91 = .ok (.iconst 1, 1) := by decide +kernel
theorem dX6_save_92 : decode cX6_save 92 = .ok (.iadd, 1) := by decide +kernel
theorem dX6_save_93 : decode cX6_save 93 = .ok (.putfield 34, 3) := by decide +kernel
theorem dX6_save_96 : decode cX6_save 96 = .ok (.return_, 1) := by decide +kernel
theorem dX6_undo_0 : decode cX6_undo 0 = .ok (.aload_n 0, 1) := by decide +kernel
theorem dX6_undo_1 : decode cX6_undo 1 = .ok (.aload_n 0, 1) := by decide +kernel
theorem dX6_undo_2 : decode cX6_undo 2 = .ok (.getfield 34, 3) := by decide +kernel
theorem dX6_undo_5 : decode cX6_undo 5 = .ok (.ifCond .ne 7, 3) := by decide +kernel
theorem dX6_undo_8 : decode cX6_undo 8 = .ok (.iconst 1, 1) := by decide +kernel
theorem dX6_undo_9 : decode cX6_undo 9 = .ok (.goto 4, 3) := by decide +kernel
theorem dX6_undo_12 : decode cX6_undo 12 = .ok (.iconst 0, 1) := by decide +kernel
theorem dX6_undo_13 : decode cX6_undo 13 = .ok (.putfield 22, 3) := by decide +kernel
theorem dX6_undo_16 : decode cX6_undo 16 = .ok (.aload_n 0, 1) := by decide +kernel
theorem dX6_undo_17 : decode cX6_undo 17 = .ok (.getfield 22, 3) := by decide +kernel
theorem dX6_undo_20 : decode cX6_undo 20 = .ok (.ifCond .le 5, 3) := by decide +kernel
theorem dX6_undo_23 : decode cX6_undo 23 = .ok (.iconst 0, 1) := by decide +kernel
theorem dX6_undo_24 : decode cX6_undo 24 = .ok (.ireturn, 1) := by decide +kernel
theorem dX6_undo_25 : decode cX6_undo 25 = .ok (.aload_n 0, 1) := by decide +kernel
theorem dX6_undo_26 : decode cX6_undo 26 = .ok (.dup, 1) := by decide +kernel
theorem dX6_undo_27 : decode cX6_undo 27 = .ok (.getfield 34, 3) := by decide +kernel
theorem dX6_undo_30 : decode cX6_undo 30 = .ok (.iconst 1, 1) := by decide +kernel
theorem dX6_undo_31 : decode cX6_undo 31 = .ok (.isub, 1) := by decide +kernel
theorem dX6_undo_32 : decode cX6_undo 32 = .ok (.putfield 34, 3) := by decide +kernel
theorem dX6_undo_35 : decode cX6_undo 35 = .ok (.iconst 0, 1) := by decide +kernel
theorem dX6_undo_36 : decode cX6_undo 36 = .ok (.istore_n 1, 1) := by decide +kernel
theorem dX6_undo_37 : decode cX6_undo 37 = .ok (.iload_n 1, 1) := by decide +kernel
theorem dX6_undo_38 : decode cX6_undo 38 = .ok (.sipush 389, 3) := by decide +kernel
theorem dX6_undo_41 : decode cX6_undo 41 = .ok (.if_icmp .ge 30, 3) := by decide +kernel
theorem dX6_undo_44 : decode cX6_undo 44 = .ok (.aload_n 0, 1) := by decide +kernel
theorem dX6_undo_45 : decode cX6_undo 45 = .ok (.getfield 7, 3) := by decide +kernel
theorem dX6_undo_48 : decode cX6_undo 48 = .ok (.iload_n 1, 1) := by decide +kernel
theorem dX6_undo_49 : decode cX6_undo 49 = .ok (.aload_n 0, 1) := by decide +kernel
theorem dX6_undo_50 : decode cX6_undo 50 = .ok (.getfield 13, 3) := by decide +kernel
theorem dX6_undo_53 : decode cX6_undo 53 = .ok (.aload_n 0, 1) := by decide +kernel
theorem dX6_undo_54 : decode cX6_undo 54 = .ok (.getfield 34, 3) := by decide +kernel
theorem dX6_undo_57 : decode cX6_undo 57 = .ok (.sipush 389, 3) := by decide +kernel
theorem dX6_undo_60 : decode cX6_undo 60 = .ok (.imul, 1) := by decide +kernel
theorem dX6_undo_61 : decode cX6_undo 61 = .ok (.iload_n 1, 1) := by decide +kernel
theorem dX6_undo_62 : decode cX6_undo 62 = .ok (.iadd, 1) := by decide +kernel
theorem dX6_undo_63 : decode cX6_undo 63 = .ok (.iaload, 1) := by decide +kernel
theorem dX6_undo_64 : decode cX6_undo 64 = .ok (.iastore, 1) := by decide +kernel
theorem dX6_undo_65 : decode cX6_undo 65 = .ok (.iinc 1 1, 3) := by decide +kernel
theorem dX6_undo_68 : decode cX6_undo 68 = .ok (.goto (-31), 3) := by decide +kernel
theorem dX6_undo_71 : decode cX6_undo 71 = .ok (.aload_n 0, 1) := by decide +kernel
theorem dX6_undo_72 : decode cX6_undo 72 = .ok (.getfield 34, 3) := by decide +kernel
theorem dX6_undo_75 : decode cX6_undo 75 = .ok (.ireturn, 1) := by decide +kernel
theorem dX6_firstColumn_0 : decode cX6_firstColumn 0 = .ok (.aload_n 0, 1) := by decide +kernel
theorem dX6_firstColumn_1 : decode cX6_firstColumn 1 = .ok (.getfield 7, 3) := by decide +kernel
theorem dX6_firstColumn_4 : decode cX6_firstColumn 4 = .ok (.iconst 0, 1) := by decide +kernel
theorem dX6_firstColumn_5 : decode cX6_firstColumn 5 = .ok (.iaload, 1) := by decide +kernel
theorem dX6_firstColumn_6 : decode cX6_firstColumn 6 = .ok (.iload_n 1, 1) := by decide +kernel
theorem dX6_firstColumn_7 : decode cX6_firstColumn 7 = .ok (.aload_n 0, 1) := by decide +kernel
theorem dX6_firstColumn_8 : decode cX6_firstColumn 8 = .ok (.getfield 7, 3) := by decide +kernel
theorem dX6_firstColumn_11 : decode cX6_firstColumn 11 = .ok (.iconst 1, 1) := by decide +kernel
theorem dX6_firstColumn_12 : decode cX6_firstColumn 12 = .ok (.iaload, 1) := by decide +kernel
theorem dX6_firstColumn_13 : decode cX6_firstColumn 13 = .ok (.imul, 1) := by decide +kernel
theorem dX6_firstColumn_14 : decode cX6_firstColumn 14 = .ok (.iadd, 1) := by decide +kernel
theorem dX6_firstColumn_15 : decode cX6_firstColumn 15 = .ok (.ireturn, 1) := by decide +kernel
set_option maxRecDepth 20000 in
theorem ggX6_wiresAt_X6_firstColumn : GoodIn wsX6_wiresAt wsX6_firstColumn := goodIn_r _ [6, 1, 11, 12, 13, 14, 15, 16, 17, 18, 19, 20, 21, 22, 23, 24] (by decide +kernel) (by decide +kernel)
set_option maxRecDepth 20000 in
theorem gX6_wiresAt_X6_firstColumn : GoodIn wsX6_wiresAt (wsV RX6 37 RX6 yX6_firstColumn wsX6_firstColumn) := goodIn_app (goodIn_of _ (by decide +kernel)) ggX6_wiresAt_X6_firstColumn
set_option maxRecDepth 20000 in
theorem ggX6_wiresAt_X6_wireAt : GoodIn wsX6_wiresAt wsX6_wireAt := goodIn_r _ [10, 1, 11, 12, 13, 14, 15, 16, 17, 18, 19, 20, 21, 22, 23, 24] (by decide +kernel) (by decide +kernel)
set_option maxRecDepth 20000 in
theorem gX6_wiresAt_X6_wireAt : GoodIn wsX6_wiresAt (wsV RX6 41 RX6 yX6_wireAt wsX6_wireAt) := goodIn_app (goodIn_of _ (by decide +kernel)) ggX6_wiresAt_X6_wireAt
theorem dX6_wiresAt_0 : decode cX6_wiresAt 0 = .ok (.aload_n 0, 1) := by decide +kernel
theorem dX6_wiresAt_1 : decode cX6_wiresAt 1 = .ok (.iload_n 1, 1) := by decide +kernel
theorem dX6_wiresAt_2 : decode cX6_wiresAt 2 = .ok (.invokevirtual 37, 3) := by decide +kernel
theorem dX6_wiresAt_5 : decode cX6_wiresAt 5 = .ok (.iload_n 3, 1) := by decide +kernel
theorem dX6_wiresAt_6 : decode cX6_wiresAt 6 = .ok (.iadd, 1) := by decide +kernel
theorem dX6_wiresAt_7 : decode cX6_wiresAt 7 = .ok (.istore 4, 2) := by decide +kernel
theorem dX6_wiresAt_9 : decode cX6_wiresAt 9 = .ok (.iconst 0, 1) := by decide +kernel
theorem dX6_wiresAt_10 : decode cX6_wiresAt 10 = .ok (.istore 5, 2) := by decide +kernel
theorem dX6_wiresAt_12 : decode cX6_wiresAt 12 = .ok (.iconst 0, 1) := by decide +kernel
theorem dX6_wiresAt_13 : decode cX6_wiresAt 13 = .ok (.istore 6, 2) := by decide +kernel
theorem dX6_wiresAt_15 : decode cX6_wiresAt 15 = .ok (.iload 6, 2) := by decide +kernel
theorem dX6_wiresAt_17 : decode cX6_wiresAt 17 = .ok (.iconst 3, 1) := by decide +kernel
theorem dX6_wiresAt_18 : decode cX6_wiresAt 18 = .ok (.if_icmp .ge 44, 3) := by decide +kernel
theorem dX6_wiresAt_21 : decode cX6_wiresAt 21 = .ok (.iload 5, 2) := by decide +kernel
theorem dX6_wiresAt_23 : decode cX6_wiresAt 23 = .ok (.aload_n 0, 1) := by decide +kernel
theorem dX6_wiresAt_24 : decode cX6_wiresAt 24 = .ok (.iload 6, 2) := by decide +kernel
theorem dX6_wiresAt_26 : decode cX6_wiresAt 26 = .ok (.iload_n 2, 1) := by decide +kernel
theorem dX6_wiresAt_27 : decode cX6_wiresAt 27 = .ok (.iload 4, 2) := by decide +kernel
theorem dX6_wiresAt_29 : decode cX6_wiresAt 29 = .ok (.aload_n 0, 1) := by decide +kernel
theorem dX6_wiresAt_30 : decode cX6_wiresAt 30 = .ok (.getfield 7, 3) := by decide +kernel
theorem dX6_wiresAt_33 : decode cX6_wiresAt 33 = .ok (.bipush 6, 2) := by decide +kernel
theorem dX6_wiresAt_35 : decode cX6_wiresAt 35 = .ok (.iload 6, 2) := by decide +kernel
theorem dX6_wiresAt_37 : decode cX6_wiresAt 37 = .ok (.iadd, 1) := by decide +kernel
theorem dX6_wiresAt_38 : decode cX6_wiresAt 38 = .ok (.iaload, 1) := by decide +kernel
theorem dX6_wiresAt_39 : decode cX6_wiresAt 39 = .ok (.iadd, 1) := by decide +kernel
theorem dX6_wiresAt_40 : decode cX6_wiresAt 40 = .ok (.aload_n 0, 1) := by decide +kernel
theorem dX6_wiresAt_41 : decode cX6_wiresAt 41 = .ok (.getfield 7, 3) := by decide +kernel
theorem dX6_wiresAt_44 : decode cX6_wiresAt 44 = .ok (.iconst 3, 1) := by decide +kernel
theorem dX6_wiresAt_45 : decode cX6_wiresAt 45 = .ok (.iload 6, 2) := by decide +kernel
theorem dX6_wiresAt_47 : decode cX6_wiresAt 47 = .ok (.iadd, 1) := by decide +kernel
theorem dX6_wiresAt_48 : decode cX6_wiresAt 48 = .ok (.iaload, 1) := by decide +kernel
theorem dX6_wiresAt_49 : decode cX6_wiresAt 49 = .ok (.irem, 1) := by decide +kernel
theorem dX6_wiresAt_50 : decode cX6_wiresAt 50 = .ok (.invokevirtual 41, 3) := by decide +kernel
theorem dX6_wiresAt_53 : decode cX6_wiresAt 53 = .ok (.iadd, 1) := by decide +kernel
theorem dX6_wiresAt_54 : decode cX6_wiresAt 54 = .ok (.istore 5, 2) := by decide +kernel
theorem dX6_wiresAt_56 : decode cX6_wiresAt 56 = .ok (.iinc 6 1, 3) := by decide +kernel
theorem dX6_wiresAt_59 : decode cX6_wiresAt 59 = .ok (.goto (-44), 3) := by decide +kernel
theorem dX6_wiresAt_62 : decode cX6_wiresAt 62 = .ok (.iload 5, 2) := by decide +kernel
theorem dX6_wiresAt_64 : decode cX6_wiresAt 64 = .ok (.ireturn, 1) := by decide +kernel
set_option maxRecDepth 20000 in
theorem ggX6_tone_X6_wiresAt : GoodIn wsX6_tone wsX6_wiresAt := goodIn_r _ [5, 6, 7, 8, 9, 4, 10, 11, 12, 13, 14, 15, 16, 17, 18, 19, 20, 21, 22, 23, 24, 25, 26, 27, 28] (by decide +kernel) (by decide +kernel)
set_option maxRecDepth 20000 in
theorem gX6_tone_X6_wiresAt : GoodIn wsX6_tone (wsV RX6 45 RX6 yX6_wiresAt wsX6_wiresAt) := goodIn_app (goodIn_of _ (by decide +kernel)) ggX6_tone_X6_wiresAt
theorem dX6_tone_0 : decode cX6_tone 0 = .ok (.bipush 10, 2) := by decide +kernel
theorem dX6_tone_2 : decode cX6_tone 2 = .ok (.aload_n 0, 1) := by decide +kernel
theorem dX6_tone_3 : decode cX6_tone 3 = .ok (.iload_n 1, 1) := by decide +kernel
theorem dX6_tone_4 : decode cX6_tone 4 = .ok (.iload_n 2, 1) := by decide +kernel
theorem dX6_tone_5 : decode cX6_tone 5 = .ok (.iload_n 3, 1) := by decide +kernel
theorem dX6_tone_6 : decode cX6_tone 6 = .ok (.invokevirtual 45, 3) := by decide +kernel
theorem dX6_tone_9 : decode cX6_tone 9 = .ok (.iadd, 1) := by decide +kernel
theorem dX6_tone_10 : decode cX6_tone 10 = .ok (.istore 4, 2) := by decide +kernel
theorem dX6_tone_12 : decode cX6_tone 12 = .ok (.iload 4, 2) := by decide +kernel
theorem dX6_tone_14 : decode cX6_tone 14 = .ok (.ifCond .ge 7, 3) := by decide +kernel
theorem dX6_tone_17 : decode cX6_tone 17 = .ok (.iconst 0, 1) := by decide +kernel
theorem dX6_tone_18 : decode cX6_tone 18 = .ok (.goto 17, 3) := by decide +kernel
theorem dX6_tone_21 : decode cX6_tone 21 = .ok (.iload 4, 2) := by decide +kernel
theorem dX6_tone_23 : decode cX6_tone 23 = .ok (.bipush 19, 2) := by decide +kernel
theorem dX6_tone_25 : decode cX6_tone 25 = .ok (.if_icmp .le 8, 3) := by decide +kernel
theorem dX6_tone_28 : decode cX6_tone 28 = .ok (.bipush 19, 2) := by decide +kernel
theorem dX6_tone_30 : decode cX6_tone 30 = .ok (.goto 5, 3) := by decide +kernel
theorem dX6_tone_33 : decode cX6_tone 33 = .ok (.iload 4, 2) := by decide +kernel
theorem dX6_tone_35 : decode cX6_tone 35 = .ok (.ireturn, 1) := by decide +kernel
set_option maxRecDepth 20000 in
theorem ggX6_light_X6_tone : GoodIn wsX6_light wsX6_tone := goodIn_r _ [5, 6, 7, 8, 4, 9, 10, 11, 12, 13, 14, 15, 16, 17, 18, 23, 24, 25, 26, 27, 28, 29, 30, 31, 32, 33, 34, 35, 36] (by decide +kernel) (by decide +kernel)
set_option maxRecDepth 20000 in
theorem gX6_light_X6_tone : GoodIn wsX6_light (wsV RX6 48 RX6 yX6_tone wsX6_tone) := goodIn_app (goodIn_of _ (by decide +kernel)) ggX6_light_X6_tone
set_option maxRecDepth 20000 in
theorem ggX6_light_X6_inkAt : GoodIn wsX6_light wsX6_inkAt := goodIn_r _ [22, 10, 23, 24, 25, 26, 27, 28, 29, 30, 31, 32, 33, 34, 35, 36] (by decide +kernel) (by decide +kernel)
set_option maxRecDepth 20000 in
theorem gX6_light_X6_inkAt : GoodIn wsX6_light (wsV RX6 51 RX6 yX6_inkAt wsX6_inkAt) := goodIn_app (goodIn_of _ (by decide +kernel)) ggX6_light_X6_inkAt
theorem dX6_light_0 : decode cX6_light 0 = .ok (.aload_n 0, 1) := by decide +kernel
theorem dX6_light_1 : decode cX6_light 1 = .ok (.iload_n 1, 1) := by decide +kernel
theorem dX6_light_2 : decode cX6_light 2 = .ok (.iload_n 2, 1) := by decide +kernel
theorem dX6_light_3 : decode cX6_light 3 = .ok (.iload_n 3, 1) := by decide +kernel
theorem dX6_light_4 : decode cX6_light 4 = .ok (.invokevirtual 48, 3) := by decide +kernel
theorem dX6_light_7 : decode cX6_light 7 = .ok (.aload_n 0, 1) := by decide +kernel
theorem dX6_light_8 : decode cX6_light 8 = .ok (.iload_n 2, 1) := by decide +kernel
theorem dX6_light_9 : decode cX6_light 9 = .ok (.iload_n 3, 1) := by decide +kernel
theorem dX6_light_10 : decode cX6_light 10 = .ok (.invokevirtual 51, 3) := by decide +kernel
theorem dX6_light_13 : decode cX6_light 13 = .ok (.isub, 1) := by decide +kernel
theorem dX6_light_14 : decode cX6_light 14 = .ok (.ireturn, 1) := by decide +kernel
theorem dX6_rectangle_0 : decode cX6_rectangle 0 = .ok (.aload_n 0, 1) := by decide +kernel
theorem dX6_rectangle_1 : decode cX6_rectangle 1 = .ok (.iload_n 1, 1) := by decide +kernel
theorem dX6_rectangle_2 : decode cX6_rectangle 2 = .ok (.putfield 54, 3) := by decide +kernel
theorem dX6_rectangle_5 : decode cX6_rectangle 5 = .ok (.aload_n 0, 1) := by decide +kernel
theorem dX6_rectangle_6 : decode cX6_rectangle 6 = .ok (.iload_n 2, 1) := by decide +kernel
theorem dX6_rectangle_7 : decode cX6_rectangle 7 = .ok (.putfield 57, 3) := by decide +kernel
theorem dX6_rectangle_10 : decode cX6_rectangle 10 = .ok (.aload_n 0, 1) := by decide +kernel
theorem dX6_rectangle_11 : decode cX6_rectangle 11 = .ok (.iload_n 3, 1) := by decide +kernel
theorem dX6_rectangle_12 : decode cX6_rectangle 12 = .ok (.putfield 60, 3) := by decide +kernel
theorem dX6_rectangle_15 : decode cX6_rectangle 15 = .ok (.aload_n 0, 1) := by decide +kernel
theorem dX6_rectangle_16 : decode cX6_rectangle 16 = .ok (.iload 4, 2) := by decide +kernel
theorem dX6_rectangle_18 : decode cX6_rectangle 18 = .ok (.putfield 63, 3) := by decide +kernel
theorem dX6_rectangle_21 : decode cX6_rectangle 21 = .ok (.return_, 1) := by decide +kernel
set_option maxRecDepth 20000 in
theorem ggX6_take_X6_of : GoodIn wsX6_take wsX6_of := goodIn_r _ [5, 6, 15, 16, 17, 18, 19, 20, 21, 22, 23, 24, 25, 26, 27, 28] (by decide +kernel) (by decide +kernel)
set_option maxRecDepth 20000 in
theorem gX6_take_X6_of : GoodIn wsX6_take (wsV RX6 30 RX6 yX6_of wsX6_of) := goodIn_app (goodIn_of _ (by decide +kernel)) ggX6_take_X6_of
set_option maxRecDepth 20000 in
theorem ggX6_take_X6_rectangle : GoodIn wsX6_take wsX6_rectangle := goodIn_r _ [10, 11, 12, 13, 14, 15, 16, 17, 18, 19, 20, 21, 22, 23, 24, 25, 26, 27, 28] (by decide +kernel) (by decide +kernel)
set_option maxRecDepth 20000 in
theorem gX6_take_X6_rectangle : GoodIn wsX6_take (wsV RX6 66 RX6 yX6_rectangle wsX6_rectangle) := goodIn_app (goodIn_of _ (by decide +kernel)) ggX6_take_X6_rectangle
theorem dX6_take_0 : decode cX6_take 0 = .ok (.aload_n 0, 1) := by decide +kernel
theorem dX6_take_1 : decode cX6_take 1 = .ok (.aload_n 0, 1) := by decide +kernel
theorem dX6_take_2 : decode cX6_take 2 = .ok (.iload_n 1, 1) := by decide +kernel
theorem dX6_take_3 : decode cX6_take 3 = .ok (.iconst 1, 1) := by decide +kernel
theorem dX6_take_4 : decode cX6_take 4 = .ok (.invokevirtual 30, 3) := by decide +kernel
theorem dX6_take_7 : decode cX6_take 7 = .ok (.aload_n 0, 1) := by decide +kernel
theorem dX6_take_8 : decode cX6_take 8 = .ok (.iload_n 1, 1) := by decide +kernel
theorem dX6_take_9 : decode cX6_take 9 = .ok (.iconst 2, 1) := by decide +kernel
theorem dX6_take_10 : decode cX6_take 10 = .ok (.invokevirtual 30, 3) := by decide +kernel
theorem dX6_take_13 : decode cX6_take 13 = .ok (.aload_n 0, 1) := by decide +kernel
theorem dX6_take_14 : decode cX6_take 14 = .ok (.iload_n 1, 1) := by decide +kernel
theorem dX6_take_15 : decode cX6_take 15 = .ok (.iconst 3, 1) := by decide +kernel
theorem dX6_take_16 : decode cX6_take 16 = .ok (.invokevirtual 30, 3) := by decide +kernel
theorem dX6_take_19 : decode cX6_take 19 = .ok (.aload_n 0, 1) := by decide +kernel
theorem dX6_take_20 : decode cX6_take 20 = .ok (.iload_n 1, 1) := by decide +kernel
theorem dX6_take_21 : decode cX6_take 21 = .ok (.iconst 4, 1) := by decide +kernel
theorem dX6_take_22 : decode cX6_take 22 = .ok (.invokevirtual 30, 3) := by decide +kernel
theorem dX6_take_25 : decode cX6_take 25 = .ok (.invokevirtual 66, 3) := by decide +kernel
theorem dX6_take_28 : decode cX6_take 28 = .ok (.return_, 1) := by decide +kernel
set_option maxRecDepth 20000 in
theorem ggX6_isInside_X6_in : GoodIn wsX6_isInside wsX6_in := goodIn_r _ [8] (by decide +kernel) (by decide +kernel)
set_option maxRecDepth 20000 in
theorem gX6_isInside_X6_in : GoodIn wsX6_isInside (va_wsS RX6 26 yX6_in wsX6_in) := goodIn_app (goodIn_of _ (by decide +kernel)) ggX6_isInside_X6_in
theorem dX6_isInside_0 : decode cX6_isInside 0 = .ok (.iload_n 1, 1) := by decide +kernel
theorem dX6_isInside_1 : decode cX6_isInside 1 = .ok (.aload_n 0, 1) := by decide +kernel
theorem dX6_isInside_2 : decode cX6_isInside 2 = .ok (.getfield 54, 3) := by decide +kernel
theorem dX6_isInside_5 : decode cX6_isInside 5 = .ok (.aload_n 0, 1) := by decide +kernel
theorem dX6_isInside_6 : decode cX6_isInside 6 = .ok (.getfield 54, 3) := by decide +kernel
theorem dX6_isInside_9 : decode cX6_isInside 9 = .ok (.aload_n 0, 1) := by decide +kernel
theorem dX6_isInside_10 : decode cX6_isInside 10 = .ok (.getfield 60, 3) := by decide +kernel
theorem dX6_isInside_13 : decode cX6_isInside 13 = .ok (.iadd, 1) := by decide +kernel
theorem dX6_isInside_14 : decode cX6_isInside 14 = .ok (.iconst 1, 1) := by decide +kernel
theorem dX6_isInside_15 : decode cX6_isInside 15 = .ok (.isub, 1) := by decide +kernel
theorem dX6_isInside_16 : decode cX6_isInside 16 = .ok (.invokestatic 26, 3) := by decide +kernel
theorem dX6_isInside_19 : decode cX6_isInside 19 = .ok (.ifCond .eq 29, 3) := by decide +kernel
theorem dX6_isInside_22 : decode cX6_isInside 22 = .ok (.iload_n 2, 1) := by decide +kernel
theorem dX6_isInside_23 : decode cX6_isInside 23 = .ok (.aload_n 0, 1) := by decide +kernel
theorem dX6_isInside_24 : decode cX6_isInside 24 = .ok (.getfield 57, 3) := by decide +kernel
theorem dX6_isInside_27 : decode cX6_isInside 27 = .ok (.aload_n 0, 1) := by decide +kernel
theorem dX6_isInside_28 : decode cX6_isInside 28 = .ok (.getfield 57, 3) := by decide +kernel
theorem dX6_isInside_31 : decode cX6_isInside 31 = .ok (.aload_n 0, 1) := by decide +kernel
theorem dX6_isInside_32 : decode cX6_isInside 32 = .ok (.getfield 63, 3) := by decide +kernel
theorem dX6_isInside_35 : decode cX6_isInside 35 = .ok (.iadd, 1) := by decide +kernel
theorem dX6_isInside_36 : decode cX6_isInside 36 = .ok (.iconst 1, 1) := by decide +kernel
theorem dX6_isInside_37 : decode cX6_isInside 37 = .ok (.isub, 1) := by decide +kernel
theorem dX6_isInside_38 : decode cX6_isInside 38 = .ok (.invokestatic 26, 3) := by decide +kernel
theorem dX6_isInside_41 : decode cX6_isInside 41 = .ok (.ifCond .eq 7, 3) := by decide +kernel
theorem dX6_isInside_44 : decode cX6_isInside 44 = .ok (.iconst 1, 1) := by decide +kernel
theorem dX6_isInside_45 : decode cX6_isInside 45 = .ok (.goto 4, 3) := by decide +kernel
theorem dX6_isInside_48 : decode cX6_isInside 48 = .ok (.iconst 0, 1) := by decide +kernel
theorem dX6_isInside_49 : decode cX6_isInside 49 = .ok (.ireturn, 1) := by decide +kernel
set_option maxRecDepth 20000 in
theorem ggX6_isNear_X6_in : GoodIn wsX6_isNear wsX6_in := goodIn_r _ [8] (by decide +kernel) (by decide +kernel)
set_option maxRecDepth 20000 in
theorem gX6_isNear_X6_in : GoodIn wsX6_isNear (va_wsS RX6 26 yX6_in wsX6_in) := goodIn_app (goodIn_of _ (by decide +kernel)) ggX6_isNear_X6_in
theorem dX6_isNear_0 : decode cX6_isNear 0 = .ok (.iload_n 1, 1) := by decide +kernel
theorem dX6_isNear_1 : decode cX6_isNear 1 = .ok (.aload_n 0, 1) := by decide +kernel
theorem dX6_isNear_2 : decode cX6_isNear 2 = .ok (.getfield 54, 3) := by decide +kernel
theorem dX6_isNear_5 : decode cX6_isNear 5 = .ok (.iconst 1, 1) := by decide +kernel
theorem dX6_isNear_6 : decode cX6_isNear 6 = .ok (.isub, 1) := by decide +kernel
theorem dX6_isNear_7 : decode cX6_isNear 7 = .ok (.aload_n 0, 1) := by decide +kernel
theorem dX6_isNear_8 : decode cX6_isNear 8 = .ok (.getfield 54, 3) := by decide +kernel
theorem dX6_isNear_11 : decode cX6_isNear 11 = .ok (.aload_n 0, 1) := by decide +kernel
theorem dX6_isNear_12 : decode cX6_isNear 12 = .ok (.getfield 60, 3) := by decide +kernel
theorem dX6_isNear_15 : decode cX6_isNear 15 = .ok (.iadd, 1) := by decide +kernel
theorem dX6_isNear_16 : decode cX6_isNear 16 = .ok (.invokestatic 26, 3) := by decide +kernel
theorem dX6_isNear_19 : decode cX6_isNear 19 = .ok (.ifCond .eq 29, 3) := by decide +kernel
theorem dX6_isNear_22 : decode cX6_isNear 22 = .ok (.iload_n 2, 1) := by decide +kernel
theorem dX6_isNear_23 : decode cX6_isNear 23 = .ok (.aload_n 0, 1) := by decide +kernel
theorem dX6_isNear_24 : decode cX6_isNear 24 = .ok (.getfield 57, 3) := by decide +kernel
theorem dX6_isNear_27 : decode cX6_isNear 27 = .ok (.iconst 1, 1) := by decide +kernel
theorem dX6_isNear_28 : decode cX6_isNear 28 = .ok (.isub, 1) := by decide +kernel
theorem dX6_isNear_29 : decode cX6_isNear 29 = .ok (.aload_n 0, 1) := by decide +kernel
theorem dX6_isNear_30 : decode cX6_isNear 30 = .ok (.getfield 57, 3) := by decide +kernel
theorem dX6_isNear_33 : decode cX6_isNear 33 = .ok (.aload_n 0, 1) := by decide +kernel
theorem dX6_isNear_34 : decode cX6_isNear 34 = .ok (.getfield 63, 3) := by decide +kernel
theorem dX6_isNear_37 : decode cX6_isNear 37 = .ok (.iadd, 1) := by decide +kernel
theorem dX6_isNear_38 : decode cX6_isNear 38 = .ok (.invokestatic 26, 3) := by decide +kernel
theorem dX6_isNear_41 : decode cX6_isNear 41 = .ok (.ifCond .eq 7, 3) := by decide +kernel
theorem dX6_isNear_44 : decode cX6_isNear 44 = .ok (.iconst 1, 1) := by decide +kernel
theorem dX6_isNear_45 : decode cX6_isNear 45 = .ok (.goto 4, 3) := by decide +kernel
theorem dX6_isNear_48 : decode cX6_isNear 48 = .ok (.iconst 0, 1) := by decide +kernel
theorem dX6_isNear_49 : decode cX6_isNear 49 = .ok (.ireturn, 1) := by decide +kernel
theorem dX6_cells_0 : decode cX6_cells 0 = .ok (.aload_n 0, 1) := by decide +kernel
theorem dX6_cells_1 : decode cX6_cells 1 = .ok (.getfield 60, 3) := by decide +kernel
theorem dX6_cells_4 : decode cX6_cells 4 = .ok (.aload_n 0, 1) := by decide +kernel
theorem dX6_cells_5 : decode cX6_cells 5 = .ok (.getfield 63, 3) := by decide +kernel
theorem dX6_cells_8 : decode cX6_cells 8 = .ok (.imul, 1) := by decide +kernel
theorem dX6_cells_9 : decode cX6_cells 9 = .ok (.ireturn, 1) := by decide +kernel
set_option maxRecDepth 20000 in
theorem ggX6_frame_X6_isNear : GoodIn wsX6_frame wsX6_isNear := goodIn_r _ [5, 6, 7, 8, 9, 10, 11, 4, 12, 17, 18, 19, 20, 21, 22, 23, 24, 25, 26, 27, 28, 29, 30] (by decide +kernel) (by decide +kernel)
set_option maxRecDepth 20000 in
theorem gX6_frame_X6_isNear : GoodIn wsX6_frame (wsV RX6 70 RX6 yX6_isNear wsX6_isNear) := goodIn_app (goodIn_of _ (by decide +kernel)) ggX6_frame_X6_isNear
set_option maxRecDepth 20000 in
theorem ggX6_frame_X6_isInside : GoodIn wsX6_frame wsX6_isInside := goodIn_r _ [16, 6, 7, 8, 9, 10, 11, 4, 12, 17, 18, 19, 20, 21, 22, 23, 24, 25, 26, 27, 28, 29, 30] (by decide +kernel) (by decide +kernel)
set_option maxRecDepth 20000 in
theorem gX6_frame_X6_isInside : GoodIn wsX6_frame (wsV RX6 74 RX6 yX6_isInside wsX6_isInside) := goodIn_app (goodIn_of _ (by decide +kernel)) ggX6_frame_X6_isInside
theorem dX6_frame_0 : decode cX6_frame 0 = .ok (.iconst 0, 1) := by decide +kernel
theorem dX6_frame_1 : decode cX6_frame 1 = .ok (.istore_n 1, 1) := by decide +kernel
theorem dX6_frame_2 : decode cX6_frame 2 = .ok (.iconst 0, 1) := by decide +kernel
theorem dX6_frame_3 : decode cX6_frame 3 = .ok (.istore_n 2, 1) := by decide +kernel
theorem dX6_frame_4 : decode cX6_frame 4 = .ok (.iload_n 2, 1) := by decide +kernel
theorem dX6_frame_5 : decode cX6_frame 5 = .ok (.bipush 72, 2) := by decide +kernel
theorem dX6_frame_7 : decode cX6_frame 7 = .ok (.if_icmp .ge 47, 3) := by decide +kernel
theorem dX6_frame_10 : decode cX6_frame 10 = .ok (.iload_n 1, 1) := by decide +kernel
theorem dX6_frame_11 : decode cX6_frame 11 = .ok (.aload_n 0, 1) := by decide +kernel
theorem dX6_frame_12 : decode cX6_frame 12 = .ok (.iload_n 2, 1) := by decide +kernel
theorem dX6_frame_13 : decode cX6_frame 13 = .ok (.bipush 12, 2) := by decide +kernel
theorem dX6_frame_15 : decode cX6_frame 15 = .ok (.idiv, 1) := by decide +kernel
theorem dX6_frame_16 : decode cX6_frame 16 = .ok (.iload_n 2, 1) := by decide +kernel
theorem dX6_frame_17 : decode cX6_frame 17 = .ok (.bipush 12, 2) := by decide +kernel
theorem dX6_frame_19 : decode cX6_frame 19 = .ok (.irem, 1) := by decide +kernel
theorem dX6_frame_20 : decode cX6_frame 20 = .ok (.invokevirtual 70, 3) := by decide +kernel
theorem dX6_frame_23 : decode cX6_frame 23 = .ok (.ifCond .eq 22, 3) := by decide +kernel
theorem dX6_frame_26 : decode cX6_frame 26 = .ok (.aload_n 0, 1) := by decide +kernel
theorem dX6_frame_27 : decode cX6_frame 27 = .ok (.iload_n 2, 1) := by decide +kernel
theorem dX6_frame_28 : decode cX6_frame 28 = .ok (.bipush 12, 2) := by decide +kernel
theorem dX6_frame_30 : decode cX6_frame 30 = .ok (.idiv, 1) := by decide +kernel
theorem dX6_frame_31 : decode cX6_frame 31 = .ok (.iload_n 2, 1) := by decide +kernel
theorem dX6_frame_32 : decode cX6_frame 32 = .ok (.bipush 12, 2) := by decide +kernel
theorem dX6_frame_34 : decode cX6_frame 34 = .ok (.irem, 1) := by decide +kernel
theorem dX6_frame_35 : decode cX6_frame 35 = .ok (.invokevirtual 74, 3) := by decide +kernel
theorem dX6_frame_38 : decode cX6_frame 38 = .ok (.ifCond .ne 7, 3) := by decide +kernel
theorem dX6_frame_41 : decode cX6_frame 41 = .ok (.iconst 1, 1) := by decide +kernel
theorem dX6_frame_42 : decode cX6_frame 42 = .ok (.goto 4, 3) := by decide +kernel
theorem dX6_frame_45 : decode cX6_frame 45 = .ok (.iconst 0, 1) := by decide +kernel
theorem dX6_frame_46 : decode cX6_frame 46 = .ok (.iadd, 1) := by decide +kernel
theorem dX6_frame_47 : decode cX6_frame 47 = .ok (.istore_n 1, 1) := by decide +kernel
theorem dX6_frame_48 : decode cX6_frame 48 = .ok (.iinc 2 1, 3) := by decide +kernel
theorem dX6_frame_51 : decode cX6_frame 51 = .ok (.goto (-47), 3) := by decide +kernel
theorem dX6_frame_54 : decode cX6_frame 54 = .ok (.iload_n 1, 1) := by decide +kernel
theorem dX6_frame_55 : decode cX6_frame 55 = .ok (.ireturn, 1) := by decide +kernel
set_option maxRecDepth 20000 in
theorem ggX6_isHidden_X6_inkAt : GoodIn wsX6_isHidden wsX6_inkAt := goodIn_r _ [7, 8, 18, 19, 20, 21, 22, 23, 24, 25, 26, 27, 28, 29, 30, 31] (by decide +kernel) (by decide +kernel)
set_option maxRecDepth 20000 in
theorem gX6_isHidden_X6_inkAt : GoodIn wsX6_isHidden (wsV RX6 51 RX6 yX6_inkAt wsX6_inkAt) := goodIn_app (goodIn_of _ (by decide +kernel)) ggX6_isHidden_X6_inkAt
set_option maxRecDepth 20000 in
theorem ggX6_isHidden_X6_isNear : GoodIn wsX6_isHidden wsX6_isNear := goodIn_r _ [12, 1, 13, 2, 14, 15, 16, 6, 17, 18, 19, 20, 21, 22, 23, 24, 25, 26, 27, 28, 29, 30, 31] (by decide +kernel) (by decide +kernel)
set_option maxRecDepth 20000 in
theorem gX6_isHidden_X6_isNear : GoodIn wsX6_isHidden (wsV RX6 70 RX6 yX6_isNear wsX6_isNear) := goodIn_app (goodIn_of _ (by decide +kernel)) ggX6_isHidden_X6_isNear
theorem dX6_isHidden_0 : decode cX6_isHidden 0 = .ok (.aload_n 0, 1) := by decide +kernel
theorem dX6_isHidden_1 : decode cX6_isHidden 1 = .ok (.aload_n 0, 1) := by decide +kernel
theorem dX6_isHidden_2 : decode cX6_isHidden 2 = .ok (.getfield 54, 3) := by decide +kernel
theorem dX6_isHidden_5 : decode cX6_isHidden 5 = .ok (.aload_n 0, 1) := by decide +kernel
theorem dX6_isHidden_6 : decode cX6_isHidden 6 = .ok (.getfield 57, 3) := by decide +kernel
theorem dX6_isHidden_9 : decode cX6_isHidden 9 = .ok (.invokevirtual 51, 3) := by decide +kernel
theorem dX6_isHidden_12 : decode cX6_isHidden 12 = .ok (.istore_n 1, 1) := by decide +kernel
theorem dX6_isHidden_13 : decode cX6_isHidden 13 = .ok (.iconst 1, 1) := by decide +kernel
theorem dX6_isHidden_14 : decode cX6_isHidden 14 = .ok (.istore_n 2, 1) := by decide +kernel
theorem dX6_isHidden_15 : decode cX6_isHidden 15 = .ok (.iconst 0, 1) := by decide +kernel
theorem dX6_isHidden_16 : decode cX6_isHidden 16 = .ok (.istore_n 3, 1) := by decide +kernel
theorem dX6_isHidden_17 : decode cX6_isHidden 17 = .ok (.iload_n 3, 1) := by decide +kernel
theorem dX6_isHidden_18 : decode cX6_isHidden 18 = .ok (.bipush 72, 2) := by decide +kernel
theorem dX6_isHidden_20 : decode cX6_isHidden 20 = .ok (.if_icmp .ge 50, 3) := by decide +kernel
theorem dX6_isHidden_23 : decode cX6_isHidden 23 = .ok (.iload_n 2, 1) := by decide +kernel
theorem dX6_isHidden_24 : decode cX6_isHidden 24 = .ok (.ifCond .eq 38, 3) := by decide +kernel
theorem dX6_isHidden_27 : decode cX6_isHidden 27 = .ok (.aload_n 0, 1) := by decide +kernel
theorem dX6_isHidden_28 : decode cX6_isHidden 28 = .ok (.iload_n 3, 1) := by decide +kernel
theorem dX6_isHidden_29 : decode cX6_isHidden 29 = .ok (.bipush 12, 2) := by decide +kernel
theorem dX6_isHidden_31 : decode cX6_isHidden 31 = .ok (.idiv, 1) := by decide +kernel
theorem dX6_isHidden_32 : decode cX6_isHidden 32 = .ok (.iload_n 3, 1) := by decide +kernel
theorem dX6_isHidden_33 : decode cX6_isHidden 33 = .ok (.bipush 12, 2) := by decide +kernel
theorem dX6_isHidden_35 : decode cX6_isHidden 35 = .ok (.irem, 1) := by decide +kernel
theorem dX6_isHidden_36 : decode cX6_isHidden 36 = .ok (.invokevirtual 70, 3) := by decide +kernel
theorem dX6_isHidden_39 : decode cX6_isHidden 39 = .ok (.ifCond .eq 19, 3) := by decide +kernel
theorem dX6_isHidden_42 : decode cX6_isHidden 42 = .ok (.aload_n 0, 1) := by decide +kernel
theorem dX6_isHidden_43 : decode cX6_isHidden 43 = .ok (.iload_n 3, 1) := by decide +kernel
theorem dX6_isHidden_44 : decode cX6_isHidden 44 = .ok (.bipush 12, 2) := by decide +kernel
theorem dX6_isHidden_46 : decode cX6_isHidden 46 = .ok (.idiv, 1) := by decide +kernel
theorem dX6_isHidden_47 : decode cX6_isHidden 47 = .ok (.iload_n 3, 1) := by decide +kernel
theorem dX6_isHidden_48 : decode cX6_isHidden 48 = .ok (.bipush 12, 2) := by decide +kernel
theorem dX6_isHidden_50 : decode cX6_isHidden 50 = .ok (.irem, 1) := by decide +kernel
theorem dX6_isHidden_51 : decode cX6_isHidden 51 = .ok (.invokevirtual 51, 3) := by decide +kernel
theorem dX6_isHidden_54 : decode cX6_isHidden 54 = .ok (.iload_n 1, 1) := by decide +kernel
theorem dX6_isHidden_55 : decode cX6_isHidden 55 = .ok (.if_icmp .ne 7, 3) := by decide +kernel
theorem dX6_isHidden_58 : decode cX6_isHidden 58 = .ok (.iconst 1, 1) := by decide +kernel
theorem dX6_isHidden_59 : decode cX6_isHidden 59 = .ok (.goto 4, 3) := by decide +kernel
theorem dX6_isHidden_62 : decode cX6_isHidden 62 = .ok (.iconst 0, 1) := by decide +kernel
theorem dX6_isHidden_63 : decode cX6_isHidden 63 = .ok (.istore_n 2, 1) := by decide +kernel
theorem dX6_isHidden_64 : decode cX6_isHidden 64 = .ok (.iinc 3 1, 3) := by decide +kernel
theorem dX6_isHidden_67 : decode cX6_isHidden 67 = .ok (.goto (-50), 3) := by decide +kernel
theorem dX6_isHidden_70 : decode cX6_isHidden 70 = .ok (.iload_n 2, 1) := by decide +kernel
theorem dX6_isHidden_71 : decode cX6_isHidden 71 = .ok (.ireturn, 1) := by decide +kernel
theorem dX6_divided_0 : decode cX6_divided 0 = .ok (.iload_n 0, 1) := by decide +kernel
theorem dX6_divided_1 : decode cX6_divided 1 = .ok (.iload_n 1, 1) := by decide +kernel
theorem dX6_divided_2 : decode cX6_divided 2 = .ok (.idiv, 1) := by decide +kernel
theorem dX6_divided_3 : decode cX6_divided 3 = .ok (.istore_n 2, 1) := by decide +kernel
theorem dX6_divided_4 : decode cX6_divided 4 = .ok (.iload_n 0, 1) := by decide +kernel
theorem dX6_divided_5 : decode cX6_divided 5 = .ok (.iload_n 1, 1) := by decide +kernel
theorem dX6_divided_6 : decode cX6_divided 6 = .ok (.irem, 1) := by decide +kernel
theorem dX6_divided_7 : decode cX6_divided 7 = .ok (.ifCond .ge 9, 3) := by decide +kernel
theorem dX6_divided_10 : decode cX6_divided 10 = .ok (.iload_n 2, 1) := by decide +kernel
theorem dX6_divided_11 : decode cX6_divided 11 = .ok (.iconst 1, 1) := by decide +kernel
theorem dX6_divided_12 : decode cX6_divided 12 = .ok (.isub, 1) := by decide +kernel
theorem dX6_divided_13 : decode cX6_divided 13 = .ok (.goto 4, 3) := by decide +kernel
theorem dX6_divided_16 : decode cX6_divided 16 = .ok (.iload_n 2, 1) := by decide +kernel
theorem dX6_divided_17 : decode cX6_divided 17 = .ok (.ireturn, 1) := by decide +kernel
set_option maxRecDepth 20000 in
theorem ggX6_contrastOn_X6_isInside : GoodIn wsX6_contrastOn wsX6_isInside := goodIn_r _ [5, 6, 7, 8, 9, 10, 11, 4, 12, 53, 54, 55, 56, 57, 58, 59, 60, 61, 62, 63, 64, 65, 66] (by decide +kernel) (by decide +kernel)
set_option maxRecDepth 20000 in
theorem gX6_contrastOn_X6_isInside : GoodIn wsX6_contrastOn (wsV RX6 74 RX6 yX6_isInside wsX6_isInside) := goodIn_app (goodIn_of _ (by decide +kernel)) ggX6_contrastOn_X6_isInside
set_option maxRecDepth 20000 in
theorem ggX6_contrastOn_X6_light : GoodIn wsX6_contrastOn wsX6_light := goodIn_r _ [16, 17, 18, 19, 4, 20, 21, 22, 23, 24, 25, 26, 27, 28, 29, 30, 31, 32, 33, 34, 35, 36, 37, 53, 54, 55, 56, 57, 58, 59, 60, 61, 62, 63, 64, 65, 66] (by decide +kernel) (by decide +kernel)
set_option maxRecDepth 20000 in
theorem gX6_contrastOn_X6_light : GoodIn wsX6_contrastOn (wsV RX6 77 RX6 yX6_light wsX6_light) := goodIn_app (goodIn_of _ (by decide +kernel)) ggX6_contrastOn_X6_light
set_option maxRecDepth 20000 in
theorem ggX6_contrastOn_X6_isNear : GoodIn wsX6_contrastOn wsX6_isNear := goodIn_r _ [41, 6, 7, 8, 9, 10, 11, 4, 12, 53, 54, 55, 56, 57, 58, 59, 60, 61, 62, 63, 64, 65, 66] (by decide +kernel) (by decide +kernel)
set_option maxRecDepth 20000 in
theorem gX6_contrastOn_X6_isNear : GoodIn wsX6_contrastOn (wsV RX6 70 RX6 yX6_isNear wsX6_isNear) := goodIn_app (goodIn_of _ (by decide +kernel)) ggX6_contrastOn_X6_isNear
set_option maxRecDepth 20000 in
theorem ggX6_contrastOn_X6_frame : GoodIn wsX6_contrastOn wsX6_frame := goodIn_r _ [45, 38, 39, 40, 4, 41, 6, 7, 8, 9, 10, 11, 12, 1, 2, 3, 5, 53, 54, 55, 56, 57, 58, 59, 60, 61, 62, 63, 64, 65, 66] (by decide +kernel) (by decide +kernel)
set_option maxRecDepth 20000 in
theorem gX6_contrastOn_X6_frame : GoodIn wsX6_contrastOn (wsV RX6 80 RX6 yX6_frame wsX6_frame) := goodIn_app (goodIn_of _ (by decide +kernel)) ggX6_contrastOn_X6_frame
set_option maxRecDepth 20000 in
theorem ggX6_contrastOn_X6_cells : GoodIn wsX6_contrastOn wsX6_cells := goodIn_r _ [49, 7, 9, 53, 54, 55, 56, 57, 58, 59, 60, 61, 62, 63, 64, 65, 66] (by decide +kernel) (by decide +kernel)
set_option maxRecDepth 20000 in
theorem gX6_contrastOn_X6_cells : GoodIn wsX6_contrastOn (wsV RX6 84 RX6 yX6_cells wsX6_cells) := goodIn_app (goodIn_of _ (by decide +kernel)) ggX6_contrastOn_X6_cells
set_option maxRecDepth 20000 in
theorem ggX6_contrastOn_X6_divided : GoodIn wsX6_contrastOn wsX6_divided := goodIn_r _ [52] (by decide +kernel) (by decide +kernel)
set_option maxRecDepth 20000 in
theorem gX6_contrastOn_X6_divided : GoodIn wsX6_contrastOn (va_wsS RX6 87 yX6_divided wsX6_divided) := goodIn_app (goodIn_of _ (by decide +kernel)) ggX6_contrastOn_X6_divided
theorem dX6_contrastOn_0 : decode cX6_contrastOn 0 = .ok (.iconst 0, 1) := by decide +kernel
theorem dX6_contrastOn_1 : decode cX6_contrastOn 1 = .ok (.istore_n 2, 1) := by decide +kernel
theorem dX6_contrastOn_2 : decode cX6_contrastOn 2 = .ok (.iconst 0, 1) := by decide +kernel
theorem dX6_contrastOn_3 : decode cX6_contrastOn 3 = .ok (.istore_n 3, 1) := by decide +kernel
theorem dX6_contrastOn_4 : decode cX6_contrastOn 4 = .ok (.iconst 0, 1) := by decide +kernel
theorem dX6_contrastOn_5 : decode cX6_contrastOn 5 = .ok (.istore 4, 2) := by decide +kernel
theorem dX6_contrastOn_7 : decode cX6_contrastOn 7 = .ok (.iload 4, 2) := by decide +kernel
theorem dX6_contrastOn_9 : decode cX6_contrastOn 9 = .ok (.bipush 72, 2) := by decide +kernel
theorem dX6_contrastOn_11 : decode cX6_contrastOn 11 = .ok (.if_icmp .ge 72, 3) := by decide +kernel
theorem dX6_contrastOn_14 : decode cX6_contrastOn 14 = .ok (.iload 4, 2) := by decide +kernel
theorem dX6_contrastOn_16 : decode cX6_contrastOn 16 = .ok (.bipush 12, 2) := by decide +kernel
theorem dX6_contrastOn_18 : decode cX6_contrastOn 18 = .ok (.idiv, 1) := by decide +kernel
theorem dX6_contrastOn_19 : decode cX6_contrastOn 19 = .ok (.istore 5, 2) := by decide +kernel
theorem dX6_contrastOn_21 : decode cX6_contrastOn 21 = .ok (.iload 4, 2) := by decide +kernel
theorem dX6_contrastOn_23 : decode cX6_contrastOn 23 = .ok (.bipush 12, 2) := by decide +kernel
theorem dX6_contrastOn_25 : decode cX6_contrastOn 25 = .ok (.irem, 1) := by decide +kernel
theorem dX6_contrastOn_26 : decode cX6_contrastOn 26 = .ok (.istore 6, 2) := by decide +kernel
theorem dX6_contrastOn_28 : decode cX6_contrastOn 28 = .ok (.aload_n 0, 1) := by decide +kernel
theorem dX6_contrastOn_29 : decode cX6_contrastOn 29 = .ok (.iload 5, 2) := by decide +kernel
theorem dX6_contrastOn_31 : decode cX6_contrastOn 31 = .ok (.iload 6, 2) := by decide +kernel
theorem dX6_contrastOn_33 : decode cX6_contrastOn 33 = .ok (.invokevirtual 74, 3) := by decide +kernel
theorem dX6_contrastOn_36 : decode cX6_contrastOn 36 = .ok (.ifCond .eq 18, 3) := by decide +kernel
theorem dX6_contrastOn_39 : decode cX6_contrastOn 39 = .ok (.iload_n 2, 1) := by decide +kernel
theorem dX6_contrastOn_40 : decode cX6_contrastOn 40 = .ok (.aload_n 0, 1) := by decide +kernel
theorem dX6_contrastOn_41 : decode cX6_contrastOn 41 = .ok (.iload_n 1, 1) := by decide +kernel
theorem dX6_contrastOn_42 : decode cX6_contrastOn 42 = .ok (.iload 5, 2) := by decide +kernel
theorem dX6_contrastOn_44 : decode cX6_contrastOn 44 = .ok (.iload 6, 2) := by decide +kernel
theorem dX6_contrastOn_46 : decode cX6_contrastOn 46 = .ok (.invokevirtual 77, 3) := by decide +kernel
theorem dX6_contrastOn_49 : decode cX6_contrastOn 49 = .ok (.iadd, 1) := by decide +kernel
theorem dX6_contrastOn_50 : decode cX6_contrastOn 50 = .ok (.istore_n 2, 1) := by decide +kernel
theorem dX6_contrastOn_51 : decode cX6_contrastOn 51 = .ok (.goto 26, 3) := by decide +kernel
theorem dX6_contrastOn_54 : decode cX6_contrastOn 54 = .ok (.aload_n 0, 1) := by decide +kernel
theorem dX6_contrastOn_55 : decode cX6_contrastOn 55 = .ok (.iload 5, 2) := by decide +kernel
theorem dX6_contrastOn_57 : decode cX6_contrastOn 57 = .ok (.iload 6, 2) := by decide +kernel
theorem dX6_contrastOn_59 : decode cX6_contrastOn 59 = .ok (.invokevirtual 70, 3) := by decide +kernel
theorem dX6_contrastOn_62 : decode cX6_contrastOn 62 = .ok (.ifCond .eq 15, 3) := by decide +kernel
theorem dX6_contrastOn_65 : decode cX6_contrastOn 65 = .ok (.iload_n 3, 1) := by decide +kernel
theorem dX6_contrastOn_66 : decode cX6_contrastOn 66 = .ok (.aload_n 0, 1) := by decide +kernel
theorem dX6_contrastOn_67 : decode cX6_contrastOn 67 = .ok (.iload_n 1, 1) := by decide +kernel
theorem dX6_contrastOn_68 : decode cX6_contrastOn 68 = .ok (.iload 5, 2) := by decide +kernel
theorem dX6_contrastOn_70 : decode cX6_contrastOn 70 = .ok (.iload 6, 2) := by decide +kernel
theorem dX6_contrastOn_72 : decode cX6_contrastOn 72 = .ok (.invokevirtual 77, 3) := by decide +kernel
theorem dX6_contrastOn_75 : decode cX6_contrastOn 75 = .ok (.iadd, 1) := by decide +kernel
theorem dX6_contrastOn_76 : decode cX6_contrastOn 76 = .ok (.istore_n 3, 1) := by decide +kernel
theorem dX6_contrastOn_77 : decode cX6_contrastOn 77 = .ok (.iinc 4 1, 3) := by decide +kernel
theorem dX6_contrastOn_80 : decode cX6_contrastOn 80 = .ok (.goto (-73), 3) := by decide +kernel
theorem dX6_contrastOn_83 : decode cX6_contrastOn 83 = .ok (.aload_n 0, 1) := by decide +kernel
theorem dX6_contrastOn_84 : decode cX6_contrastOn 84 = .ok (.invokevirtual 80, 3) := by decide +kernel
theorem dX6_contrastOn_87 : decode cX6_contrastOn 87 = .ok (.istore 4, 2) := by decide +kernel
theorem dX6_contrastOn_89 : decode cX6_contrastOn 89 = .ok (.iload 4, 2) := by decide +kernel
theorem dX6_contrastOn_91 : decode cX6_contrastOn 91 = .ok (.ifCond .ne 7, 3) := by decide +kernel
theorem dX6_contrastOn_94 : decode cX6_contrastOn 94 = .ok (.iconst 0, 1) := by decide +kernel
theorem dX6_contrastOn_95 : decode cX6_contrastOn 95 = .ok (.goto 24, 3) := by decide +kernel
theorem dX6_contrastOn_98 : decode cX6_contrastOn 98 = .ok (.iload_n 2, 1) := by decide +kernel
theorem dX6_contrastOn_99 : decode cX6_contrastOn 99 = .ok (.iload 4, 2) := by decide +kernel
theorem dX6_contrastOn_101 : decode cX6_contrastOn 101 = .ok (.imul, 1) := by decide +kernel
theorem dX6_contrastOn_102 : decode cX6_contrastOn 102 = .ok (.iload_n 3, 1) := by decide +kernel
theorem dX6_contrastOn_103 : decode cX6_contrastOn 103 = .ok (.aload_n 0, 1) := by decide +kernel
theorem dX6_contrastOn_104 : decode cX6_contrastOn 104 = .ok (.invokevirtual 84, 3) := by decide +kernel
theorem dX6_contrastOn_107 : decode cX6_contrastOn 107 = .ok (.imul, 1) := by decide +kernel
theorem dX6_contrastOn_108 : decode cX6_contrastOn 108 = .ok (.isub, 1) := by decide +kernel
theorem dX6_contrastOn_109 : decode cX6_contrastOn 109 = .ok (.iload 4, 2) := by decide +kernel
theorem dX6_contrastOn_111 : decode cX6_contrastOn 111 = .ok (.aload_n 0, 1) := by decide +kernel
theorem dX6_contrastOn_112 : decode cX6_contrastOn 112 = .ok (.invokevirtual 84, 3) := by decide +kernel
theorem dX6_contrastOn_115 : decode cX6_contrastOn 115 = .ok (.imul, 1) := by decide +kernel
theorem dX6_contrastOn_116 : decode cX6_contrastOn 116 = .ok (.invokestatic 87, 3) := by decide +kernel
theorem dX6_contrastOn_119 : decode cX6_contrastOn 119 = .ok (.ireturn, 1) := by decide +kernel
set_option maxRecDepth 20000 in
theorem ggX6_sizeOn_X6_contrastOn : GoodIn wsX6_sizeOn wsX6_contrastOn := goodIn_r _ [5, 6, 7, 8, 4, 9, 10, 11, 12, 13, 14, 15, 16, 17, 18, 19, 20, 21, 22, 23, 24, 25, 26, 27, 28, 29, 30, 31, 32, 33, 34, 35, 36, 37, 38, 39, 40, 41, 42, 43, 44, 45, 46, 47, 48, 49, 50, 51, 52, 53, 54, 55, 56, 57, 58, 59, 60, 61, 62, 63, 64, 65, 66, 67, 68, 69, 70] (by decide +kernel) (by decide +kernel)
set_option maxRecDepth 20000 in
theorem gX6_sizeOn_X6_contrastOn : GoodIn wsX6_sizeOn (wsV RX6 90 RX6 yX6_contrastOn wsX6_contrastOn) := goodIn_app (goodIn_of _ (by decide +kernel)) ggX6_sizeOn_X6_contrastOn
theorem dX6_sizeOn_0 : decode cX6_sizeOn 0 = .ok (.aload_n 0, 1) := by decide +kernel
theorem dX6_sizeOn_1 : decode cX6_sizeOn 1 = .ok (.iload_n 1, 1) := by decide +kernel
theorem dX6_sizeOn_2 : decode cX6_sizeOn 2 = .ok (.invokevirtual 90, 3) := by decide +kernel
theorem dX6_sizeOn_5 : decode cX6_sizeOn 5 = .ok (.istore_n 2, 1) := by decide +kernel
theorem dX6_sizeOn_6 : decode cX6_sizeOn 6 = .ok (.iload_n 2, 1) := by decide +kernel
theorem dX6_sizeOn_7 : decode cX6_sizeOn 7 = .ok (.ifCond .ge 8, 3) := by decide +kernel
theorem dX6_sizeOn_10 : decode cX6_sizeOn 10 = .ok (.iload_n 2, 1) := by decide +kernel
theorem dX6_sizeOn_11 : decode cX6_sizeOn 11 = .ok (.ineg, 1) := by decide +kernel
theorem dX6_sizeOn_12 : decode cX6_sizeOn 12 = .ok (.goto 4, 3) := by decide +kernel
theorem dX6_sizeOn_15 : decode cX6_sizeOn 15 = .ok (.iload_n 2, 1) := by decide +kernel
theorem dX6_sizeOn_16 : decode cX6_sizeOn 16 = .ok (.ireturn, 1) := by decide +kernel
set_option maxRecDepth 20000 in
theorem ggX6_isSeen_X6_sizeOn : GoodIn wsX6_isSeen wsX6_sizeOn := goodIn_r _ [6, 7, 8, 9, 5, 10, 11, 12, 13, 14, 15, 16, 17, 18, 19, 20, 21, 22, 23, 24, 25, 26, 27, 28, 29, 30, 31, 32, 33, 1, 34, 35, 36, 37, 38, 39, 40, 41, 42, 43, 44, 45, 46, 47, 48, 49, 50, 51, 52, 53, 54, 55, 56, 57, 58, 59, 60, 61, 62, 63, 64, 65, 66, 67, 68, 69, 70, 71, 72, 73, 74] (by decide +kernel) (by decide +kernel)
set_option maxRecDepth 20000 in
theorem gX6_isSeen_X6_sizeOn : GoodIn wsX6_isSeen (wsV RX6 93 RX6 yX6_sizeOn wsX6_sizeOn) := goodIn_app (goodIn_of _ (by decide +kernel)) ggX6_isSeen_X6_sizeOn
theorem dX6_isSeen_0 : decode cX6_isSeen 0 = .ok (.aload_n 0, 1) := by decide +kernel
theorem dX6_isSeen_1 : decode cX6_isSeen 1 = .ok (.iload_n 1, 1) := by decide +kernel
theorem dX6_isSeen_2 : decode cX6_isSeen 2 = .ok (.invokevirtual 93, 3) := by decide +kernel
theorem dX6_isSeen_5 : decode cX6_isSeen 5 = .ok (.aload_n 0, 1) := by decide +kernel
theorem dX6_isSeen_6 : decode cX6_isSeen 6 = .ok (.getfield 7, 3) := by decide +kernel
theorem dX6_isSeen_9 : decode cX6_isSeen 9 = .ok (.iconst 2, 1) := by decide +kernel
theorem dX6_isSeen_10 : decode cX6_isSeen 10 = .ok (.iaload, 1) := by decide +kernel
theorem dX6_isSeen_11 : decode cX6_isSeen 11 = .ok (.if_icmp .lt 7, 3) := by decide +kernel
theorem dX6_isSeen_14 : decode cX6_isSeen 14 = .ok (.iconst 1, 1) := by decide +kernel
theorem dX6_isSeen_15 : decode cX6_isSeen 15 = .ok (.goto 4, 3) := by decide +kernel
theorem dX6_isSeen_18 : decode cX6_isSeen 18 = .ok (.iconst 0, 1) := by decide +kernel
theorem dX6_isSeen_19 : decode cX6_isSeen 19 = .ok (.ireturn, 1) := by decide +kernel
set_option maxRecDepth 20000 in
theorem ggX6_wire_X6_isRoll : GoodIn wsX6_wire wsX6_isRoll := goodIn_r _ [6, 7, 8, 5, 9] (by decide +kernel) (by decide +kernel)
set_option maxRecDepth 20000 in
theorem gX6_wire_X6_isRoll : GoodIn wsX6_wire (va_wsS RX6 96 yX6_isRoll wsX6_isRoll) := goodIn_app (goodIn_of _ (by decide +kernel)) ggX6_wire_X6_isRoll
set_option maxRecDepth 20000 in
theorem ggX6_wire_X6_in : GoodIn wsX6_wire wsX6_in := goodIn_r _ [9] (by decide +kernel) (by decide +kernel)
set_option maxRecDepth 20000 in
theorem gX6_wire_X6_in : GoodIn wsX6_wire (va_wsS RX6 26 yX6_in wsX6_in) := goodIn_app (goodIn_of _ (by decide +kernel)) ggX6_wire_X6_in
set_option maxRecDepth 20000 in
theorem ggX6_wire_X6_save : GoodIn wsX6_wire wsX6_save := goodIn_r _ [13, 14, 15, 2, 20, 21, 22, 23, 24, 25, 26, 27, 28, 29, 30, 31, 32, 33] (by decide +kernel) (by decide +kernel)
set_option maxRecDepth 20000 in
theorem gX6_wire_X6_save : GoodIn wsX6_wire (wsV RX6 100 RX6 yX6_save wsX6_save) := goodIn_app (goodIn_of _ (by decide +kernel)) ggX6_wire_X6_save
set_option maxRecDepth 20000 in
theorem ggX6_wire_X6_wireAt : GoodIn wsX6_wire wsX6_wireAt := goodIn_r _ [19, 2, 20, 21, 22, 23, 24, 25, 26, 27, 28, 29, 30, 31, 32, 33] (by decide +kernel) (by decide +kernel)
set_option maxRecDepth 20000 in
theorem gX6_wire_X6_wireAt : GoodIn wsX6_wire (wsV RX6 41 RX6 yX6_wireAt wsX6_wireAt) := goodIn_app (goodIn_of _ (by decide +kernel)) ggX6_wire_X6_wireAt
theorem dX6_wire_0 : decode cX6_wire 0 = .ok (.aload_n 0, 1) := by decide +kernel
theorem dX6_wire_1 : decode cX6_wire 1 = .ok (.iload_n 1, 1) := by decide +kernel
theorem dX6_wire_2 : decode cX6_wire 2 = .ok (.invokestatic 96, 3) := by decide +kernel
theorem dX6_wire_5 : decode cX6_wire 5 = .ok (.ifCond .eq 22, 3) := by decide +kernel
theorem dX6_wire_8 : decode cX6_wire 8 = .ok (.iload_n 2, 1) := by decide +kernel
theorem dX6_wire_9 : decode cX6_wire 9 = .ok (.iconst 0, 1) := by decide +kernel
theorem dX6_wire_10 : decode cX6_wire 10 = .ok (.iconst 5, 1) := by decide +kernel
theorem dX6_wire_11 : decode cX6_wire 11 = .ok (.invokestatic 26, 3) := by decide +kernel
theorem dX6_wire_14 : decode cX6_wire 14 = .ok (.ifCond .eq 13, 3) := by decide +kernel
theorem dX6_wire_17 : decode cX6_wire 17 = .ok (.iload_n 3, 1) := by decide +kernel
theorem dX6_wire_18 : decode cX6_wire 18 = .ok (.iconst 0, 1) := by decide +kernel
theorem dX6_wire_19 : decode cX6_wire 19 = .ok (.bipush 15, 2) := by decide +kernel
theorem dX6_wire_21 : decode cX6_wire 21 = .ok (.invokestatic 26, 3) := by decide +kernel
theorem dX6_wire_24 : decode cX6_wire 24 = .ok (.ifCond .ne 7, 3) := by decide +kernel
theorem dX6_wire_27 : decode cX6_wire 27 = .ok (.iconst 1, 1) := by decide +kernel
theorem dX6_wire_28 : decode cX6_wire 28 = .ok (.goto 19, 3) := by decide +kernel
theorem dX6_wire_31 : decode cX6_wire 31 = .ok (.iload 4, 2) := by decide +kernel
theorem dX6_wire_33 : decode cX6_wire 33 = .ok (.bipush (-3), 2) := by decide +kernel
theorem dX6_wire_35 : decode cX6_wire 35 = .ok (.iconst 3, 1) := by decide +kernel
theorem dX6_wire_36 : decode cX6_wire 36 = .ok (.invokestatic 26, 3) := by decide +kernel
theorem dX6_wire_39 : decode cX6_wire 39 = .ok (.ifCond .eq 7, 3) := by decide +kernel
theorem dX6_wire_42 : decode cX6_wire 42 = .ok (.iconst 0, 1) := by decide +kernel
theorem dX6_wire_43 : decode cX6_wire 43 = .ok (.goto 4, 3) := by decide +kernel
theorem dX6_wire_46 : decode cX6_wire 46 = .ok (.iconst 2, 1) := by decide +kernel
theorem dX6_wire_47 : decode cX6_wire 47 = .ok (.putfield 22, 3) := by decide +kernel
theorem dX6_wire_50 : decode cX6_wire 50 = .ok (.aload_n 0, 1) := by decide +kernel
theorem dX6_wire_51 : decode cX6_wire 51 = .ok (.getfield 22, 3) := by decide +kernel
theorem dX6_wire_54 : decode cX6_wire 54 = .ok (.ifCond .le 5, 3) := by decide +kernel
theorem dX6_wire_57 : decode cX6_wire 57 = .ok (.iconst 0, 1) := by decide +kernel
theorem dX6_wire_58 : decode cX6_wire 58 = .ok (.ireturn, 1) := by decide +kernel
theorem dX6_wire_59 : decode cX6_wire 59 = .ok (.aload_n 0, 1) := by decide +kernel
theorem dX6_wire_60 : decode cX6_wire 60 = .ok (.invokevirtual 100, 3) := by decide +kernel
theorem dX6_wire_63 : decode cX6_wire 63 = .ok (.aload_n 0, 1) := by decide +kernel
theorem dX6_wire_64 : decode cX6_wire 64 = .ok (.iload_n 1, 1) := by decide +kernel
theorem dX6_wire_65 : decode cX6_wire 65 = .ok (.iload_n 2, 1) := by decide +kernel
theorem dX6_wire_66 : decode cX6_wire 66 = .ok (.iload_n 3, 1) := by decide +kernel
theorem dX6_wire_67 : decode cX6_wire 67 = .ok (.invokevirtual 41, 3) := by decide +kernel
theorem dX6_wire_70 : decode cX6_wire 70 = .ok (.istore 5, 2) := by decide +kernel
theorem dX6_wire_72 : decode cX6_wire 72 = .ok (.aload_n 0, 1) := by decide +kernel
theorem dX6_wire_73 : decode cX6_wire 73 = .ok (.getfield 7, 3) := by decide +kernel
theorem dX6_wire_76 : decode cX6_wire 76 = .ok (.bipush 9, 2) := by decide +kernel
theorem dX6_wire_78 : decode cX6_wire 78 = .ok (.bipush 6, 2) := by decide +kernel
theorem dX6_wire_80 : decode cX6_wire 80 = .ok (.iload_n 1, 1) := by decide +kernel
theorem dX6_wire_81 : decode cX6_wire 81 = .ok (.imul, 1) := by decide +kernel
theorem dX6_wire_82 : decode cX6_wire 82 = .ok (.iload_n 2, 1) := by decide +kernel
theorem dX6_wire_83 : decode cX6_wire 83 = .ok (.iadd, 1) := by decide +kernel
theorem dX6_wire_84 : decode cX6_wire 84 = .ok (.bipush 16, 2) := by decide +kernel
theorem dX6_wire_86 : decode cX6_wire 86 = .ok (.imul, 1) := by decide +kernel
theorem dX6_wire_87 : decode cX6_wire 87 = .ok (.iadd, 1) := by decide +kernel
theorem dX6_wire_88 : decode cX6_wire 88 = .ok (.iload_n 3, 1) := by decide +kernel
theorem dX6_wire_89 : decode cX6_wire 89 = .ok (.iadd, 1) := by decide +kernel
theorem dX6_wire_90 : decode cX6_wire 90 = .ok (.iload 4, 2) := by decide +kernel
theorem dX6_wire_92 : decode cX6_wire 92 = .ok (.iastore, 1) := by decide +kernel
theorem dX6_wire_93 : decode cX6_wire 93 = .ok (.iload 5, 2) := by decide +kernel
theorem dX6_wire_95 : decode cX6_wire 95 = .ok (.bipush 100, 2) := by decide +kernel
theorem dX6_wire_97 : decode cX6_wire 97 = .ok (.iadd, 1) := by decide +kernel
theorem dX6_wire_98 : decode cX6_wire 98 = .ok (.ireturn, 1) := by decide +kernel
set_option maxRecDepth 20000 in
theorem ggX6_size_X6_isRoll : GoodIn wsX6_size wsX6_isRoll := goodIn_r _ [6, 7, 8, 5, 9] (by decide +kernel) (by decide +kernel)
set_option maxRecDepth 20000 in
theorem gX6_size_X6_isRoll : GoodIn wsX6_size (va_wsS RX6 96 yX6_isRoll wsX6_isRoll) := goodIn_app (goodIn_of _ (by decide +kernel)) ggX6_size_X6_isRoll
set_option maxRecDepth 20000 in
theorem ggX6_size_X6_in : GoodIn wsX6_size wsX6_in := goodIn_r _ [9] (by decide +kernel) (by decide +kernel)
set_option maxRecDepth 20000 in
theorem gX6_size_X6_in : GoodIn wsX6_size (va_wsS RX6 26 yX6_in wsX6_in) := goodIn_app (goodIn_of _ (by decide +kernel)) ggX6_size_X6_in
set_option maxRecDepth 20000 in
theorem ggX6_size_X6_save : GoodIn wsX6_size wsX6_save := goodIn_r _ [13, 14, 15, 2, 16, 17, 18, 19, 20, 21, 22, 23, 24, 25, 26, 27, 28, 29] (by decide +kernel) (by decide +kernel)
set_option maxRecDepth 20000 in
theorem gX6_size_X6_save : GoodIn wsX6_size (wsV RX6 100 RX6 yX6_save wsX6_save) := goodIn_app (goodIn_of _ (by decide +kernel)) ggX6_size_X6_save
theorem dX6_size_0 : decode cX6_size 0 = .ok (.aload_n 0, 1) := by decide +kernel
theorem dX6_size_1 : decode cX6_size 1 = .ok (.iload_n 1, 1) := by decide +kernel
theorem dX6_size_2 : decode cX6_size 2 = .ok (.invokestatic 96, 3) := by decide +kernel
theorem dX6_size_5 : decode cX6_size 5 = .ok (.ifCond .ne 7, 3) := by decide +kernel
theorem dX6_size_8 : decode cX6_size 8 = .ok (.iconst 1, 1) := by decide +kernel
theorem dX6_size_9 : decode cX6_size 9 = .ok (.goto 18, 3) := by decide +kernel
theorem dX6_size_12 : decode cX6_size 12 = .ok (.iload_n 2, 1) := by decide +kernel
theorem dX6_size_13 : decode cX6_size 13 = .ok (.iconst 4, 1) := by decide +kernel
theorem dX6_size_14 : decode cX6_size 14 = .ok (.bipush 16, 2) := by decide +kernel
theorem dX6_size_16 : decode cX6_size 16 = .ok (.invokestatic 26, 3) := by decide +kernel
theorem dX6_size_19 : decode cX6_size 19 = .ok (.ifCond .eq 7, 3) := by decide +kernel
theorem dX6_size_22 : decode cX6_size 22 = .ok (.iconst 0, 1) := by decide +kernel
theorem dX6_size_23 : decode cX6_size 23 = .ok (.goto 4, 3) := by decide +kernel
theorem dX6_size_26 : decode cX6_size 26 = .ok (.iconst 2, 1) := by decide +kernel
theorem dX6_size_27 : decode cX6_size 27 = .ok (.putfield 22, 3) := by decide +kernel
theorem dX6_size_30 : decode cX6_size 30 = .ok (.aload_n 0, 1) := by decide +kernel
theorem dX6_size_31 : decode cX6_size 31 = .ok (.getfield 22, 3) := by decide +kernel
theorem dX6_size_34 : decode cX6_size 34 = .ok (.ifCond .le 5, 3) := by decide +kernel
theorem dX6_size_37 : decode cX6_size 37 = .ok (.iconst 0, 1) := by decide +kernel
theorem dX6_size_38 : decode cX6_size 38 = .ok (.ireturn, 1) := by decide +kernel
theorem dX6_size_39 : decode cX6_size 39 = .ok (.aload_n 0, 1) := by decide +kernel
theorem dX6_size_40 : decode cX6_size 40 = .ok (.invokevirtual 100, 3) := by decide +kernel
theorem dX6_size_43 : decode cX6_size 43 = .ok (.aload_n 0, 1) := by decide +kernel
theorem dX6_size_44 : decode cX6_size 44 = .ok (.getfield 7, 3) := by decide +kernel
theorem dX6_size_47 : decode cX6_size 47 = .ok (.iconst 3, 1) := by decide +kernel
theorem dX6_size_48 : decode cX6_size 48 = .ok (.iload_n 1, 1) := by decide +kernel
theorem dX6_size_49 : decode cX6_size 49 = .ok (.iadd, 1) := by decide +kernel
theorem dX6_size_50 : decode cX6_size 50 = .ok (.iaload, 1) := by decide +kernel
theorem dX6_size_51 : decode cX6_size 51 = .ok (.istore_n 3, 1) := by decide +kernel
theorem dX6_size_52 : decode cX6_size 52 = .ok (.aload_n 0, 1) := by decide +kernel
theorem dX6_size_53 : decode cX6_size 53 = .ok (.getfield 7, 3) := by decide +kernel
theorem dX6_size_56 : decode cX6_size 56 = .ok (.iconst 3, 1) := by decide +kernel
theorem dX6_size_57 : decode cX6_size 57 = .ok (.iload_n 1, 1) := by decide +kernel
theorem dX6_size_58 : decode cX6_size 58 = .ok (.iadd, 1) := by decide +kernel
theorem dX6_size_59 : decode cX6_size 59 = .ok (.iload_n 2, 1) := by decide +kernel
theorem dX6_size_60 : decode cX6_size 60 = .ok (.iastore, 1) := by decide +kernel
theorem dX6_size_61 : decode cX6_size 61 = .ok (.aload_n 0, 1) := by decide +kernel
theorem dX6_size_62 : decode cX6_size 62 = .ok (.getfield 7, 3) := by decide +kernel
theorem dX6_size_65 : decode cX6_size 65 = .ok (.bipush 6, 2) := by decide +kernel
theorem dX6_size_67 : decode cX6_size 67 = .ok (.iload_n 1, 1) := by decide +kernel
theorem dX6_size_68 : decode cX6_size 68 = .ok (.iadd, 1) := by decide +kernel
theorem dX6_size_69 : decode cX6_size 69 = .ok (.dup2, 1) := by decide +kernel
theorem dX6_size_70 : decode cX6_size 70 = .ok (.iaload, 1) := by decide +kernel
theorem dX6_size_71 : decode cX6_size 71 = .ok (.iload_n 2, 1) := by decide +kernel
theorem dX6_size_72 : decode cX6_size 72 = .ok (.irem, 1) := by decide +kernel
theorem dX6_size_73 : decode cX6_size 73 = .ok (.iastore, 1) := by decide +kernel
theorem dX6_size_74 : decode cX6_size 74 = .ok (.iload_n 3, 1) := by decide +kernel
theorem dX6_size_75 : decode cX6_size 75 = .ok (.ireturn, 1) := by decide +kernel
set_option maxRecDepth 20000 in
theorem ggX6_turn_X6_isRoll : GoodIn wsX6_turn wsX6_isRoll := goodIn_r _ [6, 7, 8, 5, 9] (by decide +kernel) (by decide +kernel)
set_option maxRecDepth 20000 in
theorem gX6_turn_X6_isRoll : GoodIn wsX6_turn (va_wsS RX6 96 yX6_isRoll wsX6_isRoll) := goodIn_app (goodIn_of _ (by decide +kernel)) ggX6_turn_X6_isRoll
set_option maxRecDepth 20000 in
theorem ggX6_turn_X6_in : GoodIn wsX6_turn wsX6_in := goodIn_r _ [9] (by decide +kernel) (by decide +kernel)
set_option maxRecDepth 20000 in
theorem gX6_turn_X6_in : GoodIn wsX6_turn (va_wsS RX6 26 yX6_in wsX6_in) := goodIn_app (goodIn_of _ (by decide +kernel)) ggX6_turn_X6_in
set_option maxRecDepth 20000 in
theorem ggX6_turn_X6_save : GoodIn wsX6_turn wsX6_save := goodIn_r _ [13, 14, 15, 2, 16, 17, 18, 19, 20, 21, 22, 23, 24, 25, 26, 27, 28, 29] (by decide +kernel) (by decide +kernel)
set_option maxRecDepth 20000 in
theorem gX6_turn_X6_save : GoodIn wsX6_turn (wsV RX6 100 RX6 yX6_save wsX6_save) := goodIn_app (goodIn_of _ (by decide +kernel)) ggX6_turn_X6_save
theorem dX6_turn_0 : decode cX6_turn 0 = .ok (.aload_n 0, 1) := by decide +kernel
theorem dX6_turn_1 : decode cX6_turn 1 = .ok (.iload_n 1, 1) := by decide +kernel
theorem dX6_turn_2 : decode cX6_turn 2 = .ok (.invokestatic 96, 3) := by decide +kernel
theorem dX6_turn_5 : decode cX6_turn 5 = .ok (.ifCond .ne 7, 3) := by decide +kernel
theorem dX6_turn_8 : decode cX6_turn 8 = .ok (.iconst 1, 1) := by decide +kernel
theorem dX6_turn_9 : decode cX6_turn 9 = .ok (.goto 19, 3) := by decide +kernel
theorem dX6_turn_12 : decode cX6_turn 12 = .ok (.iload_n 2, 1) := by decide +kernel
theorem dX6_turn_13 : decode cX6_turn 13 = .ok (.bipush (-99), 2) := by decide +kernel
theorem dX6_turn_15 : decode cX6_turn 15 = .ok (.bipush 99, 2) := by decide +kernel
theorem dX6_turn_17 : decode cX6_turn 17 = .ok (.invokestatic 26, 3) := by decide +kernel
theorem dX6_turn_20 : decode cX6_turn 20 = .ok (.ifCond .eq 7, 3) := by decide +kernel
theorem dX6_turn_23 : decode cX6_turn 23 = .ok (.iconst 0, 1) := by decide +kernel
theorem dX6_turn_24 : decode cX6_turn 24 = .ok (.goto 4, 3) := by decide +kernel
theorem dX6_turn_27 : decode cX6_turn 27 = .ok (.iconst 2, 1) := by decide +kernel
theorem dX6_turn_28 : decode cX6_turn 28 = .ok (.putfield 22, 3) := by decide +kernel
theorem dX6_turn_31 : decode cX6_turn 31 = .ok (.aload_n 0, 1) := by decide +kernel
theorem dX6_turn_32 : decode cX6_turn 32 = .ok (.getfield 22, 3) := by decide +kernel
theorem dX6_turn_35 : decode cX6_turn 35 = .ok (.ifCond .le 5, 3) := by decide +kernel
theorem dX6_turn_38 : decode cX6_turn 38 = .ok (.iconst 0, 1) := by decide +kernel
theorem dX6_turn_39 : decode cX6_turn 39 = .ok (.ireturn, 1) := by decide +kernel
theorem dX6_turn_40 : decode cX6_turn 40 = .ok (.aload_n 0, 1) := by decide +kernel
theorem dX6_turn_41 : decode cX6_turn 41 = .ok (.invokevirtual 100, 3) := by decide +kernel
theorem dX6_turn_44 : decode cX6_turn 44 = .ok (.aload_n 0, 1) := by decide +kernel
theorem dX6_turn_45 : decode cX6_turn 45 = .ok (.getfield 7, 3) := by decide +kernel
theorem dX6_turn_48 : decode cX6_turn 48 = .ok (.iconst 3, 1) := by decide +kernel
theorem dX6_turn_49 : decode cX6_turn 49 = .ok (.iload_n 1, 1) := by decide +kernel
theorem dX6_turn_50 : decode cX6_turn 50 = .ok (.iadd, 1) := by decide +kernel
theorem dX6_turn_51 : decode cX6_turn 51 = .ok (.iaload, 1) := by decide +kernel
theorem dX6_turn_52 : decode cX6_turn 52 = .ok (.istore_n 3, 1) := by decide +kernel
theorem dX6_turn_53 : decode cX6_turn 53 = .ok (.aload_n 0, 1) := by decide +kernel
theorem dX6_turn_54 : decode cX6_turn 54 = .ok (.getfield 7, 3) := by decide +kernel
theorem dX6_turn_57 : decode cX6_turn 57 = .ok (.bipush 6, 2) := by decide +kernel
theorem dX6_turn_59 : decode cX6_turn 59 = .ok (.iload_n 1, 1) := by decide +kernel
theorem dX6_turn_60 : decode cX6_turn 60 = .ok (.iadd, 1) := by decide +kernel
theorem dX6_turn_61 : decode cX6_turn 61 = .ok (.aload_n 0, 1) := by decide +kernel
theorem dX6_turn_62 : decode cX6_turn 62 = .ok (.getfield 7, 3) := by decide +kernel
theorem dX6_turn_65 : decode cX6_turn 65 = .ok (.bipush 6, 2) := by decide +kernel
theorem dX6_turn_67 : decode cX6_turn 67 = .ok (.iload_n 1, 1) := by decide +kernel
theorem dX6_turn_68 : decode cX6_turn 68 = .ok (.iadd, 1) := by decide +kernel
theorem dX6_turn_69 : decode cX6_turn 69 = .ok (.iaload, 1) := by decide +kernel
theorem dX6_turn_70 : decode cX6_turn 70 = .ok (.iload_n 2, 1) := by decide +kernel
theorem dX6_turn_71 : decode cX6_turn 71 = .ok (.iadd, 1) := by decide +kernel
theorem dX6_turn_72 : decode cX6_turn 72 = .ok (.bipush 100, 2) := by decide +kernel
theorem dX6_turn_74 : decode cX6_turn 74 = .ok (.iload_n 3, 1) := by decide +kernel
theorem dX6_turn_75 : decode cX6_turn 75 = .ok (.imul, 1) := by decide +kernel
theorem dX6_turn_76 : decode cX6_turn 76 = .ok (.iadd, 1) := by decide +kernel
theorem dX6_turn_77 : decode cX6_turn 77 = .ok (.iload_n 3, 1) := by decide +kernel
theorem dX6_turn_78 : decode cX6_turn 78 = .ok (.irem, 1) := by decide +kernel
theorem dX6_turn_79 : decode cX6_turn 79 = .ok (.iastore, 1) := by decide +kernel
theorem dX6_turn_80 : decode cX6_turn 80 = .ok (.aload_n 0, 1) := by decide +kernel
theorem dX6_turn_81 : decode cX6_turn 81 = .ok (.getfield 7, 3) := by decide +kernel
theorem dX6_turn_84 : decode cX6_turn 84 = .ok (.bipush 6, 2) := by decide +kernel
theorem dX6_turn_86 : decode cX6_turn 86 = .ok (.iload_n 1, 1) := by decide +kernel
theorem dX6_turn_87 : decode cX6_turn 87 = .ok (.iadd, 1) := by decide +kernel
theorem dX6_turn_88 : decode cX6_turn 88 = .ok (.iaload, 1) := by decide +kernel
theorem dX6_turn_89 : decode cX6_turn 89 = .ok (.ireturn, 1) := by decide +kernel
set_option maxRecDepth 20000 in
theorem ggX6_bent_X6_wireAt : GoodIn wsX6_bent wsX6_wireAt := goodIn_r _ [5, 6, 7, 8, 9, 10, 11, 12, 13, 14, 15, 16, 17, 18, 19, 20] (by decide +kernel) (by decide +kernel)
set_option maxRecDepth 20000 in
theorem gX6_bent_X6_wireAt : GoodIn wsX6_bent (wsV RX6 41 RX6 yX6_wireAt wsX6_wireAt) := goodIn_app (goodIn_of _ (by decide +kernel)) ggX6_bent_X6_wireAt
theorem dX6_bent_0 : decode cX6_bent 0 = .ok (.iconst 0, 1) := by decide +kernel
theorem dX6_bent_1 : decode cX6_bent 1 = .ok (.istore_n 3, 1) := by decide +kernel
theorem dX6_bent_2 : decode cX6_bent 2 = .ok (.iconst 0, 1) := by decide +kernel
theorem dX6_bent_3 : decode cX6_bent 3 = .ok (.istore 4, 2) := by decide +kernel
theorem dX6_bent_5 : decode cX6_bent 5 = .ok (.iload 4, 2) := by decide +kernel
theorem dX6_bent_7 : decode cX6_bent 7 = .ok (.bipush 6, 2) := by decide +kernel
theorem dX6_bent_9 : decode cX6_bent 9 = .ok (.if_icmp .ge 44, 3) := by decide +kernel
theorem dX6_bent_12 : decode cX6_bent 12 = .ok (.iconst 0, 1) := by decide +kernel
theorem dX6_bent_13 : decode cX6_bent 13 = .ok (.istore 5, 2) := by decide +kernel
theorem dX6_bent_15 : decode cX6_bent 15 = .ok (.iload 5, 2) := by decide +kernel
theorem dX6_bent_17 : decode cX6_bent 17 = .ok (.iload_n 2, 1) := by decide +kernel
theorem dX6_bent_18 : decode cX6_bent 18 = .ok (.if_icmp .ge 29, 3) := by decide +kernel
theorem dX6_bent_21 : decode cX6_bent 21 = .ok (.iload_n 3, 1) := by decide +kernel
theorem dX6_bent_22 : decode cX6_bent 22 = .ok (.aload_n 0, 1) := by decide +kernel
theorem dX6_bent_23 : decode cX6_bent 23 = .ok (.iload_n 1, 1) := by decide +kernel
theorem dX6_bent_24 : decode cX6_bent 24 = .ok (.iload 4, 2) := by decide +kernel
theorem dX6_bent_26 : decode cX6_bent 26 = .ok (.iload 5, 2) := by decide +kernel
theorem dX6_bent_28 : decode cX6_bent 28 = .ok (.invokevirtual 41, 3) := by decide +kernel
theorem dX6_bent_31 : decode cX6_bent 31 = .ok (.ifCond .ne 7, 3) := by decide +kernel
theorem dX6_bent_34 : decode cX6_bent 34 = .ok (.iconst 0, 1) := by decide +kernel
theorem dX6_bent_35 : decode cX6_bent 35 = .ok (.goto 4, 3) := by decide +kernel
theorem dX6_bent_38 : decode cX6_bent 38 = .ok (.iconst 1, 1) := by decide +kernel
theorem dX6_bent_39 : decode cX6_bent 39 = .ok (.iadd, 1) := by decide +kernel
theorem dX6_bent_40 : decode cX6_bent 40 = .ok (.istore_n 3, 1) := by decide +kernel
theorem dX6_bent_41 : decode cX6_bent 41 = .ok (.iinc 5 1, 3) := by decide +kernel
theorem dX6_bent_44 : decode cX6_bent 44 = .ok (.goto (-29), 3) := by decide +kernel
theorem dX6_bent_47 : decode cX6_bent 47 = .ok (.iinc 4 1, 3) := by decide +kernel
theorem dX6_bent_50 : decode cX6_bent 50 = .ok (.goto (-45), 3) := by decide +kernel
theorem dX6_bent_53 : decode cX6_bent 53 = .ok (.iload_n 3, 1) := by decide +kernel
theorem dX6_bent_54 : decode cX6_bent 54 = .ok (.ireturn, 1) := by decide +kernel
set_option maxRecDepth 20000 in
theorem ggX6_clear_X6_isRoll : GoodIn wsX6_clear wsX6_isRoll := goodIn_r _ [6, 7, 8, 5, 9] (by decide +kernel) (by decide +kernel)
set_option maxRecDepth 20000 in
theorem gX6_clear_X6_isRoll : GoodIn wsX6_clear (va_wsS RX6 96 yX6_isRoll wsX6_isRoll) := goodIn_app (goodIn_of _ (by decide +kernel)) ggX6_clear_X6_isRoll
set_option maxRecDepth 20000 in
theorem ggX6_clear_X6_save : GoodIn wsX6_clear wsX6_save := goodIn_r _ [13, 14, 15, 2, 24, 25, 26, 27, 28, 29, 30, 31, 32, 33, 34, 35, 36, 37] (by decide +kernel) (by decide +kernel)
set_option maxRecDepth 20000 in
theorem gX6_clear_X6_save : GoodIn wsX6_clear (wsV RX6 100 RX6 yX6_save wsX6_save) := goodIn_app (goodIn_of _ (by decide +kernel)) ggX6_clear_X6_save
set_option maxRecDepth 20000 in
theorem ggX6_clear_X6_bent : GoodIn wsX6_clear wsX6_bent := goodIn_r _ [19, 20, 21, 22, 5, 23, 2, 24, 25, 26, 27, 28, 29, 30, 31, 32, 33, 34, 35, 36, 37] (by decide +kernel) (by decide +kernel)
set_option maxRecDepth 20000 in
theorem gX6_clear_X6_bent : GoodIn wsX6_clear (wsV RX6 103 RX6 yX6_bent wsX6_bent) := goodIn_app (goodIn_of _ (by decide +kernel)) ggX6_clear_X6_bent
theorem dX6_clear_0 : decode cX6_clear 0 = .ok (.aload_n 0, 1) := by decide +kernel
theorem dX6_clear_1 : decode cX6_clear 1 = .ok (.iload_n 1, 1) := by decide +kernel
theorem dX6_clear_2 : decode cX6_clear 2 = .ok (.invokestatic 96, 3) := by decide +kernel
theorem dX6_clear_5 : decode cX6_clear 5 = .ok (.ifCond .eq 7, 3) := by decide +kernel
theorem dX6_clear_8 : decode cX6_clear 8 = .ok (.iconst 0, 1) := by decide +kernel
theorem dX6_clear_9 : decode cX6_clear 9 = .ok (.goto 4, 3) := by decide +kernel
theorem dX6_clear_12 : decode cX6_clear 12 = .ok (.iconst 1, 1) := by decide +kernel
theorem dX6_clear_13 : decode cX6_clear 13 = .ok (.putfield 22, 3) := by decide +kernel
theorem dX6_clear_16 : decode cX6_clear 16 = .ok (.aload_n 0, 1) := by decide +kernel
theorem dX6_clear_17 : decode cX6_clear 17 = .ok (.getfield 22, 3) := by decide +kernel
theorem dX6_clear_20 : decode cX6_clear 20 = .ok (.ifCond .le 5, 3) := by decide +kernel
theorem dX6_clear_23 : decode cX6_clear 23 = .ok (.iconst 0, 1) := by decide +kernel
theorem dX6_clear_24 : decode cX6_clear 24 = .ok (.ireturn, 1) := by decide +kernel
theorem dX6_clear_25 : decode cX6_clear 25 = .ok (.aload_n 0, 1) := by decide +kernel
theorem dX6_clear_26 : decode cX6_clear 26 = .ok (.invokevirtual 100, 3) := by decide +kernel
theorem dX6_clear_29 : decode cX6_clear 29 = .ok (.aload_n 0, 1) := by decide +kernel
theorem dX6_clear_30 : decode cX6_clear 30 = .ok (.iload_n 1, 1) := by decide +kernel
theorem dX6_clear_31 : decode cX6_clear 31 = .ok (.bipush 16, 2) := by decide +kernel
theorem dX6_clear_33 : decode cX6_clear 33 = .ok (.invokevirtual 103, 3) := by decide +kernel
theorem dX6_clear_36 : decode cX6_clear 36 = .ok (.istore_n 2, 1) := by decide +kernel
theorem dX6_clear_37 : decode cX6_clear 37 = .ok (.iconst 0, 1) := by decide +kernel
theorem dX6_clear_38 : decode cX6_clear 38 = .ok (.istore_n 3, 1) := by decide +kernel
theorem dX6_clear_39 : decode cX6_clear 39 = .ok (.iload_n 3, 1) := by decide +kernel
theorem dX6_clear_40 : decode cX6_clear 40 = .ok (.bipush 96, 2) := by decide +kernel
theorem dX6_clear_42 : decode cX6_clear 42 = .ok (.if_icmp .ge 24, 3) := by decide +kernel
theorem dX6_clear_45 : decode cX6_clear 45 = .ok (.aload_n 0, 1) := by decide +kernel
theorem dX6_clear_46 : decode cX6_clear 46 = .ok (.getfield 7, 3) := by decide +kernel
theorem dX6_clear_49 : decode cX6_clear 49 = .ok (.bipush 9, 2) := by decide +kernel
theorem dX6_clear_51 : decode cX6_clear 51 = .ok (.bipush 96, 2) := by decide +kernel
theorem dX6_clear_53 : decode cX6_clear 53 = .ok (.iload_n 1, 1) := by decide +kernel
theorem dX6_clear_54 : decode cX6_clear 54 = .ok (.imul, 1) := by decide +kernel
theorem dX6_clear_55 : decode cX6_clear 55 = .ok (.iadd, 1) := by decide +kernel
theorem dX6_clear_56 : decode cX6_clear 56 = .ok (.iload_n 3, 1) := by decide +kernel
theorem dX6_clear_57 : decode cX6_clear 57 = .ok (.iadd, 1) := by decide +kernel
theorem dX6_clear_58 : decode cX6_clear 58 = .ok (.iconst 0, 1) := by decide +kernel
theorem dX6_clear_59 : decode cX6_clear 59 = .ok (.iastore, 1) := by decide +kernel
theorem dX6_clear_60 : decode cX6_clear 60 = .ok (.iinc 3 1, 3) := by decide +kernel
theorem dX6_clear_63 : decode cX6_clear 63 = .ok (.goto (-24), 3) := by decide +kernel
theorem dX6_clear_66 : decode cX6_clear 66 = .ok (.iload_n 2, 1) := by decide +kernel
theorem dX6_clear_67 : decode cX6_clear 67 = .ok (.ireturn, 1) := by decide +kernel
set_option maxRecDepth 20000 in
theorem ggX6_areThere_X6_in : GoodIn wsX6_areThere wsX6_in := goodIn_r _ [4] (by decide +kernel) (by decide +kernel)
set_option maxRecDepth 20000 in
theorem gX6_areThere_X6_in : GoodIn wsX6_areThere (va_wsS RX6 26 yX6_in wsX6_in) := goodIn_app (goodIn_of _ (by decide +kernel)) ggX6_areThere_X6_in
theorem dX6_areThere_0 : decode cX6_areThere 0 = .ok (.iload_n 2, 1) := by decide +kernel
theorem dX6_areThere_1 : decode cX6_areThere 1 = .ok (.iconst 1, 1) := by decide +kernel
theorem dX6_areThere_2 : decode cX6_areThere 2 = .ok (.bipush 6, 2) := by decide +kernel
theorem dX6_areThere_4 : decode cX6_areThere 4 = .ok (.iload_n 0, 1) := by decide +kernel
theorem dX6_areThere_5 : decode cX6_areThere 5 = .ok (.isub, 1) := by decide +kernel
theorem dX6_areThere_6 : decode cX6_areThere 6 = .ok (.invokestatic 26, 3) := by decide +kernel
theorem dX6_areThere_9 : decode cX6_areThere 9 = .ok (.ifCond .eq 19, 3) := by decide +kernel
theorem dX6_areThere_12 : decode cX6_areThere 12 = .ok (.iload_n 3, 1) := by decide +kernel
theorem dX6_areThere_13 : decode cX6_areThere 13 = .ok (.iconst 1, 1) := by decide +kernel
theorem dX6_areThere_14 : decode cX6_areThere 14 = .ok (.bipush 12, 2) := by decide +kernel
theorem dX6_areThere_16 : decode cX6_areThere 16 = .ok (.iload_n 1, 1) := by decide +kernel
theorem dX6_areThere_17 : decode cX6_areThere 17 = .ok (.isub, 1) := by decide +kernel
theorem dX6_areThere_18 : decode cX6_areThere 18 = .ok (.invokestatic 26, 3) := by decide +kernel
theorem dX6_areThere_21 : decode cX6_areThere 21 = .ok (.ifCond .eq 7, 3) := by decide +kernel
theorem dX6_areThere_24 : decode cX6_areThere 24 = .ok (.iconst 1, 1) := by decide +kernel
theorem dX6_areThere_25 : decode cX6_areThere 25 = .ok (.goto 4, 3) := by decide +kernel
theorem dX6_areThere_28 : decode cX6_areThere 28 = .ok (.iconst 0, 1) := by decide +kernel
theorem dX6_areThere_29 : decode cX6_areThere 29 = .ok (.ireturn, 1) := by decide +kernel
set_option maxRecDepth 20000 in
theorem ggX6_ink_X6_isCell : GoodIn wsX6_ink wsX6_isCell := goodIn_r _ [6, 7, 8, 5, 9] (by decide +kernel) (by decide +kernel)
set_option maxRecDepth 20000 in
theorem gX6_ink_X6_isCell : GoodIn wsX6_ink (va_wsS RX6 106 yX6_isCell wsX6_isCell) := goodIn_app (goodIn_of _ (by decide +kernel)) ggX6_ink_X6_isCell
set_option maxRecDepth 20000 in
theorem ggX6_ink_X6_areThere : GoodIn wsX6_ink wsX6_areThere := goodIn_r _ [12, 7, 8, 5, 9] (by decide +kernel) (by decide +kernel)
set_option maxRecDepth 20000 in
theorem gX6_ink_X6_areThere : GoodIn wsX6_ink (va_wsS RX6 109 yX6_areThere wsX6_areThere) := goodIn_app (goodIn_of _ (by decide +kernel)) ggX6_ink_X6_areThere
set_option maxRecDepth 20000 in
theorem ggX6_ink_X6_in : GoodIn wsX6_ink wsX6_in := goodIn_r _ [9] (by decide +kernel) (by decide +kernel)
set_option maxRecDepth 20000 in
theorem gX6_ink_X6_in : GoodIn wsX6_ink (va_wsS RX6 26 yX6_in wsX6_in) := goodIn_app (goodIn_of _ (by decide +kernel)) ggX6_ink_X6_in
set_option maxRecDepth 20000 in
theorem ggX6_ink_X6_save : GoodIn wsX6_ink wsX6_save := goodIn_r _ [16, 17, 18, 2, 31, 32, 33, 34, 35, 36, 37, 38, 39, 40, 41, 42, 43, 44] (by decide +kernel) (by decide +kernel)
set_option maxRecDepth 20000 in
theorem gX6_ink_X6_save : GoodIn wsX6_ink (wsV RX6 100 RX6 yX6_save wsX6_save) := goodIn_app (goodIn_of _ (by decide +kernel)) ggX6_ink_X6_save
set_option maxRecDepth 20000 in
theorem ggX6_ink_X6_rectangle : GoodIn wsX6_ink wsX6_rectangle := goodIn_r _ [22, 23, 24, 25, 26, 31, 32, 33, 34, 35, 36, 37, 38, 39, 40, 41, 42, 43, 44] (by decide +kernel) (by decide +kernel)
set_option maxRecDepth 20000 in
theorem gX6_ink_X6_rectangle : GoodIn wsX6_ink (wsV RX6 66 RX6 yX6_rectangle wsX6_rectangle) := goodIn_app (goodIn_of _ (by decide +kernel)) ggX6_ink_X6_rectangle
set_option maxRecDepth 20000 in
theorem ggX6_ink_X6_isInside : GoodIn wsX6_ink wsX6_isInside := goodIn_r _ [30, 23, 25, 24, 26, 7, 8, 5, 9, 31, 32, 33, 34, 35, 36, 37, 38, 39, 40, 41, 42, 43, 44] (by decide +kernel) (by decide +kernel)
set_option maxRecDepth 20000 in
theorem gX6_ink_X6_isInside : GoodIn wsX6_ink (wsV RX6 74 RX6 yX6_isInside wsX6_isInside) := goodIn_app (goodIn_of _ (by decide +kernel)) ggX6_ink_X6_isInside
theorem dX6_ink_0 : decode cX6_ink 0 = .ok (.aload_n 0, 1) := by decide +kernel
theorem dX6_ink_1 : decode cX6_ink 1 = .ok (.iload_n 1, 1) := by decide +kernel
theorem dX6_ink_2 : decode cX6_ink 2 = .ok (.iload_n 2, 1) := by decide +kernel
theorem dX6_ink_3 : decode cX6_ink 3 = .ok (.invokestatic 106, 3) := by decide +kernel
theorem dX6_ink_6 : decode cX6_ink 6 = .ok (.ifCond .ne 7, 3) := by decide +kernel
theorem dX6_ink_9 : decode cX6_ink 9 = .ok (.iconst 1, 1) := by decide +kernel
theorem dX6_ink_10 : decode cX6_ink 10 = .ok (.goto 30, 3) := by decide +kernel
theorem dX6_ink_13 : decode cX6_ink 13 = .ok (.iload_n 1, 1) := by decide +kernel
theorem dX6_ink_14 : decode cX6_ink 14 = .ok (.iload_n 2, 1) := by decide +kernel
theorem dX6_ink_15 : decode cX6_ink 15 = .ok (.iload_n 3, 1) := by decide +kernel
theorem dX6_ink_16 : decode cX6_ink 16 = .ok (.iload 4, 2) := by decide +kernel
theorem dX6_ink_18 : decode cX6_ink 18 = .ok (.invokestatic 109, 3) := by decide +kernel
theorem dX6_ink_21 : decode cX6_ink 21 = .ok (.ifCond .eq 18, 3) := by decide +kernel
theorem dX6_ink_24 : decode cX6_ink 24 = .ok (.iload 5, 2) := by decide +kernel
theorem dX6_ink_26 : decode cX6_ink 26 = .ok (.iconst 0, 1) := by decide +kernel
theorem dX6_ink_27 : decode cX6_ink 27 = .ok (.bipush 9, 2) := by decide +kernel
theorem dX6_ink_29 : decode cX6_ink 29 = .ok (.invokestatic 26, 3) := by decide +kernel
theorem dX6_ink_32 : decode cX6_ink 32 = .ok (.ifCond .eq 7, 3) := by decide +kernel
theorem dX6_ink_35 : decode cX6_ink 35 = .ok (.iconst 0, 1) := by decide +kernel
theorem dX6_ink_36 : decode cX6_ink 36 = .ok (.goto 4, 3) := by decide +kernel
theorem dX6_ink_39 : decode cX6_ink 39 = .ok (.iconst 2, 1) := by decide +kernel
theorem dX6_ink_40 : decode cX6_ink 40 = .ok (.putfield 22, 3) := by decide +kernel
theorem dX6_ink_43 : decode cX6_ink 43 = .ok (.aload_n 0, 1) := by decide +kernel
theorem dX6_ink_44 : decode cX6_ink 44 = .ok (.getfield 22, 3) := by decide +kernel
theorem dX6_ink_47 : decode cX6_ink 47 = .ok (.ifCond .le 5, 3) := by decide +kernel
theorem dX6_ink_50 : decode cX6_ink 50 = .ok (.iconst 0, 1) := by decide +kernel
theorem dX6_ink_51 : decode cX6_ink 51 = .ok (.ireturn, 1) := by decide +kernel
theorem dX6_ink_52 : decode cX6_ink 52 = .ok (.aload_n 0, 1) := by decide +kernel
theorem dX6_ink_53 : decode cX6_ink 53 = .ok (.invokevirtual 100, 3) := by decide +kernel
theorem dX6_ink_56 : decode cX6_ink 56 = .ok (.iconst 0, 1) := by decide +kernel
theorem dX6_ink_57 : decode cX6_ink 57 = .ok (.istore 6, 2) := by decide +kernel
theorem dX6_ink_59 : decode cX6_ink 59 = .ok (.aload_n 0, 1) := by decide +kernel
theorem dX6_ink_60 : decode cX6_ink 60 = .ok (.iload_n 1, 1) := by decide +kernel
theorem dX6_ink_61 : decode cX6_ink 61 = .ok (.iload_n 2, 1) := by decide +kernel
theorem dX6_ink_62 : decode cX6_ink 62 = .ok (.iload_n 3, 1) := by decide +kernel
theorem dX6_ink_63 : decode cX6_ink 63 = .ok (.iload 4, 2) := by decide +kernel
theorem dX6_ink_65 : decode cX6_ink 65 = .ok (.invokevirtual 66, 3) := by decide +kernel
theorem dX6_ink_68 : decode cX6_ink 68 = .ok (.iconst 0, 1) := by decide +kernel
theorem dX6_ink_69 : decode cX6_ink 69 = .ok (.istore 7, 2) := by decide +kernel
theorem dX6_ink_71 : decode cX6_ink 71 = .ok (.iload 7, 2) := by decide +kernel
theorem dX6_ink_73 : decode cX6_ink 73 = .ok (.bipush 72, 2) := by decide +kernel
theorem dX6_ink_75 : decode cX6_ink 75 = .ok (.if_icmp .ge 65, 3) := by decide +kernel
theorem dX6_ink_78 : decode cX6_ink 78 = .ok (.aload_n 0, 1) := by decide +kernel
theorem dX6_ink_79 : decode cX6_ink 79 = .ok (.iload 7, 2) := by decide +kernel
theorem dX6_ink_81 : decode cX6_ink 81 = .ok (.bipush 12, 2) := by decide +kernel
theorem dX6_ink_83 : decode cX6_ink 83 = .ok (.idiv, 1) := by decide +kernel
theorem dX6_ink_84 : decode cX6_ink 84 = .ok (.iload 7, 2) := by decide +kernel
theorem dX6_ink_86 : decode cX6_ink 86 = .ok (.bipush 12, 2) := by decide +kernel
theorem dX6_ink_88 : decode cX6_ink 88 = .ok (.irem, 1) := by decide +kernel
theorem dX6_ink_89 : decode cX6_ink 89 = .ok (.invokevirtual 74, 3) := by decide +kernel
theorem dX6_ink_92 : decode cX6_ink 92 = .ok (.ifCond .eq 42, 3) := by decide +kernel
theorem dX6_ink_95 : decode cX6_ink 95 = .ok (.iload 6, 2) := by decide +kernel
theorem dX6_ink_97 : decode cX6_ink 97 = .ok (.aload_n 0, 1) := by decide +kernel
theorem dX6_ink_98 : decode cX6_ink 98 = .ok (.getfield 7, 3) := by decide +kernel
theorem dX6_ink_101 : decode cX6_ink 101 = .ok (.sipush 297, 3) := by decide +kernel
theorem dX6_ink_104 : decode cX6_ink 104 = .ok (.iload 7, 2) := by decide +kernel
theorem dX6_ink_106 : decode cX6_ink 106 = .ok (.iadd, 1) := by decide +kernel
theorem dX6_ink_107 : decode cX6_ink 107 = .ok (.iaload, 1) := by decide +kernel
theorem dX6_ink_108 : decode cX6_ink 108 = .ok (.iload 5, 2) := by decide +kernel
theorem dX6_ink_110 : decode cX6_ink 110 = .ok (.if_icmp .ne 7, 3) := by decide +kernel
theorem dX6_ink_113 : decode cX6_ink 113 = .ok (.iconst 0, 1) := by decide +kernel
theorem dX6_ink_114 : decode cX6_ink 114 = .ok (.goto 4, 3) := by decide +kernel
theorem dX6_ink_117 : decode cX6_ink 117 = .ok (.iconst 1, 1) := by decide +kernel
theorem dX6_ink_118 : decode cX6_ink 118 = .ok (.iadd, 1) := by decide +kernel
theorem dX6_ink_119 : decode cX6_ink 119 = .ok (.istore 6, 2) := by decide +kernel
theorem dX6_ink_121 : decode cX6_ink 121 = .ok (.aload_n 0, 1) := by decide +kernel
theorem dX6_ink_122 : decode cX6_ink 122 = .ok (.getfield 7, 3) := by decide +kernel
theorem dX6_ink_125 : decode cX6_ink 125 = .ok (.sipush 297, 3) := by decide +kernel
theorem dX6_ink_128 : decode cX6_ink 128 = .ok (.iload 7, 2) := by decide +kernel
theorem dX6_ink_130 : decode cX6_ink 130 = .ok (.iadd, 1) := by decide +kernel
theorem dX6_ink_131 : decode cX6_ink 131 = .ok (.iload 5, 2) := by decide +kernel
theorem dX6_ink_133 : decode cX6_ink 133 = .ok (.iastore, 1) := by decide +kernel
theorem dX6_ink_134 : decode cX6_ink 134 = .ok (.iinc 7 1, 3) := by decide +kernel
theorem dX6_ink_137 : decode cX6_ink 137 = .ok (.goto (-66), 3) := by decide +kernel
theorem dX6_ink_140 : decode cX6_ink 140 = .ok (.iload 6, 2) := by decide +kernel
theorem dX6_ink_142 : decode cX6_ink 142 = .ok (.ireturn, 1) := by decide +kernel
set_option maxRecDepth 20000 in
theorem ggX6_figure_X6_isFigure : GoodIn wsX6_figure wsX6_isFigure := goodIn_r _ [6, 7, 8, 5, 9] (by decide +kernel) (by decide +kernel)
set_option maxRecDepth 20000 in
theorem gX6_figure_X6_isFigure : GoodIn wsX6_figure (va_wsS RX6 113 yX6_isFigure wsX6_isFigure) := goodIn_app (goodIn_of _ (by decide +kernel)) ggX6_figure_X6_isFigure
set_option maxRecDepth 20000 in
theorem ggX6_figure_X6_isCell : GoodIn wsX6_figure wsX6_isCell := goodIn_r _ [12, 7, 8, 5, 9] (by decide +kernel) (by decide +kernel)
set_option maxRecDepth 20000 in
theorem gX6_figure_X6_isCell : GoodIn wsX6_figure (va_wsS RX6 106 yX6_isCell wsX6_isCell) := goodIn_app (goodIn_of _ (by decide +kernel)) ggX6_figure_X6_isCell
set_option maxRecDepth 20000 in
theorem ggX6_figure_X6_areThere : GoodIn wsX6_figure wsX6_areThere := goodIn_r _ [15, 7, 8, 5, 9] (by decide +kernel) (by decide +kernel)
set_option maxRecDepth 20000 in
theorem gX6_figure_X6_areThere : GoodIn wsX6_figure (va_wsS RX6 109 yX6_areThere wsX6_areThere) := goodIn_app (goodIn_of _ (by decide +kernel)) ggX6_figure_X6_areThere
set_option maxRecDepth 20000 in
theorem ggX6_figure_X6_save : GoodIn wsX6_figure wsX6_save := goodIn_r _ [19, 20, 21, 2, 50, 51, 52, 53, 54, 55, 56, 57, 58, 59, 60, 61, 62, 63] (by decide +kernel) (by decide +kernel)
set_option maxRecDepth 20000 in
theorem gX6_figure_X6_save : GoodIn wsX6_figure (wsV RX6 100 RX6 yX6_save wsX6_save) := goodIn_app (goodIn_of _ (by decide +kernel)) ggX6_figure_X6_save
set_option maxRecDepth 20000 in
theorem ggX6_figure_X6_take : GoodIn wsX6_figure wsX6_take := goodIn_r _ [25, 26, 27, 28, 5, 29, 2, 30, 31, 32, 33, 34, 35, 36, 37, 50, 51, 52, 53, 54, 55, 56, 57, 58, 59, 60, 61, 62, 63] (by decide +kernel) (by decide +kernel)
set_option maxRecDepth 20000 in
theorem gX6_figure_X6_take : GoodIn wsX6_figure (wsV RX6 116 RX6 yX6_take wsX6_take) := goodIn_app (goodIn_of _ (by decide +kernel)) ggX6_figure_X6_take
set_option maxRecDepth 20000 in
theorem ggX6_figure_X6_frame : GoodIn wsX6_figure wsX6_frame := goodIn_r _ [41, 42, 43, 44, 5, 45, 34, 36, 35, 37, 7, 8, 9, 46, 47, 48, 49, 50, 51, 52, 53, 54, 55, 56, 57, 58, 59, 60, 61, 62, 63] (by decide +kernel) (by decide +kernel)
set_option maxRecDepth 20000 in
theorem gX6_figure_X6_frame : GoodIn wsX6_figure (wsV RX6 80 RX6 yX6_frame wsX6_frame) := goodIn_app (goodIn_of _ (by decide +kernel)) ggX6_figure_X6_frame
theorem dX6_figure_0 : decode cX6_figure 0 = .ok (.aload_n 0, 1) := by decide +kernel
theorem dX6_figure_1 : decode cX6_figure 1 = .ok (.iload_n 1, 1) := by decide +kernel
theorem dX6_figure_2 : decode cX6_figure 2 = .ok (.invokestatic 113, 3) := by decide +kernel
theorem dX6_figure_5 : decode cX6_figure 5 = .ok (.ifCond .eq 11, 3) := by decide +kernel
theorem dX6_figure_8 : decode cX6_figure 8 = .ok (.iload_n 2, 1) := by decide +kernel
theorem dX6_figure_9 : decode cX6_figure 9 = .ok (.iload_n 3, 1) := by decide +kernel
theorem dX6_figure_10 : decode cX6_figure 10 = .ok (.invokestatic 106, 3) := by decide +kernel
theorem dX6_figure_13 : decode cX6_figure 13 = .ok (.ifCond .ne 7, 3) := by decide +kernel
theorem dX6_figure_16 : decode cX6_figure 16 = .ok (.iconst 1, 1) := by decide +kernel
theorem dX6_figure_17 : decode cX6_figure 17 = .ok (.goto 20, 3) := by decide +kernel
theorem dX6_figure_20 : decode cX6_figure 20 = .ok (.iload_n 2, 1) := by decide +kernel
theorem dX6_figure_21 : decode cX6_figure 21 = .ok (.iload_n 3, 1) := by decide +kernel
theorem dX6_figure_22 : decode cX6_figure 22 = .ok (.iload 4, 2) := by decide +kernel
theorem dX6_figure_24 : decode cX6_figure 24 = .ok (.iload 5, 2) := by decide +kernel
theorem dX6_figure_26 : decode cX6_figure 26 = .ok (.invokestatic 109, 3) := by decide +kernel
theorem dX6_figure_29 : decode cX6_figure 29 = .ok (.ifCond .eq 7, 3) := by decide +kernel
theorem dX6_figure_32 : decode cX6_figure 32 = .ok (.iconst 0, 1) := by decide +kernel
theorem dX6_figure_33 : decode cX6_figure 33 = .ok (.goto 4, 3) := by decide +kernel
theorem dX6_figure_36 : decode cX6_figure 36 = .ok (.iconst 2, 1) := by decide +kernel
theorem dX6_figure_37 : decode cX6_figure 37 = .ok (.putfield 22, 3) := by decide +kernel
theorem dX6_figure_40 : decode cX6_figure 40 = .ok (.aload_n 0, 1) := by decide +kernel
theorem dX6_figure_41 : decode cX6_figure 41 = .ok (.getfield 22, 3) := by decide +kernel
theorem dX6_figure_44 : decode cX6_figure 44 = .ok (.ifCond .le 5, 3) := by decide +kernel
theorem dX6_figure_47 : decode cX6_figure 47 = .ok (.iconst 0, 1) := by decide +kernel
theorem dX6_figure_48 : decode cX6_figure 48 = .ok (.ireturn, 1) := by decide +kernel
theorem dX6_figure_49 : decode cX6_figure 49 = .ok (.aload_n 0, 1) := by decide +kernel
theorem dX6_figure_50 : decode cX6_figure 50 = .ok (.invokevirtual 100, 3) := by decide +kernel
theorem dX6_figure_53 : decode cX6_figure 53 = .ok (.sipush 369, 3) := by decide +kernel
theorem dX6_figure_56 : decode cX6_figure 56 = .ok (.iconst 5, 1) := by decide +kernel
theorem dX6_figure_57 : decode cX6_figure 57 = .ok (.iload_n 1, 1) := by decide +kernel
theorem dX6_figure_58 : decode cX6_figure 58 = .ok (.imul, 1) := by decide +kernel
theorem dX6_figure_59 : decode cX6_figure 59 = .ok (.iadd, 1) := by decide +kernel
theorem dX6_figure_60 : decode cX6_figure 60 = .ok (.istore 6, 2) := by decide +kernel
theorem dX6_figure_62 : decode cX6_figure 62 = .ok (.aload_n 0, 1) := by decide +kernel
theorem dX6_figure_63 : decode cX6_figure 63 = .ok (.getfield 7, 3) := by decide +kernel
theorem dX6_figure_66 : decode cX6_figure 66 = .ok (.iload 6, 2) := by decide +kernel
theorem dX6_figure_68 : decode cX6_figure 68 = .ok (.iconst 1, 1) := by decide +kernel
theorem dX6_figure_69 : decode cX6_figure 69 = .ok (.iastore, 1) := by decide +kernel
theorem dX6_figure_70 : decode cX6_figure 70 = .ok (.aload_n 0, 1) := by decide +kernel
theorem dX6_figure_71 : decode cX6_figure 71 = .ok (.getfield 7, 3) := by decide +kernel
theorem dX6_figure_74 : decode cX6_figure 74 = .ok (.iload 6, 2) := by decide +kernel
theorem dX6_figure_76 : decode cX6_figure 76 = .ok (.iconst 1, 1) := by decide +kernel
theorem dX6_figure_77 : decode cX6_figure 77 = .ok (.iadd, 1) := by decide +kernel
theorem dX6_figure_78 : decode cX6_figure 78 = .ok (.iload_n 2, 1) := by decide +kernel
theorem dX6_figure_79 : decode cX6_figure 79 = .ok (.iastore, 1) := by decide +kernel
theorem dX6_figure_80 : decode cX6_figure 80 = .ok (.aload_n 0, 1) := by decide +kernel
theorem dX6_figure_81 : decode cX6_figure 81 = .ok (.getfield 7, 3) := by decide +kernel
theorem dX6_figure_84 : decode cX6_figure 84 = .ok (.iload 6, 2) := by decide +kernel
theorem dX6_figure_86 : decode cX6_figure 86 = .ok (.iconst 2, 1) := by decide +kernel
theorem dX6_figure_87 : decode cX6_figure 87 = .ok (.iadd, 1) := by decide +kernel
theorem dX6_figure_88 : decode cX6_figure 88 = .ok (.iload_n 3, 1) := by decide +kernel
theorem dX6_figure_89 : decode cX6_figure 89 = .ok (.iastore, 1) := by decide +kernel
theorem dX6_figure_90 : decode cX6_figure 90 = .ok (.aload_n 0, 1) := by decide +kernel
theorem dX6_figure_91 : decode cX6_figure 91 = .ok (.getfield 7, 3) := by decide +kernel
theorem dX6_figure_94 : decode cX6_figure 94 = .ok (.iload 6, 2) := by decide +kernel
theorem dX6_figure_96 : decode cX6_figure 96 = .ok (.iconst 3, 1) := by decide +kernel
theorem dX6_figure_97 : decode cX6_figure 97 = .ok (.iadd, 1) := by decide +kernel
theorem dX6_figure_98 : decode cX6_figure 98 = .ok (.iload 4, 2) := by decide +kernel
theorem dX6_figure_100 : decode cX6_figure 100 = .ok (.iastore, 1) := by decide +kernel
theorem dX6_figure_101 : decode cX6_figure 101 = .ok (.aload_n 0, 1) := by decide +kernel
theorem dX6_figure_102 : decode cX6_figure 102 = .ok (.getfield 7, 3) := by decide +kernel
theorem dX6_figure_105 : decode cX6_figure 105 = .ok (.iload 6, 2) := by decide +kernel
theorem dX6_figure_107 : decode cX6_figure 107 = .ok (.iconst 4, 1) := by decide +kernel
theorem dX6_figure_108 : decode cX6_figure 108 = .ok (.iadd, 1) := by decide +kernel
theorem dX6_figure_109 : decode cX6_figure 109 = .ok (.iload 5, 2) := by decide +kernel
theorem dX6_figure_111 : decode cX6_figure 111 = .ok (.iastore, 1) := by decide +kernel
theorem dX6_figure_112 : decode cX6_figure 112 = .ok (.aload_n 0, 1) := by decide +kernel
theorem dX6_figure_113 : decode cX6_figure 113 = .ok (.iload_n 1, 1) := by decide +kernel
theorem dX6_figure_114 : decode cX6_figure 114 = .ok (.invokevirtual 116, 3) := by decide +kernel
theorem dX6_figure_117 : decode cX6_figure 117 = .ok (.aload_n 0, 1) := by decide +kernel
theorem dX6_figure_118 : decode cX6_figure 118 = .ok (.invokevirtual 80, 3) := by decide +kernel
theorem dX6_figure_121 : decode cX6_figure 121 = .ok (.ireturn, 1) := by decide +kernel
set_option maxRecDepth 20000 in
theorem ggX6_drop_X6_isFigure : GoodIn wsX6_drop wsX6_isFigure := goodIn_r _ [6, 7, 8, 5, 9] (by decide +kernel) (by decide +kernel)
set_option maxRecDepth 20000 in
theorem gX6_drop_X6_isFigure : GoodIn wsX6_drop (va_wsS RX6 113 yX6_isFigure wsX6_isFigure) := goodIn_app (goodIn_of _ (by decide +kernel)) ggX6_drop_X6_isFigure
set_option maxRecDepth 20000 in
theorem ggX6_drop_X6_save : GoodIn wsX6_drop wsX6_save := goodIn_r _ [13, 14, 15, 2, 20, 21, 22, 23, 24, 25, 26, 27, 28, 29, 30, 31, 32, 33] (by decide +kernel) (by decide +kernel)
set_option maxRecDepth 20000 in
theorem gX6_drop_X6_save : GoodIn wsX6_drop (wsV RX6 100 RX6 yX6_save wsX6_save) := goodIn_app (goodIn_of _ (by decide +kernel)) ggX6_drop_X6_save
set_option maxRecDepth 20000 in
theorem ggX6_drop_X6_of : GoodIn wsX6_drop wsX6_of := goodIn_r _ [19, 2, 20, 21, 22, 23, 24, 25, 26, 27, 28, 29, 30, 31, 32, 33] (by decide +kernel) (by decide +kernel)
set_option maxRecDepth 20000 in
theorem gX6_drop_X6_of : GoodIn wsX6_drop (wsV RX6 30 RX6 yX6_of wsX6_of) := goodIn_app (goodIn_of _ (by decide +kernel)) ggX6_drop_X6_of
theorem dX6_drop_0 : decode cX6_drop 0 = .ok (.aload_n 0, 1) := by decide +kernel
theorem dX6_drop_1 : decode cX6_drop 1 = .ok (.iload_n 1, 1) := by decide +kernel
theorem dX6_drop_2 : decode cX6_drop 2 = .ok (.invokestatic 113, 3) := by decide +kernel
theorem dX6_drop_5 : decode cX6_drop 5 = .ok (.ifCond .eq 7, 3) := by decide +kernel
theorem dX6_drop_8 : decode cX6_drop 8 = .ok (.iconst 0, 1) := by decide +kernel
theorem dX6_drop_9 : decode cX6_drop 9 = .ok (.goto 4, 3) := by decide +kernel
theorem dX6_drop_12 : decode cX6_drop 12 = .ok (.iconst 1, 1) := by decide +kernel
theorem dX6_drop_13 : decode cX6_drop 13 = .ok (.putfield 22, 3) := by decide +kernel
theorem dX6_drop_16 : decode cX6_drop 16 = .ok (.aload_n 0, 1) := by decide +kernel
theorem dX6_drop_17 : decode cX6_drop 17 = .ok (.getfield 22, 3) := by decide +kernel
theorem dX6_drop_20 : decode cX6_drop 20 = .ok (.ifCond .le 5, 3) := by decide +kernel
theorem dX6_drop_23 : decode cX6_drop 23 = .ok (.iconst 0, 1) := by decide +kernel
theorem dX6_drop_24 : decode cX6_drop 24 = .ok (.ireturn, 1) := by decide +kernel
theorem dX6_drop_25 : decode cX6_drop 25 = .ok (.aload_n 0, 1) := by decide +kernel
theorem dX6_drop_26 : decode cX6_drop 26 = .ok (.invokevirtual 100, 3) := by decide +kernel
theorem dX6_drop_29 : decode cX6_drop 29 = .ok (.aload_n 0, 1) := by decide +kernel
theorem dX6_drop_30 : decode cX6_drop 30 = .ok (.iload_n 1, 1) := by decide +kernel
theorem dX6_drop_31 : decode cX6_drop 31 = .ok (.iconst 0, 1) := by decide +kernel
theorem dX6_drop_32 : decode cX6_drop 32 = .ok (.invokevirtual 30, 3) := by decide +kernel
theorem dX6_drop_35 : decode cX6_drop 35 = .ok (.istore_n 2, 1) := by decide +kernel
theorem dX6_drop_36 : decode cX6_drop 36 = .ok (.iconst 0, 1) := by decide +kernel
theorem dX6_drop_37 : decode cX6_drop 37 = .ok (.istore_n 3, 1) := by decide +kernel
theorem dX6_drop_38 : decode cX6_drop 38 = .ok (.iload_n 3, 1) := by decide +kernel
theorem dX6_drop_39 : decode cX6_drop 39 = .ok (.iconst 5, 1) := by decide +kernel
theorem dX6_drop_40 : decode cX6_drop 40 = .ok (.if_icmp .ge 24, 3) := by decide +kernel
theorem dX6_drop_43 : decode cX6_drop 43 = .ok (.aload_n 0, 1) := by decide +kernel
theorem dX6_drop_44 : decode cX6_drop 44 = .ok (.getfield 7, 3) := by decide +kernel
theorem dX6_drop_47 : decode cX6_drop 47 = .ok (.sipush 369, 3) := by decide +kernel
theorem dX6_drop_50 : decode cX6_drop 50 = .ok (.iconst 5, 1) := by decide +kernel
theorem dX6_drop_51 : decode cX6_drop 51 = .ok (.iload_n 1, 1) := by decide +kernel
theorem dX6_drop_52 : decode cX6_drop 52 = .ok (.imul, 1) := by decide +kernel
theorem dX6_drop_53 : decode cX6_drop 53 = .ok (.iadd, 1) := by decide +kernel
theorem dX6_drop_54 : decode cX6_drop 54 = .ok (.iload_n 3, 1) := by decide +kernel
theorem dX6_drop_55 : decode cX6_drop 55 = .ok (.iadd, 1) := by decide +kernel
theorem dX6_drop_56 : decode cX6_drop 56 = .ok (.iconst 0, 1) := by decide +kernel
theorem dX6_drop_57 : decode cX6_drop 57 = .ok (.iastore, 1) := by decide +kernel
theorem dX6_drop_58 : decode cX6_drop 58 = .ok (.iinc 3 1, 3) := by decide +kernel
theorem dX6_drop_61 : decode cX6_drop 61 = .ok (.goto (-23), 3) := by decide +kernel
theorem dX6_drop_64 : decode cX6_drop 64 = .ok (.iload_n 2, 1) := by decide +kernel
theorem dX6_drop_65 : decode cX6_drop 65 = .ok (.ireturn, 1) := by decide +kernel
theorem dX6_leastOf_0 : decode cX6_leastOf 0 = .ok (.iload_n 0, 1) := by decide +kernel
theorem dX6_leastOf_1 : decode cX6_leastOf 1 = .ok (.ifCond .ne 7, 3) := by decide +kernel
theorem dX6_leastOf_4 : decode cX6_leastOf 4 = .ok (.iconst 0, 1) := by decide +kernel
theorem dX6_leastOf_5 : decode cX6_leastOf 5 = .ok (.goto 14, 3) := by decide +kernel
theorem dX6_leastOf_8 : decode cX6_leastOf 8 = .ok (.iload_n 0, 1) := by decide +kernel
theorem dX6_leastOf_9 : decode cX6_leastOf 9 = .ok (.iconst 1, 1) := by decide +kernel
theorem dX6_leastOf_10 : decode cX6_leastOf 10 = .ok (.if_icmp .ne 8, 3) := by decide +kernel
theorem dX6_leastOf_13 : decode cX6_leastOf 13 = .ok (.bipush 12, 2) := by decide +kernel
theorem dX6_leastOf_15 : decode cX6_leastOf 15 = .ok (.goto 4, 3) := by decide +kernel
theorem dX6_leastOf_18 : decode cX6_leastOf 18 = .ok (.iconst 1, 1) := by decide +kernel
theorem dX6_leastOf_19 : decode cX6_leastOf 19 = .ok (.ireturn, 1) := by decide +kernel
theorem dX6_mostOf_0 : decode cX6_mostOf 0 = .ok (.iload_n 0, 1) := by decide +kernel
theorem dX6_mostOf_1 : decode cX6_mostOf 1 = .ok (.ifCond .ne 8, 3) := by decide +kernel
theorem dX6_mostOf_4 : decode cX6_mostOf 4 = .ok (.bipush 99, 2) := by decide +kernel
theorem dX6_mostOf_6 : decode cX6_mostOf 6 = .ok (.goto 15, 3) := by decide +kernel
theorem dX6_mostOf_9 : decode cX6_mostOf 9 = .ok (.iload_n 0, 1) := by decide +kernel
theorem dX6_mostOf_10 : decode cX6_mostOf 10 = .ok (.iconst 1, 1) := by decide +kernel
theorem dX6_mostOf_11 : decode cX6_mostOf 11 = .ok (.if_icmp .ne 8, 3) := by decide +kernel
theorem dX6_mostOf_14 : decode cX6_mostOf 14 = .ok (.bipush 30, 2) := by decide +kernel
theorem dX6_mostOf_16 : decode cX6_mostOf 16 = .ok (.goto 5, 3) := by decide +kernel
theorem dX6_mostOf_19 : decode cX6_mostOf 19 = .ok (.bipush 9, 2) := by decide +kernel
theorem dX6_mostOf_21 : decode cX6_mostOf 21 = .ok (.ireturn, 1) := by decide +kernel
set_option maxRecDepth 20000 in
theorem ggX6_set_X6_in : GoodIn wsX6_set wsX6_in := goodIn_r _ [6] (by decide +kernel) (by decide +kernel)
set_option maxRecDepth 20000 in
theorem gX6_set_X6_in : GoodIn wsX6_set (va_wsS RX6 26 yX6_in wsX6_in) := goodIn_app (goodIn_of _ (by decide +kernel)) ggX6_set_X6_in
set_option maxRecDepth 20000 in
theorem ggX6_set_X6_leastOf : GoodIn wsX6_set wsX6_leastOf := goodIn_r _ [9] (by decide +kernel) (by decide +kernel)
set_option maxRecDepth 20000 in
theorem gX6_set_X6_leastOf : GoodIn wsX6_set (va_wsS RX6 120 yX6_leastOf wsX6_leastOf) := goodIn_app (goodIn_of _ (by decide +kernel)) ggX6_set_X6_leastOf
set_option maxRecDepth 20000 in
theorem ggX6_set_X6_mostOf : GoodIn wsX6_set wsX6_mostOf := goodIn_r _ [12] (by decide +kernel) (by decide +kernel)
set_option maxRecDepth 20000 in
theorem gX6_set_X6_mostOf : GoodIn wsX6_set (va_wsS RX6 123 yX6_mostOf wsX6_mostOf) := goodIn_app (goodIn_of _ (by decide +kernel)) ggX6_set_X6_mostOf
set_option maxRecDepth 20000 in
theorem ggX6_set_X6_save : GoodIn wsX6_set wsX6_save := goodIn_r _ [16, 17, 18, 2, 19, 20, 21, 22, 23, 24, 25, 26, 27, 28, 29, 30, 31, 32] (by decide +kernel) (by decide +kernel)
set_option maxRecDepth 20000 in
theorem gX6_set_X6_save : GoodIn wsX6_set (wsV RX6 100 RX6 yX6_save wsX6_save) := goodIn_app (goodIn_of _ (by decide +kernel)) ggX6_set_X6_save
theorem dX6_set_0 : decode cX6_set 0 = .ok (.aload_n 0, 1) := by decide +kernel
theorem dX6_set_1 : decode cX6_set 1 = .ok (.iload_n 1, 1) := by decide +kernel
theorem dX6_set_2 : decode cX6_set 2 = .ok (.iconst 0, 1) := by decide +kernel
theorem dX6_set_3 : decode cX6_set 3 = .ok (.iconst 2, 1) := by decide +kernel
theorem dX6_set_4 : decode cX6_set 4 = .ok (.invokestatic 26, 3) := by decide +kernel
theorem dX6_set_7 : decode cX6_set 7 = .ok (.ifCond .ne 7, 3) := by decide +kernel
theorem dX6_set_10 : decode cX6_set 10 = .ok (.iconst 1, 1) := by decide +kernel
theorem dX6_set_11 : decode cX6_set 11 = .ok (.goto 23, 3) := by decide +kernel
theorem dX6_set_14 : decode cX6_set 14 = .ok (.iload_n 2, 1) := by decide +kernel
theorem dX6_set_15 : decode cX6_set 15 = .ok (.iload_n 1, 1) := by decide +kernel
theorem dX6_set_16 : decode cX6_set 16 = .ok (.invokestatic 120, 3) := by decide +kernel
theorem dX6_set_19 : decode cX6_set 19 = .ok (.iload_n 1, 1) := by decide +kernel
theorem dX6_set_20 : decode cX6_set 20 = .ok (.invokestatic 123, 3) := by decide +kernel
theorem dX6_set_23 : decode cX6_set 23 = .ok (.invokestatic 26, 3) := by decide +kernel
theorem dX6_set_26 : decode cX6_set 26 = .ok (.ifCond .eq 7, 3) := by decide +kernel
theorem dX6_set_29 : decode cX6_set 29 = .ok (.iconst 0, 1) := by decide +kernel
theorem dX6_set_30 : decode cX6_set 30 = .ok (.goto 4, 3) := by decide +kernel
theorem dX6_set_33 : decode cX6_set 33 = .ok (.iconst 2, 1) := by decide +kernel
theorem dX6_set_34 : decode cX6_set 34 = .ok (.putfield 22, 3) := by decide +kernel
theorem dX6_set_37 : decode cX6_set 37 = .ok (.aload_n 0, 1) := by decide +kernel
theorem dX6_set_38 : decode cX6_set 38 = .ok (.getfield 22, 3) := by decide +kernel
theorem dX6_set_41 : decode cX6_set 41 = .ok (.ifCond .le 5, 3) := by decide +kernel
theorem dX6_set_44 : decode cX6_set 44 = .ok (.iconst 0, 1) := by decide +kernel
theorem dX6_set_45 : decode cX6_set 45 = .ok (.ireturn, 1) := by decide +kernel
theorem dX6_set_46 : decode cX6_set 46 = .ok (.aload_n 0, 1) := by decide +kernel
theorem dX6_set_47 : decode cX6_set 47 = .ok (.invokevirtual 100, 3) := by decide +kernel
theorem dX6_set_50 : decode cX6_set 50 = .ok (.aload_n 0, 1) := by decide +kernel
theorem dX6_set_51 : decode cX6_set 51 = .ok (.getfield 7, 3) := by decide +kernel
theorem dX6_set_54 : decode cX6_set 54 = .ok (.iconst 0, 1) := by decide +kernel
theorem dX6_set_55 : decode cX6_set 55 = .ok (.iload_n 1, 1) := by decide +kernel
theorem dX6_set_56 : decode cX6_set 56 = .ok (.iadd, 1) := by decide +kernel
theorem dX6_set_57 : decode cX6_set 57 = .ok (.iaload, 1) := by decide +kernel
theorem dX6_set_58 : decode cX6_set 58 = .ok (.istore_n 3, 1) := by decide +kernel
theorem dX6_set_59 : decode cX6_set 59 = .ok (.aload_n 0, 1) := by decide +kernel
theorem dX6_set_60 : decode cX6_set 60 = .ok (.getfield 7, 3) := by decide +kernel
theorem dX6_set_63 : decode cX6_set 63 = .ok (.iconst 0, 1) := by decide +kernel
theorem dX6_set_64 : decode cX6_set 64 = .ok (.iload_n 1, 1) := by decide +kernel
theorem dX6_set_65 : decode cX6_set 65 = .ok (.iadd, 1) := by decide +kernel
theorem dX6_set_66 : decode cX6_set 66 = .ok (.iload_n 2, 1) := by decide +kernel
theorem dX6_set_67 : decode cX6_set 67 = .ok (.iastore, 1) := by decide +kernel
theorem dX6_set_68 : decode cX6_set 68 = .ok (.iload_n 3, 1) := by decide +kernel
theorem dX6_set_69 : decode cX6_set 69 = .ok (.ireturn, 1) := by decide +kernel
set_option maxRecDepth 20000 in
theorem ggX6_append_X6_in : GoodIn wsX6_append wsX6_in := goodIn_r _ [7] (by decide +kernel) (by decide +kernel)
set_option maxRecDepth 20000 in
theorem gX6_append_X6_in : GoodIn wsX6_append (va_wsS RX6 26 yX6_in wsX6_in) := goodIn_app (goodIn_of _ (by decide +kernel)) ggX6_append_X6_in
theorem dX6_append_0 : decode cX6_append 0 = .ok (.aload_n 0, 1) := by decide +kernel
theorem dX6_append_1 : decode cX6_append 1 = .ok (.iload_n 1, 1) := by decide +kernel
theorem dX6_append_2 : decode cX6_append 2 = .ok (.bipush 33, 2) := by decide +kernel
theorem dX6_append_4 : decode cX6_append 4 = .ok (.bipush 126, 2) := by decide +kernel
theorem dX6_append_6 : decode cX6_append 6 = .ok (.invokestatic 26, 3) := by decide +kernel
theorem dX6_append_9 : decode cX6_append 9 = .ok (.ifCond .ne 7, 3) := by decide +kernel
theorem dX6_append_12 : decode cX6_append 12 = .ok (.iconst 1, 1) := by decide +kernel
theorem dX6_append_13 : decode cX6_append 13 = .ok (.goto 17, 3) := by decide +kernel
theorem dX6_append_16 : decode cX6_append 16 = .ok (.aload_n 0, 1) := by decide +kernel
theorem dX6_append_17 : decode cX6_append 17 = .ok (.getfield 126, 3) := by decide +kernel
theorem dX6_append_20 : decode cX6_append 20 = .ok (.bipush 60, 2) := by decide +kernel
theorem dX6_append_22 : decode cX6_append 22 = .ok (.if_icmp .ne 7, 3) := by decide +kernel
theorem dX6_append_25 : decode cX6_append 25 = .ok (.iconst 2, 1) := by decide +kernel
theorem dX6_append_26 : decode cX6_append 26 = .ok (.goto 4, 3) := by decide +kernel
theorem dX6_append_29 : decode cX6_append 29 = .ok (.iconst 0, 1) := by decide +kernel
theorem dX6_append_30 : decode cX6_append 30 = .ok (.putfield 22, 3) := by decide +kernel
theorem dX6_append_33 : decode cX6_append 33 = .ok (.aload_n 0, 1) := by decide +kernel
theorem dX6_append_34 : decode cX6_append 34 = .ok (.getfield 22, 3) := by decide +kernel
theorem dX6_append_37 : decode cX6_append 37 = .ok (.ifCond .le 5, 3) := by decide +kernel
theorem dX6_append_40 : decode cX6_append 40 = .ok (.iconst 0, 1) := by decide +kernel
theorem dX6_append_41 : decode cX6_append 41 = .ok (.ireturn, 1) := by decide +kernel
theorem dX6_append_42 : decode cX6_append 42 = .ok (.aload_n 0, 1) := by decide +kernel
theorem dX6_append_43 : decode cX6_append 43 = .ok (.getfield 16, 3) := by decide +kernel
theorem dX6_append_46 : decode cX6_append 46 = .ok (.aload_n 0, 1) := by decide +kernel
theorem dX6_append_47 : decode cX6_append 47 = .ok (.getfield 126, 3) := by decide +kernel
theorem dX6_append_50 : decode cX6_append 50 = .ok (.iload_n 1, 1) := by decide +kernel
theorem dX6_append_51 : decode cX6_append 51 = .ok (.iastore, 1) := by decide +kernel
theorem dX6_append_52 : decode cX6_append 52 = .ok (.aload_n 0, 1) := by decide +kernel
theorem dX6_append_53 : decode cX6_append 53 = .ok (.dup, 1) := by decide +kernel
theorem dX6_append_54 : decode cX6_append 54 = .ok (.getfield 126, 3) := by decide +kernel
theorem dX6_append_57 : decode cX6_append 57 = .ok (.iconst 1, 1) := by decide +kernel
theorem dX6_append_58 : decode cX6_append 58 = .ok (.iadd, 1) := by decide +kernel
theorem dX6_append_59 : decode cX6_append 59 = .ok (.putfield 126, 3) := by decide +kernel
theorem dX6_append_62 : decode cX6_append 62 = .ok (.aload_n 0, 1) := by decide +kernel
theorem dX6_append_63 : decode cX6_append 63 = .ok (.getfield 126, 3) := by decide +kernel
theorem dX6_append_66 : decode cX6_append 66 = .ok (.ireturn, 1) := by decide +kernel
theorem dX6_clearBuffer_0 : decode cX6_clearBuffer 0 = .ok (.aload_n 0, 1) := by decide +kernel
theorem dX6_clearBuffer_1 : decode cX6_clearBuffer 1 = .ok (.iconst 0, 1) := by decide +kernel
theorem dX6_clearBuffer_2 : decode cX6_clearBuffer 2 = .ok (.putfield 22, 3) := by decide +kernel
theorem dX6_clearBuffer_5 : decode cX6_clearBuffer 5 = .ok (.aload_n 0, 1) := by decide +kernel
theorem dX6_clearBuffer_6 : decode cX6_clearBuffer 6 = .ok (.getfield 126, 3) := by decide +kernel
theorem dX6_clearBuffer_9 : decode cX6_clearBuffer 9 = .ok (.istore_n 1, 1) := by decide +kernel
theorem dX6_clearBuffer_10 : decode cX6_clearBuffer 10 = .ok (.aload_n 0, 1) := by decide +kernel
theorem dX6_clearBuffer_11 : decode cX6_clearBuffer 11 = .ok (.iconst 0, 1) := by decide +kernel
theorem dX6_clearBuffer_12 : decode cX6_clearBuffer 12 = .ok (.putfield 126, 3) := by decide +kernel
theorem dX6_clearBuffer_15 : decode cX6_clearBuffer 15 = .ok (.iload_n 1, 1) := by decide +kernel
theorem dX6_clearBuffer_16 : decode cX6_clearBuffer 16 = .ok (.ireturn, 1) := by decide +kernel
theorem dX6_valueOf_0 : decode cX6_valueOf 0 = .ok (.iload_n 0, 1) := by decide +kernel
theorem dX6_valueOf_1 : decode cX6_valueOf 1 = .ok (.iconst 2, 1) := by decide +kernel
theorem dX6_valueOf_2 : decode cX6_valueOf 2 = .ok (.if_icmp .ne 10, 3) := by decide +kernel
theorem dX6_valueOf_5 : decode cX6_valueOf 5 = .ok (.iload_n 1, 1) := by decide +kernel
theorem dX6_valueOf_6 : decode cX6_valueOf 6 = .ok (.bipush 97, 2) := by decide +kernel
theorem dX6_valueOf_8 : decode cX6_valueOf 8 = .ok (.isub, 1) := by decide +kernel
theorem dX6_valueOf_9 : decode cX6_valueOf 9 = .ok (.goto 26, 3) := by decide +kernel
theorem dX6_valueOf_12 : decode cX6_valueOf 12 = .ok (.iload_n 0, 1) := by decide +kernel
theorem dX6_valueOf_13 : decode cX6_valueOf 13 = .ok (.iconst 3, 1) := by decide +kernel
theorem dX6_valueOf_14 : decode cX6_valueOf 14 = .ok (.if_icmp .ne 17, 3) := by decide +kernel
theorem dX6_valueOf_17 : decode cX6_valueOf 17 = .ok (.iload_n 1, 1) := by decide +kernel
theorem dX6_valueOf_18 : decode cX6_valueOf 18 = .ok (.bipush 45, 2) := by decide +kernel
theorem dX6_valueOf_20 : decode cX6_valueOf 20 = .ok (.if_icmp .ne 7, 3) := by decide +kernel
theorem dX6_valueOf_23 : decode cX6_valueOf 23 = .ok (.iconst (-1), 1) := by decide +kernel
theorem dX6_valueOf_24 : decode cX6_valueOf 24 = .ok (.goto 11, 3) := by decide +kernel
theorem dX6_valueOf_27 : decode cX6_valueOf 27 = .ok (.iconst 1, 1) := by decide +kernel
theorem dX6_valueOf_28 : decode cX6_valueOf 28 = .ok (.goto 7, 3) := by decide +kernel
theorem dX6_valueOf_31 : decode cX6_valueOf 31 = .ok (.iload_n 1, 1) := by decide +kernel
theorem dX6_valueOf_32 : decode cX6_valueOf 32 = .ok (.bipush 48, 2) := by decide +kernel
theorem dX6_valueOf_34 : decode cX6_valueOf 34 = .ok (.isub, 1) := by decide +kernel
theorem dX6_valueOf_35 : decode cX6_valueOf 35 = .ok (.ireturn, 1) := by decide +kernel
set_option maxRecDepth 20000 in
theorem ggX6_isGood_X6_in : GoodIn wsX6_isGood wsX6_in := goodIn_r _ [4] (by decide +kernel) (by decide +kernel)
set_option maxRecDepth 20000 in
theorem gX6_isGood_X6_in : GoodIn wsX6_isGood (va_wsS RX6 26 yX6_in wsX6_in) := goodIn_app (goodIn_of _ (by decide +kernel)) ggX6_isGood_X6_in
theorem dX6_isGood_0 : decode cX6_isGood 0 = .ok (.iload_n 0, 1) := by decide +kernel
theorem dX6_isGood_1 : decode cX6_isGood 1 = .ok (.tableswitch 89 0 4 #[35, 44, 53, 62, 80], 35) := by decide +kernel
theorem dX6_isGood_36 : decode cX6_isGood 36 = .ok (.iload_n 1, 1) := by decide +kernel
theorem dX6_isGood_37 : decode cX6_isGood 37 = .ok (.bipush 48, 2) := by decide +kernel
theorem dX6_isGood_39 : decode cX6_isGood 39 = .ok (.bipush 50, 2) := by decide +kernel
theorem dX6_isGood_41 : decode cX6_isGood 41 = .ok (.invokestatic 26, 3) := by decide +kernel
theorem dX6_isGood_44 : decode cX6_isGood 44 = .ok (.ireturn, 1) := by decide +kernel
theorem dX6_isGood_45 : decode cX6_isGood 45 = .ok (.iload_n 1, 1) := by decide +kernel
theorem dX6_isGood_46 : decode cX6_isGood 46 = .ok (.bipush 48, 2) := by decide +kernel
theorem dX6_isGood_48 : decode cX6_isGood 48 = .ok (.bipush 53, 2) := by decide +kernel
theorem dX6_isGood_50 : decode cX6_isGood 50 = .ok (.invokestatic 26, 3) := by decide +kernel
theorem dX6_isGood_53 : decode cX6_isGood 53 = .ok (.ireturn, 1) := by decide +kernel
theorem dX6_isGood_54 : decode cX6_isGood 54 = .ok (.iload_n 1, 1) := by decide +kernel
theorem dX6_isGood_55 : decode cX6_isGood 55 = .ok (.bipush 97, 2) := by decide +kernel
theorem dX6_isGood_57 : decode cX6_isGood 57 = .ok (.bipush 112, 2) := by decide +kernel
theorem dX6_isGood_59 : decode cX6_isGood 59 = .ok (.invokestatic 26, 3) := by decide +kernel
theorem dX6_isGood_62 : decode cX6_isGood 62 = .ok (.ireturn, 1) := by decide +kernel
theorem dX6_isGood_63 : decode cX6_isGood 63 = .ok (.iload_n 1, 1) := by decide +kernel
theorem dX6_isGood_64 : decode cX6_isGood 64 = .ok (.bipush 43, 2) := by decide +kernel
theorem dX6_isGood_66 : decode cX6_isGood 66 = .ok (.if_icmp .eq 9, 3) := by decide +kernel
theorem dX6_isGood_69 : decode cX6_isGood 69 = .ok (.iload_n 1, 1) := by decide +kernel
theorem dX6_isGood_70 : decode cX6_isGood 70 = .ok (.bipush 45, 2) := by decide +kernel
theorem dX6_isGood_72 : decode cX6_isGood 72 = .ok (.if_icmp .ne 7, 3) := by decide +kernel
theorem dX6_isGood_75 : decode cX6_isGood 75 = .ok (.iconst 1, 1) := by decide +kernel
theorem dX6_isGood_76 : decode cX6_isGood 76 = .ok (.goto 4, 3) := by decide +kernel
theorem dX6_isGood_79 : decode cX6_isGood 79 = .ok (.iconst 0, 1) := by decide +kernel
theorem dX6_isGood_80 : decode cX6_isGood 80 = .ok (.ireturn, 1) := by decide +kernel
theorem dX6_isGood_81 : decode cX6_isGood 81 = .ok (.iload_n 1, 1) := by decide +kernel
theorem dX6_isGood_82 : decode cX6_isGood 82 = .ok (.bipush 48, 2) := by decide +kernel
theorem dX6_isGood_84 : decode cX6_isGood 84 = .ok (.bipush 51, 2) := by decide +kernel
theorem dX6_isGood_86 : decode cX6_isGood 86 = .ok (.invokestatic 26, 3) := by decide +kernel
theorem dX6_isGood_89 : decode cX6_isGood 89 = .ok (.ireturn, 1) := by decide +kernel
theorem dX6_isGood_90 : decode cX6_isGood 90 = .ok (.iload_n 1, 1) := by decide +kernel
theorem dX6_isGood_91 : decode cX6_isGood 91 = .ok (.bipush 50, 2) := by decide +kernel
theorem dX6_isGood_93 : decode cX6_isGood 93 = .ok (.bipush 57, 2) := by decide +kernel
theorem dX6_isGood_95 : decode cX6_isGood 95 = .ok (.invokestatic 26, 3) := by decide +kernel
theorem dX6_isGood_98 : decode cX6_isGood 98 = .ok (.ireturn, 1) := by decide +kernel
set_option maxRecDepth 20000 in
theorem ggX6_stands_X6_valueOf : GoodIn wsX6_stands wsX6_valueOf := goodIn_r _ [7] (by decide +kernel) (by decide +kernel)
set_option maxRecDepth 20000 in
theorem gX6_stands_X6_valueOf : GoodIn wsX6_stands (va_wsS RX6 135 yX6_valueOf wsX6_valueOf) := goodIn_app (goodIn_of _ (by decide +kernel)) ggX6_stands_X6_valueOf
set_option maxRecDepth 20000 in
theorem ggX6_stands_X6_isGood : GoodIn wsX6_stands wsX6_isGood := goodIn_r _ [10, 11, 12, 6, 13] (by decide +kernel) (by decide +kernel)
set_option maxRecDepth 20000 in
theorem gX6_stands_X6_isGood : GoodIn wsX6_stands (va_wsS RX6 138 yX6_isGood wsX6_isGood) := goodIn_app (goodIn_of _ (by decide +kernel)) ggX6_stands_X6_isGood
theorem dX6_stands_0 : decode cX6_stands 0 = .ok (.aload_n 0, 1) := by decide +kernel
theorem dX6_stands_1 : decode cX6_stands 1 = .ok (.getfield 129, 3) := by decide +kernel
theorem dX6_stands_4 : decode cX6_stands 4 = .ok (.iconst 5, 1) := by decide +kernel
theorem dX6_stands_5 : decode cX6_stands 5 = .ok (.if_icmp .eq 12, 3) := by decide +kernel
theorem dX6_stands_8 : decode cX6_stands 8 = .ok (.aload_n 0, 1) := by decide +kernel
theorem dX6_stands_9 : decode cX6_stands 9 = .ok (.getfield 129, 3) := by decide +kernel
theorem dX6_stands_12 : decode cX6_stands 12 = .ok (.bipush 7, 2) := by decide +kernel
theorem dX6_stands_14 : decode cX6_stands 14 = .ok (.if_icmp .ne 81, 3) := by decide +kernel
theorem dX6_stands_17 : decode cX6_stands 17 = .ok (.iload_n 1, 1) := by decide +kernel
theorem dX6_stands_18 : decode cX6_stands 18 = .ok (.bipush 42, 2) := by decide +kernel
theorem dX6_stands_20 : decode cX6_stands 20 = .ok (.if_icmp .ne 15, 3) := by decide +kernel
theorem dX6_stands_23 : decode cX6_stands 23 = .ok (.aload_n 0, 1) := by decide +kernel
theorem dX6_stands_24 : decode cX6_stands 24 = .ok (.getfield 129, 3) := by decide +kernel
theorem dX6_stands_27 : decode cX6_stands 27 = .ok (.iconst 5, 1) := by decide +kernel
theorem dX6_stands_28 : decode cX6_stands 28 = .ok (.if_icmp .ne 7, 3) := by decide +kernel
theorem dX6_stands_31 : decode cX6_stands 31 = .ok (.iconst 1, 1) := by decide +kernel
theorem dX6_stands_32 : decode cX6_stands 32 = .ok (.goto 4, 3) := by decide +kernel
theorem dX6_stands_35 : decode cX6_stands 35 = .ok (.iconst 0, 1) := by decide +kernel
theorem dX6_stands_36 : decode cX6_stands 36 = .ok (.istore_n 2, 1) := by decide +kernel
theorem dX6_stands_37 : decode cX6_stands 37 = .ok (.iload_n 1, 1) := by decide +kernel
theorem dX6_stands_38 : decode cX6_stands 38 = .ok (.bipush 59, 2) := by decide +kernel
theorem dX6_stands_40 : decode cX6_stands 40 = .ok (.if_icmp .ne 7, 3) := by decide +kernel
theorem dX6_stands_43 : decode cX6_stands 43 = .ok (.iconst 1, 1) := by decide +kernel
theorem dX6_stands_44 : decode cX6_stands 44 = .ok (.goto 4, 3) := by decide +kernel
theorem dX6_stands_47 : decode cX6_stands 47 = .ok (.iconst 0, 1) := by decide +kernel
theorem dX6_stands_48 : decode cX6_stands 48 = .ok (.istore_n 3, 1) := by decide +kernel
theorem dX6_stands_49 : decode cX6_stands 49 = .ok (.aload_n 0, 1) := by decide +kernel
theorem dX6_stands_50 : decode cX6_stands 50 = .ok (.dup, 1) := by decide +kernel
theorem dX6_stands_51 : decode cX6_stands 51 = .ok (.getfield 132, 3) := by decide +kernel
theorem dX6_stands_54 : decode cX6_stands 54 = .ok (.iload_n 3, 1) := by decide +kernel
theorem dX6_stands_55 : decode cX6_stands 55 = .ok (.ifCond .eq 7, 3) := by decide +kernel
theorem dX6_stands_58 : decode cX6_stands 58 = .ok (.iconst 1, 1) := by decide +kernel
theorem dX6_stands_59 : decode cX6_stands 59 = .ok (.goto 4, 3) := by decide +kernel
theorem dX6_stands_62 : decode cX6_stands 62 = .ok (.iconst 0, 1) := by decide +kernel
theorem dX6_stands_63 : decode cX6_stands 63 = .ok (.iadd, 1) := by decide +kernel
theorem dX6_stands_64 : decode cX6_stands 64 = .ok (.putfield 132, 3) := by decide +kernel
theorem dX6_stands_67 : decode cX6_stands 67 = .ok (.aload_n 0, 1) := by decide +kernel
theorem dX6_stands_68 : decode cX6_stands 68 = .ok (.iload_n 3, 1) := by decide +kernel
theorem dX6_stands_69 : decode cX6_stands 69 = .ok (.ifCond .eq 7, 3) := by decide +kernel
theorem dX6_stands_72 : decode cX6_stands 72 = .ok (.iconst 0, 1) := by decide +kernel
theorem dX6_stands_73 : decode cX6_stands 73 = .ok (.goto 5, 3) := by decide +kernel
theorem dX6_stands_76 : decode cX6_stands 76 = .ok (.bipush 6, 2) := by decide +kernel
theorem dX6_stands_78 : decode cX6_stands 78 = .ok (.putfield 129, 3) := by decide +kernel
theorem dX6_stands_81 : decode cX6_stands 81 = .ok (.iload_n 2, 1) := by decide +kernel
theorem dX6_stands_82 : decode cX6_stands 82 = .ok (.ifCond .ne 7, 3) := by decide +kernel
theorem dX6_stands_85 : decode cX6_stands 85 = .ok (.iload_n 3, 1) := by decide +kernel
theorem dX6_stands_86 : decode cX6_stands 86 = .ok (.ifCond .eq 7, 3) := by decide +kernel
theorem dX6_stands_89 : decode cX6_stands 89 = .ok (.iconst 1, 1) := by decide +kernel
theorem dX6_stands_90 : decode cX6_stands 90 = .ok (.goto 4, 3) := by decide +kernel
theorem dX6_stands_93 : decode cX6_stands 93 = .ok (.iconst 0, 1) := by decide +kernel
theorem dX6_stands_94 : decode cX6_stands 94 = .ok (.ireturn, 1) := by decide +kernel
theorem dX6_stands_95 : decode cX6_stands 95 = .ok (.aload_n 0, 1) := by decide +kernel
theorem dX6_stands_96 : decode cX6_stands 96 = .ok (.getfield 129, 3) := by decide +kernel
theorem dX6_stands_99 : decode cX6_stands 99 = .ok (.bipush 6, 2) := by decide +kernel
theorem dX6_stands_101 : decode cX6_stands 101 = .ok (.if_icmp .ne 7, 3) := by decide +kernel
theorem dX6_stands_104 : decode cX6_stands 104 = .ok (.iconst 5, 1) := by decide +kernel
theorem dX6_stands_105 : decode cX6_stands 105 = .ok (.goto 7, 3) := by decide +kernel
theorem dX6_stands_108 : decode cX6_stands 108 = .ok (.aload_n 0, 1) := by decide +kernel
theorem dX6_stands_109 : decode cX6_stands 109 = .ok (.getfield 129, 3) := by decide +kernel
theorem dX6_stands_112 : decode cX6_stands 112 = .ok (.istore_n 2, 1) := by decide +kernel
theorem dX6_stands_113 : decode cX6_stands 113 = .ok (.aload_n 0, 1) := by decide +kernel
theorem dX6_stands_114 : decode cX6_stands 114 = .ok (.getfield 19, 3) := by decide +kernel
theorem dX6_stands_117 : decode cX6_stands 117 = .ok (.bipush 6, 2) := by decide +kernel
theorem dX6_stands_119 : decode cX6_stands 119 = .ok (.aload_n 0, 1) := by decide +kernel
theorem dX6_stands_120 : decode cX6_stands 120 = .ok (.getfield 132, 3) := by decide +kernel
theorem dX6_stands_123 : decode cX6_stands 123 = .ok (.imul, 1) := by decide +kernel
theorem dX6_stands_124 : decode cX6_stands 124 = .ok (.iload_n 2, 1) := by decide +kernel
theorem dX6_stands_125 : decode cX6_stands 125 = .ok (.iadd, 1) := by decide +kernel
theorem dX6_stands_126 : decode cX6_stands 126 = .ok (.iload_n 2, 1) := by decide +kernel
theorem dX6_stands_127 : decode cX6_stands 127 = .ok (.iload_n 1, 1) := by decide +kernel
theorem dX6_stands_128 : decode cX6_stands 128 = .ok (.invokestatic 135, 3) := by decide +kernel
theorem dX6_stands_131 : decode cX6_stands 131 = .ok (.iastore, 1) := by decide +kernel
theorem dX6_stands_132 : decode cX6_stands 132 = .ok (.iload_n 2, 1) := by decide +kernel
theorem dX6_stands_133 : decode cX6_stands 133 = .ok (.iconst 4, 1) := by decide +kernel
theorem dX6_stands_134 : decode cX6_stands 134 = .ok (.if_icmp .ne 18, 3) := by decide +kernel
theorem dX6_stands_137 : decode cX6_stands 137 = .ok (.aload_n 0, 1) := by decide +kernel
theorem dX6_stands_138 : decode cX6_stands 138 = .ok (.getfield 19, 3) := by decide +kernel
theorem dX6_stands_141 : decode cX6_stands 141 = .ok (.bipush 6, 2) := by decide +kernel
theorem dX6_stands_143 : decode cX6_stands 143 = .ok (.aload_n 0, 1) := by decide +kernel
theorem dX6_stands_144 : decode cX6_stands 144 = .ok (.getfield 132, 3) := by decide +kernel
theorem dX6_stands_147 : decode cX6_stands 147 = .ok (.imul, 1) := by decide +kernel
theorem dX6_stands_148 : decode cX6_stands 148 = .ok (.iconst 5, 1) := by decide +kernel
theorem dX6_stands_149 : decode cX6_stands 149 = .ok (.iadd, 1) := by decide +kernel
theorem dX6_stands_150 : decode cX6_stands 150 = .ok (.iconst 1, 1) := by decide +kernel
theorem dX6_stands_151 : decode cX6_stands 151 = .ok (.iastore, 1) := by decide +kernel
theorem dX6_stands_152 : decode cX6_stands 152 = .ok (.aload_n 0, 1) := by decide +kernel
theorem dX6_stands_153 : decode cX6_stands 153 = .ok (.dup, 1) := by decide +kernel
theorem dX6_stands_154 : decode cX6_stands 154 = .ok (.getfield 129, 3) := by decide +kernel
theorem dX6_stands_157 : decode cX6_stands 157 = .ok (.iconst 1, 1) := by decide +kernel
theorem dX6_stands_158 : decode cX6_stands 158 = .ok (.iadd, 1) := by decide +kernel
theorem dX6_stands_159 : decode cX6_stands 159 = .ok (.putfield 129, 3) := by decide +kernel
theorem dX6_stands_162 : decode cX6_stands 162 = .ok (.iload_n 2, 1) := by decide +kernel
theorem dX6_stands_163 : decode cX6_stands 163 = .ok (.iload_n 1, 1) := by decide +kernel
theorem dX6_stands_164 : decode cX6_stands 164 = .ok (.invokestatic 138, 3) := by decide +kernel
theorem dX6_stands_167 : decode cX6_stands 167 = .ok (.ireturn, 1) := by decide +kernel
set_option maxRecDepth 20000 in
theorem ggX6_readBuffer_X6_stands : GoodIn wsX6_readBuffer wsX6_stands := goodIn_r _ [9, 2, 1, 10, 11, 12, 8, 13, 14, 15, 16, 17, 18, 19, 20, 21, 22, 23, 24, 25, 26, 27, 28, 29, 30, 31, 32, 33] (by decide +kernel) (by decide +kernel)
set_option maxRecDepth 20000 in
theorem gX6_readBuffer_X6_stands : GoodIn wsX6_readBuffer (wsV RX6 141 RX6 yX6_stands wsX6_stands) := goodIn_app (goodIn_of _ (by decide +kernel)) ggX6_readBuffer_X6_stands
theorem dX6_readBuffer_0 : decode cX6_readBuffer 0 = .ok (.aload_n 0, 1) := by decide +kernel
theorem dX6_readBuffer_1 : decode cX6_readBuffer 1 = .ok (.iconst 0, 1) := by decide +kernel
theorem dX6_readBuffer_2 : decode cX6_readBuffer 2 = .ok (.putfield 132, 3) := by decide +kernel
theorem dX6_readBuffer_5 : decode cX6_readBuffer 5 = .ok (.aload_n 0, 1) := by decide +kernel
theorem dX6_readBuffer_6 : decode cX6_readBuffer 6 = .ok (.iconst 0, 1) := by decide +kernel
theorem dX6_readBuffer_7 : decode cX6_readBuffer 7 = .ok (.putfield 129, 3) := by decide +kernel
theorem dX6_readBuffer_10 : decode cX6_readBuffer 10 = .ok (.iconst 0, 1) := by decide +kernel
theorem dX6_readBuffer_11 : decode cX6_readBuffer 11 = .ok (.istore_n 1, 1) := by decide +kernel
theorem dX6_readBuffer_12 : decode cX6_readBuffer 12 = .ok (.iload_n 1, 1) := by decide +kernel
theorem dX6_readBuffer_13 : decode cX6_readBuffer 13 = .ok (.aload_n 0, 1) := by decide +kernel
theorem dX6_readBuffer_14 : decode cX6_readBuffer 14 = .ok (.getfield 126, 3) := by decide +kernel
theorem dX6_readBuffer_17 : decode cX6_readBuffer 17 = .ok (.if_icmp .ge 24, 3) := by decide +kernel
theorem dX6_readBuffer_20 : decode cX6_readBuffer 20 = .ok (.aload_n 0, 1) := by decide +kernel
theorem dX6_readBuffer_21 : decode cX6_readBuffer 21 = .ok (.aload_n 0, 1) := by decide +kernel
theorem dX6_readBuffer_22 : decode cX6_readBuffer 22 = .ok (.getfield 16, 3) := by decide +kernel
theorem dX6_readBuffer_25 : decode cX6_readBuffer 25 = .ok (.iload_n 1, 1) := by decide +kernel
theorem dX6_readBuffer_26 : decode cX6_readBuffer 26 = .ok (.iaload, 1) := by decide +kernel
theorem dX6_readBuffer_27 : decode cX6_readBuffer 27 = .ok (.invokevirtual 141, 3) := by decide +kernel
theorem dX6_readBuffer_30 : decode cX6_readBuffer 30 = .ok (.ifCond .ne 5, 3) := by decide +kernel
theorem dX6_readBuffer_33 : decode cX6_readBuffer 33 = .ok (.iload_n 1, 1) := by decide +kernel
theorem dX6_readBuffer_34 : decode cX6_readBuffer 34 = .ok (.ireturn, 1) := by decide +kernel
theorem dX6_readBuffer_35 : decode cX6_readBuffer 35 = .ok (.iinc 1 1, 3) := by decide +kernel
theorem dX6_readBuffer_38 : decode cX6_readBuffer 38 = .ok (.goto (-26), 3) := by decide +kernel
theorem dX6_readBuffer_41 : decode cX6_readBuffer 41 = .ok (.aload_n 0, 1) := by decide +kernel
theorem dX6_readBuffer_42 : decode cX6_readBuffer 42 = .ok (.getfield 126, 3) := by decide +kernel
theorem dX6_readBuffer_45 : decode cX6_readBuffer 45 = .ok (.ireturn, 1) := by decide +kernel
set_option maxRecDepth 20000 in
theorem ggX6_firstError_X6_readBuffer : GoodIn wsX6_firstError wsX6_readBuffer := goodIn_r _ [6, 7, 8, 9, 10, 11, 12, 13, 5, 14, 15, 16, 17, 18, 19, 20, 21, 22, 23, 24, 25, 26, 27, 28, 29, 30, 31, 32, 33, 34, 35, 36, 37, 38] (by decide +kernel) (by decide +kernel)
set_option maxRecDepth 20000 in
theorem gX6_firstError_X6_readBuffer : GoodIn wsX6_firstError (wsV RX6 144 RX6 yX6_readBuffer wsX6_readBuffer) := goodIn_app (goodIn_of _ (by decide +kernel)) ggX6_firstError_X6_readBuffer
theorem dX6_firstError_0 : decode cX6_firstError 0 = .ok (.aload_n 0, 1) := by decide +kernel
theorem dX6_firstError_1 : decode cX6_firstError 1 = .ok (.iconst 0, 1) := by decide +kernel
theorem dX6_firstError_2 : decode cX6_firstError 2 = .ok (.putfield 22, 3) := by decide +kernel
theorem dX6_firstError_5 : decode cX6_firstError 5 = .ok (.aload_n 0, 1) := by decide +kernel
theorem dX6_firstError_6 : decode cX6_firstError 6 = .ok (.invokevirtual 144, 3) := by decide +kernel
theorem dX6_firstError_9 : decode cX6_firstError 9 = .ok (.ireturn, 1) := by decide +kernel
set_option maxRecDepth 20000 in
theorem ggX6_isWhole_X6_readBuffer : GoodIn wsX6_isWhole wsX6_readBuffer := goodIn_r _ [7, 8, 2, 1, 9, 10, 11, 12, 6, 13, 14, 15, 16, 17, 18, 19, 20, 21, 22, 23, 24, 25, 26, 27, 28, 29, 30, 31, 32, 33, 34, 35, 36, 37] (by decide +kernel) (by decide +kernel)
set_option maxRecDepth 20000 in
theorem gX6_isWhole_X6_readBuffer : GoodIn wsX6_isWhole (wsV RX6 144 RX6 yX6_readBuffer wsX6_readBuffer) := goodIn_app (goodIn_of _ (by decide +kernel)) ggX6_isWhole_X6_readBuffer
theorem dX6_isWhole_0 : decode cX6_isWhole 0 = .ok (.aload_n 0, 1) := by decide +kernel
theorem dX6_isWhole_1 : decode cX6_isWhole 1 = .ok (.invokevirtual 144, 3) := by decide +kernel
theorem dX6_isWhole_4 : decode cX6_isWhole 4 = .ok (.aload_n 0, 1) := by decide +kernel
theorem dX6_isWhole_5 : decode cX6_isWhole 5 = .ok (.getfield 126, 3) := by decide +kernel
theorem dX6_isWhole_8 : decode cX6_isWhole 8 = .ok (.if_icmp .ne 24, 3) := by decide +kernel
theorem dX6_isWhole_11 : decode cX6_isWhole 11 = .ok (.aload_n 0, 1) := by decide +kernel
theorem dX6_isWhole_12 : decode cX6_isWhole 12 = .ok (.getfield 129, 3) := by decide +kernel
theorem dX6_isWhole_15 : decode cX6_isWhole 15 = .ok (.iconst 5, 1) := by decide +kernel
theorem dX6_isWhole_16 : decode cX6_isWhole 16 = .ok (.if_icmp .eq 12, 3) := by decide +kernel
theorem dX6_isWhole_19 : decode cX6_isWhole 19 = .ok (.aload_n 0, 1) := by decide +kernel
theorem dX6_isWhole_20 : decode cX6_isWhole 20 = .ok (.getfield 129, 3) := by decide +kernel
theorem dX6_isWhole_23 : decode cX6_isWhole 23 = .ok (.bipush 7, 2) := by decide +kernel
theorem dX6_isWhole_25 : decode cX6_isWhole 25 = .ok (.if_icmp .ne 7, 3) := by decide +kernel
theorem dX6_isWhole_28 : decode cX6_isWhole 28 = .ok (.iconst 1, 1) := by decide +kernel
theorem dX6_isWhole_29 : decode cX6_isWhole 29 = .ok (.goto 4, 3) := by decide +kernel
theorem dX6_isWhole_32 : decode cX6_isWhole 32 = .ok (.iconst 0, 1) := by decide +kernel
theorem dX6_isWhole_33 : decode cX6_isWhole 33 = .ok (.ireturn, 1) := by decide +kernel
theorem dX6_bendPart_0 : decode cX6_bendPart 0 = .ok (.bipush 9, 2) := by decide +kernel
theorem dX6_bendPart_2 : decode cX6_bendPart 2 = .ok (.bipush 6, 2) := by decide +kernel
theorem dX6_bendPart_4 : decode cX6_bendPart 4 = .ok (.aload_n 0, 1) := by decide +kernel
theorem dX6_bendPart_5 : decode cX6_bendPart 5 = .ok (.getfield 19, 3) := by decide +kernel
theorem dX6_bendPart_8 : decode cX6_bendPart 8 = .ok (.bipush 6, 2) := by decide +kernel
theorem dX6_bendPart_10 : decode cX6_bendPart 10 = .ok (.iload_n 1, 1) := by decide +kernel
theorem dX6_bendPart_11 : decode cX6_bendPart 11 = .ok (.imul, 1) := by decide +kernel
theorem dX6_bendPart_12 : decode cX6_bendPart 12 = .ok (.iaload, 1) := by decide +kernel
theorem dX6_bendPart_13 : decode cX6_bendPart 13 = .ok (.imul, 1) := by decide +kernel
theorem dX6_bendPart_14 : decode cX6_bendPart 14 = .ok (.aload_n 0, 1) := by decide +kernel
theorem dX6_bendPart_15 : decode cX6_bendPart 15 = .ok (.getfield 19, 3) := by decide +kernel
theorem dX6_bendPart_18 : decode cX6_bendPart 18 = .ok (.bipush 6, 2) := by decide +kernel
theorem dX6_bendPart_20 : decode cX6_bendPart 20 = .ok (.iload_n 1, 1) := by decide +kernel
theorem dX6_bendPart_21 : decode cX6_bendPart 21 = .ok (.imul, 1) := by decide +kernel
theorem dX6_bendPart_22 : decode cX6_bendPart 22 = .ok (.iconst 1, 1) := by decide +kernel
theorem dX6_bendPart_23 : decode cX6_bendPart 23 = .ok (.iadd, 1) := by decide +kernel
theorem dX6_bendPart_24 : decode cX6_bendPart 24 = .ok (.iaload, 1) := by decide +kernel
theorem dX6_bendPart_25 : decode cX6_bendPart 25 = .ok (.iadd, 1) := by decide +kernel
theorem dX6_bendPart_26 : decode cX6_bendPart 26 = .ok (.bipush 16, 2) := by decide +kernel
theorem dX6_bendPart_28 : decode cX6_bendPart 28 = .ok (.imul, 1) := by decide +kernel
theorem dX6_bendPart_29 : decode cX6_bendPart 29 = .ok (.iadd, 1) := by decide +kernel
theorem dX6_bendPart_30 : decode cX6_bendPart 30 = .ok (.istore_n 2, 1) := by decide +kernel
theorem dX6_bendPart_31 : decode cX6_bendPart 31 = .ok (.aload_n 0, 1) := by decide +kernel
theorem dX6_bendPart_32 : decode cX6_bendPart 32 = .ok (.getfield 19, 3) := by decide +kernel
theorem dX6_bendPart_35 : decode cX6_bendPart 35 = .ok (.bipush 6, 2) := by decide +kernel
theorem dX6_bendPart_37 : decode cX6_bendPart 37 = .ok (.iload_n 1, 1) := by decide +kernel
theorem dX6_bendPart_38 : decode cX6_bendPart 38 = .ok (.imul, 1) := by decide +kernel
theorem dX6_bendPart_39 : decode cX6_bendPart 39 = .ok (.iconst 2, 1) := by decide +kernel
theorem dX6_bendPart_40 : decode cX6_bendPart 40 = .ok (.iadd, 1) := by decide +kernel
theorem dX6_bendPart_41 : decode cX6_bendPart 41 = .ok (.iaload, 1) := by decide +kernel
theorem dX6_bendPart_42 : decode cX6_bendPart 42 = .ok (.istore_n 3, 1) := by decide +kernel
theorem dX6_bendPart_43 : decode cX6_bendPart 43 = .ok (.iload_n 3, 1) := by decide +kernel
theorem dX6_bendPart_44 : decode cX6_bendPart 44 = .ok (.istore 4, 2) := by decide +kernel
theorem dX6_bendPart_46 : decode cX6_bendPart 46 = .ok (.iload 4, 2) := by decide +kernel
theorem dX6_bendPart_48 : decode cX6_bendPart 48 = .ok (.iload_n 3, 1) := by decide +kernel
theorem dX6_bendPart_49 : decode cX6_bendPart 49 = .ok (.aload_n 0, 1) := by decide +kernel
theorem dX6_bendPart_50 : decode cX6_bendPart 50 = .ok (.getfield 19, 3) := by decide +kernel
theorem dX6_bendPart_53 : decode cX6_bendPart 53 = .ok (.bipush 6, 2) := by decide +kernel
theorem dX6_bendPart_55 : decode cX6_bendPart 55 = .ok (.iload_n 1, 1) := by decide +kernel
theorem dX6_bendPart_56 : decode cX6_bendPart 56 = .ok (.imul, 1) := by decide +kernel
theorem dX6_bendPart_57 : decode cX6_bendPart 57 = .ok (.iconst 5, 1) := by decide +kernel
theorem dX6_bendPart_58 : decode cX6_bendPart 58 = .ok (.iadd, 1) := by decide +kernel
theorem dX6_bendPart_59 : decode cX6_bendPart 59 = .ok (.iaload, 1) := by decide +kernel
theorem dX6_bendPart_60 : decode cX6_bendPart 60 = .ok (.iadd, 1) := by decide +kernel
theorem dX6_bendPart_61 : decode cX6_bendPart 61 = .ok (.if_icmp .ge 48, 3) := by decide +kernel
theorem dX6_bendPart_64 : decode cX6_bendPart 64 = .ok (.iload 4, 2) := by decide +kernel
theorem dX6_bendPart_66 : decode cX6_bendPart 66 = .ok (.bipush 16, 2) := by decide +kernel
theorem dX6_bendPart_68 : decode cX6_bendPart 68 = .ok (.if_icmp .ge 41, 3) := by decide +kernel
theorem dX6_bendPart_71 : decode cX6_bendPart 71 = .ok (.aload_n 0, 1) := by decide +kernel
theorem dX6_bendPart_72 : decode cX6_bendPart 72 = .ok (.getfield 7, 3) := by decide +kernel
theorem dX6_bendPart_75 : decode cX6_bendPart 75 = .ok (.iload_n 2, 1) := by decide +kernel
theorem dX6_bendPart_76 : decode cX6_bendPart 76 = .ok (.iload 4, 2) := by decide +kernel
theorem dX6_bendPart_78 : decode cX6_bendPart 78 = .ok (.iadd, 1) := by decide +kernel
theorem dX6_bendPart_79 : decode cX6_bendPart 79 = .ok (.aload_n 0, 1) := by decide +kernel
theorem dX6_bendPart_80 : decode cX6_bendPart 80 = .ok (.getfield 19, 3) := by decide +kernel
theorem dX6_bendPart_83 : decode cX6_bendPart 83 = .ok (.bipush 6, 2) := by decide +kernel
theorem dX6_bendPart_85 : decode cX6_bendPart 85 = .ok (.iload_n 1, 1) := by decide +kernel
theorem dX6_bendPart_86 : decode cX6_bendPart 86 = .ok (.imul, 1) := by decide +kernel
theorem dX6_bendPart_87 : decode cX6_bendPart 87 = .ok (.iconst 3, 1) := by decide +kernel
theorem dX6_bendPart_88 : decode cX6_bendPart 88 = .ok (.iadd, 1) := by decide +kernel
theorem dX6_bendPart_89 : decode cX6_bendPart 89 = .ok (.iaload, 1) := by decide +kernel
theorem dX6_bendPart_90 : decode cX6_bendPart 90 = .ok (.aload_n 0, 1) := by decide +kernel
theorem dX6_bendPart_91 : decode cX6_bendPart 91 = .ok (.getfield 19, 3) := by decide +kernel
theorem dX6_bendPart_94 : decode cX6_bendPart 94 = .ok (.bipush 6, 2) := by decide +kernel
theorem dX6_bendPart_96 : decode cX6_bendPart 96 = .ok (.iload_n 1, 1) := by decide +kernel
theorem dX6_bendPart_97 : decode cX6_bendPart 97 = .ok (.imul, 1) := by decide +kernel
theorem dX6_bendPart_98 : decode cX6_bendPart 98 = .ok (.iconst 4, 1) := by decide +kernel
theorem dX6_bendPart_99 : decode cX6_bendPart 99 = .ok (.iadd, 1) := by decide +kernel
theorem dX6_bendPart_100 : decode cX6_bendPart 100 = .ok (.iaload, 1) := by decide +kernel
theorem dX6_bendPart_101 : decode cX6_bendPart 101 = .ok (.imul, 1) := by decide +kernel
theorem dX6_bendPart_102 : decode cX6_bendPart 102 = .ok (.iastore, 1) := by decide +kernel
theorem dX6_bendPart_103 : decode cX6_bendPart 103 = .ok (.iinc 4 1, 3) := by decide +kernel
theorem dX6_bendPart_106 : decode cX6_bendPart 106 = .ok (.goto (-60), 3) := by decide +kernel
theorem dX6_bendPart_109 : decode cX6_bendPart 109 = .ok (.return_, 1) := by decide +kernel
set_option maxRecDepth 20000 in
theorem ggX6_bend_X6_isWhole : GoodIn wsX6_bend wsX6_isWhole := goodIn_r _ [8, 3, 9, 10, 11, 12, 7, 13, 2, 14, 15, 16, 17, 18, 19, 20, 21, 22, 23, 24, 25, 26, 27, 28, 48, 49, 50, 51, 52, 53, 54, 55, 56, 57, 58, 59, 60, 61] (by decide +kernel) (by decide +kernel)
set_option maxRecDepth 20000 in
theorem gX6_bend_X6_isWhole : GoodIn wsX6_bend (wsV RX6 147 RX6 yX6_isWhole wsX6_isWhole) := goodIn_app (goodIn_of _ (by decide +kernel)) ggX6_bend_X6_isWhole
set_option maxRecDepth 20000 in
theorem ggX6_bend_X6_save : GoodIn wsX6_bend wsX6_save := goodIn_r _ [32, 33, 34, 35, 48, 49, 50, 51, 52, 53, 54, 55, 56, 57, 58, 59, 60, 61] (by decide +kernel) (by decide +kernel)
set_option maxRecDepth 20000 in
theorem gX6_bend_X6_save : GoodIn wsX6_bend (wsV RX6 100 RX6 yX6_save wsX6_save) := goodIn_app (goodIn_of _ (by decide +kernel)) ggX6_bend_X6_save
set_option maxRecDepth 20000 in
theorem ggX6_bend_X6_bendPart : GoodIn wsX6_bend wsX6_bendPart := goodIn_r _ [39, 19, 35, 48, 49, 50, 51, 52, 53, 54, 55, 56, 57, 58, 59, 60, 61] (by decide +kernel) (by decide +kernel)
set_option maxRecDepth 20000 in
theorem gX6_bend_X6_bendPart : GoodIn wsX6_bend (wsV RX6 151 RX6 yX6_bendPart wsX6_bendPart) := goodIn_app (goodIn_of _ (by decide +kernel)) ggX6_bend_X6_bendPart
set_option maxRecDepth 20000 in
theorem ggX6_bend_X6_bent : GoodIn wsX6_bend wsX6_bent := goodIn_r _ [43, 44, 45, 46, 7, 47, 35, 48, 49, 50, 51, 52, 53, 54, 55, 56, 57, 58, 59, 60, 61] (by decide +kernel) (by decide +kernel)
set_option maxRecDepth 20000 in
theorem gX6_bend_X6_bent : GoodIn wsX6_bend (wsV RX6 103 RX6 yX6_bent wsX6_bent) := goodIn_app (goodIn_of _ (by decide +kernel)) ggX6_bend_X6_bent
theorem dX6_bend_0 : decode cX6_bend 0 = .ok (.aload_n 0, 1) := by decide +kernel
theorem dX6_bend_1 : decode cX6_bend 1 = .ok (.aload_n 0, 1) := by decide +kernel
theorem dX6_bend_2 : decode cX6_bend 2 = .ok (.invokevirtual 147, 3) := by decide +kernel
theorem dX6_bend_5 : decode cX6_bend 5 = .ok (.ifCond .eq 7, 3) := by decide +kernel
theorem dX6_bend_8 : decode cX6_bend 8 = .ok (.iconst 0, 1) := by decide +kernel
theorem dX6_bend_9 : decode cX6_bend 9 = .ok (.goto 4, 3) := by decide +kernel
theorem dX6_bend_12 : decode cX6_bend 12 = .ok (.iconst 1, 1) := by decide +kernel
theorem dX6_bend_13 : decode cX6_bend 13 = .ok (.putfield 22, 3) := by decide +kernel
theorem dX6_bend_16 : decode cX6_bend 16 = .ok (.aload_n 0, 1) := by decide +kernel
theorem dX6_bend_17 : decode cX6_bend 17 = .ok (.getfield 22, 3) := by decide +kernel
theorem dX6_bend_20 : decode cX6_bend 20 = .ok (.ifCond .le 5, 3) := by decide +kernel
theorem dX6_bend_23 : decode cX6_bend 23 = .ok (.iconst 0, 1) := by decide +kernel
theorem dX6_bend_24 : decode cX6_bend 24 = .ok (.ireturn, 1) := by decide +kernel
theorem dX6_bend_25 : decode cX6_bend 25 = .ok (.aload_n 0, 1) := by decide +kernel
theorem dX6_bend_26 : decode cX6_bend 26 = .ok (.invokevirtual 100, 3) := by decide +kernel
theorem dX6_bend_29 : decode cX6_bend 29 = .ok (.iconst 0, 1) := by decide +kernel
theorem dX6_bend_30 : decode cX6_bend 30 = .ok (.istore_n 1, 1) := by decide +kernel
theorem dX6_bend_31 : decode cX6_bend 31 = .ok (.iload_n 1, 1) := by decide +kernel
theorem dX6_bend_32 : decode cX6_bend 32 = .ok (.aload_n 0, 1) := by decide +kernel
theorem dX6_bend_33 : decode cX6_bend 33 = .ok (.getfield 132, 3) := by decide +kernel
theorem dX6_bend_36 : decode cX6_bend 36 = .ok (.if_icmp .gt 14, 3) := by decide +kernel
theorem dX6_bend_39 : decode cX6_bend 39 = .ok (.aload_n 0, 1) := by decide +kernel
theorem dX6_bend_40 : decode cX6_bend 40 = .ok (.iload_n 1, 1) := by decide +kernel
theorem dX6_bend_41 : decode cX6_bend 41 = .ok (.invokevirtual 151, 3) := by decide +kernel
theorem dX6_bend_44 : decode cX6_bend 44 = .ok (.iinc 1 1, 3) := by decide +kernel
theorem dX6_bend_47 : decode cX6_bend 47 = .ok (.goto (-16), 3) := by decide +kernel
theorem dX6_bend_50 : decode cX6_bend 50 = .ok (.aload_n 0, 1) := by decide +kernel
theorem dX6_bend_51 : decode cX6_bend 51 = .ok (.iconst 0, 1) := by decide +kernel
theorem dX6_bend_52 : decode cX6_bend 52 = .ok (.putfield 126, 3) := by decide +kernel
theorem dX6_bend_55 : decode cX6_bend 55 = .ok (.aload_n 0, 1) := by decide +kernel
theorem dX6_bend_56 : decode cX6_bend 56 = .ok (.iconst 0, 1) := by decide +kernel
theorem dX6_bend_57 : decode cX6_bend 57 = .ok (.bipush 16, 2) := by decide +kernel
theorem dX6_bend_59 : decode cX6_bend 59 = .ok (.invokevirtual 103, 3) := by decide +kernel
theorem dX6_bend_62 : decode cX6_bend 62 = .ok (.aload_n 0, 1) := by decide +kernel
theorem dX6_bend_63 : decode cX6_bend 63 = .ok (.iconst 1, 1) := by decide +kernel
theorem dX6_bend_64 : decode cX6_bend 64 = .ok (.bipush 16, 2) := by decide +kernel
theorem dX6_bend_66 : decode cX6_bend 66 = .ok (.invokevirtual 103, 3) := by decide +kernel
theorem dX6_bend_69 : decode cX6_bend 69 = .ok (.iadd, 1) := by decide +kernel
theorem dX6_bend_70 : decode cX6_bend 70 = .ok (.aload_n 0, 1) := by decide +kernel
theorem dX6_bend_71 : decode cX6_bend 71 = .ok (.iconst 2, 1) := by decide +kernel
theorem dX6_bend_72 : decode cX6_bend 72 = .ok (.bipush 16, 2) := by decide +kernel
theorem dX6_bend_74 : decode cX6_bend 74 = .ok (.invokevirtual 103, 3) := by decide +kernel
theorem dX6_bend_77 : decode cX6_bend 77 = .ok (.iadd, 1) := by decide +kernel
theorem dX6_bend_78 : decode cX6_bend 78 = .ok (.ireturn, 1) := by decide +kernel
set_option maxRecDepth 20000 in
theorem ggX6_sumOf_X6_wireAt : GoodIn wsX6_sumOf wsX6_wireAt := goodIn_r _ [6, 1, 7, 8, 9, 10, 11, 12, 13, 14, 15, 16, 17, 18, 19, 20] (by decide +kernel) (by decide +kernel)
set_option maxRecDepth 20000 in
theorem gX6_sumOf_X6_wireAt : GoodIn wsX6_sumOf (wsV RX6 41 RX6 yX6_wireAt wsX6_wireAt) := goodIn_app (goodIn_of _ (by decide +kernel)) ggX6_sumOf_X6_wireAt
theorem dX6_sumOf_0 : decode cX6_sumOf 0 = .ok (.iconst 0, 1) := by decide +kernel
theorem dX6_sumOf_1 : decode cX6_sumOf 1 = .ok (.istore_n 2, 1) := by decide +kernel
theorem dX6_sumOf_2 : decode cX6_sumOf 2 = .ok (.iconst 0, 1) := by decide +kernel
theorem dX6_sumOf_3 : decode cX6_sumOf 3 = .ok (.istore_n 3, 1) := by decide +kernel
theorem dX6_sumOf_4 : decode cX6_sumOf 4 = .ok (.iload_n 3, 1) := by decide +kernel
theorem dX6_sumOf_5 : decode cX6_sumOf 5 = .ok (.bipush 6, 2) := by decide +kernel
theorem dX6_sumOf_7 : decode cX6_sumOf 7 = .ok (.if_icmp .ge 42, 3) := by decide +kernel
theorem dX6_sumOf_10 : decode cX6_sumOf 10 = .ok (.iconst 0, 1) := by decide +kernel
theorem dX6_sumOf_11 : decode cX6_sumOf 11 = .ok (.istore 4, 2) := by decide +kernel
theorem dX6_sumOf_13 : decode cX6_sumOf 13 = .ok (.iload 4, 2) := by decide +kernel
theorem dX6_sumOf_15 : decode cX6_sumOf 15 = .ok (.aload_n 0, 1) := by decide +kernel
theorem dX6_sumOf_16 : decode cX6_sumOf 16 = .ok (.getfield 7, 3) := by decide +kernel
theorem dX6_sumOf_19 : decode cX6_sumOf 19 = .ok (.iconst 3, 1) := by decide +kernel
theorem dX6_sumOf_20 : decode cX6_sumOf 20 = .ok (.iload_n 1, 1) := by decide +kernel
theorem dX6_sumOf_21 : decode cX6_sumOf 21 = .ok (.iadd, 1) := by decide +kernel
theorem dX6_sumOf_22 : decode cX6_sumOf 22 = .ok (.iaload, 1) := by decide +kernel
theorem dX6_sumOf_23 : decode cX6_sumOf 23 = .ok (.if_icmp .ge 20, 3) := by decide +kernel
theorem dX6_sumOf_26 : decode cX6_sumOf 26 = .ok (.iload_n 2, 1) := by decide +kernel
theorem dX6_sumOf_27 : decode cX6_sumOf 27 = .ok (.aload_n 0, 1) := by decide +kernel
theorem dX6_sumOf_28 : decode cX6_sumOf 28 = .ok (.iload_n 1, 1) := by decide +kernel
theorem dX6_sumOf_29 : decode cX6_sumOf 29 = .ok (.iload_n 3, 1) := by decide +kernel
theorem dX6_sumOf_30 : decode cX6_sumOf 30 = .ok (.iload 4, 2) := by decide +kernel
theorem dX6_sumOf_32 : decode cX6_sumOf 32 = .ok (.invokevirtual 41, 3) := by decide +kernel
theorem dX6_sumOf_35 : decode cX6_sumOf 35 = .ok (.iadd, 1) := by decide +kernel
theorem dX6_sumOf_36 : decode cX6_sumOf 36 = .ok (.istore_n 2, 1) := by decide +kernel
theorem dX6_sumOf_37 : decode cX6_sumOf 37 = .ok (.iinc 4 1, 3) := by decide +kernel
theorem dX6_sumOf_40 : decode cX6_sumOf 40 = .ok (.goto (-27), 3) := by decide +kernel
theorem dX6_sumOf_43 : decode cX6_sumOf 43 = .ok (.iinc 3 1, 3) := by decide +kernel
theorem dX6_sumOf_46 : decode cX6_sumOf 46 = .ok (.goto (-42), 3) := by decide +kernel
theorem dX6_sumOf_49 : decode cX6_sumOf 49 = .ok (.iload_n 2, 1) := by decide +kernel
theorem dX6_sumOf_50 : decode cX6_sumOf 50 = .ok (.ireturn, 1) := by decide +kernel
theorem dX6_roundOf_0 : decode cX6_roundOf 0 = .ok (.iconst 1, 1) := by decide +kernel
theorem dX6_roundOf_1 : decode cX6_roundOf 1 = .ok (.istore_n 3, 1) := by decide +kernel
theorem dX6_roundOf_2 : decode cX6_roundOf 2 = .ok (.iload_n 3, 1) := by decide +kernel
theorem dX6_roundOf_3 : decode cX6_roundOf 3 = .ok (.iload_n 2, 1) := by decide +kernel
theorem dX6_roundOf_4 : decode cX6_roundOf 4 = .ok (.imul, 1) := by decide +kernel
theorem dX6_roundOf_5 : decode cX6_roundOf 5 = .ok (.aload_n 0, 1) := by decide +kernel
theorem dX6_roundOf_6 : decode cX6_roundOf 6 = .ok (.getfield 7, 3) := by decide +kernel
theorem dX6_roundOf_9 : decode cX6_roundOf 9 = .ok (.iconst 3, 1) := by decide +kernel
theorem dX6_roundOf_10 : decode cX6_roundOf 10 = .ok (.iload_n 1, 1) := by decide +kernel
theorem dX6_roundOf_11 : decode cX6_roundOf 11 = .ok (.iadd, 1) := by decide +kernel
theorem dX6_roundOf_12 : decode cX6_roundOf 12 = .ok (.iaload, 1) := by decide +kernel
theorem dX6_roundOf_13 : decode cX6_roundOf 13 = .ok (.irem, 1) := by decide +kernel
theorem dX6_roundOf_14 : decode cX6_roundOf 14 = .ok (.ifCond .eq 9, 3) := by decide +kernel
theorem dX6_roundOf_17 : decode cX6_roundOf 17 = .ok (.iinc 3 1, 3) := by decide +kernel
theorem dX6_roundOf_20 : decode cX6_roundOf 20 = .ok (.goto (-18), 3) := by decide +kernel
theorem dX6_roundOf_23 : decode cX6_roundOf 23 = .ok (.iload_n 3, 1) := by decide +kernel
theorem dX6_roundOf_24 : decode cX6_roundOf 24 = .ok (.ireturn, 1) := by decide +kernel
theorem dX6_roundOfAll_0 : decode cX6_roundOfAll 0 = .ok (.iconst 1, 1) := by decide +kernel
theorem dX6_roundOfAll_1 : decode cX6_roundOfAll 1 = .ok (.istore_n 2, 1) := by decide +kernel
theorem dX6_roundOfAll_2 : decode cX6_roundOfAll 2 = .ok (.iload_n 2, 1) := by decide +kernel
theorem dX6_roundOfAll_3 : decode cX6_roundOfAll 3 = .ok (.iload_n 1, 1) := by decide +kernel
theorem dX6_roundOfAll_4 : decode cX6_roundOfAll 4 = .ok (.imul, 1) := by decide +kernel
theorem dX6_roundOfAll_5 : decode cX6_roundOfAll 5 = .ok (.aload_n 0, 1) := by decide +kernel
theorem dX6_roundOfAll_6 : decode cX6_roundOfAll 6 = .ok (.getfield 7, 3) := by decide +kernel
theorem dX6_roundOfAll_9 : decode cX6_roundOfAll 9 = .ok (.iconst 3, 1) := by decide +kernel
theorem dX6_roundOfAll_10 : decode cX6_roundOfAll 10 = .ok (.iaload, 1) := by decide +kernel
theorem dX6_roundOfAll_11 : decode cX6_roundOfAll 11 = .ok (.irem, 1) := by decide +kernel
theorem dX6_roundOfAll_12 : decode cX6_roundOfAll 12 = .ok (.ifCond .ne 29, 3) := by decide +kernel
theorem dX6_roundOfAll_15 : decode cX6_roundOfAll 15 = .ok (.iload_n 2, 1) := by decide +kernel
theorem dX6_roundOfAll_16 : decode cX6_roundOfAll 16 = .ok (.iload_n 1, 1) := by decide +kernel
theorem dX6_roundOfAll_17 : decode cX6_roundOfAll 17 = .ok (.imul, 1) := by decide +kernel
theorem dX6_roundOfAll_18 : decode cX6_roundOfAll 18 = .ok (.aload_n 0, 1) := by decide +kernel
theorem dX6_roundOfAll_19 : decode cX6_roundOfAll 19 = .ok (.getfield 7, 3) := by decide +kernel
theorem dX6_roundOfAll_22 : decode cX6_roundOfAll 22 = .ok (.iconst 4, 1) := by decide +kernel
theorem dX6_roundOfAll_23 : decode cX6_roundOfAll 23 = .ok (.iaload, 1) := by decide +kernel
theorem dX6_roundOfAll_24 : decode cX6_roundOfAll 24 = .ok (.irem, 1) := by decide +kernel
theorem dX6_roundOfAll_25 : decode cX6_roundOfAll 25 = .ok (.ifCond .ne 16, 3) := by decide +kernel
theorem dX6_roundOfAll_28 : decode cX6_roundOfAll 28 = .ok (.iload_n 2, 1) := by decide +kernel
theorem dX6_roundOfAll_29 : decode cX6_roundOfAll 29 = .ok (.iload_n 1, 1) := by decide +kernel
theorem dX6_roundOfAll_30 : decode cX6_roundOfAll 30 = .ok (.imul, 1) := by decide +kernel
theorem dX6_roundOfAll_31 : decode cX6_roundOfAll 31 = .ok (.aload_n 0, 1) := by decide +kernel
theorem dX6_roundOfAll_32 : decode cX6_roundOfAll 32 = .ok (.getfield 7, 3) := by decide +kernel
theorem dX6_roundOfAll_35 : decode cX6_roundOfAll 35 = .ok (.iconst 5, 1) := by decide +kernel
theorem dX6_roundOfAll_36 : decode cX6_roundOfAll 36 = .ok (.iaload, 1) := by decide +kernel
theorem dX6_roundOfAll_37 : decode cX6_roundOfAll 37 = .ok (.irem, 1) := by decide +kernel
theorem dX6_roundOfAll_38 : decode cX6_roundOfAll 38 = .ok (.ifCond .eq 9, 3) := by decide +kernel
theorem dX6_roundOfAll_41 : decode cX6_roundOfAll 41 = .ok (.iinc 2 1, 3) := by decide +kernel
theorem dX6_roundOfAll_44 : decode cX6_roundOfAll 44 = .ok (.goto (-42), 3) := by decide +kernel
theorem dX6_roundOfAll_47 : decode cX6_roundOfAll 47 = .ok (.iload_n 2, 1) := by decide +kernel
theorem dX6_roundOfAll_48 : decode cX6_roundOfAll 48 = .ok (.ireturn, 1) := by decide +kernel
set_option maxRecDepth 20000 in
theorem ggX6_toldRoll_X6_bent : GoodIn wsX6_toldRoll wsX6_bent := goodIn_r _ [6, 7, 8, 9, 5, 10, 1, 19, 20, 21, 22, 23, 24, 25, 26, 27, 28, 29, 30, 31, 32] (by decide +kernel) (by decide +kernel)
set_option maxRecDepth 20000 in
theorem gX6_toldRoll_X6_bent : GoodIn wsX6_toldRoll (wsV RX6 103 RX6 yX6_bent wsX6_bent) := goodIn_app (goodIn_of _ (by decide +kernel)) ggX6_toldRoll_X6_bent
set_option maxRecDepth 20000 in
theorem ggX6_toldRoll_X6_sumOf : GoodIn wsX6_toldRoll wsX6_sumOf := goodIn_r _ [14, 1, 7, 8, 9, 5, 10, 19, 20, 21, 22, 23, 24, 25, 26, 27, 28, 29, 30, 31, 32] (by decide +kernel) (by decide +kernel)
set_option maxRecDepth 20000 in
theorem gX6_toldRoll_X6_sumOf : GoodIn wsX6_toldRoll (wsV RX6 154 RX6 yX6_sumOf wsX6_sumOf) := goodIn_app (goodIn_of _ (by decide +kernel)) ggX6_toldRoll_X6_sumOf
set_option maxRecDepth 20000 in
theorem ggX6_toldRoll_X6_roundOf : GoodIn wsX6_toldRoll wsX6_roundOf := goodIn_r _ [18, 1, 19, 20, 21, 22, 23, 24, 25, 26, 27, 28, 29, 30, 31, 32] (by decide +kernel) (by decide +kernel)
set_option maxRecDepth 20000 in
theorem gX6_toldRoll_X6_roundOf : GoodIn wsX6_toldRoll (wsV RX6 157 RX6 yX6_roundOf wsX6_roundOf) := goodIn_app (goodIn_of _ (by decide +kernel)) ggX6_toldRoll_X6_roundOf
theorem dX6_toldRoll_0 : decode cX6_toldRoll 0 = .ok (.iload_n 2, 1) := by decide +kernel
theorem dX6_toldRoll_1 : decode cX6_toldRoll 1 = .ok (.tableswitch 74 0 3 #[31, 40, 50, 64], 31) := by decide +kernel
theorem dX6_toldRoll_32 : decode cX6_toldRoll 32 = .ok (.aload_n 0, 1) := by decide +kernel
theorem dX6_toldRoll_33 : decode cX6_toldRoll 33 = .ok (.getfield 7, 3) := by decide +kernel
theorem dX6_toldRoll_36 : decode cX6_toldRoll 36 = .ok (.iconst 3, 1) := by decide +kernel
theorem dX6_toldRoll_37 : decode cX6_toldRoll 37 = .ok (.iload_n 1, 1) := by decide +kernel
theorem dX6_toldRoll_38 : decode cX6_toldRoll 38 = .ok (.iadd, 1) := by decide +kernel
theorem dX6_toldRoll_39 : decode cX6_toldRoll 39 = .ok (.iaload, 1) := by decide +kernel
theorem dX6_toldRoll_40 : decode cX6_toldRoll 40 = .ok (.ireturn, 1) := by decide +kernel
theorem dX6_toldRoll_41 : decode cX6_toldRoll 41 = .ok (.aload_n 0, 1) := by decide +kernel
theorem dX6_toldRoll_42 : decode cX6_toldRoll 42 = .ok (.getfield 7, 3) := by decide +kernel
theorem dX6_toldRoll_45 : decode cX6_toldRoll 45 = .ok (.bipush 6, 2) := by decide +kernel
theorem dX6_toldRoll_47 : decode cX6_toldRoll 47 = .ok (.iload_n 1, 1) := by decide +kernel
theorem dX6_toldRoll_48 : decode cX6_toldRoll 48 = .ok (.iadd, 1) := by decide +kernel
theorem dX6_toldRoll_49 : decode cX6_toldRoll 49 = .ok (.iaload, 1) := by decide +kernel
theorem dX6_toldRoll_50 : decode cX6_toldRoll 50 = .ok (.ireturn, 1) := by decide +kernel
theorem dX6_toldRoll_51 : decode cX6_toldRoll 51 = .ok (.aload_n 0, 1) := by decide +kernel
theorem dX6_toldRoll_52 : decode cX6_toldRoll 52 = .ok (.iload_n 1, 1) := by decide +kernel
theorem dX6_toldRoll_53 : decode cX6_toldRoll 53 = .ok (.aload_n 0, 1) := by decide +kernel
theorem dX6_toldRoll_54 : decode cX6_toldRoll 54 = .ok (.getfield 7, 3) := by decide +kernel
theorem dX6_toldRoll_57 : decode cX6_toldRoll 57 = .ok (.iconst 3, 1) := by decide +kernel
theorem dX6_toldRoll_58 : decode cX6_toldRoll 58 = .ok (.iload_n 1, 1) := by decide +kernel
theorem dX6_toldRoll_59 : decode cX6_toldRoll 59 = .ok (.iadd, 1) := by decide +kernel
theorem dX6_toldRoll_60 : decode cX6_toldRoll 60 = .ok (.iaload, 1) := by decide +kernel
theorem dX6_toldRoll_61 : decode cX6_toldRoll 61 = .ok (.invokevirtual 103, 3) := by decide +kernel
theorem dX6_toldRoll_64 : decode cX6_toldRoll 64 = .ok (.ireturn, 1) := by decide +kernel
theorem dX6_toldRoll_65 : decode cX6_toldRoll 65 = .ok (.aload_n 0, 1) := by decide +kernel
theorem dX6_toldRoll_66 : decode cX6_toldRoll 66 = .ok (.iload_n 1, 1) := by decide +kernel
theorem dX6_toldRoll_67 : decode cX6_toldRoll 67 = .ok (.invokevirtual 154, 3) := by decide +kernel
theorem dX6_toldRoll_70 : decode cX6_toldRoll 70 = .ok (.sipush 1000, 3) := by decide +kernel
theorem dX6_toldRoll_73 : decode cX6_toldRoll 73 = .ok (.iadd, 1) := by decide +kernel
theorem dX6_toldRoll_74 : decode cX6_toldRoll 74 = .ok (.ireturn, 1) := by decide +kernel
theorem dX6_toldRoll_75 : decode cX6_toldRoll 75 = .ok (.aload_n 0, 1) := by decide +kernel
theorem dX6_toldRoll_76 : decode cX6_toldRoll 76 = .ok (.iload_n 1, 1) := by decide +kernel
theorem dX6_toldRoll_77 : decode cX6_toldRoll 77 = .ok (.aload_n 0, 1) := by decide +kernel
theorem dX6_toldRoll_78 : decode cX6_toldRoll 78 = .ok (.getfield 7, 3) := by decide +kernel
theorem dX6_toldRoll_81 : decode cX6_toldRoll 81 = .ok (.iconst 1, 1) := by decide +kernel
theorem dX6_toldRoll_82 : decode cX6_toldRoll 82 = .ok (.iaload, 1) := by decide +kernel
theorem dX6_toldRoll_83 : decode cX6_toldRoll 83 = .ok (.invokevirtual 157, 3) := by decide +kernel
theorem dX6_toldRoll_86 : decode cX6_toldRoll 86 = .ok (.ireturn, 1) := by decide +kernel
set_option maxRecDepth 20000 in
theorem ggX6_roll_X6_isRoll : GoodIn wsX6_roll wsX6_isRoll := goodIn_r _ [5, 6, 7, 4, 8] (by decide +kernel) (by decide +kernel)
set_option maxRecDepth 20000 in
theorem gX6_roll_X6_isRoll : GoodIn wsX6_roll (va_wsS RX6 96 yX6_isRoll wsX6_isRoll) := goodIn_app (goodIn_of _ (by decide +kernel)) ggX6_roll_X6_isRoll
set_option maxRecDepth 20000 in
theorem ggX6_roll_X6_in : GoodIn wsX6_roll wsX6_in := goodIn_r _ [8] (by decide +kernel) (by decide +kernel)
set_option maxRecDepth 20000 in
theorem gX6_roll_X6_in : GoodIn wsX6_roll (va_wsS RX6 26 yX6_in wsX6_in) := goodIn_app (goodIn_of _ (by decide +kernel)) ggX6_roll_X6_in
set_option maxRecDepth 20000 in
theorem ggX6_roll_X6_toldRoll : GoodIn wsX6_roll wsX6_toldRoll := goodIn_r _ [12, 13, 14, 15, 16, 4, 17, 18, 19, 20, 21, 22, 23, 24, 25, 26, 27, 28, 29, 30, 31, 32, 33, 34, 35, 36, 37, 38, 39, 40, 41, 42, 43] (by decide +kernel) (by decide +kernel)
set_option maxRecDepth 20000 in
theorem gX6_roll_X6_toldRoll : GoodIn wsX6_roll (wsV RX6 160 RX6 yX6_toldRoll wsX6_toldRoll) := goodIn_app (goodIn_of _ (by decide +kernel)) ggX6_roll_X6_toldRoll
theorem dX6_roll_0 : decode cX6_roll 0 = .ok (.aload_n 0, 1) := by decide +kernel
theorem dX6_roll_1 : decode cX6_roll 1 = .ok (.iload_n 1, 1) := by decide +kernel
theorem dX6_roll_2 : decode cX6_roll 2 = .ok (.invokestatic 96, 3) := by decide +kernel
theorem dX6_roll_5 : decode cX6_roll 5 = .ok (.ifCond .ne 7, 3) := by decide +kernel
theorem dX6_roll_8 : decode cX6_roll 8 = .ok (.iconst 1, 1) := by decide +kernel
theorem dX6_roll_9 : decode cX6_roll 9 = .ok (.goto 17, 3) := by decide +kernel
theorem dX6_roll_12 : decode cX6_roll 12 = .ok (.iload_n 2, 1) := by decide +kernel
theorem dX6_roll_13 : decode cX6_roll 13 = .ok (.iconst 0, 1) := by decide +kernel
theorem dX6_roll_14 : decode cX6_roll 14 = .ok (.iconst 4, 1) := by decide +kernel
theorem dX6_roll_15 : decode cX6_roll 15 = .ok (.invokestatic 26, 3) := by decide +kernel
theorem dX6_roll_18 : decode cX6_roll 18 = .ok (.ifCond .eq 7, 3) := by decide +kernel
theorem dX6_roll_21 : decode cX6_roll 21 = .ok (.iconst 0, 1) := by decide +kernel
theorem dX6_roll_22 : decode cX6_roll 22 = .ok (.goto 4, 3) := by decide +kernel
theorem dX6_roll_25 : decode cX6_roll 25 = .ok (.iconst 2, 1) := by decide +kernel
theorem dX6_roll_26 : decode cX6_roll 26 = .ok (.putfield 22, 3) := by decide +kernel
theorem dX6_roll_29 : decode cX6_roll 29 = .ok (.aload_n 0, 1) := by decide +kernel
theorem dX6_roll_30 : decode cX6_roll 30 = .ok (.getfield 22, 3) := by decide +kernel
theorem dX6_roll_33 : decode cX6_roll 33 = .ok (.ifCond .le 7, 3) := by decide +kernel
theorem dX6_roll_36 : decode cX6_roll 36 = .ok (.iconst 0, 1) := by decide +kernel
theorem dX6_roll_37 : decode cX6_roll 37 = .ok (.goto 9, 3) := by decide +kernel
theorem dX6_roll_40 : decode cX6_roll 40 = .ok (.aload_n 0, 1) := by decide +kernel
theorem dX6_roll_41 : decode cX6_roll 41 = .ok (.iload_n 1, 1) := by decide +kernel
theorem dX6_roll_42 : decode cX6_roll 42 = .ok (.iload_n 2, 1) := by decide +kernel
theorem dX6_roll_43 : decode cX6_roll 43 = .ok (.invokevirtual 160, 3) := by decide +kernel
theorem dX6_roll_46 : decode cX6_roll 46 = .ok (.ireturn, 1) := by decide +kernel
set_option maxRecDepth 20000 in
theorem ggX6_toldCell_X6_tone : GoodIn wsX6_toldCell wsX6_tone := goodIn_r _ [5, 6, 7, 8, 4, 9, 10, 11, 12, 13, 14, 15, 16, 17, 18, 27, 28, 29, 30, 31, 32, 33, 34, 35, 36, 37, 38, 39, 40] (by decide +kernel) (by decide +kernel)
set_option maxRecDepth 20000 in
theorem gX6_toldCell_X6_tone : GoodIn wsX6_toldCell (wsV RX6 48 RX6 yX6_tone wsX6_tone) := goodIn_app (goodIn_of _ (by decide +kernel)) ggX6_toldCell_X6_tone
set_option maxRecDepth 20000 in
theorem ggX6_toldCell_X6_inkAt : GoodIn wsX6_toldCell wsX6_inkAt := goodIn_r _ [22, 10, 27, 28, 29, 30, 31, 32, 33, 34, 35, 36, 37, 38, 39, 40] (by decide +kernel) (by decide +kernel)
set_option maxRecDepth 20000 in
theorem gX6_toldCell_X6_inkAt : GoodIn wsX6_toldCell (wsV RX6 51 RX6 yX6_inkAt wsX6_inkAt) := goodIn_app (goodIn_of _ (by decide +kernel)) ggX6_toldCell_X6_inkAt
set_option maxRecDepth 20000 in
theorem ggX6_toldCell_X6_light : GoodIn wsX6_toldCell wsX6_light := goodIn_r _ [26, 1, 2, 3, 4, 5, 6, 7, 8, 9, 10, 11, 12, 13, 14, 15, 16, 17, 18, 19, 20, 21, 22, 27, 28, 29, 30, 31, 32, 33, 34, 35, 36, 37, 38, 39, 40] (by decide +kernel) (by decide +kernel)
set_option maxRecDepth 20000 in
theorem gX6_toldCell_X6_light : GoodIn wsX6_toldCell (wsV RX6 77 RX6 yX6_light wsX6_light) := goodIn_app (goodIn_of _ (by decide +kernel)) ggX6_toldCell_X6_light
set_option maxRecDepth 20000 in
theorem ggX6_toldCell_X6_wiresAt : GoodIn wsX6_toldCell wsX6_wiresAt := goodIn_r _ [9, 10, 11, 12, 13, 4, 14, 15, 16, 17, 18, 27, 28, 29, 30, 31, 32, 33, 34, 35, 36, 37, 38, 39, 40] (by decide +kernel) (by decide +kernel)
set_option maxRecDepth 20000 in
theorem gX6_toldCell_X6_wiresAt : GoodIn wsX6_toldCell (wsV RX6 45 RX6 yX6_wiresAt wsX6_wiresAt) := goodIn_app (goodIn_of _ (by decide +kernel)) ggX6_toldCell_X6_wiresAt
theorem dX6_toldCell_0 : decode cX6_toldCell 0 = .ok (.iload 4, 2) := by decide +kernel
theorem dX6_toldCell_2 : decode cX6_toldCell 2 = .ok (.tableswitch 52 0 2 #[26, 34, 41], 26) := by decide +kernel
theorem dX6_toldCell_28 : decode cX6_toldCell 28 = .ok (.aload_n 0, 1) := by decide +kernel
theorem dX6_toldCell_29 : decode cX6_toldCell 29 = .ok (.iload_n 1, 1) := by decide +kernel
theorem dX6_toldCell_30 : decode cX6_toldCell 30 = .ok (.iload_n 2, 1) := by decide +kernel
theorem dX6_toldCell_31 : decode cX6_toldCell 31 = .ok (.iload_n 3, 1) := by decide +kernel
theorem dX6_toldCell_32 : decode cX6_toldCell 32 = .ok (.invokevirtual 48, 3) := by decide +kernel
theorem dX6_toldCell_35 : decode cX6_toldCell 35 = .ok (.ireturn, 1) := by decide +kernel
theorem dX6_toldCell_36 : decode cX6_toldCell 36 = .ok (.aload_n 0, 1) := by decide +kernel
theorem dX6_toldCell_37 : decode cX6_toldCell 37 = .ok (.iload_n 2, 1) := by decide +kernel
theorem dX6_toldCell_38 : decode cX6_toldCell 38 = .ok (.iload_n 3, 1) := by decide +kernel
theorem dX6_toldCell_39 : decode cX6_toldCell 39 = .ok (.invokevirtual 51, 3) := by decide +kernel
theorem dX6_toldCell_42 : decode cX6_toldCell 42 = .ok (.ireturn, 1) := by decide +kernel
theorem dX6_toldCell_43 : decode cX6_toldCell 43 = .ok (.aload_n 0, 1) := by decide +kernel
theorem dX6_toldCell_44 : decode cX6_toldCell 44 = .ok (.iload_n 1, 1) := by decide +kernel
theorem dX6_toldCell_45 : decode cX6_toldCell 45 = .ok (.iload_n 2, 1) := by decide +kernel
theorem dX6_toldCell_46 : decode cX6_toldCell 46 = .ok (.iload_n 3, 1) := by decide +kernel
theorem dX6_toldCell_47 : decode cX6_toldCell 47 = .ok (.invokevirtual 77, 3) := by decide +kernel
theorem dX6_toldCell_50 : decode cX6_toldCell 50 = .ok (.bipush 100, 2) := by decide +kernel
theorem dX6_toldCell_52 : decode cX6_toldCell 52 = .ok (.iadd, 1) := by decide +kernel
theorem dX6_toldCell_53 : decode cX6_toldCell 53 = .ok (.ireturn, 1) := by decide +kernel
theorem dX6_toldCell_54 : decode cX6_toldCell 54 = .ok (.aload_n 0, 1) := by decide +kernel
theorem dX6_toldCell_55 : decode cX6_toldCell 55 = .ok (.iload_n 1, 1) := by decide +kernel
theorem dX6_toldCell_56 : decode cX6_toldCell 56 = .ok (.iload_n 2, 1) := by decide +kernel
theorem dX6_toldCell_57 : decode cX6_toldCell 57 = .ok (.iload_n 3, 1) := by decide +kernel
theorem dX6_toldCell_58 : decode cX6_toldCell 58 = .ok (.invokevirtual 45, 3) := by decide +kernel
theorem dX6_toldCell_61 : decode cX6_toldCell 61 = .ok (.bipush 100, 2) := by decide +kernel
theorem dX6_toldCell_63 : decode cX6_toldCell 63 = .ok (.iadd, 1) := by decide +kernel
theorem dX6_toldCell_64 : decode cX6_toldCell 64 = .ok (.ireturn, 1) := by decide +kernel
set_option maxRecDepth 20000 in
theorem ggX6_cell_X6_isNote : GoodIn wsX6_cell wsX6_isNote := goodIn_r _ [5, 6, 7, 4, 8] (by decide +kernel) (by decide +kernel)
set_option maxRecDepth 20000 in
theorem gX6_cell_X6_isNote : GoodIn wsX6_cell (va_wsS RX6 163 yX6_isNote wsX6_isNote) := goodIn_app (goodIn_of _ (by decide +kernel)) ggX6_cell_X6_isNote
set_option maxRecDepth 20000 in
theorem ggX6_cell_X6_isCell : GoodIn wsX6_cell wsX6_isCell := goodIn_r _ [11, 6, 7, 4, 8] (by decide +kernel) (by decide +kernel)
set_option maxRecDepth 20000 in
theorem gX6_cell_X6_isCell : GoodIn wsX6_cell (va_wsS RX6 106 yX6_isCell wsX6_isCell) := goodIn_app (goodIn_of _ (by decide +kernel)) ggX6_cell_X6_isCell
set_option maxRecDepth 20000 in
theorem ggX6_cell_X6_in : GoodIn wsX6_cell wsX6_in := goodIn_r _ [8] (by decide +kernel) (by decide +kernel)
set_option maxRecDepth 20000 in
theorem gX6_cell_X6_in : GoodIn wsX6_cell (va_wsS RX6 26 yX6_in wsX6_in) := goodIn_app (goodIn_of _ (by decide +kernel)) ggX6_cell_X6_in
set_option maxRecDepth 20000 in
theorem ggX6_cell_X6_toldCell : GoodIn wsX6_cell wsX6_toldCell := goodIn_r _ [15, 16, 17, 18, 4, 19, 20, 21, 22, 23, 24, 25, 26, 27, 28, 29, 30, 31, 32, 33, 34, 35, 36, 37, 38, 39, 40, 41, 42, 43, 44, 45, 46, 47, 48, 49, 50, 51, 52, 53, 54] (by decide +kernel) (by decide +kernel)
set_option maxRecDepth 20000 in
theorem gX6_cell_X6_toldCell : GoodIn wsX6_cell (wsV RX6 166 RX6 yX6_toldCell wsX6_toldCell) := goodIn_app (goodIn_of _ (by decide +kernel)) ggX6_cell_X6_toldCell
theorem dX6_cell_0 : decode cX6_cell 0 = .ok (.aload_n 0, 1) := by decide +kernel
theorem dX6_cell_1 : decode cX6_cell 1 = .ok (.iload_n 1, 1) := by decide +kernel
theorem dX6_cell_2 : decode cX6_cell 2 = .ok (.invokestatic 163, 3) := by decide +kernel
theorem dX6_cell_5 : decode cX6_cell 5 = .ok (.ifCond .eq 11, 3) := by decide +kernel
theorem dX6_cell_8 : decode cX6_cell 8 = .ok (.iload_n 2, 1) := by decide +kernel
theorem dX6_cell_9 : decode cX6_cell 9 = .ok (.iload_n 3, 1) := by decide +kernel
theorem dX6_cell_10 : decode cX6_cell 10 = .ok (.invokestatic 106, 3) := by decide +kernel
theorem dX6_cell_13 : decode cX6_cell 13 = .ok (.ifCond .ne 7, 3) := by decide +kernel
theorem dX6_cell_16 : decode cX6_cell 16 = .ok (.iconst 1, 1) := by decide +kernel
theorem dX6_cell_17 : decode cX6_cell 17 = .ok (.goto 18, 3) := by decide +kernel
theorem dX6_cell_20 : decode cX6_cell 20 = .ok (.iload 4, 2) := by decide +kernel
theorem dX6_cell_22 : decode cX6_cell 22 = .ok (.iconst 0, 1) := by decide +kernel
theorem dX6_cell_23 : decode cX6_cell 23 = .ok (.iconst 3, 1) := by decide +kernel
theorem dX6_cell_24 : decode cX6_cell 24 = .ok (.invokestatic 26, 3) := by decide +kernel
theorem dX6_cell_27 : decode cX6_cell 27 = .ok (.ifCond .eq 7, 3) := by decide +kernel
theorem dX6_cell_30 : decode cX6_cell 30 = .ok (.iconst 0, 1) := by decide +kernel
theorem dX6_cell_31 : decode cX6_cell 31 = .ok (.goto 4, 3) := by decide +kernel
theorem dX6_cell_34 : decode cX6_cell 34 = .ok (.iconst 2, 1) := by decide +kernel
theorem dX6_cell_35 : decode cX6_cell 35 = .ok (.putfield 22, 3) := by decide +kernel
theorem dX6_cell_38 : decode cX6_cell 38 = .ok (.aload_n 0, 1) := by decide +kernel
theorem dX6_cell_39 : decode cX6_cell 39 = .ok (.getfield 22, 3) := by decide +kernel
theorem dX6_cell_42 : decode cX6_cell 42 = .ok (.ifCond .le 7, 3) := by decide +kernel
theorem dX6_cell_45 : decode cX6_cell 45 = .ok (.iconst 0, 1) := by decide +kernel
theorem dX6_cell_46 : decode cX6_cell 46 = .ok (.goto 12, 3) := by decide +kernel
theorem dX6_cell_49 : decode cX6_cell 49 = .ok (.aload_n 0, 1) := by decide +kernel
theorem dX6_cell_50 : decode cX6_cell 50 = .ok (.iload_n 1, 1) := by decide +kernel
theorem dX6_cell_51 : decode cX6_cell 51 = .ok (.iload_n 2, 1) := by decide +kernel
theorem dX6_cell_52 : decode cX6_cell 52 = .ok (.iload_n 3, 1) := by decide +kernel
theorem dX6_cell_53 : decode cX6_cell 53 = .ok (.iload 4, 2) := by decide +kernel
theorem dX6_cell_55 : decode cX6_cell 55 = .ok (.invokevirtual 166, 3) := by decide +kernel
theorem dX6_cell_58 : decode cX6_cell 58 = .ok (.ireturn, 1) := by decide +kernel
set_option maxRecDepth 20000 in
theorem ggX6_firstSeen_X6_isSeen : GoodIn wsX6_firstSeen wsX6_isSeen := goodIn_r _ [5, 6, 7, 8, 9, 4, 10, 11, 12, 13, 14, 15, 16, 17, 18, 19, 20, 21, 22, 23, 24, 25, 26, 27, 28, 29, 30, 31, 32, 33, 34, 35, 36, 37, 38, 39, 40, 41, 42, 43, 44, 45, 46, 47, 48, 49, 50, 51, 52, 53, 54, 55, 56, 57, 58, 59, 60, 61, 62, 63, 64, 65, 66, 67, 68, 69, 70, 71, 72, 73, 74, 75, 76, 77, 78] (by decide +kernel) (by decide +kernel)
set_option maxRecDepth 20000 in
theorem gX6_firstSeen_X6_isSeen : GoodIn wsX6_firstSeen (wsV RX6 170 RX6 yX6_isSeen wsX6_isSeen) := goodIn_app (goodIn_of _ (by decide +kernel)) ggX6_firstSeen_X6_isSeen
theorem dX6_firstSeen_0 : decode cX6_firstSeen 0 = .ok (.iconst 0, 1) := by decide +kernel
theorem dX6_firstSeen_1 : decode cX6_firstSeen 1 = .ok (.istore_n 1, 1) := by decide +kernel
theorem dX6_firstSeen_2 : decode cX6_firstSeen 2 = .ok (.iload_n 1, 1) := by decide +kernel
theorem dX6_firstSeen_3 : decode cX6_firstSeen 3 = .ok (.bipush 100, 2) := by decide +kernel
theorem dX6_firstSeen_5 : decode cX6_firstSeen 5 = .ok (.if_icmp .ge 19, 3) := by decide +kernel
theorem dX6_firstSeen_8 : decode cX6_firstSeen 8 = .ok (.aload_n 0, 1) := by decide +kernel
theorem dX6_firstSeen_9 : decode cX6_firstSeen 9 = .ok (.iload_n 1, 1) := by decide +kernel
theorem dX6_firstSeen_10 : decode cX6_firstSeen 10 = .ok (.invokevirtual 170, 3) := by decide +kernel
theorem dX6_firstSeen_13 : decode cX6_firstSeen 13 = .ok (.ifCond .eq 5, 3) := by decide +kernel
theorem dX6_firstSeen_16 : decode cX6_firstSeen 16 = .ok (.iload_n 1, 1) := by decide +kernel
theorem dX6_firstSeen_17 : decode cX6_firstSeen 17 = .ok (.ireturn, 1) := by decide +kernel
theorem dX6_firstSeen_18 : decode cX6_firstSeen 18 = .ok (.iinc 1 1, 3) := by decide +kernel
theorem dX6_firstSeen_21 : decode cX6_firstSeen 21 = .ok (.goto (-19), 3) := by decide +kernel
theorem dX6_firstSeen_24 : decode cX6_firstSeen 24 = .ok (.iconst (-1), 1) := by decide +kernel
theorem dX6_firstSeen_25 : decode cX6_firstSeen 25 = .ok (.ireturn, 1) := by decide +kernel
set_option maxRecDepth 20000 in
theorem ggX6_goodOn_X6_isHidden : GoodIn wsX6_goodOn wsX6_isHidden := goodIn_r _ [5, 6, 7, 8, 9, 10, 4, 11, 12, 13, 14, 15, 16, 17, 18, 19, 20, 21, 69, 70, 71, 72, 73, 74, 75, 76, 77, 78, 79, 80, 81, 82] (by decide +kernel) (by decide +kernel)
set_option maxRecDepth 20000 in
theorem gX6_goodOn_X6_isHidden : GoodIn wsX6_goodOn (wsV RX6 173 RX6 yX6_isHidden wsX6_isHidden) := goodIn_app (goodIn_of _ (by decide +kernel)) ggX6_goodOn_X6_isHidden
set_option maxRecDepth 20000 in
theorem ggX6_goodOn_X6_isSeen : GoodIn wsX6_goodOn wsX6_isSeen := goodIn_r _ [25, 12, 26, 27, 28, 4, 29, 30, 31, 32, 33, 34, 35, 36, 37, 6, 17, 7, 18, 19, 20, 21, 38, 39, 40, 41, 42, 43, 44, 45, 46, 47, 48, 49, 50, 51, 52, 53, 54, 55, 56, 57, 8, 9, 10, 11, 13, 14, 15, 16, 58, 59, 60, 61, 62, 63, 64, 65, 66, 67, 68, 69, 70, 71, 72, 73, 74, 75, 76, 77, 78, 79, 80, 81, 82] (by decide +kernel) (by decide +kernel)
set_option maxRecDepth 20000 in
theorem gX6_goodOn_X6_isSeen : GoodIn wsX6_goodOn (wsV RX6 170 RX6 yX6_isSeen wsX6_isSeen) := goodIn_app (goodIn_of _ (by decide +kernel)) ggX6_goodOn_X6_isSeen
theorem dX6_goodOn_0 : decode cX6_goodOn 0 = .ok (.iconst 0, 1) := by decide +kernel
theorem dX6_goodOn_1 : decode cX6_goodOn 1 = .ok (.istore_n 2, 1) := by decide +kernel
theorem dX6_goodOn_2 : decode cX6_goodOn 2 = .ok (.iconst 0, 1) := by decide +kernel
theorem dX6_goodOn_3 : decode cX6_goodOn 3 = .ok (.istore_n 3, 1) := by decide +kernel
theorem dX6_goodOn_4 : decode cX6_goodOn 4 = .ok (.iload_n 3, 1) := by decide +kernel
theorem dX6_goodOn_5 : decode cX6_goodOn 5 = .ok (.iload_n 1, 1) := by decide +kernel
theorem dX6_goodOn_6 : decode cX6_goodOn 6 = .ok (.if_icmp .ge 32, 3) := by decide +kernel
theorem dX6_goodOn_9 : decode cX6_goodOn 9 = .ok (.aload_n 0, 1) := by decide +kernel
theorem dX6_goodOn_10 : decode cX6_goodOn 10 = .ok (.invokevirtual 173, 3) := by decide +kernel
theorem dX6_goodOn_13 : decode cX6_goodOn 13 = .ok (.ifCond .eq 25, 3) := by decide +kernel
theorem dX6_goodOn_16 : decode cX6_goodOn 16 = .ok (.iload_n 2, 1) := by decide +kernel
theorem dX6_goodOn_17 : decode cX6_goodOn 17 = .ok (.aload_n 0, 1) := by decide +kernel
theorem dX6_goodOn_18 : decode cX6_goodOn 18 = .ok (.iload_n 3, 1) := by decide +kernel
theorem dX6_goodOn_19 : decode cX6_goodOn 19 = .ok (.invokevirtual 170, 3) := by decide +kernel
theorem dX6_goodOn_22 : decode cX6_goodOn 22 = .ok (.ifCond .eq 7, 3) := by decide +kernel
theorem dX6_goodOn_25 : decode cX6_goodOn 25 = .ok (.iconst 1, 1) := by decide +kernel
theorem dX6_goodOn_26 : decode cX6_goodOn 26 = .ok (.goto 4, 3) := by decide +kernel
theorem dX6_goodOn_29 : decode cX6_goodOn 29 = .ok (.iconst 0, 1) := by decide +kernel
theorem dX6_goodOn_30 : decode cX6_goodOn 30 = .ok (.iadd, 1) := by decide +kernel
theorem dX6_goodOn_31 : decode cX6_goodOn 31 = .ok (.istore_n 2, 1) := by decide +kernel
theorem dX6_goodOn_32 : decode cX6_goodOn 32 = .ok (.iinc 3 1, 3) := by decide +kernel
theorem dX6_goodOn_35 : decode cX6_goodOn 35 = .ok (.goto (-31), 3) := by decide +kernel
theorem dX6_goodOn_38 : decode cX6_goodOn 38 = .ok (.iload_n 2, 1) := by decide +kernel
theorem dX6_goodOn_39 : decode cX6_goodOn 39 = .ok (.ireturn, 1) := by decide +kernel
set_option maxRecDepth 20000 in
theorem ggX6_toldFigure_X6_isThere : GoodIn wsX6_toldFigure wsX6_isThere := goodIn_r _ [5, 6, 7, 8, 4, 9, 10, 93, 94, 95, 96, 97, 98, 99, 100, 101, 102, 103, 104, 105, 106] (by decide +kernel) (by decide +kernel)
set_option maxRecDepth 20000 in
theorem gX6_toldFigure_X6_isThere : GoodIn wsX6_toldFigure (wsV RX6 176 RX6 yX6_isThere wsX6_isThere) := goodIn_app (goodIn_of _ (by decide +kernel)) ggX6_toldFigure_X6_isThere
set_option maxRecDepth 20000 in
theorem ggX6_toldFigure_X6_take : GoodIn wsX6_toldFigure wsX6_take := goodIn_r _ [14, 6, 7, 8, 4, 9, 10, 15, 16, 17, 18, 19, 20, 21, 22, 93, 94, 95, 96, 97, 98, 99, 100, 101, 102, 103, 104, 105, 106] (by decide +kernel) (by decide +kernel)
set_option maxRecDepth 20000 in
theorem gX6_toldFigure_X6_take : GoodIn wsX6_toldFigure (wsV RX6 116 RX6 yX6_take wsX6_take) := goodIn_app (goodIn_of _ (by decide +kernel)) ggX6_toldFigure_X6_take
set_option maxRecDepth 20000 in
theorem ggX6_toldFigure_X6_cells : GoodIn wsX6_toldFigure wsX6_cells := goodIn_r _ [26, 21, 22, 93, 94, 95, 96, 97, 98, 99, 100, 101, 102, 103, 104, 105, 106] (by decide +kernel) (by decide +kernel)
set_option maxRecDepth 20000 in
theorem gX6_toldFigure_X6_cells : GoodIn wsX6_toldFigure (wsV RX6 84 RX6 yX6_cells wsX6_cells) := goodIn_app (goodIn_of _ (by decide +kernel)) ggX6_toldFigure_X6_cells
set_option maxRecDepth 20000 in
theorem ggX6_toldFigure_X6_frame : GoodIn wsX6_toldFigure wsX6_frame := goodIn_r _ [30, 31, 32, 33, 4, 34, 19, 21, 20, 22, 35, 36, 37, 38, 39, 40, 41, 93, 94, 95, 96, 97, 98, 99, 100, 101, 102, 103, 104, 105, 106] (by decide +kernel) (by decide +kernel)
set_option maxRecDepth 20000 in
theorem gX6_toldFigure_X6_frame : GoodIn wsX6_toldFigure (wsV RX6 80 RX6 yX6_frame wsX6_frame) := goodIn_app (goodIn_of _ (by decide +kernel)) ggX6_toldFigure_X6_frame
set_option maxRecDepth 20000 in
theorem ggX6_toldFigure_X6_isHidden : GoodIn wsX6_toldFigure wsX6_isHidden := goodIn_r _ [45, 19, 20, 46, 47, 48, 4, 49, 10, 31, 32, 33, 34, 21, 22, 35, 36, 37, 93, 94, 95, 96, 97, 98, 99, 100, 101, 102, 103, 104, 105, 106] (by decide +kernel) (by decide +kernel)
set_option maxRecDepth 20000 in
theorem gX6_toldFigure_X6_isHidden : GoodIn wsX6_toldFigure (wsV RX6 173 RX6 yX6_isHidden wsX6_isHidden) := goodIn_app (goodIn_of _ (by decide +kernel)) ggX6_toldFigure_X6_isHidden
set_option maxRecDepth 20000 in
theorem ggX6_toldFigure_X6_firstSeen : GoodIn wsX6_toldFigure wsX6_firstSeen := goodIn_r _ [53, 54, 55, 56, 4, 57, 10, 58, 59, 60, 61, 62, 63, 64, 65, 38, 39, 40, 41, 19, 21, 20, 22, 35, 36, 37, 66, 67, 68, 69, 70, 71, 72, 73, 74, 75, 76, 77, 78, 79, 80, 81, 82, 83, 84, 85, 46, 47, 48, 49, 31, 32, 33, 34, 27, 28, 29, 30, 23, 24, 25, 26, 86, 87, 88, 93, 94, 95, 96, 97, 98, 99, 100, 101, 102, 103, 104, 105, 106] (by decide +kernel) (by decide +kernel)
set_option maxRecDepth 20000 in
theorem gX6_toldFigure_X6_firstSeen : GoodIn wsX6_toldFigure (wsV RX6 179 RX6 yX6_firstSeen wsX6_firstSeen) := goodIn_app (goodIn_of _ (by decide +kernel)) ggX6_toldFigure_X6_firstSeen
set_option maxRecDepth 20000 in
theorem ggX6_toldFigure_X6_goodOn : GoodIn wsX6_toldFigure wsX6_goodOn := goodIn_r _ [92, 42, 43, 44, 4, 45, 19, 20, 46, 47, 48, 49, 10, 31, 32, 33, 34, 21, 22, 35, 36, 37, 54, 55, 56, 57, 58, 59, 60, 61, 62, 63, 64, 65, 38, 39, 40, 41, 66, 67, 68, 69, 70, 71, 72, 73, 74, 75, 76, 77, 78, 79, 80, 81, 82, 83, 84, 85, 27, 28, 29, 30, 23, 24, 25, 26, 86, 87, 88, 93, 94, 95, 96, 97, 98, 99, 100, 101, 102, 103, 104, 105, 106] (by decide +kernel) (by decide +kernel)
set_option maxRecDepth 20000 in
theorem gX6_toldFigure_X6_goodOn : GoodIn wsX6_toldFigure (wsV RX6 182 RX6 yX6_goodOn wsX6_goodOn) := goodIn_app (goodIn_of _ (by decide +kernel)) ggX6_toldFigure_X6_goodOn
theorem dX6_toldFigure_0 : decode cX6_toldFigure 0 = .ok (.aload_n 0, 1) := by decide +kernel
theorem dX6_toldFigure_1 : decode cX6_toldFigure 1 = .ok (.iload_n 1, 1) := by decide +kernel
theorem dX6_toldFigure_2 : decode cX6_toldFigure 2 = .ok (.invokevirtual 176, 3) := by decide +kernel
theorem dX6_toldFigure_5 : decode cX6_toldFigure 5 = .ok (.ifCond .ne 5, 3) := by decide +kernel
theorem dX6_toldFigure_8 : decode cX6_toldFigure 8 = .ok (.iconst (-1), 1) := by decide +kernel
theorem dX6_toldFigure_9 : decode cX6_toldFigure 9 = .ok (.ireturn, 1) := by decide +kernel
theorem dX6_toldFigure_10 : decode cX6_toldFigure 10 = .ok (.aload_n 0, 1) := by decide +kernel
theorem dX6_toldFigure_11 : decode cX6_toldFigure 11 = .ok (.iload_n 1, 1) := by decide +kernel
theorem dX6_toldFigure_12 : decode cX6_toldFigure 12 = .ok (.invokevirtual 116, 3) := by decide +kernel
theorem dX6_toldFigure_15 : decode cX6_toldFigure 15 = .ok (.iload_n 2, 1) := by decide +kernel
theorem dX6_toldFigure_16 : decode cX6_toldFigure 16 = .ok (.tableswitch 60 0 3 #[32, 37, 42, 55], 32) := by decide +kernel
theorem dX6_toldFigure_48 : decode cX6_toldFigure 48 = .ok (.aload_n 0, 1) := by decide +kernel
theorem dX6_toldFigure_49 : decode cX6_toldFigure 49 = .ok (.invokevirtual 84, 3) := by decide +kernel
theorem dX6_toldFigure_52 : decode cX6_toldFigure 52 = .ok (.ireturn, 1) := by decide +kernel
theorem dX6_toldFigure_53 : decode cX6_toldFigure 53 = .ok (.aload_n 0, 1) := by decide +kernel
theorem dX6_toldFigure_54 : decode cX6_toldFigure 54 = .ok (.invokevirtual 80, 3) := by decide +kernel
theorem dX6_toldFigure_57 : decode cX6_toldFigure 57 = .ok (.ireturn, 1) := by decide +kernel
theorem dX6_toldFigure_58 : decode cX6_toldFigure 58 = .ok (.aload_n 0, 1) := by decide +kernel
theorem dX6_toldFigure_59 : decode cX6_toldFigure 59 = .ok (.invokevirtual 173, 3) := by decide +kernel
theorem dX6_toldFigure_62 : decode cX6_toldFigure 62 = .ok (.ifCond .eq 7, 3) := by decide +kernel
theorem dX6_toldFigure_65 : decode cX6_toldFigure 65 = .ok (.iconst 1, 1) := by decide +kernel
theorem dX6_toldFigure_66 : decode cX6_toldFigure 66 = .ok (.goto 4, 3) := by decide +kernel
theorem dX6_toldFigure_69 : decode cX6_toldFigure 69 = .ok (.iconst 0, 1) := by decide +kernel
theorem dX6_toldFigure_70 : decode cX6_toldFigure 70 = .ok (.ireturn, 1) := by decide +kernel
theorem dX6_toldFigure_71 : decode cX6_toldFigure 71 = .ok (.aload_n 0, 1) := by decide +kernel
theorem dX6_toldFigure_72 : decode cX6_toldFigure 72 = .ok (.invokevirtual 179, 3) := by decide +kernel
theorem dX6_toldFigure_75 : decode cX6_toldFigure 75 = .ok (.ireturn, 1) := by decide +kernel
theorem dX6_toldFigure_76 : decode cX6_toldFigure 76 = .ok (.aload_n 0, 1) := by decide +kernel
theorem dX6_toldFigure_77 : decode cX6_toldFigure 77 = .ok (.bipush 100, 2) := by decide +kernel
theorem dX6_toldFigure_79 : decode cX6_toldFigure 79 = .ok (.invokevirtual 182, 3) := by decide +kernel
theorem dX6_toldFigure_82 : decode cX6_toldFigure 82 = .ok (.ireturn, 1) := by decide +kernel
set_option maxRecDepth 20000 in
theorem ggX6_figureOf_X6_isFigure : GoodIn wsX6_figureOf wsX6_isFigure := goodIn_r _ [5, 6, 7, 4, 8] (by decide +kernel) (by decide +kernel)
set_option maxRecDepth 20000 in
theorem gX6_figureOf_X6_isFigure : GoodIn wsX6_figureOf (va_wsS RX6 113 yX6_isFigure wsX6_isFigure) := goodIn_app (goodIn_of _ (by decide +kernel)) ggX6_figureOf_X6_isFigure
set_option maxRecDepth 20000 in
theorem ggX6_figureOf_X6_in : GoodIn wsX6_figureOf wsX6_in := goodIn_r _ [8] (by decide +kernel) (by decide +kernel)
set_option maxRecDepth 20000 in
theorem gX6_figureOf_X6_in : GoodIn wsX6_figureOf (va_wsS RX6 26 yX6_in wsX6_in) := goodIn_app (goodIn_of _ (by decide +kernel)) ggX6_figureOf_X6_in
set_option maxRecDepth 20000 in
theorem ggX6_figureOf_X6_toldFigure : GoodIn wsX6_figureOf wsX6_toldFigure := goodIn_r _ [12, 13, 14, 15, 4, 16, 17, 18, 19, 20, 21, 22, 23, 24, 25, 26, 27, 28, 29, 30, 31, 32, 33, 34, 35, 36, 37, 38, 39, 40, 41, 42, 43, 44, 45, 6, 7, 8, 46, 47, 48, 49, 50, 51, 52, 53, 54, 55, 56, 57, 58, 59, 60, 61, 62, 63, 64, 65, 66, 67, 68, 69, 70, 71, 72, 73, 74, 75, 76, 77, 78, 79, 80, 81, 82, 83, 84, 85, 86, 87, 88, 89, 90, 91, 92, 93, 94, 95, 96, 97, 98, 99, 100, 101, 102, 103, 104, 105, 106, 107, 108, 109, 110, 111, 112, 113, 114] (by decide +kernel) (by decide +kernel)
set_option maxRecDepth 20000 in
theorem gX6_figureOf_X6_toldFigure : GoodIn wsX6_figureOf (wsV RX6 185 RX6 yX6_toldFigure wsX6_toldFigure) := goodIn_app (goodIn_of _ (by decide +kernel)) ggX6_figureOf_X6_toldFigure
theorem dX6_figureOf_0 : decode cX6_figureOf 0 = .ok (.aload_n 0, 1) := by decide +kernel
theorem dX6_figureOf_1 : decode cX6_figureOf 1 = .ok (.iload_n 1, 1) := by decide +kernel
theorem dX6_figureOf_2 : decode cX6_figureOf 2 = .ok (.invokestatic 113, 3) := by decide +kernel
theorem dX6_figureOf_5 : decode cX6_figureOf 5 = .ok (.ifCond .ne 7, 3) := by decide +kernel
theorem dX6_figureOf_8 : decode cX6_figureOf 8 = .ok (.iconst 1, 1) := by decide +kernel
theorem dX6_figureOf_9 : decode cX6_figureOf 9 = .ok (.goto 17, 3) := by decide +kernel
theorem dX6_figureOf_12 : decode cX6_figureOf 12 = .ok (.iload_n 2, 1) := by decide +kernel
theorem dX6_figureOf_13 : decode cX6_figureOf 13 = .ok (.iconst 0, 1) := by decide +kernel
theorem dX6_figureOf_14 : decode cX6_figureOf 14 = .ok (.iconst 4, 1) := by decide +kernel
theorem dX6_figureOf_15 : decode cX6_figureOf 15 = .ok (.invokestatic 26, 3) := by decide +kernel
theorem dX6_figureOf_18 : decode cX6_figureOf 18 = .ok (.ifCond .eq 7, 3) := by decide +kernel
theorem dX6_figureOf_21 : decode cX6_figureOf 21 = .ok (.iconst 0, 1) := by decide +kernel
theorem dX6_figureOf_22 : decode cX6_figureOf 22 = .ok (.goto 4, 3) := by decide +kernel
theorem dX6_figureOf_25 : decode cX6_figureOf 25 = .ok (.iconst 2, 1) := by decide +kernel
theorem dX6_figureOf_26 : decode cX6_figureOf 26 = .ok (.putfield 22, 3) := by decide +kernel
theorem dX6_figureOf_29 : decode cX6_figureOf 29 = .ok (.aload_n 0, 1) := by decide +kernel
theorem dX6_figureOf_30 : decode cX6_figureOf 30 = .ok (.getfield 22, 3) := by decide +kernel
theorem dX6_figureOf_33 : decode cX6_figureOf 33 = .ok (.ifCond .le 7, 3) := by decide +kernel
theorem dX6_figureOf_36 : decode cX6_figureOf 36 = .ok (.iconst 0, 1) := by decide +kernel
theorem dX6_figureOf_37 : decode cX6_figureOf 37 = .ok (.goto 9, 3) := by decide +kernel
theorem dX6_figureOf_40 : decode cX6_figureOf 40 = .ok (.aload_n 0, 1) := by decide +kernel
theorem dX6_figureOf_41 : decode cX6_figureOf 41 = .ok (.iload_n 1, 1) := by decide +kernel
theorem dX6_figureOf_42 : decode cX6_figureOf 42 = .ok (.iload_n 2, 1) := by decide +kernel
theorem dX6_figureOf_43 : decode cX6_figureOf 43 = .ok (.invokevirtual 185, 3) := by decide +kernel
theorem dX6_figureOf_46 : decode cX6_figureOf 46 = .ok (.ireturn, 1) := by decide +kernel
set_option maxRecDepth 20000 in
theorem ggX6_toldContrast_X6_isThere : GoodIn wsX6_toldContrast wsX6_isThere := goodIn_r _ [5, 6, 7, 8, 4, 9, 10, 73, 74, 75, 76, 77, 78, 79, 80, 81, 82, 83, 84, 85, 86] (by decide +kernel) (by decide +kernel)
set_option maxRecDepth 20000 in
theorem gX6_toldContrast_X6_isThere : GoodIn wsX6_toldContrast (wsV RX6 176 RX6 yX6_isThere wsX6_isThere) := goodIn_app (goodIn_of _ (by decide +kernel)) ggX6_toldContrast_X6_isThere
set_option maxRecDepth 20000 in
theorem ggX6_toldContrast_X6_take : GoodIn wsX6_toldContrast wsX6_take := goodIn_r _ [14, 6, 7, 8, 4, 9, 10, 15, 16, 17, 18, 19, 20, 21, 22, 73, 74, 75, 76, 77, 78, 79, 80, 81, 82, 83, 84, 85, 86] (by decide +kernel) (by decide +kernel)
set_option maxRecDepth 20000 in
theorem gX6_toldContrast_X6_take : GoodIn wsX6_toldContrast (wsV RX6 116 RX6 yX6_take wsX6_take) := goodIn_app (goodIn_of _ (by decide +kernel)) ggX6_toldContrast_X6_take
set_option maxRecDepth 20000 in
theorem ggX6_toldContrast_X6_contrastOn : GoodIn wsX6_toldContrast wsX6_contrastOn := goodIn_r _ [26, 27, 28, 29, 4, 30, 19, 21, 20, 22, 31, 32, 33, 34, 35, 36, 37, 38, 39, 40, 41, 42, 43, 44, 45, 10, 46, 47, 48, 49, 50, 51, 52, 53, 54, 55, 56, 57, 58, 59, 60, 61, 62, 63, 64, 65, 66, 67, 68, 69, 70, 71, 72, 73, 74, 75, 76, 77, 78, 79, 80, 81, 82, 83, 84, 85, 86] (by decide +kernel) (by decide +kernel)
set_option maxRecDepth 20000 in
theorem gX6_toldContrast_X6_contrastOn : GoodIn wsX6_toldContrast (wsV RX6 90 RX6 yX6_contrastOn wsX6_contrastOn) := goodIn_app (goodIn_of _ (by decide +kernel)) ggX6_toldContrast_X6_contrastOn
theorem dX6_toldContrast_0 : decode cX6_toldContrast 0 = .ok (.aload_n 0, 1) := by decide +kernel
theorem dX6_toldContrast_1 : decode cX6_toldContrast 1 = .ok (.iload_n 1, 1) := by decide +kernel
theorem dX6_toldContrast_2 : decode cX6_toldContrast 2 = .ok (.invokevirtual 176, 3) := by decide +kernel
theorem dX6_toldContrast_5 : decode cX6_toldContrast 5 = .ok (.ifCond .ne 5, 3) := by decide +kernel
theorem dX6_toldContrast_8 : decode cX6_toldContrast 8 = .ok (.iconst (-1), 1) := by decide +kernel
theorem dX6_toldContrast_9 : decode cX6_toldContrast 9 = .ok (.ireturn, 1) := by decide +kernel
theorem dX6_toldContrast_10 : decode cX6_toldContrast 10 = .ok (.aload_n 0, 1) := by decide +kernel
theorem dX6_toldContrast_11 : decode cX6_toldContrast 11 = .ok (.iload_n 1, 1) := by decide +kernel
theorem dX6_toldContrast_12 : decode cX6_toldContrast 12 = .ok (.invokevirtual 116, 3) := by decide +kernel
theorem dX6_toldContrast_15 : decode cX6_toldContrast 15 = .ok (.aload_n 0, 1) := by decide +kernel
theorem dX6_toldContrast_16 : decode cX6_toldContrast 16 = .ok (.iload_n 2, 1) := by decide +kernel
theorem dX6_toldContrast_17 : decode cX6_toldContrast 17 = .ok (.invokevirtual 90, 3) := by decide +kernel
theorem dX6_toldContrast_20 : decode cX6_toldContrast 20 = .ok (.sipush 1000, 3) := by decide +kernel
theorem dX6_toldContrast_23 : decode cX6_toldContrast 23 = .ok (.iadd, 1) := by decide +kernel
theorem dX6_toldContrast_24 : decode cX6_toldContrast 24 = .ok (.ireturn, 1) := by decide +kernel
set_option maxRecDepth 20000 in
theorem ggX6_contrast_X6_isFigure : GoodIn wsX6_contrast wsX6_isFigure := goodIn_r _ [5, 6, 7, 4, 8] (by decide +kernel) (by decide +kernel)
set_option maxRecDepth 20000 in
theorem gX6_contrast_X6_isFigure : GoodIn wsX6_contrast (va_wsS RX6 113 yX6_isFigure wsX6_isFigure) := goodIn_app (goodIn_of _ (by decide +kernel)) ggX6_contrast_X6_isFigure
set_option maxRecDepth 20000 in
theorem ggX6_contrast_X6_isNote : GoodIn wsX6_contrast wsX6_isNote := goodIn_r _ [11, 6, 7, 4, 8] (by decide +kernel) (by decide +kernel)
set_option maxRecDepth 20000 in
theorem gX6_contrast_X6_isNote : GoodIn wsX6_contrast (va_wsS RX6 163 yX6_isNote wsX6_isNote) := goodIn_app (goodIn_of _ (by decide +kernel)) ggX6_contrast_X6_isNote
set_option maxRecDepth 20000 in
theorem ggX6_contrast_X6_toldContrast : GoodIn wsX6_contrast wsX6_toldContrast := goodIn_r _ [15, 16, 17, 18, 4, 19, 20, 21, 22, 23, 24, 25, 26, 27, 28, 29, 30, 31, 32, 33, 34, 35, 36, 37, 38, 39, 40, 41, 42, 43, 44, 6, 7, 8, 45, 46, 47, 48, 49, 50, 51, 52, 53, 54, 55, 56, 57, 58, 59, 60, 61, 62, 63, 64, 65, 66, 67, 68, 69, 70, 71, 72, 73, 74, 75, 76, 77, 78, 79, 80, 81, 82, 83, 84, 85, 86, 87, 88, 89, 90, 91, 92, 93, 94, 95, 96, 97] (by decide +kernel) (by decide +kernel)
set_option maxRecDepth 20000 in
theorem gX6_contrast_X6_toldContrast : GoodIn wsX6_contrast (wsV RX6 188 RX6 yX6_toldContrast wsX6_toldContrast) := goodIn_app (goodIn_of _ (by decide +kernel)) ggX6_contrast_X6_toldContrast
theorem dX6_contrast_0 : decode cX6_contrast 0 = .ok (.aload_n 0, 1) := by decide +kernel
theorem dX6_contrast_1 : decode cX6_contrast 1 = .ok (.iload_n 1, 1) := by decide +kernel
theorem dX6_contrast_2 : decode cX6_contrast 2 = .ok (.invokestatic 113, 3) := by decide +kernel
theorem dX6_contrast_5 : decode cX6_contrast 5 = .ok (.ifCond .eq 14, 3) := by decide +kernel
theorem dX6_contrast_8 : decode cX6_contrast 8 = .ok (.iload_n 2, 1) := by decide +kernel
theorem dX6_contrast_9 : decode cX6_contrast 9 = .ok (.invokestatic 163, 3) := by decide +kernel
theorem dX6_contrast_12 : decode cX6_contrast 12 = .ok (.ifCond .eq 7, 3) := by decide +kernel
theorem dX6_contrast_15 : decode cX6_contrast 15 = .ok (.iconst 0, 1) := by decide +kernel
theorem dX6_contrast_16 : decode cX6_contrast 16 = .ok (.goto 4, 3) := by decide +kernel
theorem dX6_contrast_19 : decode cX6_contrast 19 = .ok (.iconst 1, 1) := by decide +kernel
theorem dX6_contrast_20 : decode cX6_contrast 20 = .ok (.putfield 22, 3) := by decide +kernel
theorem dX6_contrast_23 : decode cX6_contrast 23 = .ok (.aload_n 0, 1) := by decide +kernel
theorem dX6_contrast_24 : decode cX6_contrast 24 = .ok (.getfield 22, 3) := by decide +kernel
theorem dX6_contrast_27 : decode cX6_contrast 27 = .ok (.ifCond .le 7, 3) := by decide +kernel
theorem dX6_contrast_30 : decode cX6_contrast 30 = .ok (.iconst 0, 1) := by decide +kernel
theorem dX6_contrast_31 : decode cX6_contrast 31 = .ok (.goto 9, 3) := by decide +kernel
theorem dX6_contrast_34 : decode cX6_contrast 34 = .ok (.aload_n 0, 1) := by decide +kernel
theorem dX6_contrast_35 : decode cX6_contrast 35 = .ok (.iload_n 1, 1) := by decide +kernel
theorem dX6_contrast_36 : decode cX6_contrast 36 = .ok (.iload_n 2, 1) := by decide +kernel
theorem dX6_contrast_37 : decode cX6_contrast 37 = .ok (.invokevirtual 188, 3) := by decide +kernel
theorem dX6_contrast_40 : decode cX6_contrast 40 = .ok (.ireturn, 1) := by decide +kernel
set_option maxRecDepth 20000 in
theorem ggX6_figures_X6_of : GoodIn wsX6_figures wsX6_of := goodIn_r _ [5, 6, 7, 8, 9, 10, 11, 12, 13, 14, 15, 16, 17, 18, 19, 20] (by decide +kernel) (by decide +kernel)
set_option maxRecDepth 20000 in
theorem gX6_figures_X6_of : GoodIn wsX6_figures (wsV RX6 30 RX6 yX6_of wsX6_of) := goodIn_app (goodIn_of _ (by decide +kernel)) ggX6_figures_X6_of
theorem dX6_figures_0 : decode cX6_figures 0 = .ok (.aload_n 0, 1) := by decide +kernel
theorem dX6_figures_1 : decode cX6_figures 1 = .ok (.iconst 0, 1) := by decide +kernel
theorem dX6_figures_2 : decode cX6_figures 2 = .ok (.iconst 0, 1) := by decide +kernel
theorem dX6_figures_3 : decode cX6_figures 3 = .ok (.invokevirtual 30, 3) := by decide +kernel
theorem dX6_figures_6 : decode cX6_figures 6 = .ok (.aload_n 0, 1) := by decide +kernel
theorem dX6_figures_7 : decode cX6_figures 7 = .ok (.iconst 1, 1) := by decide +kernel
theorem dX6_figures_8 : decode cX6_figures 8 = .ok (.iconst 0, 1) := by decide +kernel
theorem dX6_figures_9 : decode cX6_figures 9 = .ok (.invokevirtual 30, 3) := by decide +kernel
theorem dX6_figures_12 : decode cX6_figures 12 = .ok (.iadd, 1) := by decide +kernel
theorem dX6_figures_13 : decode cX6_figures 13 = .ok (.aload_n 0, 1) := by decide +kernel
theorem dX6_figures_14 : decode cX6_figures 14 = .ok (.iconst 2, 1) := by decide +kernel
theorem dX6_figures_15 : decode cX6_figures 15 = .ok (.iconst 0, 1) := by decide +kernel
theorem dX6_figures_16 : decode cX6_figures 16 = .ok (.invokevirtual 30, 3) := by decide +kernel
theorem dX6_figures_19 : decode cX6_figures 19 = .ok (.iadd, 1) := by decide +kernel
theorem dX6_figures_20 : decode cX6_figures 20 = .ok (.aload_n 0, 1) := by decide +kernel
theorem dX6_figures_21 : decode cX6_figures 21 = .ok (.iconst 3, 1) := by decide +kernel
theorem dX6_figures_22 : decode cX6_figures 22 = .ok (.iconst 0, 1) := by decide +kernel
theorem dX6_figures_23 : decode cX6_figures 23 = .ok (.invokevirtual 30, 3) := by decide +kernel
theorem dX6_figures_26 : decode cX6_figures 26 = .ok (.iadd, 1) := by decide +kernel
theorem dX6_figures_27 : decode cX6_figures 27 = .ok (.ireturn, 1) := by decide +kernel
set_option maxRecDepth 20000 in
theorem ggX6_hidden_X6_take : GoodIn wsX6_hidden wsX6_take := goodIn_r _ [5, 6, 7, 8, 4, 9, 10, 11, 12, 13, 14, 15, 16, 17, 18, 38, 39, 40, 41, 42, 43, 44, 45, 46, 47, 48, 49, 50, 51] (by decide +kernel) (by decide +kernel)
set_option maxRecDepth 20000 in
theorem gX6_hidden_X6_take : GoodIn wsX6_hidden (wsV RX6 116 RX6 yX6_take wsX6_take) := goodIn_app (goodIn_of _ (by decide +kernel)) ggX6_hidden_X6_take
set_option maxRecDepth 20000 in
theorem ggX6_hidden_X6_isThere : GoodIn wsX6_hidden wsX6_isThere := goodIn_r _ [22, 6, 7, 8, 4, 9, 10, 38, 39, 40, 41, 42, 43, 44, 45, 46, 47, 48, 49, 50, 51] (by decide +kernel) (by decide +kernel)
set_option maxRecDepth 20000 in
theorem gX6_hidden_X6_isThere : GoodIn wsX6_hidden (wsV RX6 176 RX6 yX6_isThere wsX6_isThere) := goodIn_app (goodIn_of _ (by decide +kernel)) ggX6_hidden_X6_isThere
set_option maxRecDepth 20000 in
theorem ggX6_hidden_X6_isHidden : GoodIn wsX6_hidden wsX6_isHidden := goodIn_r _ [26, 15, 16, 27, 28, 29, 4, 30, 10, 31, 32, 33, 34, 17, 18, 35, 36, 37, 38, 39, 40, 41, 42, 43, 44, 45, 46, 47, 48, 49, 50, 51] (by decide +kernel) (by decide +kernel)
set_option maxRecDepth 20000 in
theorem gX6_hidden_X6_isHidden : GoodIn wsX6_hidden (wsV RX6 173 RX6 yX6_isHidden wsX6_isHidden) := goodIn_app (goodIn_of _ (by decide +kernel)) ggX6_hidden_X6_isHidden
theorem dX6_hidden_0 : decode cX6_hidden 0 = .ok (.iconst 0, 1) := by decide +kernel
theorem dX6_hidden_1 : decode cX6_hidden 1 = .ok (.istore_n 1, 1) := by decide +kernel
theorem dX6_hidden_2 : decode cX6_hidden 2 = .ok (.iconst 0, 1) := by decide +kernel
theorem dX6_hidden_3 : decode cX6_hidden 3 = .ok (.istore_n 2, 1) := by decide +kernel
theorem dX6_hidden_4 : decode cX6_hidden 4 = .ok (.iload_n 2, 1) := by decide +kernel
theorem dX6_hidden_5 : decode cX6_hidden 5 = .ok (.iconst 4, 1) := by decide +kernel
theorem dX6_hidden_6 : decode cX6_hidden 6 = .ok (.if_icmp .ge 37, 3) := by decide +kernel
theorem dX6_hidden_9 : decode cX6_hidden 9 = .ok (.aload_n 0, 1) := by decide +kernel
theorem dX6_hidden_10 : decode cX6_hidden 10 = .ok (.iload_n 2, 1) := by decide +kernel
theorem dX6_hidden_11 : decode cX6_hidden 11 = .ok (.invokevirtual 116, 3) := by decide +kernel
theorem dX6_hidden_14 : decode cX6_hidden 14 = .ok (.iload_n 1, 1) := by decide +kernel
theorem dX6_hidden_15 : decode cX6_hidden 15 = .ok (.aload_n 0, 1) := by decide +kernel
theorem dX6_hidden_16 : decode cX6_hidden 16 = .ok (.iload_n 2, 1) := by decide +kernel
theorem dX6_hidden_17 : decode cX6_hidden 17 = .ok (.invokevirtual 176, 3) := by decide +kernel
theorem dX6_hidden_20 : decode cX6_hidden 20 = .ok (.ifCond .eq 14, 3) := by decide +kernel
theorem dX6_hidden_23 : decode cX6_hidden 23 = .ok (.aload_n 0, 1) := by decide +kernel
theorem dX6_hidden_24 : decode cX6_hidden 24 = .ok (.invokevirtual 173, 3) := by decide +kernel
theorem dX6_hidden_27 : decode cX6_hidden 27 = .ok (.ifCond .eq 7, 3) := by decide +kernel
theorem dX6_hidden_30 : decode cX6_hidden 30 = .ok (.iconst 1, 1) := by decide +kernel
theorem dX6_hidden_31 : decode cX6_hidden 31 = .ok (.goto 4, 3) := by decide +kernel
theorem dX6_hidden_34 : decode cX6_hidden 34 = .ok (.iconst 0, 1) := by decide +kernel
theorem dX6_hidden_35 : decode cX6_hidden 35 = .ok (.iadd, 1) := by decide +kernel
theorem dX6_hidden_36 : decode cX6_hidden 36 = .ok (.istore_n 1, 1) := by decide +kernel
theorem dX6_hidden_37 : decode cX6_hidden 37 = .ok (.iinc 2 1, 3) := by decide +kernel
theorem dX6_hidden_40 : decode cX6_hidden 40 = .ok (.goto (-36), 3) := by decide +kernel
theorem dX6_hidden_43 : decode cX6_hidden 43 = .ok (.iload_n 1, 1) := by decide +kernel
theorem dX6_hidden_44 : decode cX6_hidden 44 = .ok (.ireturn, 1) := by decide +kernel
set_option maxRecDepth 20000 in
theorem ggX6_good_X6_take : GoodIn wsX6_good wsX6_take := goodIn_r _ [5, 6, 7, 8, 4, 9, 10, 11, 12, 13, 14, 15, 16, 17, 18, 89, 90, 91, 92, 93, 94, 95, 96, 97, 98, 99, 100, 101, 102] (by decide +kernel) (by decide +kernel)
set_option maxRecDepth 20000 in
theorem gX6_good_X6_take : GoodIn wsX6_good (wsV RX6 116 RX6 yX6_take wsX6_take) := goodIn_app (goodIn_of _ (by decide +kernel)) ggX6_good_X6_take
set_option maxRecDepth 20000 in
theorem ggX6_good_X6_isThere : GoodIn wsX6_good wsX6_isThere := goodIn_r _ [22, 6, 7, 8, 4, 9, 10, 89, 90, 91, 92, 93, 94, 95, 96, 97, 98, 99, 100, 101, 102] (by decide +kernel) (by decide +kernel)
set_option maxRecDepth 20000 in
theorem gX6_good_X6_isThere : GoodIn wsX6_good (wsV RX6 176 RX6 yX6_isThere wsX6_isThere) := goodIn_app (goodIn_of _ (by decide +kernel)) ggX6_good_X6_isThere
set_option maxRecDepth 20000 in
theorem ggX6_good_X6_goodOn : GoodIn wsX6_good wsX6_goodOn := goodIn_r _ [26, 27, 28, 29, 4, 30, 15, 16, 31, 32, 33, 34, 10, 35, 36, 37, 38, 17, 18, 39, 40, 41, 42, 43, 44, 45, 46, 47, 48, 49, 50, 51, 52, 53, 54, 55, 56, 57, 58, 59, 60, 61, 62, 63, 64, 65, 66, 67, 68, 69, 70, 71, 72, 73, 74, 75, 76, 77, 78, 79, 80, 81, 82, 83, 84, 85, 86, 87, 88, 89, 90, 91, 92, 93, 94, 95, 96, 97, 98, 99, 100, 101, 102] (by decide +kernel) (by decide +kernel)
set_option maxRecDepth 20000 in
theorem gX6_good_X6_goodOn : GoodIn wsX6_good (wsV RX6 182 RX6 yX6_goodOn wsX6_goodOn) := goodIn_app (goodIn_of _ (by decide +kernel)) ggX6_good_X6_goodOn
theorem dX6_good_0 : decode cX6_good 0 = .ok (.iconst 0, 1) := by decide +kernel
theorem dX6_good_1 : decode cX6_good 1 = .ok (.istore_n 2, 1) := by decide +kernel
theorem dX6_good_2 : decode cX6_good 2 = .ok (.iconst 0, 1) := by decide +kernel
theorem dX6_good_3 : decode cX6_good 3 = .ok (.istore_n 3, 1) := by decide +kernel
theorem dX6_good_4 : decode cX6_good 4 = .ok (.iload_n 3, 1) := by decide +kernel
theorem dX6_good_5 : decode cX6_good 5 = .ok (.iconst 4, 1) := by decide +kernel
theorem dX6_good_6 : decode cX6_good 6 = .ok (.if_icmp .ge 34, 3) := by decide +kernel
theorem dX6_good_9 : decode cX6_good 9 = .ok (.aload_n 0, 1) := by decide +kernel
theorem dX6_good_10 : decode cX6_good 10 = .ok (.iload_n 3, 1) := by decide +kernel
theorem dX6_good_11 : decode cX6_good 11 = .ok (.invokevirtual 116, 3) := by decide +kernel
theorem dX6_good_14 : decode cX6_good 14 = .ok (.iload_n 2, 1) := by decide +kernel
theorem dX6_good_15 : decode cX6_good 15 = .ok (.aload_n 0, 1) := by decide +kernel
theorem dX6_good_16 : decode cX6_good 16 = .ok (.iload_n 3, 1) := by decide +kernel
theorem dX6_good_17 : decode cX6_good 17 = .ok (.invokevirtual 176, 3) := by decide +kernel
theorem dX6_good_20 : decode cX6_good 20 = .ok (.ifCond .eq 11, 3) := by decide +kernel
theorem dX6_good_23 : decode cX6_good 23 = .ok (.aload_n 0, 1) := by decide +kernel
theorem dX6_good_24 : decode cX6_good 24 = .ok (.iload_n 1, 1) := by decide +kernel
theorem dX6_good_25 : decode cX6_good 25 = .ok (.invokevirtual 182, 3) := by decide +kernel
theorem dX6_good_28 : decode cX6_good 28 = .ok (.goto 4, 3) := by decide +kernel
theorem dX6_good_31 : decode cX6_good 31 = .ok (.iconst 0, 1) := by decide +kernel
theorem dX6_good_32 : decode cX6_good 32 = .ok (.iadd, 1) := by decide +kernel
theorem dX6_good_33 : decode cX6_good 33 = .ok (.istore_n 2, 1) := by decide +kernel
theorem dX6_good_34 : decode cX6_good 34 = .ok (.iinc 3 1, 3) := by decide +kernel
theorem dX6_good_37 : decode cX6_good 37 = .ok (.goto (-33), 3) := by decide +kernel
theorem dX6_good_40 : decode cX6_good 40 = .ok (.iload_n 2, 1) := by decide +kernel
theorem dX6_good_41 : decode cX6_good 41 = .ok (.ireturn, 1) := by decide +kernel
set_option maxRecDepth 20000 in
theorem ggX6_isLikeFirst_X6_tone : GoodIn wsX6_isLikeFirst wsX6_tone := goodIn_r _ [5, 6, 7, 8, 4, 9, 10, 11, 12, 13, 14, 15, 16, 17, 18, 19, 20, 21, 22, 23, 24, 25, 26, 27, 28, 29, 30, 31, 32] (by decide +kernel) (by decide +kernel)
set_option maxRecDepth 20000 in
theorem gX6_isLikeFirst_X6_tone : GoodIn wsX6_isLikeFirst (wsV RX6 48 RX6 yX6_tone wsX6_tone) := goodIn_app (goodIn_of _ (by decide +kernel)) ggX6_isLikeFirst_X6_tone
theorem dX6_isLikeFirst_0 : decode cX6_isLikeFirst 0 = .ok (.iconst 1, 1) := by decide +kernel
theorem dX6_isLikeFirst_1 : decode cX6_isLikeFirst 1 = .ok (.istore_n 2, 1) := by decide +kernel
theorem dX6_isLikeFirst_2 : decode cX6_isLikeFirst 2 = .ok (.iconst 0, 1) := by decide +kernel
theorem dX6_isLikeFirst_3 : decode cX6_isLikeFirst 3 = .ok (.istore_n 3, 1) := by decide +kernel
theorem dX6_isLikeFirst_4 : decode cX6_isLikeFirst 4 = .ok (.iload_n 3, 1) := by decide +kernel
theorem dX6_isLikeFirst_5 : decode cX6_isLikeFirst 5 = .ok (.bipush 72, 2) := by decide +kernel
theorem dX6_isLikeFirst_7 : decode cX6_isLikeFirst 7 = .ok (.if_icmp .ge 48, 3) := by decide +kernel
theorem dX6_isLikeFirst_10 : decode cX6_isLikeFirst 10 = .ok (.iload_n 2, 1) := by decide +kernel
theorem dX6_isLikeFirst_11 : decode cX6_isLikeFirst 11 = .ok (.ifCond .eq 44, 3) := by decide +kernel
theorem dX6_isLikeFirst_14 : decode cX6_isLikeFirst 14 = .ok (.aload_n 0, 1) := by decide +kernel
theorem dX6_isLikeFirst_15 : decode cX6_isLikeFirst 15 = .ok (.iload_n 1, 1) := by decide +kernel
theorem dX6_isLikeFirst_16 : decode cX6_isLikeFirst 16 = .ok (.iload_n 3, 1) := by decide +kernel
theorem dX6_isLikeFirst_17 : decode cX6_isLikeFirst 17 = .ok (.bipush 12, 2) := by decide +kernel
theorem dX6_isLikeFirst_19 : decode cX6_isLikeFirst 19 = .ok (.idiv, 1) := by decide +kernel
theorem dX6_isLikeFirst_20 : decode cX6_isLikeFirst 20 = .ok (.iload_n 3, 1) := by decide +kernel
theorem dX6_isLikeFirst_21 : decode cX6_isLikeFirst 21 = .ok (.bipush 12, 2) := by decide +kernel
theorem dX6_isLikeFirst_23 : decode cX6_isLikeFirst 23 = .ok (.irem, 1) := by decide +kernel
theorem dX6_isLikeFirst_24 : decode cX6_isLikeFirst 24 = .ok (.invokevirtual 48, 3) := by decide +kernel
theorem dX6_isLikeFirst_27 : decode cX6_isLikeFirst 27 = .ok (.aload_n 0, 1) := by decide +kernel
theorem dX6_isLikeFirst_28 : decode cX6_isLikeFirst 28 = .ok (.iconst 0, 1) := by decide +kernel
theorem dX6_isLikeFirst_29 : decode cX6_isLikeFirst 29 = .ok (.iload_n 3, 1) := by decide +kernel
theorem dX6_isLikeFirst_30 : decode cX6_isLikeFirst 30 = .ok (.bipush 12, 2) := by decide +kernel
theorem dX6_isLikeFirst_32 : decode cX6_isLikeFirst 32 = .ok (.idiv, 1) := by decide +kernel
theorem dX6_isLikeFirst_33 : decode cX6_isLikeFirst 33 = .ok (.iload_n 3, 1) := by decide +kernel
theorem dX6_isLikeFirst_34 : decode cX6_isLikeFirst 34 = .ok (.bipush 12, 2) := by decide +kernel
theorem dX6_isLikeFirst_36 : decode cX6_isLikeFirst 36 = .ok (.irem, 1) := by decide +kernel
theorem dX6_isLikeFirst_37 : decode cX6_isLikeFirst 37 = .ok (.invokevirtual 48, 3) := by decide +kernel
theorem dX6_isLikeFirst_40 : decode cX6_isLikeFirst 40 = .ok (.if_icmp .ne 7, 3) := by decide +kernel
theorem dX6_isLikeFirst_43 : decode cX6_isLikeFirst 43 = .ok (.iconst 1, 1) := by decide +kernel
theorem dX6_isLikeFirst_44 : decode cX6_isLikeFirst 44 = .ok (.goto 4, 3) := by decide +kernel
theorem dX6_isLikeFirst_47 : decode cX6_isLikeFirst 47 = .ok (.iconst 0, 1) := by decide +kernel
theorem dX6_isLikeFirst_48 : decode cX6_isLikeFirst 48 = .ok (.istore_n 2, 1) := by decide +kernel
theorem dX6_isLikeFirst_49 : decode cX6_isLikeFirst 49 = .ok (.iinc 3 1, 3) := by decide +kernel
theorem dX6_isLikeFirst_52 : decode cX6_isLikeFirst 52 = .ok (.goto (-48), 3) := by decide +kernel
theorem dX6_isLikeFirst_55 : decode cX6_isLikeFirst 55 = .ok (.iload_n 2, 1) := by decide +kernel
theorem dX6_isLikeFirst_56 : decode cX6_isLikeFirst 56 = .ok (.ireturn, 1) := by decide +kernel
set_option maxRecDepth 20000 in
theorem ggX6_likeFirst_X6_isLikeFirst : GoodIn wsX6_likeFirst wsX6_isLikeFirst := goodIn_r _ [5, 6, 7, 8, 4, 9, 10, 11, 12, 13, 14, 15, 16, 17, 18, 19, 20, 21, 22, 23, 24, 25, 26, 27, 28, 29, 30, 31, 32, 33, 34, 35, 36] (by decide +kernel) (by decide +kernel)
set_option maxRecDepth 20000 in
theorem gX6_likeFirst_X6_isLikeFirst : GoodIn wsX6_likeFirst (wsV RX6 191 RX6 yX6_isLikeFirst wsX6_isLikeFirst) := goodIn_app (goodIn_of _ (by decide +kernel)) ggX6_likeFirst_X6_isLikeFirst
theorem dX6_likeFirst_0 : decode cX6_likeFirst 0 = .ok (.iconst 0, 1) := by decide +kernel
theorem dX6_likeFirst_1 : decode cX6_likeFirst 1 = .ok (.istore_n 1, 1) := by decide +kernel
theorem dX6_likeFirst_2 : decode cX6_likeFirst 2 = .ok (.iconst 1, 1) := by decide +kernel
theorem dX6_likeFirst_3 : decode cX6_likeFirst 3 = .ok (.istore_n 2, 1) := by decide +kernel
theorem dX6_likeFirst_4 : decode cX6_likeFirst 4 = .ok (.iload_n 2, 1) := by decide +kernel
theorem dX6_likeFirst_5 : decode cX6_likeFirst 5 = .ok (.bipush 100, 2) := by decide +kernel
theorem dX6_likeFirst_7 : decode cX6_likeFirst 7 = .ok (.if_icmp .ge 25, 3) := by decide +kernel
theorem dX6_likeFirst_10 : decode cX6_likeFirst 10 = .ok (.iload_n 1, 1) := by decide +kernel
theorem dX6_likeFirst_11 : decode cX6_likeFirst 11 = .ok (.aload_n 0, 1) := by decide +kernel
theorem dX6_likeFirst_12 : decode cX6_likeFirst 12 = .ok (.iload_n 2, 1) := by decide +kernel
theorem dX6_likeFirst_13 : decode cX6_likeFirst 13 = .ok (.invokevirtual 191, 3) := by decide +kernel
theorem dX6_likeFirst_16 : decode cX6_likeFirst 16 = .ok (.ifCond .eq 7, 3) := by decide +kernel
theorem dX6_likeFirst_19 : decode cX6_likeFirst 19 = .ok (.iconst 1, 1) := by decide +kernel
theorem dX6_likeFirst_20 : decode cX6_likeFirst 20 = .ok (.goto 4, 3) := by decide +kernel
theorem dX6_likeFirst_23 : decode cX6_likeFirst 23 = .ok (.iconst 0, 1) := by decide +kernel
theorem dX6_likeFirst_24 : decode cX6_likeFirst 24 = .ok (.iadd, 1) := by decide +kernel
theorem dX6_likeFirst_25 : decode cX6_likeFirst 25 = .ok (.istore_n 1, 1) := by decide +kernel
theorem dX6_likeFirst_26 : decode cX6_likeFirst 26 = .ok (.iinc 2 1, 3) := by decide +kernel
theorem dX6_likeFirst_29 : decode cX6_likeFirst 29 = .ok (.goto (-25), 3) := by decide +kernel
theorem dX6_likeFirst_32 : decode cX6_likeFirst 32 = .ok (.iload_n 1, 1) := by decide +kernel
theorem dX6_likeFirst_33 : decode cX6_likeFirst 33 = .ok (.ireturn, 1) := by decide +kernel
theorem dX6_inked_0 : decode cX6_inked 0 = .ok (.iconst 0, 1) := by decide +kernel
theorem dX6_inked_1 : decode cX6_inked 1 = .ok (.istore_n 1, 1) := by decide +kernel
theorem dX6_inked_2 : decode cX6_inked 2 = .ok (.iconst 0, 1) := by decide +kernel
theorem dX6_inked_3 : decode cX6_inked 3 = .ok (.istore_n 2, 1) := by decide +kernel
theorem dX6_inked_4 : decode cX6_inked 4 = .ok (.iload_n 2, 1) := by decide +kernel
theorem dX6_inked_5 : decode cX6_inked 5 = .ok (.bipush 72, 2) := by decide +kernel
theorem dX6_inked_7 : decode cX6_inked 7 = .ok (.if_icmp .ge 30, 3) := by decide +kernel
theorem dX6_inked_10 : decode cX6_inked 10 = .ok (.iload_n 1, 1) := by decide +kernel
theorem dX6_inked_11 : decode cX6_inked 11 = .ok (.aload_n 0, 1) := by decide +kernel
theorem dX6_inked_12 : decode cX6_inked 12 = .ok (.getfield 7, 3) := by decide +kernel
theorem dX6_inked_15 : decode cX6_inked 15 = .ok (.sipush 297, 3) := by decide +kernel
theorem dX6_inked_18 : decode cX6_inked 18 = .ok (.iload_n 2, 1) := by decide +kernel
theorem dX6_inked_19 : decode cX6_inked 19 = .ok (.iadd, 1) := by decide +kernel
theorem dX6_inked_20 : decode cX6_inked 20 = .ok (.iaload, 1) := by decide +kernel
theorem dX6_inked_21 : decode cX6_inked 21 = .ok (.ifCond .le 7, 3) := by decide +kernel
theorem dX6_inked_24 : decode cX6_inked 24 = .ok (.iconst 1, 1) := by decide +kernel
theorem dX6_inked_25 : decode cX6_inked 25 = .ok (.goto 4, 3) := by decide +kernel
theorem dX6_inked_28 : decode cX6_inked 28 = .ok (.iconst 0, 1) := by decide +kernel
theorem dX6_inked_29 : decode cX6_inked 29 = .ok (.iadd, 1) := by decide +kernel
theorem dX6_inked_30 : decode cX6_inked 30 = .ok (.istore_n 1, 1) := by decide +kernel
theorem dX6_inked_31 : decode cX6_inked 31 = .ok (.iinc 2 1, 3) := by decide +kernel
theorem dX6_inked_34 : decode cX6_inked 34 = .ok (.goto (-30), 3) := by decide +kernel
theorem dX6_inked_37 : decode cX6_inked 37 = .ok (.iload_n 1, 1) := by decide +kernel
theorem dX6_inked_38 : decode cX6_inked 38 = .ok (.ireturn, 1) := by decide +kernel
set_option maxRecDepth 20000 in
theorem ggX6_leastTone_X6_tone : GoodIn wsX6_leastTone wsX6_tone := goodIn_r _ [5, 6, 7, 8, 4, 9, 10, 11, 12, 13, 14, 15, 16, 17, 18, 19, 20, 21, 22, 23, 24, 25, 26, 27, 28, 29, 30, 31, 32] (by decide +kernel) (by decide +kernel)
set_option maxRecDepth 20000 in
theorem gX6_leastTone_X6_tone : GoodIn wsX6_leastTone (wsV RX6 48 RX6 yX6_tone wsX6_tone) := goodIn_app (goodIn_of _ (by decide +kernel)) ggX6_leastTone_X6_tone
theorem dX6_leastTone_0 : decode cX6_leastTone 0 = .ok (.bipush 19, 2) := by decide +kernel
theorem dX6_leastTone_2 : decode cX6_leastTone 2 = .ok (.istore_n 1, 1) := by decide +kernel
theorem dX6_leastTone_3 : decode cX6_leastTone 3 = .ok (.iconst 0, 1) := by decide +kernel
theorem dX6_leastTone_4 : decode cX6_leastTone 4 = .ok (.istore_n 2, 1) := by decide +kernel
theorem dX6_leastTone_5 : decode cX6_leastTone 5 = .ok (.iload_n 2, 1) := by decide +kernel
theorem dX6_leastTone_6 : decode cX6_leastTone 6 = .ok (.bipush 72, 2) := by decide +kernel
theorem dX6_leastTone_8 : decode cX6_leastTone 8 = .ok (.if_icmp .ge 34, 3) := by decide +kernel
theorem dX6_leastTone_11 : decode cX6_leastTone 11 = .ok (.aload_n 0, 1) := by decide +kernel
theorem dX6_leastTone_12 : decode cX6_leastTone 12 = .ok (.iconst 0, 1) := by decide +kernel
theorem dX6_leastTone_13 : decode cX6_leastTone 13 = .ok (.iload_n 2, 1) := by decide +kernel
theorem dX6_leastTone_14 : decode cX6_leastTone 14 = .ok (.bipush 12, 2) := by decide +kernel
theorem dX6_leastTone_16 : decode cX6_leastTone 16 = .ok (.idiv, 1) := by decide +kernel
theorem dX6_leastTone_17 : decode cX6_leastTone 17 = .ok (.iload_n 2, 1) := by decide +kernel
theorem dX6_leastTone_18 : decode cX6_leastTone 18 = .ok (.bipush 12, 2) := by decide +kernel
theorem dX6_leastTone_20 : decode cX6_leastTone 20 = .ok (.irem, 1) := by decide +kernel
theorem dX6_leastTone_21 : decode cX6_leastTone 21 = .ok (.invokevirtual 48, 3) := by decide +kernel
theorem dX6_leastTone_24 : decode cX6_leastTone 24 = .ok (.istore_n 3, 1) := by decide +kernel
theorem dX6_leastTone_25 : decode cX6_leastTone 25 = .ok (.iload_n 3, 1) := by decide +kernel
theorem dX6_leastTone_26 : decode cX6_leastTone 26 = .ok (.iload_n 1, 1) := by decide +kernel
theorem dX6_leastTone_27 : decode cX6_leastTone 27 = .ok (.if_icmp .ge 7, 3) := by decide +kernel
theorem dX6_leastTone_30 : decode cX6_leastTone 30 = .ok (.iload_n 3, 1) := by decide +kernel
theorem dX6_leastTone_31 : decode cX6_leastTone 31 = .ok (.goto 4, 3) := by decide +kernel
theorem dX6_leastTone_34 : decode cX6_leastTone 34 = .ok (.iload_n 1, 1) := by decide +kernel
theorem dX6_leastTone_35 : decode cX6_leastTone 35 = .ok (.istore_n 1, 1) := by decide +kernel
theorem dX6_leastTone_36 : decode cX6_leastTone 36 = .ok (.iinc 2 1, 3) := by decide +kernel
theorem dX6_leastTone_39 : decode cX6_leastTone 39 = .ok (.goto (-34), 3) := by decide +kernel
theorem dX6_leastTone_42 : decode cX6_leastTone 42 = .ok (.iload_n 1, 1) := by decide +kernel
theorem dX6_leastTone_43 : decode cX6_leastTone 43 = .ok (.ireturn, 1) := by decide +kernel
set_option maxRecDepth 20000 in
theorem ggX6_greatestTone_X6_tone : GoodIn wsX6_greatestTone wsX6_tone := goodIn_r _ [5, 6, 7, 8, 4, 9, 10, 11, 12, 13, 14, 15, 16, 17, 18, 19, 20, 21, 22, 23, 24, 25, 26, 27, 28, 29, 30, 31, 32] (by decide +kernel) (by decide +kernel)
set_option maxRecDepth 20000 in
theorem gX6_greatestTone_X6_tone : GoodIn wsX6_greatestTone (wsV RX6 48 RX6 yX6_tone wsX6_tone) := goodIn_app (goodIn_of _ (by decide +kernel)) ggX6_greatestTone_X6_tone
theorem dX6_greatestTone_0 : decode cX6_greatestTone 0 = .ok (.iconst 0, 1) := by decide +kernel
theorem dX6_greatestTone_1 : decode cX6_greatestTone 1 = .ok (.istore_n 1, 1) := by decide +kernel
theorem dX6_greatestTone_2 : decode cX6_greatestTone 2 = .ok (.iconst 0, 1) := by decide +kernel
theorem dX6_greatestTone_3 : decode cX6_greatestTone 3 = .ok (.istore_n 2, 1) := by decide +kernel
theorem dX6_greatestTone_4 : decode cX6_greatestTone 4 = .ok (.iload_n 2, 1) := by decide +kernel
theorem dX6_greatestTone_5 : decode cX6_greatestTone 5 = .ok (.bipush 72, 2) := by decide +kernel
theorem dX6_greatestTone_7 : decode cX6_greatestTone 7 = .ok (.if_icmp .ge 34, 3) := by decide +kernel
theorem dX6_greatestTone_10 : decode cX6_greatestTone 10 = .ok (.aload_n 0, 1) := by decide +kernel
theorem dX6_greatestTone_11 : decode cX6_greatestTone 11 = .ok (.iconst 0, 1) := by decide +kernel
theorem dX6_greatestTone_12 : decode cX6_greatestTone 12 = .ok (.iload_n 2, 1) := by decide +kernel
theorem dX6_greatestTone_13 : decode cX6_greatestTone 13 = .ok (.bipush 12, 2) := by decide +kernel
theorem dX6_greatestTone_15 : decode cX6_greatestTone 15 = .ok (.idiv, 1) := by decide +kernel
theorem dX6_greatestTone_16 : decode cX6_greatestTone 16 = .ok (.iload_n 2, 1) := by decide +kernel
theorem dX6_greatestTone_17 : decode cX6_greatestTone 17 = .ok (.bipush 12, 2) := by decide +kernel
theorem dX6_greatestTone_19 : decode cX6_greatestTone 19 = .ok (.irem, 1) := by decide +kernel
theorem dX6_greatestTone_20 : decode cX6_greatestTone 20 = .ok (.invokevirtual 48, 3) := by decide +kernel
theorem dX6_greatestTone_23 : decode cX6_greatestTone 23 = .ok (.istore_n 3, 1) := by decide +kernel
theorem dX6_greatestTone_24 : decode cX6_greatestTone 24 = .ok (.iload_n 3, 1) := by decide +kernel
theorem dX6_greatestTone_25 : decode cX6_greatestTone 25 = .ok (.iload_n 1, 1) := by decide +kernel
theorem dX6_greatestTone_26 : decode cX6_greatestTone 26 = .ok (.if_icmp .le 7, 3) := by decide +kernel
theorem dX6_greatestTone_29 : decode cX6_greatestTone 29 = .ok (.iload_n 3, 1) := by decide +kernel
theorem dX6_greatestTone_30 : decode cX6_greatestTone 30 = .ok (.goto 4, 3) := by decide +kernel
theorem dX6_greatestTone_33 : decode cX6_greatestTone 33 = .ok (.iload_n 1, 1) := by decide +kernel
theorem dX6_greatestTone_34 : decode cX6_greatestTone 34 = .ok (.istore_n 1, 1) := by decide +kernel
theorem dX6_greatestTone_35 : decode cX6_greatestTone 35 = .ok (.iinc 2 1, 3) := by decide +kernel
theorem dX6_greatestTone_38 : decode cX6_greatestTone 38 = .ok (.goto (-34), 3) := by decide +kernel
theorem dX6_greatestTone_41 : decode cX6_greatestTone 41 = .ok (.iload_n 1, 1) := by decide +kernel
theorem dX6_greatestTone_42 : decode cX6_greatestTone 42 = .ok (.ireturn, 1) := by decide +kernel
set_option maxRecDepth 20000 in
theorem ggX6_counted_X6_figures : GoodIn wsX6_counted wsX6_figures := goodIn_r _ [7, 8, 9, 10, 6, 11, 1, 126, 127, 128, 129, 130, 131, 132, 133, 134, 135, 136, 137, 138, 139] (by decide +kernel) (by decide +kernel)
set_option maxRecDepth 20000 in
theorem gX6_counted_X6_figures : GoodIn wsX6_counted (wsV RX6 194 RX6 yX6_figures wsX6_figures) := goodIn_app (goodIn_of _ (by decide +kernel)) ggX6_counted_X6_figures
set_option maxRecDepth 20000 in
theorem ggX6_counted_X6_hidden : GoodIn wsX6_counted wsX6_hidden := goodIn_r _ [15, 16, 17, 18, 6, 19, 8, 9, 10, 11, 1, 20, 21, 22, 23, 24, 25, 26, 27, 28, 29, 30, 31, 32, 33, 34, 35, 36, 37, 38, 39, 40, 41, 42, 43, 44, 45, 46, 126, 127, 128, 129, 130, 131, 132, 133, 134, 135, 136, 137, 138, 139] (by decide +kernel) (by decide +kernel)
set_option maxRecDepth 20000 in
theorem gX6_counted_X6_hidden : GoodIn wsX6_counted (wsV RX6 197 RX6 yX6_hidden wsX6_hidden) := goodIn_app (goodIn_of _ (by decide +kernel)) ggX6_counted_X6_hidden
set_option maxRecDepth 20000 in
theorem ggX6_counted_X6_good : GoodIn wsX6_counted wsX6_good := goodIn_r _ [50, 16, 17, 18, 6, 19, 8, 9, 10, 11, 1, 20, 21, 22, 23, 24, 25, 26, 27, 28, 29, 30, 31, 51, 52, 53, 54, 32, 33, 34, 35, 36, 37, 38, 39, 40, 41, 42, 43, 44, 45, 46, 55, 56, 57, 58, 59, 60, 61, 62, 63, 64, 65, 66, 67, 68, 69, 70, 71, 72, 73, 74, 75, 76, 77, 78, 79, 80, 81, 82, 83, 84, 85, 86, 87, 88, 89, 90, 91, 92, 93, 94, 95, 96, 97, 98, 99, 100, 101, 126, 127, 128, 129, 130, 131, 132, 133, 134, 135, 136, 137, 138, 139] (by decide +kernel) (by decide +kernel)
set_option maxRecDepth 20000 in
theorem gX6_counted_X6_good : GoodIn wsX6_counted (wsV RX6 200 RX6 yX6_good wsX6_good) := goodIn_app (goodIn_of _ (by decide +kernel)) ggX6_counted_X6_good
set_option maxRecDepth 20000 in
theorem ggX6_counted_X6_roundOfAll : GoodIn wsX6_counted wsX6_roundOfAll := goodIn_r _ [105, 1, 126, 127, 128, 129, 130, 131, 132, 133, 134, 135, 136, 137, 138, 139] (by decide +kernel) (by decide +kernel)
set_option maxRecDepth 20000 in
theorem gX6_counted_X6_roundOfAll : GoodIn wsX6_counted (wsV RX6 203 RX6 yX6_roundOfAll wsX6_roundOfAll) := goodIn_app (goodIn_of _ (by decide +kernel)) ggX6_counted_X6_roundOfAll
set_option maxRecDepth 20000 in
theorem ggX6_counted_X6_likeFirst : GoodIn wsX6_counted wsX6_likeFirst := goodIn_r _ [109, 110, 111, 112, 6, 113, 75, 76, 77, 78, 79, 80, 81, 82, 1, 83, 84, 85, 86, 87, 88, 89, 90, 126, 127, 128, 129, 130, 131, 132, 133, 134, 135, 136, 137, 138, 139] (by decide +kernel) (by decide +kernel)
set_option maxRecDepth 20000 in
theorem gX6_counted_X6_likeFirst : GoodIn wsX6_counted (wsV RX6 206 RX6 yX6_likeFirst wsX6_likeFirst) := goodIn_app (goodIn_of _ (by decide +kernel)) ggX6_counted_X6_likeFirst
set_option maxRecDepth 20000 in
theorem ggX6_counted_X6_inked : GoodIn wsX6_counted wsX6_inked := goodIn_r _ [117, 1, 126, 127, 128, 129, 130, 131, 132, 133, 134, 135, 136, 137, 138, 139] (by decide +kernel) (by decide +kernel)
set_option maxRecDepth 20000 in
theorem gX6_counted_X6_inked : GoodIn wsX6_counted (wsV RX6 209 RX6 yX6_inked wsX6_inked) := goodIn_app (goodIn_of _ (by decide +kernel)) ggX6_counted_X6_inked
set_option maxRecDepth 20000 in
theorem ggX6_counted_X6_leastTone : GoodIn wsX6_counted wsX6_leastTone := goodIn_r _ [121, 75, 76, 77, 6, 78, 79, 80, 81, 82, 1, 83, 84, 85, 86, 87, 88, 89, 90, 126, 127, 128, 129, 130, 131, 132, 133, 134, 135, 136, 137, 138, 139] (by decide +kernel) (by decide +kernel)
set_option maxRecDepth 20000 in
theorem gX6_counted_X6_leastTone : GoodIn wsX6_counted (wsV RX6 212 RX6 yX6_leastTone wsX6_leastTone) := goodIn_app (goodIn_of _ (by decide +kernel)) ggX6_counted_X6_leastTone
set_option maxRecDepth 20000 in
theorem ggX6_counted_X6_greatestTone : GoodIn wsX6_counted wsX6_greatestTone := goodIn_r _ [125, 75, 76, 77, 6, 78, 79, 80, 81, 82, 1, 83, 84, 85, 86, 87, 88, 89, 90, 126, 127, 128, 129, 130, 131, 132, 133, 134, 135, 136, 137, 138, 139] (by decide +kernel) (by decide +kernel)
set_option maxRecDepth 20000 in
theorem gX6_counted_X6_greatestTone : GoodIn wsX6_counted (wsV RX6 215 RX6 yX6_greatestTone wsX6_greatestTone) := goodIn_app (goodIn_of _ (by decide +kernel)) ggX6_counted_X6_greatestTone
theorem dX6_counted_0 : decode cX6_counted 0 = .ok (.iload_n 1, 1) := by decide +kernel
theorem dX6_counted_1 : decode cX6_counted 1 = .ok (.tableswitch 94 0 7 #[47, 52, 57, 63, 74, 79, 84, 89], 47) := by decide +kernel
theorem dX6_counted_48 : decode cX6_counted 48 = .ok (.aload_n 0, 1) := by decide +kernel
theorem dX6_counted_49 : decode cX6_counted 49 = .ok (.invokevirtual 194, 3) := by decide +kernel
theorem dX6_counted_52 : decode cX6_counted 52 = .ok (.ireturn, 1) := by decide +kernel
theorem dX6_counted_53 : decode cX6_counted 53 = .ok (.aload_n 0, 1) := by decide +kernel
theorem dX6_counted_54 : decode cX6_counted 54 = .ok (.invokevirtual 197, 3) := by decide +kernel
theorem dX6_counted_57 : decode cX6_counted 57 = .ok (.ireturn, 1) := by decide +kernel
theorem dX6_counted_58 : decode cX6_counted 58 = .ok (.aload_n 0, 1) := by decide +kernel
theorem dX6_counted_59 : decode cX6_counted 59 = .ok (.iconst 1, 1) := by decide +kernel
theorem dX6_counted_60 : decode cX6_counted 60 = .ok (.invokevirtual 200, 3) := by decide +kernel
theorem dX6_counted_63 : decode cX6_counted 63 = .ok (.ireturn, 1) := by decide +kernel
theorem dX6_counted_64 : decode cX6_counted 64 = .ok (.aload_n 0, 1) := by decide +kernel
theorem dX6_counted_65 : decode cX6_counted 65 = .ok (.aload_n 0, 1) := by decide +kernel
theorem dX6_counted_66 : decode cX6_counted 66 = .ok (.getfield 7, 3) := by decide +kernel
theorem dX6_counted_69 : decode cX6_counted 69 = .ok (.iconst 1, 1) := by decide +kernel
theorem dX6_counted_70 : decode cX6_counted 70 = .ok (.iaload, 1) := by decide +kernel
theorem dX6_counted_71 : decode cX6_counted 71 = .ok (.invokevirtual 203, 3) := by decide +kernel
theorem dX6_counted_74 : decode cX6_counted 74 = .ok (.ireturn, 1) := by decide +kernel
theorem dX6_counted_75 : decode cX6_counted 75 = .ok (.aload_n 0, 1) := by decide +kernel
theorem dX6_counted_76 : decode cX6_counted 76 = .ok (.invokevirtual 206, 3) := by decide +kernel
theorem dX6_counted_79 : decode cX6_counted 79 = .ok (.ireturn, 1) := by decide +kernel
theorem dX6_counted_80 : decode cX6_counted 80 = .ok (.aload_n 0, 1) := by decide +kernel
theorem dX6_counted_81 : decode cX6_counted 81 = .ok (.invokevirtual 209, 3) := by decide +kernel
theorem dX6_counted_84 : decode cX6_counted 84 = .ok (.ireturn, 1) := by decide +kernel
theorem dX6_counted_85 : decode cX6_counted 85 = .ok (.aload_n 0, 1) := by decide +kernel
theorem dX6_counted_86 : decode cX6_counted 86 = .ok (.invokevirtual 212, 3) := by decide +kernel
theorem dX6_counted_89 : decode cX6_counted 89 = .ok (.ireturn, 1) := by decide +kernel
theorem dX6_counted_90 : decode cX6_counted 90 = .ok (.aload_n 0, 1) := by decide +kernel
theorem dX6_counted_91 : decode cX6_counted 91 = .ok (.invokevirtual 215, 3) := by decide +kernel
theorem dX6_counted_94 : decode cX6_counted 94 = .ok (.ireturn, 1) := by decide +kernel
theorem dX6_counted_95 : decode cX6_counted 95 = .ok (.aload_n 0, 1) := by decide +kernel
theorem dX6_counted_96 : decode cX6_counted 96 = .ok (.getfield 34, 3) := by decide +kernel
theorem dX6_counted_99 : decode cX6_counted 99 = .ok (.ireturn, 1) := by decide +kernel
set_option maxRecDepth 20000 in
theorem ggX6_count_X6_in : GoodIn wsX6_count wsX6_in := goodIn_r _ [5] (by decide +kernel) (by decide +kernel)
set_option maxRecDepth 20000 in
theorem gX6_count_X6_in : GoodIn wsX6_count (va_wsS RX6 26 yX6_in wsX6_in) := goodIn_app (goodIn_of _ (by decide +kernel)) ggX6_count_X6_in
set_option maxRecDepth 20000 in
theorem ggX6_count_X6_counted : GoodIn wsX6_count wsX6_counted := goodIn_r _ [9, 10, 11, 12, 13, 14, 4, 15, 16, 17, 18, 19, 20, 21, 22, 23, 24, 25, 26, 27, 28, 29, 30, 31, 32, 33, 34, 35, 36, 37, 38, 39, 40, 41, 42, 43, 44, 45, 46, 47, 48, 49, 50, 51, 2, 3, 5, 52, 53, 54, 55, 56, 57, 58, 59, 60, 61, 62, 63, 64, 65, 66, 67, 68, 69, 70, 71, 72, 73, 74, 75, 76, 77, 78, 79, 80, 81, 82, 83, 84, 85, 86, 87, 88, 89, 90, 91, 92, 93, 94, 95, 96, 97, 98, 99, 100, 101, 102, 103, 104, 105, 106, 107, 108, 109, 110, 111, 112, 113, 114, 115, 116, 117, 118, 119, 120, 121, 122, 123, 124, 125, 126, 127, 128, 129, 130, 131, 132, 133, 134, 135, 136, 137, 138, 139, 140, 141, 142, 143, 144] (by decide +kernel) (by decide +kernel)
set_option maxRecDepth 20000 in
theorem gX6_count_X6_counted : GoodIn wsX6_count (wsV RX6 218 RX6 yX6_counted wsX6_counted) := goodIn_app (goodIn_of _ (by decide +kernel)) ggX6_count_X6_counted
theorem dX6_count_0 : decode cX6_count 0 = .ok (.aload_n 0, 1) := by decide +kernel
theorem dX6_count_1 : decode cX6_count 1 = .ok (.iload_n 1, 1) := by decide +kernel
theorem dX6_count_2 : decode cX6_count 2 = .ok (.iconst 0, 1) := by decide +kernel
theorem dX6_count_3 : decode cX6_count 3 = .ok (.bipush 8, 2) := by decide +kernel
theorem dX6_count_5 : decode cX6_count 5 = .ok (.invokestatic 26, 3) := by decide +kernel
theorem dX6_count_8 : decode cX6_count 8 = .ok (.ifCond .eq 7, 3) := by decide +kernel
theorem dX6_count_11 : decode cX6_count 11 = .ok (.iconst 0, 1) := by decide +kernel
theorem dX6_count_12 : decode cX6_count 12 = .ok (.goto 4, 3) := by decide +kernel
theorem dX6_count_15 : decode cX6_count 15 = .ok (.iconst 1, 1) := by decide +kernel
theorem dX6_count_16 : decode cX6_count 16 = .ok (.putfield 22, 3) := by decide +kernel
theorem dX6_count_19 : decode cX6_count 19 = .ok (.aload_n 0, 1) := by decide +kernel
theorem dX6_count_20 : decode cX6_count 20 = .ok (.getfield 22, 3) := by decide +kernel
theorem dX6_count_23 : decode cX6_count 23 = .ok (.ifCond .le 7, 3) := by decide +kernel
theorem dX6_count_26 : decode cX6_count 26 = .ok (.iconst 0, 1) := by decide +kernel
theorem dX6_count_27 : decode cX6_count 27 = .ok (.goto 8, 3) := by decide +kernel
theorem dX6_count_30 : decode cX6_count 30 = .ok (.aload_n 0, 1) := by decide +kernel
theorem dX6_count_31 : decode cX6_count 31 = .ok (.iload_n 1, 1) := by decide +kernel
theorem dX6_count_32 : decode cX6_count 32 = .ok (.invokevirtual 218, 3) := by decide +kernel
theorem dX6_count_35 : decode cX6_count 35 = .ok (.ireturn, 1) := by decide +kernel
set_option maxRecDepth 20000 in
theorem ggX6_setting_X6_in : GoodIn wsX6_setting wsX6_in := goodIn_r _ [6] (by decide +kernel) (by decide +kernel)
set_option maxRecDepth 20000 in
theorem gX6_setting_X6_in : GoodIn wsX6_setting (va_wsS RX6 26 yX6_in wsX6_in) := goodIn_app (goodIn_of _ (by decide +kernel)) ggX6_setting_X6_in
theorem dX6_setting_0 : decode cX6_setting 0 = .ok (.aload_n 0, 1) := by decide +kernel
theorem dX6_setting_1 : decode cX6_setting 1 = .ok (.iload_n 1, 1) := by decide +kernel
theorem dX6_setting_2 : decode cX6_setting 2 = .ok (.iconst 0, 1) := by decide +kernel
theorem dX6_setting_3 : decode cX6_setting 3 = .ok (.iconst 2, 1) := by decide +kernel
theorem dX6_setting_4 : decode cX6_setting 4 = .ok (.invokestatic 26, 3) := by decide +kernel
theorem dX6_setting_7 : decode cX6_setting 7 = .ok (.ifCond .eq 7, 3) := by decide +kernel
theorem dX6_setting_10 : decode cX6_setting 10 = .ok (.iconst 0, 1) := by decide +kernel
theorem dX6_setting_11 : decode cX6_setting 11 = .ok (.goto 4, 3) := by decide +kernel
theorem dX6_setting_14 : decode cX6_setting 14 = .ok (.iconst 1, 1) := by decide +kernel
theorem dX6_setting_15 : decode cX6_setting 15 = .ok (.putfield 22, 3) := by decide +kernel
theorem dX6_setting_18 : decode cX6_setting 18 = .ok (.aload_n 0, 1) := by decide +kernel
theorem dX6_setting_19 : decode cX6_setting 19 = .ok (.getfield 22, 3) := by decide +kernel
theorem dX6_setting_22 : decode cX6_setting 22 = .ok (.ifCond .le 7, 3) := by decide +kernel
theorem dX6_setting_25 : decode cX6_setting 25 = .ok (.iconst 0, 1) := by decide +kernel
theorem dX6_setting_26 : decode cX6_setting 26 = .ok (.goto 11, 3) := by decide +kernel
theorem dX6_setting_29 : decode cX6_setting 29 = .ok (.aload_n 0, 1) := by decide +kernel
theorem dX6_setting_30 : decode cX6_setting 30 = .ok (.getfield 7, 3) := by decide +kernel
theorem dX6_setting_33 : decode cX6_setting 33 = .ok (.iconst 0, 1) := by decide +kernel
theorem dX6_setting_34 : decode cX6_setting 34 = .ok (.iload_n 1, 1) := by decide +kernel
theorem dX6_setting_35 : decode cX6_setting 35 = .ok (.iadd, 1) := by decide +kernel
theorem dX6_setting_36 : decode cX6_setting 36 = .ok (.iaload, 1) := by decide +kernel
theorem dX6_setting_37 : decode cX6_setting 37 = .ok (.ireturn, 1) := by decide +kernel
set_option maxRecDepth 20000 in
theorem ggX6_phaseFor_X6_isThere : GoodIn wsX6_phaseFor wsX6_isThere := goodIn_r _ [6, 7, 8, 9, 5, 10, 1, 77, 78, 79, 80, 81, 82, 83, 84, 85, 86, 87, 88, 89, 90] (by decide +kernel) (by decide +kernel)
set_option maxRecDepth 20000 in
theorem gX6_phaseFor_X6_isThere : GoodIn wsX6_phaseFor (wsV RX6 176 RX6 yX6_isThere wsX6_isThere) := goodIn_app (goodIn_of _ (by decide +kernel)) ggX6_phaseFor_X6_isThere
set_option maxRecDepth 20000 in
theorem ggX6_phaseFor_X6_take : GoodIn wsX6_phaseFor wsX6_take := goodIn_r _ [14, 7, 8, 9, 5, 10, 1, 15, 16, 17, 18, 19, 20, 21, 22, 77, 78, 79, 80, 81, 82, 83, 84, 85, 86, 87, 88, 89, 90] (by decide +kernel) (by decide +kernel)
set_option maxRecDepth 20000 in
theorem gX6_phaseFor_X6_take : GoodIn wsX6_phaseFor (wsV RX6 116 RX6 yX6_take wsX6_take) := goodIn_app (goodIn_of _ (by decide +kernel)) ggX6_phaseFor_X6_take
set_option maxRecDepth 20000 in
theorem ggX6_phaseFor_X6_sizeOn : GoodIn wsX6_phaseFor wsX6_sizeOn := goodIn_r _ [26, 27, 28, 29, 5, 30, 31, 32, 33, 34, 19, 21, 20, 22, 35, 36, 37, 38, 39, 40, 41, 42, 43, 44, 45, 46, 47, 48, 49, 1, 50, 51, 52, 53, 54, 55, 56, 57, 58, 59, 60, 61, 62, 63, 64, 65, 66, 67, 68, 69, 70, 71, 72, 73, 74, 75, 76, 77, 78, 79, 80, 81, 82, 83, 84, 85, 86, 87, 88, 89, 90] (by decide +kernel) (by decide +kernel)
set_option maxRecDepth 20000 in
theorem gX6_phaseFor_X6_sizeOn : GoodIn wsX6_phaseFor (wsV RX6 93 RX6 yX6_sizeOn wsX6_sizeOn) := goodIn_app (goodIn_of _ (by decide +kernel)) ggX6_phaseFor_X6_sizeOn
theorem dX6_phaseFor_0 : decode cX6_phaseFor 0 = .ok (.aload_n 0, 1) := by decide +kernel
theorem dX6_phaseFor_1 : decode cX6_phaseFor 1 = .ok (.iload_n 2, 1) := by decide +kernel
theorem dX6_phaseFor_2 : decode cX6_phaseFor 2 = .ok (.invokevirtual 176, 3) := by decide +kernel
theorem dX6_phaseFor_5 : decode cX6_phaseFor 5 = .ok (.ifCond .ne 5, 3) := by decide +kernel
theorem dX6_phaseFor_8 : decode cX6_phaseFor 8 = .ok (.iconst (-1), 1) := by decide +kernel
theorem dX6_phaseFor_9 : decode cX6_phaseFor 9 = .ok (.ireturn, 1) := by decide +kernel
theorem dX6_phaseFor_10 : decode cX6_phaseFor 10 = .ok (.aload_n 0, 1) := by decide +kernel
theorem dX6_phaseFor_11 : decode cX6_phaseFor 11 = .ok (.iload_n 2, 1) := by decide +kernel
theorem dX6_phaseFor_12 : decode cX6_phaseFor 12 = .ok (.invokevirtual 116, 3) := by decide +kernel
theorem dX6_phaseFor_15 : decode cX6_phaseFor 15 = .ok (.aload_n 0, 1) := by decide +kernel
theorem dX6_phaseFor_16 : decode cX6_phaseFor 16 = .ok (.getfield 7, 3) := by decide +kernel
theorem dX6_phaseFor_19 : decode cX6_phaseFor 19 = .ok (.bipush 6, 2) := by decide +kernel
theorem dX6_phaseFor_21 : decode cX6_phaseFor 21 = .ok (.iload_n 1, 1) := by decide +kernel
theorem dX6_phaseFor_22 : decode cX6_phaseFor 22 = .ok (.iadd, 1) := by decide +kernel
theorem dX6_phaseFor_23 : decode cX6_phaseFor 23 = .ok (.iaload, 1) := by decide +kernel
theorem dX6_phaseFor_24 : decode cX6_phaseFor 24 = .ok (.istore_n 3, 1) := by decide +kernel
theorem dX6_phaseFor_25 : decode cX6_phaseFor 25 = .ok (.iconst (-1), 1) := by decide +kernel
theorem dX6_phaseFor_26 : decode cX6_phaseFor 26 = .ok (.istore 4, 2) := by decide +kernel
theorem dX6_phaseFor_28 : decode cX6_phaseFor 28 = .ok (.iconst (-1), 1) := by decide +kernel
theorem dX6_phaseFor_29 : decode cX6_phaseFor 29 = .ok (.istore 5, 2) := by decide +kernel
theorem dX6_phaseFor_31 : decode cX6_phaseFor 31 = .ok (.iconst 0, 1) := by decide +kernel
theorem dX6_phaseFor_32 : decode cX6_phaseFor 32 = .ok (.istore 6, 2) := by decide +kernel
theorem dX6_phaseFor_34 : decode cX6_phaseFor 34 = .ok (.iload 6, 2) := by decide +kernel
theorem dX6_phaseFor_36 : decode cX6_phaseFor 36 = .ok (.aload_n 0, 1) := by decide +kernel
theorem dX6_phaseFor_37 : decode cX6_phaseFor 37 = .ok (.getfield 7, 3) := by decide +kernel
theorem dX6_phaseFor_40 : decode cX6_phaseFor 40 = .ok (.iconst 3, 1) := by decide +kernel
theorem dX6_phaseFor_41 : decode cX6_phaseFor 41 = .ok (.iload_n 1, 1) := by decide +kernel
theorem dX6_phaseFor_42 : decode cX6_phaseFor 42 = .ok (.iadd, 1) := by decide +kernel
theorem dX6_phaseFor_43 : decode cX6_phaseFor 43 = .ok (.iaload, 1) := by decide +kernel
theorem dX6_phaseFor_44 : decode cX6_phaseFor 44 = .ok (.if_icmp .ge 59, 3) := by decide +kernel
theorem dX6_phaseFor_47 : decode cX6_phaseFor 47 = .ok (.aload_n 0, 1) := by decide +kernel
theorem dX6_phaseFor_48 : decode cX6_phaseFor 48 = .ok (.getfield 7, 3) := by decide +kernel
theorem dX6_phaseFor_51 : decode cX6_phaseFor 51 = .ok (.bipush 6, 2) := by decide +kernel
theorem dX6_phaseFor_53 : decode cX6_phaseFor 53 = .ok (.iload_n 1, 1) := by decide +kernel
theorem dX6_phaseFor_54 : decode cX6_phaseFor 54 = .ok (.iadd, 1) := by decide +kernel
theorem dX6_phaseFor_55 : decode cX6_phaseFor 55 = .ok (.iload 6, 2) := by decide +kernel
theorem dX6_phaseFor_57 : decode cX6_phaseFor 57 = .ok (.iastore, 1) := by decide +kernel
theorem dX6_phaseFor_58 : decode cX6_phaseFor 58 = .ok (.aload_n 0, 1) := by decide +kernel
theorem dX6_phaseFor_59 : decode cX6_phaseFor 59 = .ok (.iconst 0, 1) := by decide +kernel
theorem dX6_phaseFor_60 : decode cX6_phaseFor 60 = .ok (.invokevirtual 93, 3) := by decide +kernel
theorem dX6_phaseFor_63 : decode cX6_phaseFor 63 = .ok (.istore 7, 2) := by decide +kernel
theorem dX6_phaseFor_65 : decode cX6_phaseFor 65 = .ok (.iload 7, 2) := by decide +kernel
theorem dX6_phaseFor_67 : decode cX6_phaseFor 67 = .ok (.iload 5, 2) := by decide +kernel
theorem dX6_phaseFor_69 : decode cX6_phaseFor 69 = .ok (.if_icmp .le 8, 3) := by decide +kernel
theorem dX6_phaseFor_72 : decode cX6_phaseFor 72 = .ok (.iload 6, 2) := by decide +kernel
theorem dX6_phaseFor_74 : decode cX6_phaseFor 74 = .ok (.goto 5, 3) := by decide +kernel
theorem dX6_phaseFor_77 : decode cX6_phaseFor 77 = .ok (.iload 4, 2) := by decide +kernel
theorem dX6_phaseFor_79 : decode cX6_phaseFor 79 = .ok (.istore 4, 2) := by decide +kernel
theorem dX6_phaseFor_81 : decode cX6_phaseFor 81 = .ok (.iload 7, 2) := by decide +kernel
theorem dX6_phaseFor_83 : decode cX6_phaseFor 83 = .ok (.iload 5, 2) := by decide +kernel
theorem dX6_phaseFor_85 : decode cX6_phaseFor 85 = .ok (.if_icmp .le 8, 3) := by decide +kernel
theorem dX6_phaseFor_88 : decode cX6_phaseFor 88 = .ok (.iload 7, 2) := by decide +kernel
theorem dX6_phaseFor_90 : decode cX6_phaseFor 90 = .ok (.goto 5, 3) := by decide +kernel
theorem dX6_phaseFor_93 : decode cX6_phaseFor 93 = .ok (.iload 5, 2) := by decide +kernel
theorem dX6_phaseFor_95 : decode cX6_phaseFor 95 = .ok (.istore 5, 2) := by decide +kernel
theorem dX6_phaseFor_97 : decode cX6_phaseFor 97 = .ok (.iinc 6 1, 3) := by decide +kernel
theorem dX6_phaseFor_100 : decode cX6_phaseFor 100 = .ok (.goto (-66), 3) := by decide +kernel
theorem dX6_phaseFor_103 : decode cX6_phaseFor 103 = .ok (.aload_n 0, 1) := by decide +kernel
theorem dX6_phaseFor_104 : decode cX6_phaseFor 104 = .ok (.getfield 7, 3) := by decide +kernel
theorem dX6_phaseFor_107 : decode cX6_phaseFor 107 = .ok (.bipush 6, 2) := by decide +kernel
theorem dX6_phaseFor_109 : decode cX6_phaseFor 109 = .ok (.iload_n 1, 1) := by decide +kernel
theorem dX6_phaseFor_110 : decode cX6_phaseFor 110 = .ok (.iadd, 1) := by decide +kernel
theorem dX6_phaseFor_111 : decode cX6_phaseFor 111 = .ok (.iload_n 3, 1) := by decide +kernel
theorem dX6_phaseFor_112 : decode cX6_phaseFor 112 = .ok (.iastore, 1) := by decide +kernel
theorem dX6_phaseFor_113 : decode cX6_phaseFor 113 = .ok (.iload 4, 2) := by decide +kernel
theorem dX6_phaseFor_115 : decode cX6_phaseFor 115 = .ok (.ireturn, 1) := by decide +kernel
set_option maxRecDepth 20000 in
theorem ggX6_bestPhase_X6_isRoll : GoodIn wsX6_bestPhase wsX6_isRoll := goodIn_r _ [5, 6, 7, 4, 8] (by decide +kernel) (by decide +kernel)
set_option maxRecDepth 20000 in
theorem gX6_bestPhase_X6_isRoll : GoodIn wsX6_bestPhase (va_wsS RX6 96 yX6_isRoll wsX6_isRoll) := goodIn_app (goodIn_of _ (by decide +kernel)) ggX6_bestPhase_X6_isRoll
set_option maxRecDepth 20000 in
theorem ggX6_bestPhase_X6_isFigure : GoodIn wsX6_bestPhase wsX6_isFigure := goodIn_r _ [11, 6, 7, 4, 8] (by decide +kernel) (by decide +kernel)
set_option maxRecDepth 20000 in
theorem gX6_bestPhase_X6_isFigure : GoodIn wsX6_bestPhase (va_wsS RX6 113 yX6_isFigure wsX6_isFigure) := goodIn_app (goodIn_of _ (by decide +kernel)) ggX6_bestPhase_X6_isFigure
set_option maxRecDepth 20000 in
theorem ggX6_bestPhase_X6_phaseFor : GoodIn wsX6_bestPhase wsX6_phaseFor := goodIn_r _ [15, 16, 17, 18, 19, 4, 20, 21, 22, 23, 24, 25, 26, 27, 28, 29, 30, 31, 32, 33, 34, 35, 36, 37, 38, 39, 40, 41, 42, 43, 44, 45, 46, 47, 48, 6, 7, 8, 49, 50, 51, 52, 53, 54, 55, 56, 57, 58, 59, 60, 61, 62, 63, 64, 65, 66, 67, 68, 69, 70, 71, 72, 73, 74, 75, 76, 77, 78, 79, 80, 81, 82, 83, 84, 85, 86, 87, 88, 89, 90, 91, 92, 93, 94, 95, 96, 97, 98, 99, 100, 101] (by decide +kernel) (by decide +kernel)
set_option maxRecDepth 20000 in
theorem gX6_bestPhase_X6_phaseFor : GoodIn wsX6_bestPhase (wsV RX6 221 RX6 yX6_phaseFor wsX6_phaseFor) := goodIn_app (goodIn_of _ (by decide +kernel)) ggX6_bestPhase_X6_phaseFor
theorem dX6_bestPhase_0 : decode cX6_bestPhase 0 = .ok (.aload_n 0, 1) := by decide +kernel
theorem dX6_bestPhase_1 : decode cX6_bestPhase 1 = .ok (.iload_n 1, 1) := by decide +kernel
theorem dX6_bestPhase_2 : decode cX6_bestPhase 2 = .ok (.invokestatic 96, 3) := by decide +kernel
theorem dX6_bestPhase_5 : decode cX6_bestPhase 5 = .ok (.ifCond .eq 14, 3) := by decide +kernel
theorem dX6_bestPhase_8 : decode cX6_bestPhase 8 = .ok (.iload_n 2, 1) := by decide +kernel
theorem dX6_bestPhase_9 : decode cX6_bestPhase 9 = .ok (.invokestatic 113, 3) := by decide +kernel
theorem dX6_bestPhase_12 : decode cX6_bestPhase 12 = .ok (.ifCond .eq 7, 3) := by decide +kernel
theorem dX6_bestPhase_15 : decode cX6_bestPhase 15 = .ok (.iconst 0, 1) := by decide +kernel
theorem dX6_bestPhase_16 : decode cX6_bestPhase 16 = .ok (.goto 4, 3) := by decide +kernel
theorem dX6_bestPhase_19 : decode cX6_bestPhase 19 = .ok (.iconst 1, 1) := by decide +kernel
theorem dX6_bestPhase_20 : decode cX6_bestPhase 20 = .ok (.putfield 22, 3) := by decide +kernel
theorem dX6_bestPhase_23 : decode cX6_bestPhase 23 = .ok (.aload_n 0, 1) := by decide +kernel
theorem dX6_bestPhase_24 : decode cX6_bestPhase 24 = .ok (.getfield 22, 3) := by decide +kernel
theorem dX6_bestPhase_27 : decode cX6_bestPhase 27 = .ok (.ifCond .le 7, 3) := by decide +kernel
theorem dX6_bestPhase_30 : decode cX6_bestPhase 30 = .ok (.iconst 0, 1) := by decide +kernel
theorem dX6_bestPhase_31 : decode cX6_bestPhase 31 = .ok (.goto 9, 3) := by decide +kernel
theorem dX6_bestPhase_34 : decode cX6_bestPhase 34 = .ok (.aload_n 0, 1) := by decide +kernel
theorem dX6_bestPhase_35 : decode cX6_bestPhase 35 = .ok (.iload_n 1, 1) := by decide +kernel
theorem dX6_bestPhase_36 : decode cX6_bestPhase 36 = .ok (.iload_n 2, 1) := by decide +kernel
theorem dX6_bestPhase_37 : decode cX6_bestPhase 37 = .ok (.invokevirtual 221, 3) := by decide +kernel
theorem dX6_bestPhase_40 : decode cX6_bestPhase 40 = .ok (.ireturn, 1) := by decide +kernel
set_option maxRecDepth 20000 in
theorem ggX6_pitch_X6_roundOfAll : GoodIn wsX6_pitch wsX6_roundOfAll := goodIn_r _ [5, 6, 7, 8, 9, 10, 11, 12, 13, 14, 15, 16, 17, 18, 19, 20] (by decide +kernel) (by decide +kernel)
set_option maxRecDepth 20000 in
theorem gX6_pitch_X6_roundOfAll : GoodIn wsX6_pitch (wsV RX6 203 RX6 yX6_roundOfAll wsX6_roundOfAll) := goodIn_app (goodIn_of _ (by decide +kernel)) ggX6_pitch_X6_roundOfAll
theorem dX6_pitch_0 : decode cX6_pitch 0 = .ok (.bipush 12, 2) := by decide +kernel
theorem dX6_pitch_2 : decode cX6_pitch 2 = .ok (.istore_n 1, 1) := by decide +kernel
theorem dX6_pitch_3 : decode cX6_pitch 3 = .ok (.bipush 13, 2) := by decide +kernel
theorem dX6_pitch_5 : decode cX6_pitch 5 = .ok (.istore_n 2, 1) := by decide +kernel
theorem dX6_pitch_6 : decode cX6_pitch 6 = .ok (.iload_n 2, 1) := by decide +kernel
theorem dX6_pitch_7 : decode cX6_pitch 7 = .ok (.bipush 30, 2) := by decide +kernel
theorem dX6_pitch_9 : decode cX6_pitch 9 = .ok (.if_icmp .gt 28, 3) := by decide +kernel
theorem dX6_pitch_12 : decode cX6_pitch 12 = .ok (.aload_n 0, 1) := by decide +kernel
theorem dX6_pitch_13 : decode cX6_pitch 13 = .ok (.iload_n 2, 1) := by decide +kernel
theorem dX6_pitch_14 : decode cX6_pitch 14 = .ok (.invokevirtual 203, 3) := by decide +kernel
theorem dX6_pitch_17 : decode cX6_pitch 17 = .ok (.aload_n 0, 1) := by decide +kernel
theorem dX6_pitch_18 : decode cX6_pitch 18 = .ok (.iload_n 1, 1) := by decide +kernel
theorem dX6_pitch_19 : decode cX6_pitch 19 = .ok (.invokevirtual 203, 3) := by decide +kernel
theorem dX6_pitch_22 : decode cX6_pitch 22 = .ok (.if_icmp .ge 7, 3) := by decide +kernel
theorem dX6_pitch_25 : decode cX6_pitch 25 = .ok (.iload_n 2, 1) := by decide +kernel
theorem dX6_pitch_26 : decode cX6_pitch 26 = .ok (.goto 4, 3) := by decide +kernel
theorem dX6_pitch_29 : decode cX6_pitch 29 = .ok (.iload_n 1, 1) := by decide +kernel
theorem dX6_pitch_30 : decode cX6_pitch 30 = .ok (.istore_n 1, 1) := by decide +kernel
theorem dX6_pitch_31 : decode cX6_pitch 31 = .ok (.iinc 2 1, 3) := by decide +kernel
theorem dX6_pitch_34 : decode cX6_pitch 34 = .ok (.goto (-28), 3) := by decide +kernel
theorem dX6_pitch_37 : decode cX6_pitch 37 = .ok (.iload_n 1, 1) := by decide +kernel
theorem dX6_pitch_38 : decode cX6_pitch 38 = .ok (.ireturn, 1) := by decide +kernel
set_option maxRecDepth 20000 in
theorem ggX6_bestPitch_X6_pitch : GoodIn wsX6_bestPitch wsX6_pitch := goodIn_r _ [6, 7, 8, 9, 5, 10, 11, 12, 13, 14, 15, 16, 17, 18, 19, 20, 21, 22, 23, 24, 25] (by decide +kernel) (by decide +kernel)
set_option maxRecDepth 20000 in
theorem gX6_bestPitch_X6_pitch : GoodIn wsX6_bestPitch (wsV RX6 224 RX6 yX6_pitch wsX6_pitch) := goodIn_app (goodIn_of _ (by decide +kernel)) ggX6_bestPitch_X6_pitch
theorem dX6_bestPitch_0 : decode cX6_bestPitch 0 = .ok (.aload_n 0, 1) := by decide +kernel
theorem dX6_bestPitch_1 : decode cX6_bestPitch 1 = .ok (.iconst 0, 1) := by decide +kernel
theorem dX6_bestPitch_2 : decode cX6_bestPitch 2 = .ok (.putfield 22, 3) := by decide +kernel
theorem dX6_bestPitch_5 : decode cX6_bestPitch 5 = .ok (.aload_n 0, 1) := by decide +kernel
theorem dX6_bestPitch_6 : decode cX6_bestPitch 6 = .ok (.invokevirtual 224, 3) := by decide +kernel
theorem dX6_bestPitch_9 : decode cX6_bestPitch 9 = .ok (.ireturn, 1) := by decide +kernel
set_option maxRecDepth 20000 in
theorem ggX6_standing_X6_areThere : GoodIn wsX6_standing wsX6_areThere := goodIn_r _ [4, 5, 6, 3, 7] (by decide +kernel) (by decide +kernel)
set_option maxRecDepth 20000 in
theorem gX6_standing_X6_areThere : GoodIn wsX6_standing (va_wsS RX6 109 yX6_areThere wsX6_areThere) := goodIn_app (goodIn_of _ (by decide +kernel)) ggX6_standing_X6_areThere
set_option maxRecDepth 20000 in
theorem ggX6_standing_X6_rectangle : GoodIn wsX6_standing wsX6_rectangle := goodIn_r _ [11, 12, 13, 14, 15, 68, 69, 70, 71, 72, 73, 74, 75, 76, 77, 78, 79, 80, 81] (by decide +kernel) (by decide +kernel)
set_option maxRecDepth 20000 in
theorem gX6_standing_X6_rectangle : GoodIn wsX6_standing (wsV RX6 66 RX6 yX6_rectangle wsX6_rectangle) := goodIn_app (goodIn_of _ (by decide +kernel)) ggX6_standing_X6_rectangle
set_option maxRecDepth 20000 in
theorem ggX6_standing_X6_sizeOn : GoodIn wsX6_standing wsX6_sizeOn := goodIn_r _ [19, 20, 21, 22, 3, 23, 24, 25, 26, 27, 12, 14, 13, 15, 5, 6, 7, 28, 29, 30, 31, 32, 33, 34, 35, 36, 37, 38, 39, 40, 41, 42, 43, 44, 45, 46, 47, 48, 49, 50, 51, 52, 53, 54, 55, 56, 57, 58, 59, 60, 61, 62, 63, 64, 65, 66, 67, 68, 69, 70, 71, 72, 73, 74, 75, 76, 77, 78, 79, 80, 81] (by decide +kernel) (by decide +kernel)
set_option maxRecDepth 20000 in
theorem gX6_standing_X6_sizeOn : GoodIn wsX6_standing (wsV RX6 93 RX6 yX6_sizeOn wsX6_sizeOn) := goodIn_app (goodIn_of _ (by decide +kernel)) ggX6_standing_X6_sizeOn
theorem dX6_standing_0 : decode cX6_standing 0 = .ok (.iconst 0, 1) := by decide +kernel
theorem dX6_standing_1 : decode cX6_standing 1 = .ok (.istore 4, 2) := by decide +kernel
theorem dX6_standing_3 : decode cX6_standing 3 = .ok (.iconst (-1), 1) := by decide +kernel
theorem dX6_standing_4 : decode cX6_standing 4 = .ok (.istore 5, 2) := by decide +kernel
theorem dX6_standing_6 : decode cX6_standing 6 = .ok (.iconst 0, 1) := by decide +kernel
theorem dX6_standing_7 : decode cX6_standing 7 = .ok (.istore 6, 2) := by decide +kernel
theorem dX6_standing_9 : decode cX6_standing 9 = .ok (.iload 6, 2) := by decide +kernel
theorem dX6_standing_11 : decode cX6_standing 11 = .ok (.bipush 72, 2) := by decide +kernel
theorem dX6_standing_13 : decode cX6_standing 13 = .ok (.if_icmp .ge 82, 3) := by decide +kernel
theorem dX6_standing_16 : decode cX6_standing 16 = .ok (.iload 6, 2) := by decide +kernel
theorem dX6_standing_18 : decode cX6_standing 18 = .ok (.bipush 12, 2) := by decide +kernel
theorem dX6_standing_20 : decode cX6_standing 20 = .ok (.idiv, 1) := by decide +kernel
theorem dX6_standing_21 : decode cX6_standing 21 = .ok (.iload 6, 2) := by decide +kernel
theorem dX6_standing_23 : decode cX6_standing 23 = .ok (.bipush 12, 2) := by decide +kernel
theorem dX6_standing_25 : decode cX6_standing 25 = .ok (.irem, 1) := by decide +kernel
theorem dX6_standing_26 : decode cX6_standing 26 = .ok (.iload_n 1, 1) := by decide +kernel
theorem dX6_standing_27 : decode cX6_standing 27 = .ok (.iload_n 2, 1) := by decide +kernel
theorem dX6_standing_28 : decode cX6_standing 28 = .ok (.invokestatic 109, 3) := by decide +kernel
theorem dX6_standing_31 : decode cX6_standing 31 = .ok (.ifCond .eq 58, 3) := by decide +kernel
theorem dX6_standing_34 : decode cX6_standing 34 = .ok (.aload_n 0, 1) := by decide +kernel
theorem dX6_standing_35 : decode cX6_standing 35 = .ok (.iload 6, 2) := by decide +kernel
theorem dX6_standing_37 : decode cX6_standing 37 = .ok (.bipush 12, 2) := by decide +kernel
theorem dX6_standing_39 : decode cX6_standing 39 = .ok (.idiv, 1) := by decide +kernel
theorem dX6_standing_40 : decode cX6_standing 40 = .ok (.iload 6, 2) := by decide +kernel
theorem dX6_standing_42 : decode cX6_standing 42 = .ok (.bipush 12, 2) := by decide +kernel
theorem dX6_standing_44 : decode cX6_standing 44 = .ok (.irem, 1) := by decide +kernel
theorem dX6_standing_45 : decode cX6_standing 45 = .ok (.iload_n 1, 1) := by decide +kernel
theorem dX6_standing_46 : decode cX6_standing 46 = .ok (.iload_n 2, 1) := by decide +kernel
theorem dX6_standing_47 : decode cX6_standing 47 = .ok (.invokevirtual 66, 3) := by decide +kernel
theorem dX6_standing_50 : decode cX6_standing 50 = .ok (.aload_n 0, 1) := by decide +kernel
theorem dX6_standing_51 : decode cX6_standing 51 = .ok (.iconst 0, 1) := by decide +kernel
theorem dX6_standing_52 : decode cX6_standing 52 = .ok (.invokevirtual 93, 3) := by decide +kernel
theorem dX6_standing_55 : decode cX6_standing 55 = .ok (.istore 7, 2) := by decide +kernel
theorem dX6_standing_57 : decode cX6_standing 57 = .ok (.iload 7, 2) := by decide +kernel
theorem dX6_standing_59 : decode cX6_standing 59 = .ok (.iload 5, 2) := by decide +kernel
theorem dX6_standing_61 : decode cX6_standing 61 = .ok (.if_icmp .le 8, 3) := by decide +kernel
theorem dX6_standing_64 : decode cX6_standing 64 = .ok (.iload 6, 2) := by decide +kernel
theorem dX6_standing_66 : decode cX6_standing 66 = .ok (.goto 5, 3) := by decide +kernel
theorem dX6_standing_69 : decode cX6_standing 69 = .ok (.iload 4, 2) := by decide +kernel
theorem dX6_standing_71 : decode cX6_standing 71 = .ok (.istore 4, 2) := by decide +kernel
theorem dX6_standing_73 : decode cX6_standing 73 = .ok (.iload 7, 2) := by decide +kernel
theorem dX6_standing_75 : decode cX6_standing 75 = .ok (.iload 5, 2) := by decide +kernel
theorem dX6_standing_77 : decode cX6_standing 77 = .ok (.if_icmp .le 8, 3) := by decide +kernel
theorem dX6_standing_80 : decode cX6_standing 80 = .ok (.iload 7, 2) := by decide +kernel
theorem dX6_standing_82 : decode cX6_standing 82 = .ok (.goto 5, 3) := by decide +kernel
theorem dX6_standing_85 : decode cX6_standing 85 = .ok (.iload 5, 2) := by decide +kernel
theorem dX6_standing_87 : decode cX6_standing 87 = .ok (.istore 5, 2) := by decide +kernel
theorem dX6_standing_89 : decode cX6_standing 89 = .ok (.iinc 6 1, 3) := by decide +kernel
theorem dX6_standing_92 : decode cX6_standing 92 = .ok (.goto (-83), 3) := by decide +kernel
theorem dX6_standing_95 : decode cX6_standing 95 = .ok (.iload_n 3, 1) := by decide +kernel
theorem dX6_standing_96 : decode cX6_standing 96 = .ok (.ifCond .ne 11, 3) := by decide +kernel
theorem dX6_standing_99 : decode cX6_standing 99 = .ok (.iload 4, 2) := by decide +kernel
theorem dX6_standing_101 : decode cX6_standing 101 = .ok (.bipush 12, 2) := by decide +kernel
theorem dX6_standing_103 : decode cX6_standing 103 = .ok (.idiv, 1) := by decide +kernel
theorem dX6_standing_104 : decode cX6_standing 104 = .ok (.goto 18, 3) := by decide +kernel
theorem dX6_standing_107 : decode cX6_standing 107 = .ok (.iload_n 3, 1) := by decide +kernel
theorem dX6_standing_108 : decode cX6_standing 108 = .ok (.iconst 1, 1) := by decide +kernel
theorem dX6_standing_109 : decode cX6_standing 109 = .ok (.if_icmp .ne 11, 3) := by decide +kernel
theorem dX6_standing_112 : decode cX6_standing 112 = .ok (.iload 4, 2) := by decide +kernel
theorem dX6_standing_114 : decode cX6_standing 114 = .ok (.bipush 12, 2) := by decide +kernel
theorem dX6_standing_116 : decode cX6_standing 116 = .ok (.irem, 1) := by decide +kernel
theorem dX6_standing_117 : decode cX6_standing 117 = .ok (.goto 5, 3) := by decide +kernel
theorem dX6_standing_120 : decode cX6_standing 120 = .ok (.iload 5, 2) := by decide +kernel
theorem dX6_standing_122 : decode cX6_standing 122 = .ok (.ireturn, 1) := by decide +kernel
set_option maxRecDepth 20000 in
theorem ggX6_standsOut_X6_in : GoodIn wsX6_standsOut wsX6_in := goodIn_r _ [5] (by decide +kernel) (by decide +kernel)
set_option maxRecDepth 20000 in
theorem gX6_standsOut_X6_in : GoodIn wsX6_standsOut (va_wsS RX6 26 yX6_in wsX6_in) := goodIn_app (goodIn_of _ (by decide +kernel)) ggX6_standsOut_X6_in
set_option maxRecDepth 20000 in
theorem ggX6_standsOut_X6_standing : GoodIn wsX6_standsOut wsX6_standing := goodIn_r _ [9, 10, 11, 4, 12, 2, 3, 5, 13, 14, 15, 16, 17, 18, 19, 20, 21, 22, 23, 24, 25, 26, 27, 28, 29, 30, 31, 32, 33, 34, 35, 36, 37, 38, 39, 40, 41, 42, 43, 44, 45, 46, 47, 48, 49, 50, 51, 52, 53, 54, 55, 56, 57, 58, 59, 60, 61, 62, 63, 64, 65, 66, 67, 68, 69, 70, 71, 72, 73, 74, 75, 76, 77, 78, 79, 80, 81, 82, 83, 84, 85, 86] (by decide +kernel) (by decide +kernel)
set_option maxRecDepth 20000 in
theorem gX6_standsOut_X6_standing : GoodIn wsX6_standsOut (wsV RX6 227 RX6 yX6_standing wsX6_standing) := goodIn_app (goodIn_of _ (by decide +kernel)) ggX6_standsOut_X6_standing
theorem dX6_standsOut_0 : decode cX6_standsOut 0 = .ok (.aload_n 0, 1) := by decide +kernel
theorem dX6_standsOut_1 : decode cX6_standsOut 1 = .ok (.iload_n 1, 1) := by decide +kernel
theorem dX6_standsOut_2 : decode cX6_standsOut 2 = .ok (.iconst 1, 1) := by decide +kernel
theorem dX6_standsOut_3 : decode cX6_standsOut 3 = .ok (.bipush 6, 2) := by decide +kernel
theorem dX6_standsOut_5 : decode cX6_standsOut 5 = .ok (.invokestatic 26, 3) := by decide +kernel
theorem dX6_standsOut_8 : decode cX6_standsOut 8 = .ok (.ifCond .eq 26, 3) := by decide +kernel
theorem dX6_standsOut_11 : decode cX6_standsOut 11 = .ok (.iload_n 2, 1) := by decide +kernel
theorem dX6_standsOut_12 : decode cX6_standsOut 12 = .ok (.iconst 1, 1) := by decide +kernel
theorem dX6_standsOut_13 : decode cX6_standsOut 13 = .ok (.bipush 12, 2) := by decide +kernel
theorem dX6_standsOut_15 : decode cX6_standsOut 15 = .ok (.invokestatic 26, 3) := by decide +kernel
theorem dX6_standsOut_18 : decode cX6_standsOut 18 = .ok (.ifCond .eq 16, 3) := by decide +kernel
theorem dX6_standsOut_21 : decode cX6_standsOut 21 = .ok (.iload_n 3, 1) := by decide +kernel
theorem dX6_standsOut_22 : decode cX6_standsOut 22 = .ok (.iconst 0, 1) := by decide +kernel
theorem dX6_standsOut_23 : decode cX6_standsOut 23 = .ok (.iconst 2, 1) := by decide +kernel
theorem dX6_standsOut_24 : decode cX6_standsOut 24 = .ok (.invokestatic 26, 3) := by decide +kernel
theorem dX6_standsOut_27 : decode cX6_standsOut 27 = .ok (.ifCond .eq 7, 3) := by decide +kernel
theorem dX6_standsOut_30 : decode cX6_standsOut 30 = .ok (.iconst 0, 1) := by decide +kernel
theorem dX6_standsOut_31 : decode cX6_standsOut 31 = .ok (.goto 4, 3) := by decide +kernel
theorem dX6_standsOut_34 : decode cX6_standsOut 34 = .ok (.iconst 1, 1) := by decide +kernel
theorem dX6_standsOut_35 : decode cX6_standsOut 35 = .ok (.putfield 22, 3) := by decide +kernel
theorem dX6_standsOut_38 : decode cX6_standsOut 38 = .ok (.aload_n 0, 1) := by decide +kernel
theorem dX6_standsOut_39 : decode cX6_standsOut 39 = .ok (.getfield 22, 3) := by decide +kernel
theorem dX6_standsOut_42 : decode cX6_standsOut 42 = .ok (.ifCond .le 7, 3) := by decide +kernel
theorem dX6_standsOut_45 : decode cX6_standsOut 45 = .ok (.iconst 0, 1) := by decide +kernel
theorem dX6_standsOut_46 : decode cX6_standsOut 46 = .ok (.goto 10, 3) := by decide +kernel
theorem dX6_standsOut_49 : decode cX6_standsOut 49 = .ok (.aload_n 0, 1) := by decide +kernel
theorem dX6_standsOut_50 : decode cX6_standsOut 50 = .ok (.iload_n 1, 1) := by decide +kernel
theorem dX6_standsOut_51 : decode cX6_standsOut 51 = .ok (.iload_n 2, 1) := by decide +kernel
theorem dX6_standsOut_52 : decode cX6_standsOut 52 = .ok (.iload_n 3, 1) := by decide +kernel
theorem dX6_standsOut_53 : decode cX6_standsOut 53 = .ok (.invokevirtual 227, 3) := by decide +kernel
theorem dX6_standsOut_56 : decode cX6_standsOut 56 = .ok (.ireturn, 1) := by decide +kernel
set_option maxRecDepth 20000 in
theorem ggX6_share_X6_figures : GoodIn wsX6_share wsX6_figures := goodIn_r _ [6, 7, 8, 9, 5, 10, 11, 98, 99, 100, 101, 102, 103, 104, 105, 106, 107, 108, 109, 110, 111] (by decide +kernel) (by decide +kernel)
set_option maxRecDepth 20000 in
theorem gX6_share_X6_figures : GoodIn wsX6_share (wsV RX6 194 RX6 yX6_figures wsX6_figures) := goodIn_app (goodIn_of _ (by decide +kernel)) ggX6_share_X6_figures
set_option maxRecDepth 20000 in
theorem ggX6_share_X6_good : GoodIn wsX6_share wsX6_good := goodIn_r _ [15, 16, 17, 18, 5, 19, 7, 8, 9, 10, 11, 20, 21, 22, 23, 24, 25, 26, 27, 28, 29, 30, 31, 32, 33, 34, 35, 36, 37, 38, 39, 40, 41, 42, 43, 44, 45, 46, 47, 48, 49, 50, 51, 52, 53, 54, 55, 56, 57, 58, 59, 60, 61, 62, 63, 64, 65, 66, 67, 68, 69, 70, 71, 72, 73, 74, 75, 76, 77, 78, 79, 80, 81, 82, 83, 84, 85, 86, 87, 88, 89, 90, 91, 92, 93, 94, 95, 96, 97, 98, 99, 100, 101, 102, 103, 104, 105, 106, 107, 108, 109, 110, 111] (by decide +kernel) (by decide +kernel)
set_option maxRecDepth 20000 in
theorem gX6_share_X6_good : GoodIn wsX6_share (wsV RX6 200 RX6 yX6_good wsX6_good) := goodIn_app (goodIn_of _ (by decide +kernel)) ggX6_share_X6_good
theorem dX6_share_0 : decode cX6_share 0 = .ok (.aload_n 0, 1) := by decide +kernel
theorem dX6_share_1 : decode cX6_share 1 = .ok (.invokevirtual 194, 3) := by decide +kernel
theorem dX6_share_4 : decode cX6_share 4 = .ok (.ifCond .ne 7, 3) := by decide +kernel
theorem dX6_share_7 : decode cX6_share 7 = .ok (.dconst 0, 1) := by decide +kernel
theorem dX6_share_8 : decode cX6_share 8 = .ok (.goto 20, 3) := by decide +kernel
theorem dX6_share_11 : decode cX6_share 11 = .ok (.aload_n 0, 1) := by decide +kernel
theorem dX6_share_12 : decode cX6_share 12 = .ok (.bipush 10, 2) := by decide +kernel
theorem dX6_share_14 : decode cX6_share 14 = .ok (.invokevirtual 200, 3) := by decide +kernel
theorem dX6_share_17 : decode cX6_share 17 = .ok (.i2d, 1) := by decide +kernel
theorem dX6_share_18 : decode cX6_share 18 = .ok (.ldc2_w 230, 3) := by decide +kernel
theorem dX6_share_21 : decode cX6_share 21 = .ok (.aload_n 0, 1) := by decide +kernel
theorem dX6_share_22 : decode cX6_share 22 = .ok (.invokevirtual 194, 3) := by decide +kernel
theorem dX6_share_25 : decode cX6_share 25 = .ok (.i2d, 1) := by decide +kernel
theorem dX6_share_26 : decode cX6_share 26 = .ok (.dmul, 1) := by decide +kernel
theorem dX6_share_27 : decode cX6_share 27 = .ok (.ddiv, 1) := by decide +kernel
theorem dX6_share_28 : decode cX6_share 28 = .ok (.dreturn, 1) := by decide +kernel
set_option maxRecDepth 20000 in
theorem ggX6_goodness_X6_share : GoodIn wsX6_goodness wsX6_share := goodIn_r _ [6, 7, 8, 9, 10, 5, 11, 12, 13, 14, 15, 16, 17, 18, 19, 20, 21, 22, 23, 24, 25, 26, 27, 28, 29, 30, 31, 32, 33, 34, 35, 36, 37, 38, 39, 40, 41, 42, 43, 44, 45, 46, 47, 48, 49, 50, 51, 52, 53, 54, 55, 56, 57, 58, 59, 60, 61, 62, 63, 64, 65, 66, 67, 68, 69, 70, 71, 72, 73, 74, 75, 76, 77, 78, 79, 80, 81, 82, 83, 84, 85, 86, 87, 88, 89, 90, 91, 92, 93, 94, 95, 96, 97, 98, 99, 100, 101, 102, 103, 104, 105, 106, 107, 108, 109, 110, 111, 112, 113, 114, 115, 116] (by decide +kernel) (by decide +kernel)
set_option maxRecDepth 20000 in
theorem gX6_goodness_X6_share : GoodIn wsX6_goodness (wsV RX6 232 RX6 yX6_share wsX6_share) := goodIn_app (goodIn_of _ (by decide +kernel)) ggX6_goodness_X6_share
theorem dX6_goodness_0 : decode cX6_goodness 0 = .ok (.aload_n 0, 1) := by decide +kernel
theorem dX6_goodness_1 : decode cX6_goodness 1 = .ok (.iconst 0, 1) := by decide +kernel
theorem dX6_goodness_2 : decode cX6_goodness 2 = .ok (.putfield 22, 3) := by decide +kernel
theorem dX6_goodness_5 : decode cX6_goodness 5 = .ok (.aload_n 0, 1) := by decide +kernel
theorem dX6_goodness_6 : decode cX6_goodness 6 = .ok (.invokevirtual 232, 3) := by decide +kernel
theorem dX6_goodness_9 : decode cX6_goodness 9 = .ok (.dreturn, 1) := by decide +kernel
theorem dX6_bitsOf_0 : decode cX6_bitsOf 0 = .ok (.dload_n 0, 1) := by decide +kernel
theorem dX6_bitsOf_1 : decode cX6_bitsOf 1 = .ok (.dconst 0, 1) := by decide +kernel
theorem dX6_bitsOf_2 : decode cX6_bitsOf 2 = .ok (.dcmp .l, 1) := by decide +kernel
theorem dX6_bitsOf_3 : decode cX6_bitsOf 3 = .ok (.ifCond .ne 5, 3) := by decide +kernel
theorem dX6_bitsOf_6 : decode cX6_bitsOf 6 = .ok (.lconst 0, 1) := by decide +kernel
theorem dX6_bitsOf_7 : decode cX6_bitsOf 7 = .ok (.lreturn, 1) := by decide +kernel
theorem dX6_bitsOf_8 : decode cX6_bitsOf 8 = .ok (.dload_n 0, 1) := by decide +kernel
theorem dX6_bitsOf_9 : decode cX6_bitsOf 9 = .ok (.dstore_n 2, 1) := by decide +kernel
theorem dX6_bitsOf_10 : decode cX6_bitsOf 10 = .ok (.ldc2_w 236, 3) := by decide +kernel
theorem dX6_bitsOf_13 : decode cX6_bitsOf 13 = .ok (.lstore 4, 2) := by decide +kernel
theorem dX6_bitsOf_15 : decode cX6_bitsOf 15 = .ok (.dload_n 2, 1) := by decide +kernel
theorem dX6_bitsOf_16 : decode cX6_bitsOf 16 = .ok (.ldc2_w 238, 3) := by decide +kernel
theorem dX6_bitsOf_19 : decode cX6_bitsOf 19 = .ok (.dcmp .l, 1) := by decide +kernel
theorem dX6_bitsOf_20 : decode cX6_bitsOf 20 = .ok (.ifCond .lt 18, 3) := by decide +kernel
theorem dX6_bitsOf_23 : decode cX6_bitsOf 23 = .ok (.dload_n 2, 1) := by decide +kernel
theorem dX6_bitsOf_24 : decode cX6_bitsOf 24 = .ok (.ldc2_w 238, 3) := by decide +kernel
theorem dX6_bitsOf_27 : decode cX6_bitsOf 27 = .ok (.ddiv, 1) := by decide +kernel
theorem dX6_bitsOf_28 : decode cX6_bitsOf 28 = .ok (.dstore_n 2, 1) := by decide +kernel
theorem dX6_bitsOf_29 : decode cX6_bitsOf 29 = .ok (.lload 4, 2) := by decide +kernel
theorem dX6_bitsOf_31 : decode cX6_bitsOf 31 = .ok (.lconst 1, 1) := by decide +kernel
theorem dX6_bitsOf_32 : decode cX6_bitsOf 32 = .ok (.ladd, 1) := by decide +kernel
theorem dX6_bitsOf_33 : decode cX6_bitsOf 33 = .ok (.lstore 4, 2) := by decide +kernel
theorem dX6_bitsOf_35 : decode cX6_bitsOf 35 = .ok (.goto (-20), 3) := by decide +kernel
theorem dX6_bitsOf_38 : decode cX6_bitsOf 38 = .ok (.dload_n 2, 1) := by decide +kernel
theorem dX6_bitsOf_39 : decode cX6_bitsOf 39 = .ok (.dconst 1, 1) := by decide +kernel
theorem dX6_bitsOf_40 : decode cX6_bitsOf 40 = .ok (.dcmp .g, 1) := by decide +kernel
theorem dX6_bitsOf_41 : decode cX6_bitsOf 41 = .ok (.ifCond .ge 18, 3) := by decide +kernel
theorem dX6_bitsOf_44 : decode cX6_bitsOf 44 = .ok (.dload_n 2, 1) := by decide +kernel
theorem dX6_bitsOf_45 : decode cX6_bitsOf 45 = .ok (.ldc2_w 238, 3) := by decide +kernel
theorem dX6_bitsOf_48 : decode cX6_bitsOf 48 = .ok (.dmul, 1) := by decide +kernel
theorem dX6_bitsOf_49 : decode cX6_bitsOf 49 = .ok (.dstore_n 2, 1) := by decide +kernel
theorem dX6_bitsOf_50 : decode cX6_bitsOf 50 = .ok (.lload 4, 2) := by decide +kernel
theorem dX6_bitsOf_52 : decode cX6_bitsOf 52 = .ok (.lconst 1, 1) := by decide +kernel
theorem dX6_bitsOf_53 : decode cX6_bitsOf 53 = .ok (.lsub, 1) := by decide +kernel
theorem dX6_bitsOf_54 : decode cX6_bitsOf 54 = .ok (.lstore 4, 2) := by decide +kernel
theorem dX6_bitsOf_56 : decode cX6_bitsOf 56 = .ok (.goto (-18), 3) := by decide +kernel
theorem dX6_bitsOf_59 : decode cX6_bitsOf 59 = .ok (.lload 4, 2) := by decide +kernel
theorem dX6_bitsOf_61 : decode cX6_bitsOf 61 = .ok (.bipush 52, 2) := by decide +kernel
theorem dX6_bitsOf_63 : decode cX6_bitsOf 63 = .ok (.lshl, 1) := by decide +kernel
theorem dX6_bitsOf_64 : decode cX6_bitsOf 64 = .ok (.dload_n 2, 1) := by decide +kernel
theorem dX6_bitsOf_65 : decode cX6_bitsOf 65 = .ok (.ldc2_w 240, 3) := by decide +kernel
theorem dX6_bitsOf_68 : decode cX6_bitsOf 68 = .ok (.dmul, 1) := by decide +kernel
theorem dX6_bitsOf_69 : decode cX6_bitsOf 69 = .ok (.d2l, 1) := by decide +kernel
theorem dX6_bitsOf_70 : decode cX6_bitsOf 70 = .ok (.ladd, 1) := by decide +kernel
theorem dX6_bitsOf_71 : decode cX6_bitsOf 71 = .ok (.ldc2_w 242, 3) := by decide +kernel
theorem dX6_bitsOf_74 : decode cX6_bitsOf 74 = .ok (.lsub, 1) := by decide +kernel
theorem dX6_bitsOf_75 : decode cX6_bitsOf 75 = .ok (.lreturn, 1) := by decide +kernel
theorem dX6_mix_0 : decode cX6_mix 0 = .ok (.aload_n 0, 1) := by decide +kernel
theorem dX6_mix_1 : decode cX6_mix 1 = .ok (.ldc2_w 244, 3) := by decide +kernel
theorem dX6_mix_4 : decode cX6_mix 4 = .ok (.aload_n 0, 1) := by decide +kernel
theorem dX6_mix_5 : decode cX6_mix 5 = .ok (.getfield 246, 3) := by decide +kernel
theorem dX6_mix_8 : decode cX6_mix 8 = .ok (.lmul, 1) := by decide +kernel
theorem dX6_mix_9 : decode cX6_mix 9 = .ok (.lload_n 1, 1) := by decide +kernel
theorem dX6_mix_10 : decode cX6_mix 10 = .ok (.ladd, 1) := by decide +kernel
theorem dX6_mix_11 : decode cX6_mix 11 = .ok (.putfield 246, 3) := by decide +kernel
theorem dX6_mix_14 : decode cX6_mix 14 = .ok (.return_, 1) := by decide +kernel
set_option maxRecDepth 20000 in
theorem ggX6_mixFigures_X6_toldFigure : GoodIn wsX6_mixFigures wsX6_toldFigure := goodIn_r _ [5, 6, 7, 8, 4, 9, 10, 11, 12, 13, 14, 15, 16, 17, 18, 19, 20, 21, 22, 23, 24, 25, 26, 27, 28, 29, 30, 31, 32, 33, 34, 35, 36, 37, 38, 39, 40, 41, 42, 43, 44, 45, 46, 47, 48, 49, 50, 51, 52, 53, 54, 55, 56, 57, 58, 59, 60, 61, 62, 63, 64, 65, 66, 67, 68, 69, 70, 71, 72, 73, 74, 75, 76, 77, 78, 79, 80, 81, 82, 83, 84, 85, 86, 87, 88, 89, 90, 91, 92, 93, 94, 95, 96, 107, 108, 109, 110, 111, 112, 113, 114, 115, 116, 117, 118, 119, 120] (by decide +kernel) (by decide +kernel)
set_option maxRecDepth 20000 in
theorem gX6_mixFigures_X6_toldFigure : GoodIn wsX6_mixFigures (wsV RX6 185 RX6 yX6_toldFigure wsX6_toldFigure) := goodIn_app (goodIn_of _ (by decide +kernel)) ggX6_mixFigures_X6_toldFigure
set_option maxRecDepth 20000 in
theorem ggX6_mixFigures_X6_mix : GoodIn wsX6_mixFigures wsX6_mix := goodIn_r _ [100, 101, 102, 107, 108, 109, 110, 111, 112, 113, 114, 115, 116, 117, 118, 119, 120] (by decide +kernel) (by decide +kernel)
set_option maxRecDepth 20000 in
theorem gX6_mixFigures_X6_mix : GoodIn wsX6_mixFigures (wsV RX6 250 RX6 yX6_mix wsX6_mix) := goodIn_app (goodIn_of _ (by decide +kernel)) ggX6_mixFigures_X6_mix
set_option maxRecDepth 20000 in
theorem ggX6_mixFigures_X6_toldContrast : GoodIn wsX6_mixFigures wsX6_toldContrast := goodIn_r _ [106, 6, 7, 8, 4, 9, 10, 11, 12, 13, 14, 15, 16, 17, 18, 19, 20, 21, 22, 23, 24, 25, 26, 66, 67, 68, 69, 42, 43, 44, 45, 39, 40, 41, 70, 71, 72, 73, 74, 75, 76, 77, 78, 79, 80, 81, 82, 83, 84, 85, 86, 87, 88, 89, 50, 51, 52, 53, 35, 36, 37, 38, 31, 32, 33, 34, 27, 28, 29, 30, 90, 91, 92, 107, 108, 109, 110, 111, 112, 113, 114, 115, 116, 117, 118, 119, 120] (by decide +kernel) (by decide +kernel)
set_option maxRecDepth 20000 in
theorem gX6_mixFigures_X6_toldContrast : GoodIn wsX6_mixFigures (wsV RX6 188 RX6 yX6_toldContrast wsX6_toldContrast) := goodIn_app (goodIn_of _ (by decide +kernel)) ggX6_mixFigures_X6_toldContrast
theorem dX6_mixFigures_0 : decode cX6_mixFigures 0 = .ok (.iconst 0, 1) := by decide +kernel
theorem dX6_mixFigures_1 : decode cX6_mixFigures 1 = .ok (.istore_n 1, 1) := by decide +kernel
theorem dX6_mixFigures_2 : decode cX6_mixFigures 2 = .ok (.iload_n 1, 1) := by decide +kernel
theorem dX6_mixFigures_3 : decode cX6_mixFigures 3 = .ok (.iconst 4, 1) := by decide +kernel
theorem dX6_mixFigures_4 : decode cX6_mixFigures 4 = .ok (.if_icmp .ge 57, 3) := by decide +kernel
theorem dX6_mixFigures_7 : decode cX6_mixFigures 7 = .ok (.iconst 0, 1) := by decide +kernel
theorem dX6_mixFigures_8 : decode cX6_mixFigures 8 = .ok (.istore_n 2, 1) := by decide +kernel
theorem dX6_mixFigures_9 : decode cX6_mixFigures 9 = .ok (.iload_n 2, 1) := by decide +kernel
theorem dX6_mixFigures_10 : decode cX6_mixFigures 10 = .ok (.iconst 4, 1) := by decide +kernel
theorem dX6_mixFigures_11 : decode cX6_mixFigures 11 = .ok (.if_icmp .gt 20, 3) := by decide +kernel
theorem dX6_mixFigures_14 : decode cX6_mixFigures 14 = .ok (.aload_n 0, 1) := by decide +kernel
theorem dX6_mixFigures_15 : decode cX6_mixFigures 15 = .ok (.aload_n 0, 1) := by decide +kernel
theorem dX6_mixFigures_16 : decode cX6_mixFigures 16 = .ok (.iload_n 1, 1) := by decide +kernel
theorem dX6_mixFigures_17 : decode cX6_mixFigures 17 = .ok (.iload_n 2, 1) := by decide +kernel
theorem dX6_mixFigures_18 : decode cX6_mixFigures 18 = .ok (.invokevirtual 185, 3) := by decide +kernel
theorem dX6_mixFigures_21 : decode cX6_mixFigures 21 = .ok (.i2l, 1) := by decide +kernel
theorem dX6_mixFigures_22 : decode cX6_mixFigures 22 = .ok (.invokevirtual 250, 3) := by decide +kernel
theorem dX6_mixFigures_25 : decode cX6_mixFigures 25 = .ok (.iinc 2 1, 3) := by decide +kernel
theorem dX6_mixFigures_28 : decode cX6_mixFigures 28 = .ok (.goto (-19), 3) := by decide +kernel
theorem dX6_mixFigures_31 : decode cX6_mixFigures 31 = .ok (.iconst 0, 1) := by decide +kernel
theorem dX6_mixFigures_32 : decode cX6_mixFigures 32 = .ok (.istore_n 2, 1) := by decide +kernel
theorem dX6_mixFigures_33 : decode cX6_mixFigures 33 = .ok (.iload_n 2, 1) := by decide +kernel
theorem dX6_mixFigures_34 : decode cX6_mixFigures 34 = .ok (.iconst 2, 1) := by decide +kernel
theorem dX6_mixFigures_35 : decode cX6_mixFigures 35 = .ok (.if_icmp .gt 20, 3) := by decide +kernel
theorem dX6_mixFigures_38 : decode cX6_mixFigures 38 = .ok (.aload_n 0, 1) := by decide +kernel
theorem dX6_mixFigures_39 : decode cX6_mixFigures 39 = .ok (.aload_n 0, 1) := by decide +kernel
theorem dX6_mixFigures_40 : decode cX6_mixFigures 40 = .ok (.iload_n 1, 1) := by decide +kernel
theorem dX6_mixFigures_41 : decode cX6_mixFigures 41 = .ok (.iload_n 2, 1) := by decide +kernel
theorem dX6_mixFigures_42 : decode cX6_mixFigures 42 = .ok (.invokevirtual 188, 3) := by decide +kernel
theorem dX6_mixFigures_45 : decode cX6_mixFigures 45 = .ok (.i2l, 1) := by decide +kernel
theorem dX6_mixFigures_46 : decode cX6_mixFigures 46 = .ok (.invokevirtual 250, 3) := by decide +kernel
theorem dX6_mixFigures_49 : decode cX6_mixFigures 49 = .ok (.iinc 2 1, 3) := by decide +kernel
theorem dX6_mixFigures_52 : decode cX6_mixFigures 52 = .ok (.goto (-19), 3) := by decide +kernel
theorem dX6_mixFigures_55 : decode cX6_mixFigures 55 = .ok (.iinc 1 1, 3) := by decide +kernel
theorem dX6_mixFigures_58 : decode cX6_mixFigures 58 = .ok (.goto (-56), 3) := by decide +kernel
theorem dX6_mixFigures_61 : decode cX6_mixFigures 61 = .ok (.return_, 1) := by decide +kernel
set_option maxRecDepth 20000 in
theorem ggX6_digest_X6_counted : GoodIn wsX6_digest wsX6_counted := goodIn_r _ [11, 4, 12, 13, 14, 15, 10, 16, 17, 18, 19, 20, 21, 22, 23, 24, 25, 26, 27, 28, 29, 30, 31, 32, 33, 34, 35, 36, 37, 38, 39, 40, 41, 42, 43, 44, 45, 46, 47, 48, 49, 50, 51, 52, 53, 54, 55, 56, 57, 58, 59, 60, 61, 62, 63, 64, 65, 66, 67, 68, 69, 70, 71, 72, 73, 74, 75, 76, 77, 78, 79, 80, 81, 82, 83, 84, 85, 86, 87, 88, 89, 90, 91, 92, 93, 94, 95, 96, 97, 98, 99, 100, 101, 102, 103, 104, 105, 106, 107, 108, 109, 110, 111, 112, 113, 114, 115, 116, 117, 118, 119, 120, 121, 122, 123, 124, 125, 126, 127, 128, 129, 130, 131, 132, 133, 134, 203, 204, 205, 206, 207, 208, 209, 210, 211, 212, 213, 214, 215, 216] (by decide +kernel) (by decide +kernel)
set_option maxRecDepth 20000 in
theorem gX6_digest_X6_counted : GoodIn wsX6_digest (wsV RX6 218 RX6 yX6_counted wsX6_counted) := goodIn_app (goodIn_of _ (by decide +kernel)) ggX6_digest_X6_counted
set_option maxRecDepth 20000 in
theorem ggX6_digest_X6_mix : GoodIn wsX6_digest wsX6_mix := goodIn_r _ [138, 139, 3, 203, 204, 205, 206, 207, 208, 209, 210, 211, 212, 213, 214, 215, 216] (by decide +kernel) (by decide +kernel)
set_option maxRecDepth 20000 in
theorem gX6_digest_X6_mix : GoodIn wsX6_digest (wsV RX6 250 RX6 yX6_mix wsX6_mix) := goodIn_app (goodIn_of _ (by decide +kernel)) ggX6_digest_X6_mix
set_option maxRecDepth 20000 in
theorem ggX6_digest_X6_toldRoll : GoodIn wsX6_digest wsX6_toldRoll := goodIn_r _ [143, 4, 144, 145, 146, 10, 147, 96, 97, 98, 99, 148, 149, 150, 151, 152, 153, 154, 155, 203, 204, 205, 206, 207, 208, 209, 210, 211, 212, 213, 214, 215, 216] (by decide +kernel) (by decide +kernel)
set_option maxRecDepth 20000 in
theorem gX6_digest_X6_toldRoll : GoodIn wsX6_digest (wsV RX6 160 RX6 yX6_toldRoll wsX6_toldRoll) := goodIn_app (goodIn_of _ (by decide +kernel)) ggX6_digest_X6_toldRoll
set_option maxRecDepth 20000 in
theorem ggX6_digest_X6_phaseFor : GoodIn wsX6_digest wsX6_phaseFor := goodIn_r _ [159, 4, 37, 38, 39, 10, 40, 17, 18, 19, 20, 25, 26, 27, 28, 29, 30, 31, 32, 33, 34, 35, 36, 68, 69, 70, 71, 72, 73, 74, 75, 76, 77, 78, 79, 53, 54, 55, 80, 81, 82, 83, 84, 85, 86, 87, 88, 89, 90, 91, 92, 93, 94, 95, 96, 97, 98, 99, 45, 46, 47, 48, 49, 50, 51, 52, 100, 101, 102, 103, 104, 105, 106, 107, 108, 109, 110, 203, 204, 205, 206, 207, 208, 209, 210, 211, 212, 213, 214, 215, 216] (by decide +kernel) (by decide +kernel)
set_option maxRecDepth 20000 in
theorem gX6_digest_X6_phaseFor : GoodIn wsX6_digest (wsV RX6 221 RX6 yX6_phaseFor wsX6_phaseFor) := goodIn_app (goodIn_of _ (by decide +kernel)) ggX6_digest_X6_phaseFor
set_option maxRecDepth 20000 in
theorem ggX6_digest_X6_toldCell : GoodIn wsX6_digest wsX6_toldCell := goodIn_r _ [163, 84, 85, 86, 10, 87, 88, 89, 90, 91, 4, 92, 93, 94, 95, 96, 97, 98, 99, 45, 46, 47, 48, 80, 81, 82, 83, 203, 204, 205, 206, 207, 208, 209, 210, 211, 212, 213, 214, 215, 216] (by decide +kernel) (by decide +kernel)
set_option maxRecDepth 20000 in
theorem gX6_digest_X6_toldCell : GoodIn wsX6_digest (wsV RX6 166 RX6 yX6_toldCell wsX6_toldCell) := goodIn_app (goodIn_of _ (by decide +kernel)) ggX6_digest_X6_toldCell
set_option maxRecDepth 20000 in
theorem ggX6_digest_X6_mixFigures : GoodIn wsX6_digest wsX6_mixFigures := goodIn_r _ [167, 168, 169, 170, 10, 171, 37, 38, 39, 40, 17, 18, 19, 20, 4, 25, 26, 27, 28, 29, 30, 31, 32, 33, 34, 35, 36, 104, 105, 106, 107, 100, 101, 102, 103, 49, 50, 51, 52, 53, 54, 55, 76, 77, 78, 79, 41, 42, 43, 44, 45, 46, 47, 48, 172, 173, 174, 175, 64, 65, 66, 67, 68, 69, 70, 71, 72, 73, 74, 75, 80, 81, 82, 83, 84, 85, 86, 87, 88, 89, 90, 91, 92, 93, 94, 95, 96, 97, 98, 99, 108, 109, 110, 60, 61, 62, 63, 135, 136, 137, 138, 139, 3, 176, 177, 178, 179, 203, 204, 205, 206, 207, 208, 209, 210, 211, 212, 213, 214, 215, 216] (by decide +kernel) (by decide +kernel)
set_option maxRecDepth 20000 in
theorem gX6_digest_X6_mixFigures : GoodIn wsX6_digest (wsV RX6 256 RX6 yX6_mixFigures wsX6_mixFigures) := goodIn_app (goodIn_of _ (by decide +kernel)) ggX6_digest_X6_mixFigures
set_option maxRecDepth 20000 in
theorem ggX6_digest_X6_pitch : GoodIn wsX6_digest wsX6_pitch := goodIn_r _ [183, 111, 112, 113, 10, 114, 4, 203, 204, 205, 206, 207, 208, 209, 210, 211, 212, 213, 214, 215, 216] (by decide +kernel) (by decide +kernel)
set_option maxRecDepth 20000 in
theorem gX6_digest_X6_pitch : GoodIn wsX6_digest (wsV RX6 224 RX6 yX6_pitch wsX6_pitch) := goodIn_app (goodIn_of _ (by decide +kernel)) ggX6_digest_X6_pitch
set_option maxRecDepth 20000 in
theorem ggX6_digest_X6_standing : GoodIn wsX6_digest wsX6_standing := goodIn_r _ [187, 188, 189, 10, 190, 53, 54, 55, 29, 30, 31, 32, 33, 34, 35, 36, 68, 69, 70, 71, 72, 73, 74, 75, 76, 77, 78, 79, 80, 81, 82, 83, 84, 85, 86, 87, 88, 89, 90, 91, 4, 92, 93, 94, 95, 96, 97, 98, 99, 45, 46, 47, 48, 49, 50, 51, 52, 100, 101, 102, 103, 104, 105, 106, 107, 108, 109, 110, 203, 204, 205, 206, 207, 208, 209, 210, 211, 212, 213, 214, 215, 216] (by decide +kernel) (by decide +kernel)
set_option maxRecDepth 20000 in
theorem gX6_digest_X6_standing : GoodIn wsX6_digest (wsV RX6 227 RX6 yX6_standing wsX6_standing) := goodIn_app (goodIn_of _ (by decide +kernel)) ggX6_digest_X6_standing
set_option maxRecDepth 20000 in
theorem ggX6_digest_X6_share : GoodIn wsX6_digest wsX6_share := goodIn_r _ [194, 195, 13, 14, 15, 10, 16, 17, 18, 19, 20, 4, 56, 57, 58, 59, 25, 26, 27, 28, 29, 30, 31, 32, 33, 34, 35, 36, 37, 38, 39, 40, 60, 61, 62, 63, 41, 42, 43, 44, 45, 46, 47, 48, 49, 50, 51, 52, 53, 54, 55, 64, 65, 66, 67, 68, 69, 70, 71, 72, 73, 74, 75, 76, 77, 78, 79, 80, 81, 82, 83, 84, 85, 86, 87, 88, 89, 90, 91, 92, 93, 94, 95, 96, 97, 98, 99, 100, 101, 102, 103, 104, 105, 106, 107, 108, 109, 110, 203, 204, 205, 206, 207, 208, 209, 210, 211, 212, 213, 214, 215, 216] (by decide +kernel) (by decide +kernel)
set_option maxRecDepth 20000 in
theorem gX6_digest_X6_share : GoodIn wsX6_digest (wsV RX6 232 RX6 yX6_share wsX6_share) := goodIn_app (goodIn_of _ (by decide +kernel)) ggX6_digest_X6_share
set_option maxRecDepth 20000 in
theorem ggX6_digest_X6_bitsOf : GoodIn wsX6_digest wsX6_bitsOf := goodIn_r _ [198, 199, 200, 201, 202] (by decide +kernel) (by decide +kernel)
set_option maxRecDepth 20000 in
theorem gX6_digest_X6_bitsOf : GoodIn wsX6_digest (va_wsS RX6 259 yX6_bitsOf wsX6_bitsOf) := goodIn_app (goodIn_of _ (by decide +kernel)) ggX6_digest_X6_bitsOf
theorem dX6_digest_0 : decode cX6_digest 0 = .ok (.aload_n 0, 1) := by decide +kernel
theorem dX6_digest_1 : decode cX6_digest 1 = .ok (.iconst 0, 1) := by decide +kernel
theorem dX6_digest_2 : decode cX6_digest 2 = .ok (.putfield 22, 3) := by decide +kernel
theorem dX6_digest_5 : decode cX6_digest 5 = .ok (.aload_n 0, 1) := by decide +kernel
theorem dX6_digest_6 : decode cX6_digest 6 = .ok (.ldc2_w 254, 3) := by decide +kernel
theorem dX6_digest_9 : decode cX6_digest 9 = .ok (.putfield 246, 3) := by decide +kernel
theorem dX6_digest_12 : decode cX6_digest 12 = .ok (.iconst 0, 1) := by decide +kernel
theorem dX6_digest_13 : decode cX6_digest 13 = .ok (.istore_n 1, 1) := by decide +kernel
theorem dX6_digest_14 : decode cX6_digest 14 = .ok (.iload_n 1, 1) := by decide +kernel
theorem dX6_digest_15 : decode cX6_digest 15 = .ok (.bipush 8, 2) := by decide +kernel
theorem dX6_digest_17 : decode cX6_digest 17 = .ok (.if_icmp .gt 19, 3) := by decide +kernel
theorem dX6_digest_20 : decode cX6_digest 20 = .ok (.aload_n 0, 1) := by decide +kernel
theorem dX6_digest_21 : decode cX6_digest 21 = .ok (.aload_n 0, 1) := by decide +kernel
theorem dX6_digest_22 : decode cX6_digest 22 = .ok (.iload_n 1, 1) := by decide +kernel
theorem dX6_digest_23 : decode cX6_digest 23 = .ok (.invokevirtual 218, 3) := by decide +kernel
theorem dX6_digest_26 : decode cX6_digest 26 = .ok (.i2l, 1) := by decide +kernel
theorem dX6_digest_27 : decode cX6_digest 27 = .ok (.invokevirtual 250, 3) := by decide +kernel
theorem dX6_digest_30 : decode cX6_digest 30 = .ok (.iinc 1 1, 3) := by decide +kernel
theorem dX6_digest_33 : decode cX6_digest 33 = .ok (.goto (-19), 3) := by decide +kernel
theorem dX6_digest_36 : decode cX6_digest 36 = .ok (.iconst 0, 1) := by decide +kernel
theorem dX6_digest_37 : decode cX6_digest 37 = .ok (.istore_n 1, 1) := by decide +kernel
theorem dX6_digest_38 : decode cX6_digest 38 = .ok (.iload_n 1, 1) := by decide +kernel
theorem dX6_digest_39 : decode cX6_digest 39 = .ok (.iconst 2, 1) := by decide +kernel
theorem dX6_digest_40 : decode cX6_digest 40 = .ok (.if_icmp .gt 22, 3) := by decide +kernel
theorem dX6_digest_43 : decode cX6_digest 43 = .ok (.aload_n 0, 1) := by decide +kernel
theorem dX6_digest_44 : decode cX6_digest 44 = .ok (.aload_n 0, 1) := by decide +kernel
theorem dX6_digest_45 : decode cX6_digest 45 = .ok (.getfield 7, 3) := by decide +kernel
theorem dX6_digest_48 : decode cX6_digest 48 = .ok (.iconst 0, 1) := by decide +kernel
theorem dX6_digest_49 : decode cX6_digest 49 = .ok (.iload_n 1, 1) := by decide +kernel
theorem dX6_digest_50 : decode cX6_digest 50 = .ok (.iadd, 1) := by decide +kernel
theorem dX6_digest_51 : decode cX6_digest 51 = .ok (.iaload, 1) := by decide +kernel
theorem dX6_digest_52 : decode cX6_digest 52 = .ok (.i2l, 1) := by decide +kernel
theorem dX6_digest_53 : decode cX6_digest 53 = .ok (.invokevirtual 250, 3) := by decide +kernel
theorem dX6_digest_56 : decode cX6_digest 56 = .ok (.iinc 1 1, 3) := by decide +kernel
theorem dX6_digest_59 : decode cX6_digest 59 = .ok (.goto (-21), 3) := by decide +kernel
theorem dX6_digest_62 : decode cX6_digest 62 = .ok (.iconst 0, 1) := by decide +kernel
theorem dX6_digest_63 : decode cX6_digest 63 = .ok (.istore_n 1, 1) := by decide +kernel
theorem dX6_digest_64 : decode cX6_digest 64 = .ok (.iload_n 1, 1) := by decide +kernel
theorem dX6_digest_65 : decode cX6_digest 65 = .ok (.iconst 3, 1) := by decide +kernel
theorem dX6_digest_66 : decode cX6_digest 66 = .ok (.if_icmp .ge 44, 3) := by decide +kernel
theorem dX6_digest_69 : decode cX6_digest 69 = .ok (.iconst 0, 1) := by decide +kernel
theorem dX6_digest_70 : decode cX6_digest 70 = .ok (.istore_n 2, 1) := by decide +kernel
theorem dX6_digest_71 : decode cX6_digest 71 = .ok (.iload_n 2, 1) := by decide +kernel
theorem dX6_digest_72 : decode cX6_digest 72 = .ok (.iconst 4, 1) := by decide +kernel
theorem dX6_digest_73 : decode cX6_digest 73 = .ok (.if_icmp .gt 20, 3) := by decide +kernel
theorem dX6_digest_76 : decode cX6_digest 76 = .ok (.aload_n 0, 1) := by decide +kernel
theorem dX6_digest_77 : decode cX6_digest 77 = .ok (.aload_n 0, 1) := by decide +kernel
theorem dX6_digest_78 : decode cX6_digest 78 = .ok (.iload_n 1, 1) := by decide +kernel
theorem dX6_digest_79 : decode cX6_digest 79 = .ok (.iload_n 2, 1) := by decide +kernel
theorem dX6_digest_80 : decode cX6_digest 80 = .ok (.invokevirtual 160, 3) := by decide +kernel
theorem dX6_digest_83 : decode cX6_digest 83 = .ok (.i2l, 1) := by decide +kernel
theorem dX6_digest_84 : decode cX6_digest 84 = .ok (.invokevirtual 250, 3) := by decide +kernel
theorem dX6_digest_87 : decode cX6_digest 87 = .ok (.iinc 2 1, 3) := by decide +kernel
theorem dX6_digest_90 : decode cX6_digest 90 = .ok (.goto (-19), 3) := by decide +kernel
theorem dX6_digest_93 : decode cX6_digest 93 = .ok (.aload_n 0, 1) := by decide +kernel
theorem dX6_digest_94 : decode cX6_digest 94 = .ok (.aload_n 0, 1) := by decide +kernel
theorem dX6_digest_95 : decode cX6_digest 95 = .ok (.iload_n 1, 1) := by decide +kernel
theorem dX6_digest_96 : decode cX6_digest 96 = .ok (.iconst 0, 1) := by decide +kernel
theorem dX6_digest_97 : decode cX6_digest 97 = .ok (.invokevirtual 221, 3) := by decide +kernel
theorem dX6_digest_100 : decode cX6_digest 100 = .ok (.i2l, 1) := by decide +kernel
theorem dX6_digest_101 : decode cX6_digest 101 = .ok (.invokevirtual 250, 3) := by decide +kernel
theorem dX6_digest_104 : decode cX6_digest 104 = .ok (.iinc 1 1, 3) := by decide +kernel
theorem dX6_digest_107 : decode cX6_digest 107 = .ok (.goto (-43), 3) := by decide +kernel
theorem dX6_digest_110 : decode cX6_digest 110 = .ok (.iconst 0, 1) := by decide +kernel
theorem dX6_digest_111 : decode cX6_digest 111 = .ok (.istore_n 1, 1) := by decide +kernel
theorem dX6_digest_112 : decode cX6_digest 112 = .ok (.iload_n 1, 1) := by decide +kernel
theorem dX6_digest_113 : decode cX6_digest 113 = .ok (.bipush 72, 2) := by decide +kernel
theorem dX6_digest_115 : decode cX6_digest 115 = .ok (.if_icmp .ge 47, 3) := by decide +kernel
theorem dX6_digest_118 : decode cX6_digest 118 = .ok (.aload_n 0, 1) := by decide +kernel
theorem dX6_digest_119 : decode cX6_digest 119 = .ok (.aload_n 0, 1) := by decide +kernel
theorem dX6_digest_120 : decode cX6_digest 120 = .ok (.iconst 1, 1) := by decide +kernel
theorem dX6_digest_121 : decode cX6_digest 121 = .ok (.iload_n 1, 1) := by decide +kernel
theorem dX6_digest_122 : decode cX6_digest 122 = .ok (.bipush 12, 2) := by decide +kernel
theorem dX6_digest_124 : decode cX6_digest 124 = .ok (.idiv, 1) := by decide +kernel
theorem dX6_digest_125 : decode cX6_digest 125 = .ok (.iload_n 1, 1) := by decide +kernel
theorem dX6_digest_126 : decode cX6_digest 126 = .ok (.bipush 12, 2) := by decide +kernel
theorem dX6_digest_128 : decode cX6_digest 128 = .ok (.irem, 1) := by decide +kernel
theorem dX6_digest_129 : decode cX6_digest 129 = .ok (.iconst 0, 1) := by decide +kernel
theorem dX6_digest_130 : decode cX6_digest 130 = .ok (.invokevirtual 166, 3) := by decide +kernel
theorem dX6_digest_133 : decode cX6_digest 133 = .ok (.i2l, 1) := by decide +kernel
theorem dX6_digest_134 : decode cX6_digest 134 = .ok (.invokevirtual 250, 3) := by decide +kernel
theorem dX6_digest_137 : decode cX6_digest 137 = .ok (.aload_n 0, 1) := by decide +kernel
theorem dX6_digest_138 : decode cX6_digest 138 = .ok (.aload_n 0, 1) := by decide +kernel
theorem dX6_digest_139 : decode cX6_digest 139 = .ok (.iconst 1, 1) := by decide +kernel
theorem dX6_digest_140 : decode cX6_digest 140 = .ok (.iload_n 1, 1) := by decide +kernel
theorem dX6_digest_141 : decode cX6_digest 141 = .ok (.bipush 12, 2) := by decide +kernel
theorem dX6_digest_143 : decode cX6_digest 143 = .ok (.idiv, 1) := by decide +kernel
theorem dX6_digest_144 : decode cX6_digest 144 = .ok (.iload_n 1, 1) := by decide +kernel
theorem dX6_digest_145 : decode cX6_digest 145 = .ok (.bipush 12, 2) := by decide +kernel
theorem dX6_digest_147 : decode cX6_digest 147 = .ok (.irem, 1) := by decide +kernel
theorem dX6_digest_148 : decode cX6_digest 148 = .ok (.iconst 2, 1) := by decide +kernel
theorem dX6_digest_149 : decode cX6_digest 149 = .ok (.invokevirtual 166, 3) := by decide +kernel
theorem dX6_digest_152 : decode cX6_digest 152 = .ok (.i2l, 1) := by decide +kernel
theorem dX6_digest_153 : decode cX6_digest 153 = .ok (.invokevirtual 250, 3) := by decide +kernel
theorem dX6_digest_156 : decode cX6_digest 156 = .ok (.iinc 1 1, 3) := by decide +kernel
theorem dX6_digest_159 : decode cX6_digest 159 = .ok (.goto (-47), 3) := by decide +kernel
theorem dX6_digest_162 : decode cX6_digest 162 = .ok (.aload_n 0, 1) := by decide +kernel
theorem dX6_digest_163 : decode cX6_digest 163 = .ok (.invokevirtual 256, 3) := by decide +kernel
theorem dX6_digest_166 : decode cX6_digest 166 = .ok (.aload_n 0, 1) := by decide +kernel
theorem dX6_digest_167 : decode cX6_digest 167 = .ok (.aload_n 0, 1) := by decide +kernel
theorem dX6_digest_168 : decode cX6_digest 168 = .ok (.invokevirtual 224, 3) := by decide +kernel
theorem dX6_digest_171 : decode cX6_digest 171 = .ok (.i2l, 1) := by decide +kernel
theorem dX6_digest_172 : decode cX6_digest 172 = .ok (.invokevirtual 250, 3) := by decide +kernel
theorem dX6_digest_175 : decode cX6_digest 175 = .ok (.iconst 0, 1) := by decide +kernel
theorem dX6_digest_176 : decode cX6_digest 176 = .ok (.istore_n 1, 1) := by decide +kernel
theorem dX6_digest_177 : decode cX6_digest 177 = .ok (.iload_n 1, 1) := by decide +kernel
theorem dX6_digest_178 : decode cX6_digest 178 = .ok (.iconst 2, 1) := by decide +kernel
theorem dX6_digest_179 : decode cX6_digest 179 = .ok (.if_icmp .gt 21, 3) := by decide +kernel
theorem dX6_digest_182 : decode cX6_digest 182 = .ok (.aload_n 0, 1) := by decide +kernel
theorem dX6_digest_183 : decode cX6_digest 183 = .ok (.aload_n 0, 1) := by decide +kernel
theorem dX6_digest_184 : decode cX6_digest 184 = .ok (.iconst 2, 1) := by decide +kernel
theorem dX6_digest_185 : decode cX6_digest 185 = .ok (.iconst 3, 1) := by decide +kernel
theorem dX6_digest_186 : decode cX6_digest 186 = .ok (.iload_n 1, 1) := by decide +kernel
theorem dX6_digest_187 : decode cX6_digest 187 = .ok (.invokevirtual 227, 3) := by decide +kernel
theorem dX6_digest_190 : decode cX6_digest 190 = .ok (.i2l, 1) := by decide +kernel
theorem dX6_digest_191 : decode cX6_digest 191 = .ok (.invokevirtual 250, 3) := by decide +kernel
theorem dX6_digest_194 : decode cX6_digest 194 = .ok (.iinc 1 1, 3) := by decide +kernel
theorem dX6_digest_197 : decode cX6_digest 197 = .ok (.goto (-20), 3) := by decide +kernel
theorem dX6_digest_200 : decode cX6_digest 200 = .ok (.aload_n 0, 1) := by decide +kernel
theorem dX6_digest_201 : decode cX6_digest 201 = .ok (.aload_n 0, 1) := by decide +kernel
theorem dX6_digest_202 : decode cX6_digest 202 = .ok (.invokevirtual 232, 3) := by decide +kernel
theorem dX6_digest_205 : decode cX6_digest 205 = .ok (.invokestatic 259, 3) := by decide +kernel
theorem dX6_digest_208 : decode cX6_digest 208 = .ok (.invokevirtual 250, 3) := by decide +kernel
theorem dX6_digest_211 : decode cX6_digest 211 = .ok (.aload_n 0, 1) := by decide +kernel
theorem dX6_digest_212 : decode cX6_digest 212 = .ok (.aload_n 0, 1) := by decide +kernel
theorem dX6_digest_213 : decode cX6_digest 213 = .ok (.getfield 126, 3) := by decide +kernel
theorem dX6_digest_216 : decode cX6_digest 216 = .ok (.i2l, 1) := by decide +kernel
theorem dX6_digest_217 : decode cX6_digest 217 = .ok (.invokevirtual 250, 3) := by decide +kernel
theorem dX6_digest_220 : decode cX6_digest 220 = .ok (.iconst 0, 1) := by decide +kernel
theorem dX6_digest_221 : decode cX6_digest 221 = .ok (.istore_n 1, 1) := by decide +kernel
theorem dX6_digest_222 : decode cX6_digest 222 = .ok (.iload_n 1, 1) := by decide +kernel
theorem dX6_digest_223 : decode cX6_digest 223 = .ok (.aload_n 0, 1) := by decide +kernel
theorem dX6_digest_224 : decode cX6_digest 224 = .ok (.getfield 126, 3) := by decide +kernel
theorem dX6_digest_227 : decode cX6_digest 227 = .ok (.if_icmp .ge 20, 3) := by decide +kernel
theorem dX6_digest_230 : decode cX6_digest 230 = .ok (.aload_n 0, 1) := by decide +kernel
theorem dX6_digest_231 : decode cX6_digest 231 = .ok (.aload_n 0, 1) := by decide +kernel
theorem dX6_digest_232 : decode cX6_digest 232 = .ok (.getfield 16, 3) := by decide +kernel
theorem dX6_digest_235 : decode cX6_digest 235 = .ok (.iload_n 1, 1) := by decide +kernel
theorem dX6_digest_236 : decode cX6_digest 236 = .ok (.iaload, 1) := by decide +kernel
theorem dX6_digest_237 : decode cX6_digest 237 = .ok (.i2l, 1) := by decide +kernel
theorem dX6_digest_238 : decode cX6_digest 238 = .ok (.invokevirtual 250, 3) := by decide +kernel
theorem dX6_digest_241 : decode cX6_digest 241 = .ok (.iinc 1 1, 3) := by decide +kernel
theorem dX6_digest_244 : decode cX6_digest 244 = .ok (.goto (-22), 3) := by decide +kernel
theorem dX6_digest_247 : decode cX6_digest 247 = .ok (.aload_n 0, 1) := by decide +kernel
theorem dX6_digest_248 : decode cX6_digest 248 = .ok (.getfield 246, 3) := by decide +kernel
theorem dX6_digest_251 : decode cX6_digest 251 = .ok (.lreturn, 1) := by decide +kernel
theorem dJ9_floorDiv_7cf53_0 : decode cJ9_floorDiv_7cf53 0 = .ok (.iload_n 0, 1) := by decide +kernel
theorem dJ9_floorDiv_7cf53_1 : decode cJ9_floorDiv_7cf53 1 = .ok (.iload_n 1, 1) := by decide +kernel
theorem dJ9_floorDiv_7cf53_2 : decode cJ9_floorDiv_7cf53 2 = .ok (.idiv, 1) := by decide +kernel
theorem dJ9_floorDiv_7cf53_3 : decode cJ9_floorDiv_7cf53 3 = .ok (.istore_n 2, 1) := by decide +kernel
theorem dJ9_floorDiv_7cf53_4 : decode cJ9_floorDiv_7cf53 4 = .ok (.iload_n 0, 1) := by decide +kernel
theorem dJ9_floorDiv_7cf53_5 : decode cJ9_floorDiv_7cf53 5 = .ok (.iload_n 1, 1) := by decide +kernel
theorem dJ9_floorDiv_7cf53_6 : decode cJ9_floorDiv_7cf53 6 = .ok (.ixor, 1) := by decide +kernel
theorem dJ9_floorDiv_7cf53_7 : decode cJ9_floorDiv_7cf53 7 = .ok (.ifCond .ge 14, 3) := by decide +kernel
theorem dJ9_floorDiv_7cf53_10 : decode cJ9_floorDiv_7cf53 10 = .ok (.iload_n 2, 1) := by decide +kernel
theorem dJ9_floorDiv_7cf53_11 : decode cJ9_floorDiv_7cf53 11 = .ok (.iload_n 1, 1) := by decide +kernel
theorem dJ9_floorDiv_7cf53_12 : decode cJ9_floorDiv_7cf53 12 = .ok (.imul, 1) := by decide +kernel
theorem dJ9_floorDiv_7cf53_13 : decode cJ9_floorDiv_7cf53 13 = .ok (.iload_n 0, 1) := by decide +kernel
theorem dJ9_floorDiv_7cf53_14 : decode cJ9_floorDiv_7cf53 14 = .ok (.if_icmp .eq 7, 3) := by decide +kernel
theorem dJ9_floorDiv_7cf53_17 : decode cJ9_floorDiv_7cf53 17 = .ok (.iload_n 2, 1) := by decide +kernel
theorem dJ9_floorDiv_7cf53_18 : decode cJ9_floorDiv_7cf53 18 = .ok (.iconst 1, 1) := by decide +kernel
theorem dJ9_floorDiv_7cf53_19 : decode cJ9_floorDiv_7cf53 19 = .ok (.isub, 1) := by decide +kernel
theorem dJ9_floorDiv_7cf53_20 : decode cJ9_floorDiv_7cf53 20 = .ok (.ireturn, 1) := by decide +kernel
theorem dJ9_floorDiv_7cf53_21 : decode cJ9_floorDiv_7cf53 21 = .ok (.iload_n 2, 1) := by decide +kernel
theorem dJ9_floorDiv_7cf53_22 : decode cJ9_floorDiv_7cf53 22 = .ok (.ireturn, 1) := by decide +kernel
theorem dJ9_abs_0f7a4_0 : decode cJ9_abs_0f7a4 0 = .ok (.iload_n 0, 1) := by decide +kernel
theorem dJ9_abs_0f7a4_1 : decode cJ9_abs_0f7a4 1 = .ok (.ifCond .ge 8, 3) := by decide +kernel
theorem dJ9_abs_0f7a4_4 : decode cJ9_abs_0f7a4 4 = .ok (.iload_n 0, 1) := by decide +kernel
theorem dJ9_abs_0f7a4_5 : decode cJ9_abs_0f7a4 5 = .ok (.ineg, 1) := by decide +kernel
theorem dJ9_abs_0f7a4_6 : decode cJ9_abs_0f7a4 6 = .ok (.goto 4, 3) := by decide +kernel
theorem dJ9_abs_0f7a4_9 : decode cJ9_abs_0f7a4 9 = .ok (.iload_n 0, 1) := by decide +kernel
theorem dJ9_abs_0f7a4_10 : decode cJ9_abs_0f7a4 10 = .ok (.ireturn, 1) := by decide +kernel
theorem dJ9_max_7cf53_0 : decode cJ9_max_7cf53 0 = .ok (.iload_n 0, 1) := by decide +kernel
theorem dJ9_max_7cf53_1 : decode cJ9_max_7cf53 1 = .ok (.iload_n 1, 1) := by decide +kernel
theorem dJ9_max_7cf53_2 : decode cJ9_max_7cf53 2 = .ok (.if_icmp .lt 7, 3) := by decide +kernel
theorem dJ9_max_7cf53_5 : decode cJ9_max_7cf53 5 = .ok (.iload_n 0, 1) := by decide +kernel
theorem dJ9_max_7cf53_6 : decode cJ9_max_7cf53 6 = .ok (.goto 4, 3) := by decide +kernel
theorem dJ9_max_7cf53_9 : decode cJ9_max_7cf53 9 = .ok (.iload_n 1, 1) := by decide +kernel
theorem dJ9_max_7cf53_10 : decode cJ9_max_7cf53 10 = .ok (.ireturn, 1) := by decide +kernel
theorem dJ9_min_7cf53_0 : decode cJ9_min_7cf53 0 = .ok (.iload_n 0, 1) := by decide +kernel
theorem dJ9_min_7cf53_1 : decode cJ9_min_7cf53 1 = .ok (.iload_n 1, 1) := by decide +kernel
theorem dJ9_min_7cf53_2 : decode cJ9_min_7cf53 2 = .ok (.if_icmp .gt 7, 3) := by decide +kernel
theorem dJ9_min_7cf53_5 : decode cJ9_min_7cf53 5 = .ok (.iload_n 0, 1) := by decide +kernel
theorem dJ9_min_7cf53_6 : decode cJ9_min_7cf53 6 = .ok (.goto 4, 3) := by decide +kernel
theorem dJ9_min_7cf53_9 : decode cJ9_min_7cf53 9 = .ok (.iload_n 1, 1) := by decide +kernel
theorem dJ9_min_7cf53_10 : decode cJ9_min_7cf53 10 = .ok (.ireturn, 1) := by decide +kernel
