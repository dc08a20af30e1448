theorem dL_cell_0 : decode cL_cell 0 = .ok (.iload_n 1, 1) := by decide +kernel
theorem dL_cell_1 : decode cL_cell 1 = .ok (.aload_n 0, 1) := by decide +kernel
theorem dL_cell_2 : decode cL_cell 2 = .ok (.arraylength, 1) := by decide +kernel
theorem dL_cell_3 : decode cL_cell 3 = .ok (.if_icmp .ge 9, 3) := by decide +kernel
theorem dL_cell_6 : decode cL_cell 6 = .ok (.aload_n 0, 1) := by decide +kernel
theorem dL_cell_7 : decode cL_cell 7 = .ok (.iload_n 1, 1) := by decide +kernel
theorem dL_cell_8 : decode cL_cell 8 = .ok (.iaload, 1) := by decide +kernel
theorem dL_cell_9 : decode cL_cell 9 = .ok (.goto 10, 3) := by decide +kernel
theorem dL_cell_12 : decode cL_cell 12 = .ok (.ldc 7, 2) := by decide +kernel
theorem dL_cell_14 : decode cL_cell 14 = .ok (.iload_n 1, 1) := by decide +kernel
theorem dL_cell_15 : decode cL_cell 15 = .ok (.imul, 1) := by decide +kernel
theorem dL_cell_16 : decode cL_cell 16 = .ok (.ldc 8, 2) := by decide +kernel
theorem dL_cell_18 : decode cL_cell 18 = .ok (.iadd, 1) := by decide +kernel
theorem dL_cell_19 : decode cL_cell 19 = .ok (.ireturn, 1) := by decide +kernel
theorem dL_low_0 : decode cL_low 0 = .ok (.iload_n 0, 1) := by decide +kernel
theorem dL_low_1 : decode cL_low 1 = .ok (.ldc 9, 2) := by decide +kernel
theorem dL_low_3 : decode cL_low 3 = .ok (.iand, 1) := by decide +kernel
theorem dL_low_4 : decode cL_low 4 = .ok (.iload_n 1, 1) := by decide +kernel
theorem dL_low_5 : decode cL_low 5 = .ok (.irem, 1) := by decide +kernel
theorem dL_low_6 : decode cL_low 6 = .ok (.ireturn, 1) := by decide +kernel
set_option maxRecDepth 20000 in
theorem ggL_height_L_cell : GoodIn wsL_height wsL_cell := goodIn_r _ [4, 5, 6] (by decide +kernel) (by decide +kernel)
set_option maxRecDepth 20000 in
theorem gL_height_L_cell : GoodIn wsL_height (va_wsS RL 10 yL_cell wsL_cell) := goodIn_app (goodIn_of _ (by decide +kernel)) ggL_height_L_cell
set_option maxRecDepth 20000 in
theorem ggL_height_L_low : GoodIn wsL_height wsL_low := goodIn_r _ [9, 10] (by decide +kernel) (by decide +kernel)
set_option maxRecDepth 20000 in
theorem gL_height_L_low : GoodIn wsL_height (va_wsS RL 16 yL_low wsL_low) := goodIn_app (goodIn_of _ (by decide +kernel)) ggL_height_L_low
theorem dL_height_0 : decode cL_height 0 = .ok (.bipush 96, 2) := by decide +kernel
theorem dL_height_2 : decode cL_height 2 = .ok (.iload_n 1, 1) := by decide +kernel
theorem dL_height_3 : decode cL_height 3 = .ok (.imul, 1) := by decide +kernel
theorem dL_height_4 : decode cL_height 4 = .ok (.bipush 16, 2) := by decide +kernel
theorem dL_height_6 : decode cL_height 6 = .ok (.iload_n 2, 1) := by decide +kernel
theorem dL_height_7 : decode cL_height 7 = .ok (.imul, 1) := by decide +kernel
theorem dL_height_8 : decode cL_height 8 = .ok (.iadd, 1) := by decide +kernel
theorem dL_height_9 : decode cL_height 9 = .ok (.iload_n 3, 1) := by decide +kernel
theorem dL_height_10 : decode cL_height 10 = .ok (.iadd, 1) := by decide +kernel
theorem dL_height_11 : decode cL_height 11 = .ok (.istore 4, 2) := by decide +kernel
theorem dL_height_13 : decode cL_height 13 = .ok (.aload_n 0, 1) := by decide +kernel
theorem dL_height_14 : decode cL_height 14 = .ok (.iload 4, 2) := by decide +kernel
theorem dL_height_16 : decode cL_height 16 = .ok (.iconst 5, 1) := by decide +kernel
theorem dL_height_17 : decode cL_height 17 = .ok (.idiv, 1) := by decide +kernel
theorem dL_height_18 : decode cL_height 18 = .ok (.bipush 60, 2) := by decide +kernel
theorem dL_height_20 : decode cL_height 20 = .ok (.irem, 1) := by decide +kernel
theorem dL_height_21 : decode cL_height 21 = .ok (.invokestatic 10, 3) := by decide +kernel
theorem dL_height_24 : decode cL_height 24 = .ok (.bipush 6, 2) := by decide +kernel
theorem dL_height_26 : decode cL_height 26 = .ok (.iload 4, 2) := by decide +kernel
theorem dL_height_28 : decode cL_height 28 = .ok (.iconst 5, 1) := by decide +kernel
theorem dL_height_29 : decode cL_height 29 = .ok (.irem, 1) := by decide +kernel
theorem dL_height_30 : decode cL_height 30 = .ok (.imul, 1) := by decide +kernel
theorem dL_height_31 : decode cL_height 31 = .ok (.ishr, 1) := by decide +kernel
theorem dL_height_32 : decode cL_height 32 = .ok (.istore 5, 2) := by decide +kernel
theorem dL_height_34 : decode cL_height 34 = .ok (.aload_n 0, 1) := by decide +kernel
theorem dL_height_35 : decode cL_height 35 = .ok (.bipush 60, 2) := by decide +kernel
theorem dL_height_37 : decode cL_height 37 = .ok (.iload_n 1, 1) := by decide +kernel
theorem dL_height_38 : decode cL_height 38 = .ok (.iadd, 1) := by decide +kernel
theorem dL_height_39 : decode cL_height 39 = .ok (.invokestatic 10, 3) := by decide +kernel
theorem dL_height_42 : decode cL_height 42 = .ok (.iconst 3, 1) := by decide +kernel
theorem dL_height_43 : decode cL_height 43 = .ok (.invokestatic 16, 3) := by decide +kernel
theorem dL_height_46 : decode cL_height 46 = .ok (.istore 6, 2) := by decide +kernel
theorem dL_height_48 : decode cL_height 48 = .ok (.iload 6, 2) := by decide +kernel
theorem dL_height_50 : decode cL_height 50 = .ok (.ifCond .ne 17, 3) := by decide +kernel
theorem dL_height_53 : decode cL_height 53 = .ok (.iload 5, 2) := by decide +kernel
theorem dL_height_55 : decode cL_height 55 = .ok (.bipush 8, 2) := by decide +kernel
theorem dL_height_57 : decode cL_height 57 = .ok (.invokestatic 16, 3) := by decide +kernel
theorem dL_height_60 : decode cL_height 60 = .ok (.ifCond .le 7, 3) := by decide +kernel
theorem dL_height_63 : decode cL_height 63 = .ok (.iconst 0, 1) := by decide +kernel
theorem dL_height_64 : decode cL_height 64 = .ok (.goto 33, 3) := by decide +kernel
theorem dL_height_67 : decode cL_height 67 = .ok (.iload 6, 2) := by decide +kernel
theorem dL_height_69 : decode cL_height 69 = .ok (.iconst 1, 1) := by decide +kernel
theorem dL_height_70 : decode cL_height 70 = .ok (.if_icmp .ne 16, 3) := by decide +kernel
theorem dL_height_73 : decode cL_height 73 = .ok (.iload 5, 2) := by decide +kernel
theorem dL_height_75 : decode cL_height 75 = .ok (.iconst 3, 1) := by decide +kernel
theorem dL_height_76 : decode cL_height 76 = .ok (.invokestatic 16, 3) := by decide +kernel
theorem dL_height_79 : decode cL_height 79 = .ok (.ifCond .le 7, 3) := by decide +kernel
theorem dL_height_82 : decode cL_height 82 = .ok (.iconst 0, 1) := by decide +kernel
theorem dL_height_83 : decode cL_height 83 = .ok (.goto 14, 3) := by decide +kernel
theorem dL_height_86 : decode cL_height 86 = .ok (.iload 5, 2) := by decide +kernel
theorem dL_height_88 : decode cL_height 88 = .ok (.iconst 2, 1) := by decide +kernel
theorem dL_height_89 : decode cL_height 89 = .ok (.ishr, 1) := by decide +kernel
theorem dL_height_90 : decode cL_height 90 = .ok (.bipush 7, 2) := by decide +kernel
theorem dL_height_92 : decode cL_height 92 = .ok (.invokestatic 16, 3) := by decide +kernel
theorem dL_height_95 : decode cL_height 95 = .ok (.iconst 3, 1) := by decide +kernel
theorem dL_height_96 : decode cL_height 96 = .ok (.isub, 1) := by decide +kernel
theorem dL_height_97 : decode cL_height 97 = .ok (.ireturn, 1) := by decide +kernel
set_option maxRecDepth 20000 in
theorem ggL_wires_L_height : GoodIn wsL_wires wsL_height := goodIn_r _ [4, 5, 6, 3, 7, 8, 9, 10, 11, 12, 13] (by decide +kernel) (by decide +kernel)
set_option maxRecDepth 20000 in
theorem gL_wires_L_height : GoodIn wsL_wires (va_wsS RL 20 yL_height wsL_height) := goodIn_app (goodIn_of _ (by decide +kernel)) ggL_wires_L_height
set_option maxRecDepth 20000 in
theorem ggL_wires_X5_wire : GoodIn wsL_wires wsX5_wire := goodIn_ca (goodIn_ca (goodIn_r _ [18, 19, 20, 21, 17, 22, 23, 24, 25, 26, 27, 28, 29, 30, 31, 32, 33, 34, 35, 36, 37, 38, 39, 40, 41, 42, 43, 44, 45, 46, 47, 48, 49, 50, 51, 52, 53, 54, 55, 56, 57, 58, 59, 60, 61, 62, 63, 64, 65, 66, 67, 68, 69, 70, 71] (by decide +kernel) (by decide +kernel)) (goodIn_sub (fun _ h => List.mem_cons_of_mem _ (List.mem_append_left _ (List.mem_append_right _ h))) (by decide +kernel))) (goodIn_sub (fun _ h => List.mem_cons_of_mem _ (List.mem_append_right _ h)) (by decide +kernel))
set_option maxRecDepth 20000 in
theorem gL_wires_X5_wire : GoodIn wsL_wires (wsV RL 24 RX5 yX5_wire wsX5_wire) := goodIn_app (goodIn_of _ (by decide +kernel)) ggL_wires_X5_wire
theorem dL_wires_0 : decode cL_wires 0 = .ok (.iconst 0, 1) := by decide +kernel
theorem dL_wires_1 : decode cL_wires 1 = .ok (.istore_n 2, 1) := by decide +kernel
theorem dL_wires_2 : decode cL_wires 2 = .ok (.iload_n 2, 1) := by decide +kernel
theorem dL_wires_3 : decode cL_wires 3 = .ok (.sipush 288, 3) := by decide +kernel
theorem dL_wires_6 : decode cL_wires 6 = .ok (.if_icmp .ge 63, 3) := by decide +kernel
theorem dL_wires_9 : decode cL_wires 9 = .ok (.iload_n 2, 1) := by decide +kernel
theorem dL_wires_10 : decode cL_wires 10 = .ok (.bipush 96, 2) := by decide +kernel
theorem dL_wires_12 : decode cL_wires 12 = .ok (.idiv, 1) := by decide +kernel
theorem dL_wires_13 : decode cL_wires 13 = .ok (.istore_n 3, 1) := by decide +kernel
theorem dL_wires_14 : decode cL_wires 14 = .ok (.iload_n 2, 1) := by decide +kernel
theorem dL_wires_15 : decode cL_wires 15 = .ok (.bipush 16, 2) := by decide +kernel
theorem dL_wires_17 : decode cL_wires 17 = .ok (.idiv, 1) := by decide +kernel
theorem dL_wires_18 : decode cL_wires 18 = .ok (.bipush 6, 2) := by decide +kernel
theorem dL_wires_20 : decode cL_wires 20 = .ok (.irem, 1) := by decide +kernel
theorem dL_wires_21 : decode cL_wires 21 = .ok (.istore 4, 2) := by decide +kernel
theorem dL_wires_23 : decode cL_wires 23 = .ok (.iload_n 2, 1) := by decide +kernel
theorem dL_wires_24 : decode cL_wires 24 = .ok (.bipush 16, 2) := by decide +kernel
theorem dL_wires_26 : decode cL_wires 26 = .ok (.irem, 1) := by decide +kernel
theorem dL_wires_27 : decode cL_wires 27 = .ok (.istore 5, 2) := by decide +kernel
theorem dL_wires_29 : decode cL_wires 29 = .ok (.aload_n 1, 1) := by decide +kernel
theorem dL_wires_30 : decode cL_wires 30 = .ok (.iload_n 3, 1) := by decide +kernel
theorem dL_wires_31 : decode cL_wires 31 = .ok (.iload 4, 2) := by decide +kernel
theorem dL_wires_33 : decode cL_wires 33 = .ok (.iload 5, 2) := by decide +kernel
theorem dL_wires_35 : decode cL_wires 35 = .ok (.invokestatic 20, 3) := by decide +kernel
theorem dL_wires_38 : decode cL_wires 38 = .ok (.istore 6, 2) := by decide +kernel
theorem dL_wires_40 : decode cL_wires 40 = .ok (.iload 6, 2) := by decide +kernel
theorem dL_wires_42 : decode cL_wires 42 = .ok (.ifCond .eq 21, 3) := by decide +kernel
theorem dL_wires_45 : decode cL_wires 45 = .ok (.aload_n 0, 1) := by decide +kernel
theorem dL_wires_46 : decode cL_wires 46 = .ok (.iload_n 3, 1) := by decide +kernel
theorem dL_wires_47 : decode cL_wires 47 = .ok (.iload 4, 2) := by decide +kernel
theorem dL_wires_49 : decode cL_wires 49 = .ok (.iload 5, 2) := by decide +kernel
theorem dL_wires_51 : decode cL_wires 51 = .ok (.iload 6, 2) := by decide +kernel
theorem dL_wires_53 : decode cL_wires 53 = .ok (.invokevirtual 24, 3) := by decide +kernel
theorem dL_wires_56 : decode cL_wires 56 = .ok (.bipush 100, 2) := by decide +kernel
theorem dL_wires_58 : decode cL_wires 58 = .ok (.if_icmp .eq 5, 3) := by decide +kernel
theorem dL_wires_61 : decode cL_wires 61 = .ok (.iconst 0, 1) := by decide +kernel
theorem dL_wires_62 : decode cL_wires 62 = .ok (.ireturn, 1) := by decide +kernel
theorem dL_wires_63 : decode cL_wires 63 = .ok (.iinc 2 1, 3) := by decide +kernel
theorem dL_wires_66 : decode cL_wires 66 = .ok (.goto (-64), 3) := by decide +kernel
theorem dL_wires_69 : decode cL_wires 69 = .ok (.iconst 1, 1) := by decide +kernel
theorem dL_wires_70 : decode cL_wires 70 = .ok (.ireturn, 1) := by decide +kernel
set_option maxRecDepth 20000 in
theorem ggL_sum_L_height : GoodIn wsL_sum wsL_height := goodIn_r _ [4, 5, 6, 3, 7, 8, 9, 10, 11, 12, 13] (by decide +kernel) (by decide +kernel)
set_option maxRecDepth 20000 in
theorem gL_sum_L_height : GoodIn wsL_sum (va_wsS RL 20 yL_height wsL_height) := goodIn_app (goodIn_of _ (by decide +kernel)) ggL_sum_L_height
theorem dL_sum_0 : decode cL_sum 0 = .ok (.aload_n 1, 1) := by decide +kernel
theorem dL_sum_1 : decode cL_sum 1 = .ok (.bipush 6, 2) := by decide +kernel
theorem dL_sum_3 : decode cL_sum 3 = .ok (.iaload, 1) := by decide +kernel
theorem dL_sum_4 : decode cL_sum 4 = .ok (.iload_n 2, 1) := by decide +kernel
theorem dL_sum_5 : decode cL_sum 5 = .ok (.aload_n 1, 1) := by decide +kernel
theorem dL_sum_6 : decode cL_sum 6 = .ok (.bipush 7, 2) := by decide +kernel
theorem dL_sum_8 : decode cL_sum 8 = .ok (.iaload, 1) := by decide +kernel
theorem dL_sum_9 : decode cL_sum 9 = .ok (.imul, 1) := by decide +kernel
theorem dL_sum_10 : decode cL_sum 10 = .ok (.iadd, 1) := by decide +kernel
theorem dL_sum_11 : decode cL_sum 11 = .ok (.iload 4, 2) := by decide +kernel
theorem dL_sum_13 : decode cL_sum 13 = .ok (.iadd, 1) := by decide +kernel
theorem dL_sum_14 : decode cL_sum 14 = .ok (.istore 5, 2) := by decide +kernel
theorem dL_sum_16 : decode cL_sum 16 = .ok (.iconst 0, 1) := by decide +kernel
theorem dL_sum_17 : decode cL_sum 17 = .ok (.istore 6, 2) := by decide +kernel
theorem dL_sum_19 : decode cL_sum 19 = .ok (.iconst 0, 1) := by decide +kernel
theorem dL_sum_20 : decode cL_sum 20 = .ok (.istore 7, 2) := by decide +kernel
theorem dL_sum_22 : decode cL_sum 22 = .ok (.iload 7, 2) := by decide +kernel
theorem dL_sum_24 : decode cL_sum 24 = .ok (.iconst 3, 1) := by decide +kernel
theorem dL_sum_25 : decode cL_sum 25 = .ok (.if_icmp .ge 35, 3) := by decide +kernel
theorem dL_sum_28 : decode cL_sum 28 = .ok (.iload 6, 2) := by decide +kernel
theorem dL_sum_30 : decode cL_sum 30 = .ok (.aload_n 0, 1) := by decide +kernel
theorem dL_sum_31 : decode cL_sum 31 = .ok (.iload 7, 2) := by decide +kernel
theorem dL_sum_33 : decode cL_sum 33 = .ok (.iload_n 3, 1) := by decide +kernel
theorem dL_sum_34 : decode cL_sum 34 = .ok (.iload 5, 2) := by decide +kernel
theorem dL_sum_36 : decode cL_sum 36 = .ok (.aload_n 1, 1) := by decide +kernel
theorem dL_sum_37 : decode cL_sum 37 = .ok (.iconst 3, 1) := by decide +kernel
theorem dL_sum_38 : decode cL_sum 38 = .ok (.iload 7, 2) := by decide +kernel
theorem dL_sum_40 : decode cL_sum 40 = .ok (.iadd, 1) := by decide +kernel
theorem dL_sum_41 : decode cL_sum 41 = .ok (.iaload, 1) := by decide +kernel
theorem dL_sum_42 : decode cL_sum 42 = .ok (.iadd, 1) := by decide +kernel
theorem dL_sum_43 : decode cL_sum 43 = .ok (.aload_n 1, 1) := by decide +kernel
theorem dL_sum_44 : decode cL_sum 44 = .ok (.iload 7, 2) := by decide +kernel
theorem dL_sum_46 : decode cL_sum 46 = .ok (.iaload, 1) := by decide +kernel
theorem dL_sum_47 : decode cL_sum 47 = .ok (.irem, 1) := by decide +kernel
theorem dL_sum_48 : decode cL_sum 48 = .ok (.invokestatic 20, 3) := by decide +kernel
theorem dL_sum_51 : decode cL_sum 51 = .ok (.iadd, 1) := by decide +kernel
theorem dL_sum_52 : decode cL_sum 52 = .ok (.istore 6, 2) := by decide +kernel
theorem dL_sum_54 : decode cL_sum 54 = .ok (.iinc 7 1, 3) := by decide +kernel
theorem dL_sum_57 : decode cL_sum 57 = .ok (.goto (-35), 3) := by decide +kernel
theorem dL_sum_60 : decode cL_sum 60 = .ok (.iload 6, 2) := by decide +kernel
theorem dL_sum_62 : decode cL_sum 62 = .ok (.ireturn, 1) := by decide +kernel
set_option maxRecDepth 20000 in
theorem ggL_tone_L_sum : GoodIn wsL_tone wsL_sum := goodIn_r _ [4, 5, 6, 3, 7, 8, 9, 10, 11, 12, 13, 14, 15, 16] (by decide +kernel) (by decide +kernel)
set_option maxRecDepth 20000 in
theorem gL_tone_L_sum : GoodIn wsL_tone (va_wsS RL 30 yL_sum wsL_sum) := goodIn_app (goodIn_of _ (by decide +kernel)) ggL_tone_L_sum
theorem dL_tone_0 : decode cL_tone 0 = .ok (.bipush 10, 2) := by decide +kernel
theorem dL_tone_2 : decode cL_tone 2 = .ok (.aload_n 0, 1) := by decide +kernel
theorem dL_tone_3 : decode cL_tone 3 = .ok (.aload_n 1, 1) := by decide +kernel
theorem dL_tone_4 : decode cL_tone 4 = .ok (.iload_n 2, 1) := by decide +kernel
theorem dL_tone_5 : decode cL_tone 5 = .ok (.iload_n 3, 1) := by decide +kernel
theorem dL_tone_6 : decode cL_tone 6 = .ok (.iload 4, 2) := by decide +kernel
theorem dL_tone_8 : decode cL_tone 8 = .ok (.invokestatic 30, 3) := by decide +kernel
theorem dL_tone_11 : decode cL_tone 11 = .ok (.iadd, 1) := by decide +kernel
theorem dL_tone_12 : decode cL_tone 12 = .ok (.istore 5, 2) := by decide +kernel
theorem dL_tone_14 : decode cL_tone 14 = .ok (.iload 5, 2) := by decide +kernel
theorem dL_tone_16 : decode cL_tone 16 = .ok (.ifCond .ge 7, 3) := by decide +kernel
theorem dL_tone_19 : decode cL_tone 19 = .ok (.iconst 0, 1) := by decide +kernel
theorem dL_tone_20 : decode cL_tone 20 = .ok (.goto 17, 3) := by decide +kernel
theorem dL_tone_23 : decode cL_tone 23 = .ok (.iload 5, 2) := by decide +kernel
theorem dL_tone_25 : decode cL_tone 25 = .ok (.bipush 19, 2) := by decide +kernel
theorem dL_tone_27 : decode cL_tone 27 = .ok (.if_icmp .le 8, 3) := by decide +kernel
theorem dL_tone_30 : decode cL_tone 30 = .ok (.bipush 19, 2) := by decide +kernel
theorem dL_tone_32 : decode cL_tone 32 = .ok (.goto 5, 3) := by decide +kernel
theorem dL_tone_35 : decode cL_tone 35 = .ok (.iload 5, 2) := by decide +kernel
theorem dL_tone_37 : decode cL_tone 37 = .ok (.ireturn, 1) := by decide +kernel
set_option maxRecDepth 20000 in
theorem ggL_setUp_L_cell : GoodIn wsL_setUp wsL_cell := goodIn_r _ [4, 5, 6] (by decide +kernel) (by decide +kernel)
set_option maxRecDepth 20000 in
theorem gL_setUp_L_cell : GoodIn wsL_setUp (va_wsS RL 10 yL_cell wsL_cell) := goodIn_app (goodIn_of _ (by decide +kernel)) ggL_setUp_L_cell
set_option maxRecDepth 20000 in
theorem ggL_setUp_L_low : GoodIn wsL_setUp wsL_low := goodIn_r _ [9, 10] (by decide +kernel) (by decide +kernel)
set_option maxRecDepth 20000 in
theorem gL_setUp_L_low : GoodIn wsL_setUp (va_wsS RL 16 yL_low wsL_low) := goodIn_app (goodIn_of _ (by decide +kernel)) ggL_setUp_L_low
set_option maxRecDepth 20000 in
theorem ggL_setUp_X5_size : GoodIn wsL_setUp wsX5_size := goodIn_ca (goodIn_ca (goodIn_r _ [15, 16, 17, 18, 19, 14, 20, 21, 22, 23, 24, 25, 26, 27, 28, 29, 30, 31, 32, 33, 34, 35, 36, 37, 38, 39, 40, 41, 42, 43, 44, 45, 46, 47, 48, 49, 50, 51, 52, 53, 54, 55, 56, 57, 58, 59, 60, 61, 62, 63, 64, 65, 66, 67, 68, 69, 70, 71, 72, 73, 74, 75, 112, 113, 114, 115, 116, 117, 118, 119, 120, 121] (by decide +kernel) (by decide +kernel)) (goodIn_sub (fun _ h => List.mem_cons_of_mem _ (List.mem_append_left _ (List.mem_append_right _ h))) (by decide +kernel))) (goodIn_sub (fun _ h => List.mem_cons_of_mem _ (List.mem_append_right _ h)) (by decide +kernel))
set_option maxRecDepth 20000 in
theorem gL_setUp_X5_size : GoodIn wsL_setUp (wsV RL 34 RX5 yX5_size wsX5_size) := goodIn_app (goodIn_of _ (by decide +kernel)) ggL_setUp_X5_size
set_option maxRecDepth 20000 in
theorem ggL_setUp_X5_roll : GoodIn wsL_setUp wsX5_roll := goodIn_ca (goodIn_ca (goodIn_r _ [79, 16, 17, 18, 19, 14, 20, 21, 22, 23, 24, 25, 26, 27, 28, 29, 30, 31, 32, 33, 50, 51, 37, 52, 53, 54, 55, 56, 44, 61, 62, 63, 80, 81, 82, 67, 83, 69, 84, 85, 86, 71, 87, 88, 89, 90, 91, 92, 93, 94, 95, 96, 97, 70, 98, 99, 100, 73, 74, 112, 113, 114, 115, 116, 117, 118, 119, 120, 121] (by decide +kernel) (by decide +kernel)) (goodIn_sub (fun _ h => List.mem_cons_of_mem _ (List.mem_append_left _ (List.mem_append_right _ h))) (by decide +kernel))) (goodIn_sub (fun _ h => List.mem_cons_of_mem _ (List.mem_append_right _ h)) (by decide +kernel))
set_option maxRecDepth 20000 in
theorem gL_setUp_X5_roll : GoodIn wsL_setUp (wsV RL 37 RX5 yX5_roll wsX5_roll) := goodIn_app (goodIn_of _ (by decide +kernel)) ggL_setUp_X5_roll
set_option maxRecDepth 20000 in
theorem ggL_setUp_X5_turn : GoodIn wsL_setUp wsX5_turn := goodIn_ca (goodIn_ca (goodIn_r _ [104, 16, 17, 18, 19, 14, 20, 21, 22, 23, 24, 25, 26, 27, 28, 29, 30, 31, 32, 33, 34, 35, 36, 37, 38, 39, 40, 41, 42, 43, 44, 45, 46, 47, 48, 49, 61, 62, 63, 53, 54, 55, 56, 64, 65, 66, 67, 68, 69, 70, 51, 52, 71, 72, 73, 74, 75, 58, 59, 60, 112, 113, 114, 115, 116, 117, 118, 119, 120, 121] (by decide +kernel) (by decide +kernel)) (goodIn_sub (fun _ h => List.mem_cons_of_mem _ (List.mem_append_left _ (List.mem_append_right _ h))) (by decide +kernel))) (goodIn_sub (fun _ h => List.mem_cons_of_mem _ (List.mem_append_right _ h)) (by decide +kernel))
set_option maxRecDepth 20000 in
theorem gL_setUp_X5_turn : GoodIn wsL_setUp (wsV RL 40 RX5 yX5_turn wsX5_turn) := goodIn_app (goodIn_of _ (by decide +kernel)) ggL_setUp_X5_turn
set_option maxRecDepth 20000 in
theorem ggL_setUp_X5_set : GoodIn wsL_setUp wsX5_set := goodIn_ca (goodIn_ca (goodIn_r _ [108, 16, 18, 19, 14, 20, 21, 22, 23, 24, 25, 109, 110, 111, 26, 27, 28, 29, 30, 31, 32, 33, 34, 35, 36, 37, 38, 39, 40, 41, 42, 43, 44, 45, 46, 47, 48, 49, 91, 92, 93, 53, 54, 55, 56, 57, 58, 59, 60, 112, 113, 114, 115, 116, 117, 118, 119, 120] (by decide +kernel) (by decide +kernel)) (goodIn_sub (fun _ h => List.mem_cons_of_mem _ (List.mem_append_left _ (List.mem_append_right _ h))) (by decide +kernel))) (goodIn_sub (fun _ h => List.mem_cons_of_mem _ (List.mem_append_right _ h)) (by decide +kernel))
set_option maxRecDepth 20000 in
theorem gL_setUp_X5_set : GoodIn wsL_setUp (wsV RL 43 RX5 yX5_set wsX5_set) := goodIn_app (goodIn_of _ (by decide +kernel)) ggL_setUp_X5_set
theorem dL_setUp_0 : decode cL_setUp 0 = .ok (.iconst 1, 1) := by decide +kernel
theorem dL_setUp_1 : decode cL_setUp 1 = .ok (.istore_n 3, 1) := by decide +kernel
theorem dL_setUp_2 : decode cL_setUp 2 = .ok (.iconst 0, 1) := by decide +kernel
theorem dL_setUp_3 : decode cL_setUp 3 = .ok (.istore 4, 2) := by decide +kernel
theorem dL_setUp_5 : decode cL_setUp 5 = .ok (.iload 4, 2) := by decide +kernel
theorem dL_setUp_7 : decode cL_setUp 7 = .ok (.iconst 3, 1) := by decide +kernel
theorem dL_setUp_8 : decode cL_setUp 8 = .ok (.if_icmp .ge 170, 3) := by decide +kernel
theorem dL_setUp_11 : decode cL_setUp 11 = .ok (.aload_n 1, 1) := by decide +kernel
theorem dL_setUp_12 : decode cL_setUp 12 = .ok (.bipush 63, 2) := by decide +kernel
theorem dL_setUp_14 : decode cL_setUp 14 = .ok (.iload 4, 2) := by decide +kernel
theorem dL_setUp_16 : decode cL_setUp 16 = .ok (.iadd, 1) := by decide +kernel
theorem dL_setUp_17 : decode cL_setUp 17 = .ok (.invokestatic 10, 3) := by decide +kernel
theorem dL_setUp_20 : decode cL_setUp 20 = .ok (.istore 5, 2) := by decide +kernel
theorem dL_setUp_22 : decode cL_setUp 22 = .ok (.aload_n 2, 1) := by decide +kernel
theorem dL_setUp_23 : decode cL_setUp 23 = .ok (.iload 4, 2) := by decide +kernel
theorem dL_setUp_25 : decode cL_setUp 25 = .ok (.iload 5, 2) := by decide +kernel
theorem dL_setUp_27 : decode cL_setUp 27 = .ok (.iconst 3, 1) := by decide +kernel
theorem dL_setUp_28 : decode cL_setUp 28 = .ok (.invokestatic 16, 3) := by decide +kernel
theorem dL_setUp_31 : decode cL_setUp 31 = .ok (.ifCond .ne 8, 3) := by decide +kernel
theorem dL_setUp_34 : decode cL_setUp 34 = .ok (.bipush 12, 2) := by decide +kernel
theorem dL_setUp_36 : decode cL_setUp 36 = .ok (.goto 14, 3) := by decide +kernel
theorem dL_setUp_39 : decode cL_setUp 39 = .ok (.iconst 4, 1) := by decide +kernel
theorem dL_setUp_40 : decode cL_setUp 40 = .ok (.iload 5, 2) := by decide +kernel
theorem dL_setUp_42 : decode cL_setUp 42 = .ok (.iconst 2, 1) := by decide +kernel
theorem dL_setUp_43 : decode cL_setUp 43 = .ok (.ishr, 1) := by decide +kernel
theorem dL_setUp_44 : decode cL_setUp 44 = .ok (.bipush 13, 2) := by decide +kernel
theorem dL_setUp_46 : decode cL_setUp 46 = .ok (.invokestatic 16, 3) := by decide +kernel
theorem dL_setUp_49 : decode cL_setUp 49 = .ok (.iadd, 1) := by decide +kernel
theorem dL_setUp_50 : decode cL_setUp 50 = .ok (.iastore, 1) := by decide +kernel
theorem dL_setUp_51 : decode cL_setUp 51 = .ok (.iload_n 3, 1) := by decide +kernel
theorem dL_setUp_52 : decode cL_setUp 52 = .ok (.ifCond .eq 36, 3) := by decide +kernel
theorem dL_setUp_55 : decode cL_setUp 55 = .ok (.aload_n 0, 1) := by decide +kernel
theorem dL_setUp_56 : decode cL_setUp 56 = .ok (.iload 4, 2) := by decide +kernel
theorem dL_setUp_58 : decode cL_setUp 58 = .ok (.aload_n 2, 1) := by decide +kernel
theorem dL_setUp_59 : decode cL_setUp 59 = .ok (.iload 4, 2) := by decide +kernel
theorem dL_setUp_61 : decode cL_setUp 61 = .ok (.iaload, 1) := by decide +kernel
theorem dL_setUp_62 : decode cL_setUp 62 = .ok (.invokevirtual 34, 3) := by decide +kernel
theorem dL_setUp_65 : decode cL_setUp 65 = .ok (.bipush 12, 2) := by decide +kernel
theorem dL_setUp_67 : decode cL_setUp 67 = .ok (.if_icmp .ne 21, 3) := by decide +kernel
theorem dL_setUp_70 : decode cL_setUp 70 = .ok (.aload_n 0, 1) := by decide +kernel
theorem dL_setUp_71 : decode cL_setUp 71 = .ok (.iload 4, 2) := by decide +kernel
theorem dL_setUp_73 : decode cL_setUp 73 = .ok (.iconst 0, 1) := by decide +kernel
theorem dL_setUp_74 : decode cL_setUp 74 = .ok (.invokevirtual 37, 3) := by decide +kernel
theorem dL_setUp_77 : decode cL_setUp 77 = .ok (.aload_n 2, 1) := by decide +kernel
theorem dL_setUp_78 : decode cL_setUp 78 = .ok (.iload 4, 2) := by decide +kernel
theorem dL_setUp_80 : decode cL_setUp 80 = .ok (.iaload, 1) := by decide +kernel
theorem dL_setUp_81 : decode cL_setUp 81 = .ok (.if_icmp .ne 7, 3) := by decide +kernel
theorem dL_setUp_84 : decode cL_setUp 84 = .ok (.iconst 1, 1) := by decide +kernel
theorem dL_setUp_85 : decode cL_setUp 85 = .ok (.goto 4, 3) := by decide +kernel
theorem dL_setUp_88 : decode cL_setUp 88 = .ok (.iconst 0, 1) := by decide +kernel
theorem dL_setUp_89 : decode cL_setUp 89 = .ok (.istore_n 3, 1) := by decide +kernel
theorem dL_setUp_90 : decode cL_setUp 90 = .ok (.iload 5, 2) := by decide +kernel
theorem dL_setUp_92 : decode cL_setUp 92 = .ok (.bipush 7, 2) := by decide +kernel
theorem dL_setUp_94 : decode cL_setUp 94 = .ok (.ishr, 1) := by decide +kernel
theorem dL_setUp_95 : decode cL_setUp 95 = .ok (.sipush 199, 3) := by decide +kernel
theorem dL_setUp_98 : decode cL_setUp 98 = .ok (.invokestatic 16, 3) := by decide +kernel
theorem dL_setUp_101 : decode cL_setUp 101 = .ok (.bipush 99, 2) := by decide +kernel
theorem dL_setUp_103 : decode cL_setUp 103 = .ok (.isub, 1) := by decide +kernel
theorem dL_setUp_104 : decode cL_setUp 104 = .ok (.istore 6, 2) := by decide +kernel
theorem dL_setUp_106 : decode cL_setUp 106 = .ok (.aload_n 2, 1) := by decide +kernel
theorem dL_setUp_107 : decode cL_setUp 107 = .ok (.iconst 3, 1) := by decide +kernel
theorem dL_setUp_108 : decode cL_setUp 108 = .ok (.iload 4, 2) := by decide +kernel
theorem dL_setUp_110 : decode cL_setUp 110 = .ok (.iadd, 1) := by decide +kernel
theorem dL_setUp_111 : decode cL_setUp 111 = .ok (.iload 6, 2) := by decide +kernel
theorem dL_setUp_113 : decode cL_setUp 113 = .ok (.aload_n 2, 1) := by decide +kernel
theorem dL_setUp_114 : decode cL_setUp 114 = .ok (.iload 4, 2) := by decide +kernel
theorem dL_setUp_116 : decode cL_setUp 116 = .ok (.iaload, 1) := by decide +kernel
theorem dL_setUp_117 : decode cL_setUp 117 = .ok (.irem, 1) := by decide +kernel
theorem dL_setUp_118 : decode cL_setUp 118 = .ok (.aload_n 2, 1) := by decide +kernel
theorem dL_setUp_119 : decode cL_setUp 119 = .ok (.iload 4, 2) := by decide +kernel
theorem dL_setUp_121 : decode cL_setUp 121 = .ok (.iaload, 1) := by decide +kernel
theorem dL_setUp_122 : decode cL_setUp 122 = .ok (.iadd, 1) := by decide +kernel
theorem dL_setUp_123 : decode cL_setUp 123 = .ok (.aload_n 2, 1) := by decide +kernel
theorem dL_setUp_124 : decode cL_setUp 124 = .ok (.iload 4, 2) := by decide +kernel
theorem dL_setUp_126 : decode cL_setUp 126 = .ok (.iaload, 1) := by decide +kernel
theorem dL_setUp_127 : decode cL_setUp 127 = .ok (.irem, 1) := by decide +kernel
theorem dL_setUp_128 : decode cL_setUp 128 = .ok (.iastore, 1) := by decide +kernel
theorem dL_setUp_129 : decode cL_setUp 129 = .ok (.iload_n 3, 1) := by decide +kernel
theorem dL_setUp_130 : decode cL_setUp 130 = .ok (.ifCond .eq 40, 3) := by decide +kernel
theorem dL_setUp_133 : decode cL_setUp 133 = .ok (.aload_n 0, 1) := by decide +kernel
theorem dL_setUp_134 : decode cL_setUp 134 = .ok (.iload 4, 2) := by decide +kernel
theorem dL_setUp_136 : decode cL_setUp 136 = .ok (.iload 6, 2) := by decide +kernel
theorem dL_setUp_138 : decode cL_setUp 138 = .ok (.invokevirtual 40, 3) := by decide +kernel
theorem dL_setUp_141 : decode cL_setUp 141 = .ok (.aload_n 2, 1) := by decide +kernel
theorem dL_setUp_142 : decode cL_setUp 142 = .ok (.iconst 3, 1) := by decide +kernel
theorem dL_setUp_143 : decode cL_setUp 143 = .ok (.iload 4, 2) := by decide +kernel
theorem dL_setUp_145 : decode cL_setUp 145 = .ok (.iadd, 1) := by decide +kernel
theorem dL_setUp_146 : decode cL_setUp 146 = .ok (.iaload, 1) := by decide +kernel
theorem dL_setUp_147 : decode cL_setUp 147 = .ok (.if_icmp .ne 23, 3) := by decide +kernel
theorem dL_setUp_150 : decode cL_setUp 150 = .ok (.aload_n 0, 1) := by decide +kernel
theorem dL_setUp_151 : decode cL_setUp 151 = .ok (.iload 4, 2) := by decide +kernel
theorem dL_setUp_153 : decode cL_setUp 153 = .ok (.iconst 1, 1) := by decide +kernel
theorem dL_setUp_154 : decode cL_setUp 154 = .ok (.invokevirtual 37, 3) := by decide +kernel
theorem dL_setUp_157 : decode cL_setUp 157 = .ok (.aload_n 2, 1) := by decide +kernel
theorem dL_setUp_158 : decode cL_setUp 158 = .ok (.iconst 3, 1) := by decide +kernel
theorem dL_setUp_159 : decode cL_setUp 159 = .ok (.iload 4, 2) := by decide +kernel
theorem dL_setUp_161 : decode cL_setUp 161 = .ok (.iadd, 1) := by decide +kernel
theorem dL_setUp_162 : decode cL_setUp 162 = .ok (.iaload, 1) := by decide +kernel
theorem dL_setUp_163 : decode cL_setUp 163 = .ok (.if_icmp .ne 7, 3) := by decide +kernel
theorem dL_setUp_166 : decode cL_setUp 166 = .ok (.iconst 1, 1) := by decide +kernel
theorem dL_setUp_167 : decode cL_setUp 167 = .ok (.goto 4, 3) := by decide +kernel
theorem dL_setUp_170 : decode cL_setUp 170 = .ok (.iconst 0, 1) := by decide +kernel
theorem dL_setUp_171 : decode cL_setUp 171 = .ok (.istore_n 3, 1) := by decide +kernel
theorem dL_setUp_172 : decode cL_setUp 172 = .ok (.iinc 4 1, 3) := by decide +kernel
theorem dL_setUp_175 : decode cL_setUp 175 = .ok (.goto (-170), 3) := by decide +kernel
theorem dL_setUp_178 : decode cL_setUp 178 = .ok (.aload_n 1, 1) := by decide +kernel
theorem dL_setUp_179 : decode cL_setUp 179 = .ok (.bipush 66, 2) := by decide +kernel
theorem dL_setUp_181 : decode cL_setUp 181 = .ok (.invokestatic 10, 3) := by decide +kernel
theorem dL_setUp_184 : decode cL_setUp 184 = .ok (.istore 4, 2) := by decide +kernel
theorem dL_setUp_186 : decode cL_setUp 186 = .ok (.aload_n 2, 1) := by decide +kernel
theorem dL_setUp_187 : decode cL_setUp 187 = .ok (.bipush 6, 2) := by decide +kernel
theorem dL_setUp_189 : decode cL_setUp 189 = .ok (.iload 4, 2) := by decide +kernel
theorem dL_setUp_191 : decode cL_setUp 191 = .ok (.bipush 100, 2) := by decide +kernel
theorem dL_setUp_193 : decode cL_setUp 193 = .ok (.invokestatic 16, 3) := by decide +kernel
theorem dL_setUp_196 : decode cL_setUp 196 = .ok (.iastore, 1) := by decide +kernel
theorem dL_setUp_197 : decode cL_setUp 197 = .ok (.aload_n 2, 1) := by decide +kernel
theorem dL_setUp_198 : decode cL_setUp 198 = .ok (.bipush 7, 2) := by decide +kernel
theorem dL_setUp_200 : decode cL_setUp 200 = .ok (.iload 4, 2) := by decide +kernel
theorem dL_setUp_202 : decode cL_setUp 202 = .ok (.bipush 7, 2) := by decide +kernel
theorem dL_setUp_204 : decode cL_setUp 204 = .ok (.ishr, 1) := by decide +kernel
theorem dL_setUp_205 : decode cL_setUp 205 = .ok (.iconst 2, 1) := by decide +kernel
theorem dL_setUp_206 : decode cL_setUp 206 = .ok (.invokestatic 16, 3) := by decide +kernel
theorem dL_setUp_209 : decode cL_setUp 209 = .ok (.ifCond .ne 8, 3) := by decide +kernel
theorem dL_setUp_212 : decode cL_setUp 212 = .ok (.bipush 12, 2) := by decide +kernel
theorem dL_setUp_214 : decode cL_setUp 214 = .ok (.goto 16, 3) := by decide +kernel
theorem dL_setUp_217 : decode cL_setUp 217 = .ok (.bipush 12, 2) := by decide +kernel
theorem dL_setUp_219 : decode cL_setUp 219 = .ok (.iload 4, 2) := by decide +kernel
theorem dL_setUp_221 : decode cL_setUp 221 = .ok (.bipush 8, 2) := by decide +kernel
theorem dL_setUp_223 : decode cL_setUp 223 = .ok (.ishr, 1) := by decide +kernel
theorem dL_setUp_224 : decode cL_setUp 224 = .ok (.bipush 19, 2) := by decide +kernel
theorem dL_setUp_226 : decode cL_setUp 226 = .ok (.invokestatic 16, 3) := by decide +kernel
theorem dL_setUp_229 : decode cL_setUp 229 = .ok (.iadd, 1) := by decide +kernel
theorem dL_setUp_230 : decode cL_setUp 230 = .ok (.iastore, 1) := by decide +kernel
theorem dL_setUp_231 : decode cL_setUp 231 = .ok (.iload_n 3, 1) := by decide +kernel
theorem dL_setUp_232 : decode cL_setUp 232 = .ok (.ifCond .eq 70, 3) := by decide +kernel
theorem dL_setUp_235 : decode cL_setUp 235 = .ok (.aload_n 0, 1) := by decide +kernel
theorem dL_setUp_236 : decode cL_setUp 236 = .ok (.iconst 0, 1) := by decide +kernel
theorem dL_setUp_237 : decode cL_setUp 237 = .ok (.aload_n 2, 1) := by decide +kernel
theorem dL_setUp_238 : decode cL_setUp 238 = .ok (.bipush 6, 2) := by decide +kernel
theorem dL_setUp_240 : decode cL_setUp 240 = .ok (.iaload, 1) := by decide +kernel
theorem dL_setUp_241 : decode cL_setUp 241 = .ok (.invokevirtual 43, 3) := by decide +kernel
theorem dL_setUp_244 : decode cL_setUp 244 = .ok (.ifCond .ne 58, 3) := by decide +kernel
theorem dL_setUp_247 : decode cL_setUp 247 = .ok (.aload_n 0, 1) := by decide +kernel
theorem dL_setUp_248 : decode cL_setUp 248 = .ok (.iconst 1, 1) := by decide +kernel
theorem dL_setUp_249 : decode cL_setUp 249 = .ok (.aload_n 2, 1) := by decide +kernel
theorem dL_setUp_250 : decode cL_setUp 250 = .ok (.bipush 7, 2) := by decide +kernel
theorem dL_setUp_252 : decode cL_setUp 252 = .ok (.iaload, 1) := by decide +kernel
theorem dL_setUp_253 : decode cL_setUp 253 = .ok (.invokevirtual 43, 3) := by decide +kernel
theorem dL_setUp_256 : decode cL_setUp 256 = .ok (.bipush 12, 2) := by decide +kernel
theorem dL_setUp_258 : decode cL_setUp 258 = .ok (.if_icmp .ne 44, 3) := by decide +kernel
theorem dL_setUp_261 : decode cL_setUp 261 = .ok (.aload_n 0, 1) := by decide +kernel
theorem dL_setUp_262 : decode cL_setUp 262 = .ok (.iconst 2, 1) := by decide +kernel
theorem dL_setUp_263 : decode cL_setUp 263 = .ok (.iconst 1, 1) := by decide +kernel
theorem dL_setUp_264 : decode cL_setUp 264 = .ok (.iload 4, 2) := by decide +kernel
theorem dL_setUp_266 : decode cL_setUp 266 = .ok (.bipush 13, 2) := by decide +kernel
theorem dL_setUp_268 : decode cL_setUp 268 = .ok (.ishr, 1) := by decide +kernel
theorem dL_setUp_269 : decode cL_setUp 269 = .ok (.iload 4, 2) := by decide +kernel
theorem dL_setUp_271 : decode cL_setUp 271 = .ok (.bipush 17, 2) := by decide +kernel
theorem dL_setUp_273 : decode cL_setUp 273 = .ok (.ishr, 1) := by decide +kernel
theorem dL_setUp_274 : decode cL_setUp 274 = .ok (.iconst 2, 1) := by decide +kernel
theorem dL_setUp_275 : decode cL_setUp 275 = .ok (.invokestatic 16, 3) := by decide +kernel
theorem dL_setUp_278 : decode cL_setUp 278 = .ok (.ifCond .ne 7, 3) := by decide +kernel
theorem dL_setUp_281 : decode cL_setUp 281 = .ok (.iconst 3, 1) := by decide +kernel
theorem dL_setUp_282 : decode cL_setUp 282 = .ok (.goto 5, 3) := by decide +kernel
theorem dL_setUp_285 : decode cL_setUp 285 = .ok (.bipush 9, 2) := by decide +kernel
theorem dL_setUp_287 : decode cL_setUp 287 = .ok (.invokestatic 16, 3) := by decide +kernel
theorem dL_setUp_290 : decode cL_setUp 290 = .ok (.iadd, 1) := by decide +kernel
theorem dL_setUp_291 : decode cL_setUp 291 = .ok (.invokevirtual 43, 3) := by decide +kernel
theorem dL_setUp_294 : decode cL_setUp 294 = .ok (.iconst 2, 1) := by decide +kernel
theorem dL_setUp_295 : decode cL_setUp 295 = .ok (.if_icmp .ne 7, 3) := by decide +kernel
theorem dL_setUp_298 : decode cL_setUp 298 = .ok (.iconst 1, 1) := by decide +kernel
theorem dL_setUp_299 : decode cL_setUp 299 = .ok (.goto 4, 3) := by decide +kernel
theorem dL_setUp_302 : decode cL_setUp 302 = .ok (.iconst 0, 1) := by decide +kernel
theorem dL_setUp_303 : decode cL_setUp 303 = .ok (.ireturn, 1) := by decide +kernel
set_option maxRecDepth 20000 in
theorem ggL_isRow_L_sum : GoodIn wsL_isRow wsL_sum := goodIn_r _ [4, 5, 6, 3, 7, 8, 9, 10, 11, 12, 13, 14, 15, 16] (by decide +kernel) (by decide +kernel)
set_option maxRecDepth 20000 in
theorem gL_isRow_L_sum : GoodIn wsL_isRow (va_wsS RL 30 yL_sum wsL_sum) := goodIn_app (goodIn_of _ (by decide +kernel)) ggL_isRow_L_sum
set_option maxRecDepth 20000 in
theorem ggL_isRow_L_tone : GoodIn wsL_isRow wsL_tone := goodIn_r _ [19, 1, 2, 3, 4, 5, 6, 7, 8, 9, 10, 11, 12, 13, 14, 15, 16] (by decide +kernel) (by decide +kernel)
set_option maxRecDepth 20000 in
theorem gL_isRow_L_tone : GoodIn wsL_isRow (va_wsS RL 46 yL_tone wsL_tone) := goodIn_app (goodIn_of _ (by decide +kernel)) ggL_isRow_L_tone
set_option maxRecDepth 20000 in
theorem ggL_isRow_X5_cell : GoodIn wsL_isRow wsX5_cell := goodIn_ca (goodIn_ca (goodIn_r _ [24, 25, 26, 27, 28, 23, 29, 30, 31, 32, 33, 34, 35, 36, 37, 38, 39, 40, 41, 42, 43, 44, 45, 46, 47, 48, 49, 50, 51, 52, 53, 54, 55, 56, 57, 58, 59, 60, 61, 62, 63, 64, 65, 66, 67, 68, 69, 70, 71, 72, 73, 74, 75, 76, 77, 78, 79, 80, 81, 82, 83, 84, 85, 86, 87, 88, 89, 90, 91, 92, 93, 94, 95, 96, 97, 98, 99, 100, 101, 102, 103, 104, 105, 106, 107, 108, 109, 110, 111, 112] (by decide +kernel) (by decide +kernel)) (goodIn_sub (fun _ h => List.mem_cons_of_mem _ (List.mem_append_left _ (List.mem_append_right _ h))) (by decide +kernel))) (goodIn_sub (fun _ h => List.mem_cons_of_mem _ (List.mem_append_right _ h)) (by decide +kernel))
set_option maxRecDepth 20000 in
theorem gL_isRow_X5_cell : GoodIn wsL_isRow (wsV RL 49 RX5 yX5_cell wsX5_cell) := goodIn_app (goodIn_of _ (by decide +kernel)) ggL_isRow_X5_cell
theorem dL_isRow_0 : decode cL_isRow 0 = .ok (.iconst 0, 1) := by decide +kernel
theorem dL_isRow_1 : decode cL_isRow 1 = .ok (.istore 5, 2) := by decide +kernel
theorem dL_isRow_3 : decode cL_isRow 3 = .ok (.iload 5, 2) := by decide +kernel
theorem dL_isRow_5 : decode cL_isRow 5 = .ok (.bipush 12, 2) := by decide +kernel
theorem dL_isRow_7 : decode cL_isRow 7 = .ok (.if_icmp .ge 116, 3) := by decide +kernel
theorem dL_isRow_10 : decode cL_isRow 10 = .ok (.aload_n 1, 1) := by decide +kernel
theorem dL_isRow_11 : decode cL_isRow 11 = .ok (.aload_n 2, 1) := by decide +kernel
theorem dL_isRow_12 : decode cL_isRow 12 = .ok (.iload_n 3, 1) := by decide +kernel
theorem dL_isRow_13 : decode cL_isRow 13 = .ok (.iload 4, 2) := by decide +kernel
theorem dL_isRow_15 : decode cL_isRow 15 = .ok (.iload 5, 2) := by decide +kernel
theorem dL_isRow_17 : decode cL_isRow 17 = .ok (.invokestatic 30, 3) := by decide +kernel
theorem dL_isRow_20 : decode cL_isRow 20 = .ok (.istore 6, 2) := by decide +kernel
theorem dL_isRow_22 : decode cL_isRow 22 = .ok (.aload_n 1, 1) := by decide +kernel
theorem dL_isRow_23 : decode cL_isRow 23 = .ok (.aload_n 2, 1) := by decide +kernel
theorem dL_isRow_24 : decode cL_isRow 24 = .ok (.iload_n 3, 1) := by decide +kernel
theorem dL_isRow_25 : decode cL_isRow 25 = .ok (.iload 4, 2) := by decide +kernel
theorem dL_isRow_27 : decode cL_isRow 27 = .ok (.iload 5, 2) := by decide +kernel
theorem dL_isRow_29 : decode cL_isRow 29 = .ok (.invokestatic 46, 3) := by decide +kernel
theorem dL_isRow_32 : decode cL_isRow 32 = .ok (.istore 7, 2) := by decide +kernel
theorem dL_isRow_34 : decode cL_isRow 34 = .ok (.aload_n 0, 1) := by decide +kernel
theorem dL_isRow_35 : decode cL_isRow 35 = .ok (.iconst 0, 1) := by decide +kernel
theorem dL_isRow_36 : decode cL_isRow 36 = .ok (.iload 4, 2) := by decide +kernel
theorem dL_isRow_38 : decode cL_isRow 38 = .ok (.iload 5, 2) := by decide +kernel
theorem dL_isRow_40 : decode cL_isRow 40 = .ok (.iconst 1, 1) := by decide +kernel
theorem dL_isRow_41 : decode cL_isRow 41 = .ok (.invokevirtual 49, 3) := by decide +kernel
theorem dL_isRow_44 : decode cL_isRow 44 = .ok (.istore 8, 2) := by decide +kernel
theorem dL_isRow_46 : decode cL_isRow 46 = .ok (.aload_n 0, 1) := by decide +kernel
theorem dL_isRow_47 : decode cL_isRow 47 = .ok (.iload_n 3, 1) := by decide +kernel
theorem dL_isRow_48 : decode cL_isRow 48 = .ok (.iload 4, 2) := by decide +kernel
theorem dL_isRow_50 : decode cL_isRow 50 = .ok (.iload 5, 2) := by decide +kernel
theorem dL_isRow_52 : decode cL_isRow 52 = .ok (.iconst 0, 1) := by decide +kernel
theorem dL_isRow_53 : decode cL_isRow 53 = .ok (.invokevirtual 49, 3) := by decide +kernel
theorem dL_isRow_56 : decode cL_isRow 56 = .ok (.iload 7, 2) := by decide +kernel
theorem dL_isRow_58 : decode cL_isRow 58 = .ok (.if_icmp .ne 57, 3) := by decide +kernel
theorem dL_isRow_61 : decode cL_isRow 61 = .ok (.aload_n 0, 1) := by decide +kernel
theorem dL_isRow_62 : decode cL_isRow 62 = .ok (.iload_n 3, 1) := by decide +kernel
theorem dL_isRow_63 : decode cL_isRow 63 = .ok (.iload 4, 2) := by decide +kernel
theorem dL_isRow_65 : decode cL_isRow 65 = .ok (.iload 5, 2) := by decide +kernel
theorem dL_isRow_67 : decode cL_isRow 67 = .ok (.iconst 1, 1) := by decide +kernel
theorem dL_isRow_68 : decode cL_isRow 68 = .ok (.invokevirtual 49, 3) := by decide +kernel
theorem dL_isRow_71 : decode cL_isRow 71 = .ok (.iload 8, 2) := by decide +kernel
theorem dL_isRow_73 : decode cL_isRow 73 = .ok (.if_icmp .ne 42, 3) := by decide +kernel
theorem dL_isRow_76 : decode cL_isRow 76 = .ok (.aload_n 0, 1) := by decide +kernel
theorem dL_isRow_77 : decode cL_isRow 77 = .ok (.iload_n 3, 1) := by decide +kernel
theorem dL_isRow_78 : decode cL_isRow 78 = .ok (.iload 4, 2) := by decide +kernel
theorem dL_isRow_80 : decode cL_isRow 80 = .ok (.iload 5, 2) := by decide +kernel
theorem dL_isRow_82 : decode cL_isRow 82 = .ok (.iconst 2, 1) := by decide +kernel
theorem dL_isRow_83 : decode cL_isRow 83 = .ok (.invokevirtual 49, 3) := by decide +kernel
theorem dL_isRow_86 : decode cL_isRow 86 = .ok (.iload 7, 2) := by decide +kernel
theorem dL_isRow_88 : decode cL_isRow 88 = .ok (.iload 8, 2) := by decide +kernel
theorem dL_isRow_90 : decode cL_isRow 90 = .ok (.isub, 1) := by decide +kernel
theorem dL_isRow_91 : decode cL_isRow 91 = .ok (.bipush 100, 2) := by decide +kernel
theorem dL_isRow_93 : decode cL_isRow 93 = .ok (.iadd, 1) := by decide +kernel
theorem dL_isRow_94 : decode cL_isRow 94 = .ok (.if_icmp .ne 21, 3) := by decide +kernel
theorem dL_isRow_97 : decode cL_isRow 97 = .ok (.aload_n 0, 1) := by decide +kernel
theorem dL_isRow_98 : decode cL_isRow 98 = .ok (.iload_n 3, 1) := by decide +kernel
theorem dL_isRow_99 : decode cL_isRow 99 = .ok (.iload 4, 2) := by decide +kernel
theorem dL_isRow_101 : decode cL_isRow 101 = .ok (.iload 5, 2) := by decide +kernel
theorem dL_isRow_103 : decode cL_isRow 103 = .ok (.iconst 3, 1) := by decide +kernel
theorem dL_isRow_104 : decode cL_isRow 104 = .ok (.invokevirtual 49, 3) := by decide +kernel
theorem dL_isRow_107 : decode cL_isRow 107 = .ok (.iload 6, 2) := by decide +kernel
theorem dL_isRow_109 : decode cL_isRow 109 = .ok (.bipush 100, 2) := by decide +kernel
theorem dL_isRow_111 : decode cL_isRow 111 = .ok (.iadd, 1) := by decide +kernel
theorem dL_isRow_112 : decode cL_isRow 112 = .ok (.if_icmp .eq 5, 3) := by decide +kernel
theorem dL_isRow_115 : decode cL_isRow 115 = .ok (.iconst 0, 1) := by decide +kernel
theorem dL_isRow_116 : decode cL_isRow 116 = .ok (.ireturn, 1) := by decide +kernel
theorem dL_isRow_117 : decode cL_isRow 117 = .ok (.iinc 5 1, 3) := by decide +kernel
theorem dL_isRow_120 : decode cL_isRow 120 = .ok (.goto (-117), 3) := by decide +kernel
theorem dL_isRow_123 : decode cL_isRow 123 = .ok (.iconst 1, 1) := by decide +kernel
theorem dL_isRow_124 : decode cL_isRow 124 = .ok (.ireturn, 1) := by decide +kernel
theorem dL_isIn_0 : decode cL_isIn 0 = .ok (.iload_n 1, 1) := by decide +kernel
theorem dL_isIn_1 : decode cL_isIn 1 = .ok (.aload_n 0, 1) := by decide +kernel
theorem dL_isIn_2 : decode cL_isIn 2 = .ok (.iconst 0, 1) := by decide +kernel
theorem dL_isIn_3 : decode cL_isIn 3 = .ok (.iaload, 1) := by decide +kernel
theorem dL_isIn_4 : decode cL_isIn 4 = .ok (.iload_n 3, 1) := by decide +kernel
theorem dL_isIn_5 : decode cL_isIn 5 = .ok (.isub, 1) := by decide +kernel
theorem dL_isIn_6 : decode cL_isIn 6 = .ok (.if_icmp .lt 42, 3) := by decide +kernel
theorem dL_isIn_9 : decode cL_isIn 9 = .ok (.iload_n 1, 1) := by decide +kernel
theorem dL_isIn_10 : decode cL_isIn 10 = .ok (.aload_n 0, 1) := by decide +kernel
theorem dL_isIn_11 : decode cL_isIn 11 = .ok (.iconst 0, 1) := by decide +kernel
theorem dL_isIn_12 : decode cL_isIn 12 = .ok (.iaload, 1) := by decide +kernel
theorem dL_isIn_13 : decode cL_isIn 13 = .ok (.aload_n 0, 1) := by decide +kernel
theorem dL_isIn_14 : decode cL_isIn 14 = .ok (.iconst 2, 1) := by decide +kernel
theorem dL_isIn_15 : decode cL_isIn 15 = .ok (.iaload, 1) := by decide +kernel
theorem dL_isIn_16 : decode cL_isIn 16 = .ok (.iadd, 1) := by decide +kernel
theorem dL_isIn_17 : decode cL_isIn 17 = .ok (.iload_n 3, 1) := by decide +kernel
theorem dL_isIn_18 : decode cL_isIn 18 = .ok (.iadd, 1) := by decide +kernel
theorem dL_isIn_19 : decode cL_isIn 19 = .ok (.if_icmp .ge 29, 3) := by decide +kernel
theorem dL_isIn_22 : decode cL_isIn 22 = .ok (.iload_n 2, 1) := by decide +kernel
theorem dL_isIn_23 : decode cL_isIn 23 = .ok (.aload_n 0, 1) := by decide +kernel
theorem dL_isIn_24 : decode cL_isIn 24 = .ok (.iconst 1, 1) := by decide +kernel
theorem dL_isIn_25 : decode cL_isIn 25 = .ok (.iaload, 1) := by decide +kernel
theorem dL_isIn_26 : decode cL_isIn 26 = .ok (.iload_n 3, 1) := by decide +kernel
theorem dL_isIn_27 : decode cL_isIn 27 = .ok (.isub, 1) := by decide +kernel
theorem dL_isIn_28 : decode cL_isIn 28 = .ok (.if_icmp .lt 20, 3) := by decide +kernel
theorem dL_isIn_31 : decode cL_isIn 31 = .ok (.iload_n 2, 1) := by decide +kernel
theorem dL_isIn_32 : decode cL_isIn 32 = .ok (.aload_n 0, 1) := by decide +kernel
theorem dL_isIn_33 : decode cL_isIn 33 = .ok (.iconst 1, 1) := by decide +kernel
theorem dL_isIn_34 : decode cL_isIn 34 = .ok (.iaload, 1) := by decide +kernel
theorem dL_isIn_35 : decode cL_isIn 35 = .ok (.aload_n 0, 1) := by decide +kernel
theorem dL_isIn_36 : decode cL_isIn 36 = .ok (.iconst 3, 1) := by decide +kernel
theorem dL_isIn_37 : decode cL_isIn 37 = .ok (.iaload, 1) := by decide +kernel
theorem dL_isIn_38 : decode cL_isIn 38 = .ok (.iadd, 1) := by decide +kernel
theorem dL_isIn_39 : decode cL_isIn 39 = .ok (.iload_n 3, 1) := by decide +kernel
theorem dL_isIn_40 : decode cL_isIn 40 = .ok (.iadd, 1) := by decide +kernel
theorem dL_isIn_41 : decode cL_isIn 41 = .ok (.if_icmp .ge 7, 3) := by decide +kernel
theorem dL_isIn_44 : decode cL_isIn 44 = .ok (.iconst 1, 1) := by decide +kernel
theorem dL_isIn_45 : decode cL_isIn 45 = .ok (.goto 4, 3) := by decide +kernel
theorem dL_isIn_48 : decode cL_isIn 48 = .ok (.iconst 0, 1) := by decide +kernel
theorem dL_isIn_49 : decode cL_isIn 49 = .ok (.ireturn, 1) := by decide +kernel
set_option maxRecDepth 20000 in
theorem ggL_frame_L_isIn : GoodIn wsL_frame wsL_isIn := goodIn_r _ [4] (by decide +kernel) (by decide +kernel)
set_option maxRecDepth 20000 in
theorem gL_frame_L_isIn : GoodIn wsL_frame (va_wsS RL 51 yL_isIn wsL_isIn) := goodIn_app (goodIn_of _ (by decide +kernel)) ggL_frame_L_isIn
theorem dL_frame_0 : decode cL_frame 0 = .ok (.iconst 0, 1) := by decide +kernel
theorem dL_frame_1 : decode cL_frame 1 = .ok (.istore_n 1, 1) := by decide +kernel
theorem dL_frame_2 : decode cL_frame 2 = .ok (.iconst 0, 1) := by decide +kernel
theorem dL_frame_3 : decode cL_frame 3 = .ok (.istore_n 2, 1) := by decide +kernel
theorem dL_frame_4 : decode cL_frame 4 = .ok (.iload_n 2, 1) := by decide +kernel
theorem dL_frame_5 : decode cL_frame 5 = .ok (.bipush 72, 2) := by decide +kernel
theorem dL_frame_7 : decode cL_frame 7 = .ok (.if_icmp .ge 49, 3) := by decide +kernel
theorem dL_frame_10 : decode cL_frame 10 = .ok (.iload_n 1, 1) := by decide +kernel
theorem dL_frame_11 : decode cL_frame 11 = .ok (.aload_n 0, 1) := by decide +kernel
theorem dL_frame_12 : decode cL_frame 12 = .ok (.iload_n 2, 1) := by decide +kernel
theorem dL_frame_13 : decode cL_frame 13 = .ok (.bipush 12, 2) := by decide +kernel
theorem dL_frame_15 : decode cL_frame 15 = .ok (.idiv, 1) := by decide +kernel
theorem dL_frame_16 : decode cL_frame 16 = .ok (.iload_n 2, 1) := by decide +kernel
theorem dL_frame_17 : decode cL_frame 17 = .ok (.bipush 12, 2) := by decide +kernel
theorem dL_frame_19 : decode cL_frame 19 = .ok (.irem, 1) := by decide +kernel
theorem dL_frame_20 : decode cL_frame 20 = .ok (.iconst 1, 1) := by decide +kernel
theorem dL_frame_21 : decode cL_frame 21 = .ok (.invokestatic 51, 3) := by decide +kernel
theorem dL_frame_24 : decode cL_frame 24 = .ok (.ifCond .eq 23, 3) := by decide +kernel
theorem dL_frame_27 : decode cL_frame 27 = .ok (.aload_n 0, 1) := by decide +kernel
theorem dL_frame_28 : decode cL_frame 28 = .ok (.iload_n 2, 1) := by decide +kernel
theorem dL_frame_29 : decode cL_frame 29 = .ok (.bipush 12, 2) := by decide +kernel
theorem dL_frame_31 : decode cL_frame 31 = .ok (.idiv, 1) := by decide +kernel
theorem dL_frame_32 : decode cL_frame 32 = .ok (.iload_n 2, 1) := by decide +kernel
theorem dL_frame_33 : decode cL_frame 33 = .ok (.bipush 12, 2) := by decide +kernel
theorem dL_frame_35 : decode cL_frame 35 = .ok (.irem, 1) := by decide +kernel
theorem dL_frame_36 : decode cL_frame 36 = .ok (.iconst 0, 1) := by decide +kernel
theorem dL_frame_37 : decode cL_frame 37 = .ok (.invokestatic 51, 3) := by decide +kernel
theorem dL_frame_40 : decode cL_frame 40 = .ok (.ifCond .ne 7, 3) := by decide +kernel
theorem dL_frame_43 : decode cL_frame 43 = .ok (.iconst 1, 1) := by decide +kernel
theorem dL_frame_44 : decode cL_frame 44 = .ok (.goto 4, 3) := by decide +kernel
theorem dL_frame_47 : decode cL_frame 47 = .ok (.iconst 0, 1) := by decide +kernel
theorem dL_frame_48 : decode cL_frame 48 = .ok (.iadd, 1) := by decide +kernel
theorem dL_frame_49 : decode cL_frame 49 = .ok (.istore_n 1, 1) := by decide +kernel
theorem dL_frame_50 : decode cL_frame 50 = .ok (.iinc 2 1, 3) := by decide +kernel
theorem dL_frame_53 : decode cL_frame 53 = .ok (.goto (-49), 3) := by decide +kernel
theorem dL_frame_56 : decode cL_frame 56 = .ok (.iload_n 1, 1) := by decide +kernel
theorem dL_frame_57 : decode cL_frame 57 = .ok (.ireturn, 1) := by decide +kernel
set_option maxRecDepth 20000 in
theorem ggL_contrast_L_frame : GoodIn wsL_contrast wsL_frame := goodIn_r _ [4, 5, 6, 3, 7] (by decide +kernel) (by decide +kernel)
set_option maxRecDepth 20000 in
theorem gL_contrast_L_frame : GoodIn wsL_contrast (va_wsS RL 55 yL_frame wsL_frame) := goodIn_app (goodIn_of _ (by decide +kernel)) ggL_contrast_L_frame
set_option maxRecDepth 20000 in
theorem ggL_contrast_L_isIn : GoodIn wsL_contrast wsL_isIn := goodIn_r _ [7] (by decide +kernel) (by decide +kernel)
set_option maxRecDepth 20000 in
theorem gL_contrast_L_isIn : GoodIn wsL_contrast (va_wsS RL 51 yL_isIn wsL_isIn) := goodIn_app (goodIn_of _ (by decide +kernel)) ggL_contrast_L_isIn
set_option maxRecDepth 20000 in
theorem ggL_contrast_L_tone : GoodIn wsL_contrast wsL_tone := goodIn_r _ [10, 11, 12, 3, 13, 14, 15, 16, 17, 18, 19, 20, 21, 22, 23, 24, 25] (by decide +kernel) (by decide +kernel)
set_option maxRecDepth 20000 in
theorem gL_contrast_L_tone : GoodIn wsL_contrast (va_wsS RL 46 yL_tone wsL_tone) := goodIn_app (goodIn_of _ (by decide +kernel)) ggL_contrast_L_tone
set_option maxRecDepth 20000 in
theorem ggL_contrast_X5_cell : GoodIn wsL_contrast wsX5_cell := goodIn_ca (goodIn_ca (goodIn_r _ [30, 31, 32, 33, 34, 29, 35, 36, 37, 38, 39, 40, 41, 42, 43, 44, 45, 46, 47, 48, 49, 50, 51, 52, 53, 54, 55, 56, 57, 58, 59, 60, 61, 62, 63, 64, 65, 66, 67, 68, 69, 70, 71, 72, 73, 74, 75, 76, 77, 78, 79, 80, 81, 82, 83, 84, 85, 86, 87, 88, 89, 90, 91, 92, 93, 94, 95, 96, 97, 98, 99, 100, 101, 102, 103, 104, 105, 106, 107, 108, 109, 110, 111, 112, 113, 114, 115, 116, 117, 118] (by decide +kernel) (by decide +kernel)) (goodIn_sub (fun _ h => List.mem_cons_of_mem _ (List.mem_append_left _ (List.mem_append_right _ h))) (by decide +kernel))) (goodIn_sub (fun _ h => List.mem_cons_of_mem _ (List.mem_append_right _ h)) (by decide +kernel))
set_option maxRecDepth 20000 in
theorem gL_contrast_X5_cell : GoodIn wsL_contrast (wsV RL 49 RX5 yX5_cell wsX5_cell) := goodIn_app (goodIn_of _ (by decide +kernel)) ggL_contrast_X5_cell
theorem dL_contrast_0 : decode cL_contrast 0 = .ok (.aload_n 3, 1) := by decide +kernel
theorem dL_contrast_1 : decode cL_contrast 1 = .ok (.iconst 2, 1) := by decide +kernel
theorem dL_contrast_2 : decode cL_contrast 2 = .ok (.iaload, 1) := by decide +kernel
theorem dL_contrast_3 : decode cL_contrast 3 = .ok (.aload_n 3, 1) := by decide +kernel
theorem dL_contrast_4 : decode cL_contrast 4 = .ok (.iconst 3, 1) := by decide +kernel
theorem dL_contrast_5 : decode cL_contrast 5 = .ok (.iaload, 1) := by decide +kernel
theorem dL_contrast_6 : decode cL_contrast 6 = .ok (.imul, 1) := by decide +kernel
theorem dL_contrast_7 : decode cL_contrast 7 = .ok (.istore 5, 2) := by decide +kernel
theorem dL_contrast_9 : decode cL_contrast 9 = .ok (.aload_n 3, 1) := by decide +kernel
theorem dL_contrast_10 : decode cL_contrast 10 = .ok (.invokestatic 55, 3) := by decide +kernel
theorem dL_contrast_13 : decode cL_contrast 13 = .ok (.istore 6, 2) := by decide +kernel
theorem dL_contrast_15 : decode cL_contrast 15 = .ok (.iconst 0, 1) := by decide +kernel
theorem dL_contrast_16 : decode cL_contrast 16 = .ok (.istore 7, 2) := by decide +kernel
theorem dL_contrast_18 : decode cL_contrast 18 = .ok (.iconst 0, 1) := by decide +kernel
theorem dL_contrast_19 : decode cL_contrast 19 = .ok (.istore 8, 2) := by decide +kernel
theorem dL_contrast_21 : decode cL_contrast 21 = .ok (.iconst 0, 1) := by decide +kernel
theorem dL_contrast_22 : decode cL_contrast 22 = .ok (.istore 9, 2) := by decide +kernel
theorem dL_contrast_24 : decode cL_contrast 24 = .ok (.iload 9, 2) := by decide +kernel
theorem dL_contrast_26 : decode cL_contrast 26 = .ok (.bipush 72, 2) := by decide +kernel
theorem dL_contrast_28 : decode cL_contrast 28 = .ok (.if_icmp .ge 105, 3) := by decide +kernel
theorem dL_contrast_31 : decode cL_contrast 31 = .ok (.iload 9, 2) := by decide +kernel
theorem dL_contrast_33 : decode cL_contrast 33 = .ok (.bipush 12, 2) := by decide +kernel
theorem dL_contrast_35 : decode cL_contrast 35 = .ok (.idiv, 1) := by decide +kernel
theorem dL_contrast_36 : decode cL_contrast 36 = .ok (.istore 10, 2) := by decide +kernel
theorem dL_contrast_38 : decode cL_contrast 38 = .ok (.iload 9, 2) := by decide +kernel
theorem dL_contrast_40 : decode cL_contrast 40 = .ok (.bipush 12, 2) := by decide +kernel
theorem dL_contrast_42 : decode cL_contrast 42 = .ok (.irem, 1) := by decide +kernel
theorem dL_contrast_43 : decode cL_contrast 43 = .ok (.istore 11, 2) := by decide +kernel
theorem dL_contrast_45 : decode cL_contrast 45 = .ok (.aload_n 3, 1) := by decide +kernel
theorem dL_contrast_46 : decode cL_contrast 46 = .ok (.iload 10, 2) := by decide +kernel
theorem dL_contrast_48 : decode cL_contrast 48 = .ok (.iload 11, 2) := by decide +kernel
theorem dL_contrast_50 : decode cL_contrast 50 = .ok (.iconst 1, 1) := by decide +kernel
theorem dL_contrast_51 : decode cL_contrast 51 = .ok (.invokestatic 51, 3) := by decide +kernel
theorem dL_contrast_54 : decode cL_contrast 54 = .ok (.ifCond .eq 73, 3) := by decide +kernel
theorem dL_contrast_57 : decode cL_contrast 57 = .ok (.aload_n 1, 1) := by decide +kernel
theorem dL_contrast_58 : decode cL_contrast 58 = .ok (.aload_n 2, 1) := by decide +kernel
theorem dL_contrast_59 : decode cL_contrast 59 = .ok (.iload 4, 2) := by decide +kernel
theorem dL_contrast_61 : decode cL_contrast 61 = .ok (.iload 10, 2) := by decide +kernel
theorem dL_contrast_63 : decode cL_contrast 63 = .ok (.iload 11, 2) := by decide +kernel
theorem dL_contrast_65 : decode cL_contrast 65 = .ok (.invokestatic 46, 3) := by decide +kernel
theorem dL_contrast_68 : decode cL_contrast 68 = .ok (.aload_n 0, 1) := by decide +kernel
theorem dL_contrast_69 : decode cL_contrast 69 = .ok (.iconst 0, 1) := by decide +kernel
theorem dL_contrast_70 : decode cL_contrast 70 = .ok (.iload 10, 2) := by decide +kernel
theorem dL_contrast_72 : decode cL_contrast 72 = .ok (.iload 11, 2) := by decide +kernel
theorem dL_contrast_74 : decode cL_contrast 74 = .ok (.iconst 1, 1) := by decide +kernel
theorem dL_contrast_75 : decode cL_contrast 75 = .ok (.invokevirtual 49, 3) := by decide +kernel
theorem dL_contrast_78 : decode cL_contrast 78 = .ok (.isub, 1) := by decide +kernel
theorem dL_contrast_79 : decode cL_contrast 79 = .ok (.istore 12, 2) := by decide +kernel
theorem dL_contrast_81 : decode cL_contrast 81 = .ok (.iload 7, 2) := by decide +kernel
theorem dL_contrast_83 : decode cL_contrast 83 = .ok (.aload_n 3, 1) := by decide +kernel
theorem dL_contrast_84 : decode cL_contrast 84 = .ok (.iload 10, 2) := by decide +kernel
theorem dL_contrast_86 : decode cL_contrast 86 = .ok (.iload 11, 2) := by decide +kernel
theorem dL_contrast_88 : decode cL_contrast 88 = .ok (.iconst 0, 1) := by decide +kernel
theorem dL_contrast_89 : decode cL_contrast 89 = .ok (.invokestatic 51, 3) := by decide +kernel
theorem dL_contrast_92 : decode cL_contrast 92 = .ok (.ifCond .eq 8, 3) := by decide +kernel
theorem dL_contrast_95 : decode cL_contrast 95 = .ok (.iload 12, 2) := by decide +kernel
theorem dL_contrast_97 : decode cL_contrast 97 = .ok (.goto 4, 3) := by decide +kernel
theorem dL_contrast_100 : decode cL_contrast 100 = .ok (.iconst 0, 1) := by decide +kernel
theorem dL_contrast_101 : decode cL_contrast 101 = .ok (.iadd, 1) := by decide +kernel
theorem dL_contrast_102 : decode cL_contrast 102 = .ok (.istore 7, 2) := by decide +kernel
theorem dL_contrast_104 : decode cL_contrast 104 = .ok (.iload 8, 2) := by decide +kernel
theorem dL_contrast_106 : decode cL_contrast 106 = .ok (.aload_n 3, 1) := by decide +kernel
theorem dL_contrast_107 : decode cL_contrast 107 = .ok (.iload 10, 2) := by decide +kernel
theorem dL_contrast_109 : decode cL_contrast 109 = .ok (.iload 11, 2) := by decide +kernel
theorem dL_contrast_111 : decode cL_contrast 111 = .ok (.iconst 0, 1) := by decide +kernel
theorem dL_contrast_112 : decode cL_contrast 112 = .ok (.invokestatic 51, 3) := by decide +kernel
theorem dL_contrast_115 : decode cL_contrast 115 = .ok (.ifCond .eq 7, 3) := by decide +kernel
theorem dL_contrast_118 : decode cL_contrast 118 = .ok (.iconst 0, 1) := by decide +kernel
theorem dL_contrast_119 : decode cL_contrast 119 = .ok (.goto 5, 3) := by decide +kernel
theorem dL_contrast_122 : decode cL_contrast 122 = .ok (.iload 12, 2) := by decide +kernel
theorem dL_contrast_124 : decode cL_contrast 124 = .ok (.iadd, 1) := by decide +kernel
theorem dL_contrast_125 : decode cL_contrast 125 = .ok (.istore 8, 2) := by decide +kernel
theorem dL_contrast_127 : decode cL_contrast 127 = .ok (.iinc 9 1, 3) := by decide +kernel
theorem dL_contrast_130 : decode cL_contrast 130 = .ok (.goto (-106), 3) := by decide +kernel
theorem dL_contrast_133 : decode cL_contrast 133 = .ok (.iload 6, 2) := by decide +kernel
theorem dL_contrast_135 : decode cL_contrast 135 = .ok (.ifCond .ne 5, 3) := by decide +kernel
theorem dL_contrast_138 : decode cL_contrast 138 = .ok (.iconst 0, 1) := by decide +kernel
theorem dL_contrast_139 : decode cL_contrast 139 = .ok (.ireturn, 1) := by decide +kernel
theorem dL_contrast_140 : decode cL_contrast 140 = .ok (.iload 7, 2) := by decide +kernel
theorem dL_contrast_142 : decode cL_contrast 142 = .ok (.iload 6, 2) := by decide +kernel
theorem dL_contrast_144 : decode cL_contrast 144 = .ok (.imul, 1) := by decide +kernel
theorem dL_contrast_145 : decode cL_contrast 145 = .ok (.iload 8, 2) := by decide +kernel
theorem dL_contrast_147 : decode cL_contrast 147 = .ok (.iload 5, 2) := by decide +kernel
theorem dL_contrast_149 : decode cL_contrast 149 = .ok (.imul, 1) := by decide +kernel
theorem dL_contrast_150 : decode cL_contrast 150 = .ok (.isub, 1) := by decide +kernel
theorem dL_contrast_151 : decode cL_contrast 151 = .ok (.istore 9, 2) := by decide +kernel
theorem dL_contrast_153 : decode cL_contrast 153 = .ok (.iload 6, 2) := by decide +kernel
theorem dL_contrast_155 : decode cL_contrast 155 = .ok (.iload 5, 2) := by decide +kernel
theorem dL_contrast_157 : decode cL_contrast 157 = .ok (.imul, 1) := by decide +kernel
theorem dL_contrast_158 : decode cL_contrast 158 = .ok (.istore 10, 2) := by decide +kernel
theorem dL_contrast_160 : decode cL_contrast 160 = .ok (.iconst 0, 1) := by decide +kernel
theorem dL_contrast_161 : decode cL_contrast 161 = .ok (.istore 11, 2) := by decide +kernel
theorem dL_contrast_163 : decode cL_contrast 163 = .ok (.iload 11, 2) := by decide +kernel
theorem dL_contrast_165 : decode cL_contrast 165 = .ok (.iload 10, 2) := by decide +kernel
theorem dL_contrast_167 : decode cL_contrast 167 = .ok (.imul, 1) := by decide +kernel
theorem dL_contrast_168 : decode cL_contrast 168 = .ok (.iload 9, 2) := by decide +kernel
theorem dL_contrast_170 : decode cL_contrast 170 = .ok (.if_icmp .le 9, 3) := by decide +kernel
theorem dL_contrast_173 : decode cL_contrast 173 = .ok (.iinc 11 (-1), 3) := by decide +kernel
theorem dL_contrast_176 : decode cL_contrast 176 = .ok (.goto (-13), 3) := by decide +kernel
theorem dL_contrast_179 : decode cL_contrast 179 = .ok (.iload 11, 2) := by decide +kernel
theorem dL_contrast_181 : decode cL_contrast 181 = .ok (.iconst 1, 1) := by decide +kernel
theorem dL_contrast_182 : decode cL_contrast 182 = .ok (.iadd, 1) := by decide +kernel
theorem dL_contrast_183 : decode cL_contrast 183 = .ok (.iload 10, 2) := by decide +kernel
theorem dL_contrast_185 : decode cL_contrast 185 = .ok (.imul, 1) := by decide +kernel
theorem dL_contrast_186 : decode cL_contrast 186 = .ok (.iload 9, 2) := by decide +kernel
theorem dL_contrast_188 : decode cL_contrast 188 = .ok (.if_icmp .gt 9, 3) := by decide +kernel
theorem dL_contrast_191 : decode cL_contrast 191 = .ok (.iinc 11 1, 3) := by decide +kernel
theorem dL_contrast_194 : decode cL_contrast 194 = .ok (.goto (-15), 3) := by decide +kernel
theorem dL_contrast_197 : decode cL_contrast 197 = .ok (.iload 11, 2) := by decide +kernel
theorem dL_contrast_199 : decode cL_contrast 199 = .ok (.ireturn, 1) := by decide +kernel
set_option maxRecDepth 20000 in
theorem ggL_isHidden_L_isIn : GoodIn wsL_isHidden wsL_isIn := goodIn_r _ [4] (by decide +kernel) (by decide +kernel)
set_option maxRecDepth 20000 in
theorem gL_isHidden_L_isIn : GoodIn wsL_isHidden (va_wsS RL 51 yL_isIn wsL_isIn) := goodIn_app (goodIn_of _ (by decide +kernel)) ggL_isHidden_L_isIn
set_option maxRecDepth 20000 in
theorem ggL_isHidden_X5_cell : GoodIn wsL_isHidden wsX5_cell := goodIn_ca (goodIn_ca (goodIn_r _ [9, 10, 11, 12, 13, 8, 14, 15, 16, 17, 18, 19, 20, 21, 22, 23, 24, 25, 26, 27, 28, 29, 30, 31, 32, 33, 34, 35, 36, 37, 38, 39, 40, 41, 42, 43, 44, 45, 46, 47, 48, 49, 50, 51, 52, 53, 54, 55, 56, 57, 58, 59, 60, 61, 62, 63, 64, 65, 66, 67, 68, 69, 70, 71, 72, 73, 74, 75, 76, 77, 78, 79, 80, 81, 82, 83, 84, 85, 86, 87, 88, 89, 90, 91, 92, 93, 94, 95, 96, 97] (by decide +kernel) (by decide +kernel)) (goodIn_sub (fun _ h => List.mem_cons_of_mem _ (List.mem_append_left _ (List.mem_append_right _ h))) (by decide +kernel))) (goodIn_sub (fun _ h => List.mem_cons_of_mem _ (List.mem_append_right _ h)) (by decide +kernel))
set_option maxRecDepth 20000 in
theorem gL_isHidden_X5_cell : GoodIn wsL_isHidden (wsV RL 49 RX5 yX5_cell wsX5_cell) := goodIn_app (goodIn_of _ (by decide +kernel)) ggL_isHidden_X5_cell
theorem dL_isHidden_0 : decode cL_isHidden 0 = .ok (.iconst 1, 1) := by decide +kernel
theorem dL_isHidden_1 : decode cL_isHidden 1 = .ok (.istore_n 2, 1) := by decide +kernel
theorem dL_isHidden_2 : decode cL_isHidden 2 = .ok (.iconst 0, 1) := by decide +kernel
theorem dL_isHidden_3 : decode cL_isHidden 3 = .ok (.istore_n 3, 1) := by decide +kernel
theorem dL_isHidden_4 : decode cL_isHidden 4 = .ok (.iload_n 3, 1) := by decide +kernel
theorem dL_isHidden_5 : decode cL_isHidden 5 = .ok (.bipush 72, 2) := by decide +kernel
theorem dL_isHidden_7 : decode cL_isHidden 7 = .ok (.if_icmp .ge 64, 3) := by decide +kernel
theorem dL_isHidden_10 : decode cL_isHidden 10 = .ok (.iload_n 2, 1) := by decide +kernel
theorem dL_isHidden_11 : decode cL_isHidden 11 = .ok (.ifCond .eq 52, 3) := by decide +kernel
theorem dL_isHidden_14 : decode cL_isHidden 14 = .ok (.aload_n 1, 1) := by decide +kernel
theorem dL_isHidden_15 : decode cL_isHidden 15 = .ok (.iload_n 3, 1) := by decide +kernel
theorem dL_isHidden_16 : decode cL_isHidden 16 = .ok (.bipush 12, 2) := by decide +kernel
theorem dL_isHidden_18 : decode cL_isHidden 18 = .ok (.idiv, 1) := by decide +kernel
theorem dL_isHidden_19 : decode cL_isHidden 19 = .ok (.iload_n 3, 1) := by decide +kernel
theorem dL_isHidden_20 : decode cL_isHidden 20 = .ok (.bipush 12, 2) := by decide +kernel
theorem dL_isHidden_22 : decode cL_isHidden 22 = .ok (.irem, 1) := by decide +kernel
theorem dL_isHidden_23 : decode cL_isHidden 23 = .ok (.iconst 1, 1) := by decide +kernel
theorem dL_isHidden_24 : decode cL_isHidden 24 = .ok (.invokestatic 51, 3) := by decide +kernel
theorem dL_isHidden_27 : decode cL_isHidden 27 = .ok (.ifCond .eq 32, 3) := by decide +kernel
theorem dL_isHidden_30 : decode cL_isHidden 30 = .ok (.aload_n 0, 1) := by decide +kernel
theorem dL_isHidden_31 : decode cL_isHidden 31 = .ok (.iconst 0, 1) := by decide +kernel
theorem dL_isHidden_32 : decode cL_isHidden 32 = .ok (.iload_n 3, 1) := by decide +kernel
theorem dL_isHidden_33 : decode cL_isHidden 33 = .ok (.bipush 12, 2) := by decide +kernel
theorem dL_isHidden_35 : decode cL_isHidden 35 = .ok (.idiv, 1) := by decide +kernel
theorem dL_isHidden_36 : decode cL_isHidden 36 = .ok (.iload_n 3, 1) := by decide +kernel
theorem dL_isHidden_37 : decode cL_isHidden 37 = .ok (.bipush 12, 2) := by decide +kernel
theorem dL_isHidden_39 : decode cL_isHidden 39 = .ok (.irem, 1) := by decide +kernel
theorem dL_isHidden_40 : decode cL_isHidden 40 = .ok (.iconst 1, 1) := by decide +kernel
theorem dL_isHidden_41 : decode cL_isHidden 41 = .ok (.invokevirtual 49, 3) := by decide +kernel
theorem dL_isHidden_44 : decode cL_isHidden 44 = .ok (.aload_n 0, 1) := by decide +kernel
theorem dL_isHidden_45 : decode cL_isHidden 45 = .ok (.iconst 0, 1) := by decide +kernel
theorem dL_isHidden_46 : decode cL_isHidden 46 = .ok (.aload_n 1, 1) := by decide +kernel
theorem dL_isHidden_47 : decode cL_isHidden 47 = .ok (.iconst 0, 1) := by decide +kernel
theorem dL_isHidden_48 : decode cL_isHidden 48 = .ok (.iaload, 1) := by decide +kernel
theorem dL_isHidden_49 : decode cL_isHidden 49 = .ok (.aload_n 1, 1) := by decide +kernel
theorem dL_isHidden_50 : decode cL_isHidden 50 = .ok (.iconst 1, 1) := by decide +kernel
theorem dL_isHidden_51 : decode cL_isHidden 51 = .ok (.iaload, 1) := by decide +kernel
theorem dL_isHidden_52 : decode cL_isHidden 52 = .ok (.iconst 1, 1) := by decide +kernel
theorem dL_isHidden_53 : decode cL_isHidden 53 = .ok (.invokevirtual 49, 3) := by decide +kernel
theorem dL_isHidden_56 : decode cL_isHidden 56 = .ok (.if_icmp .ne 7, 3) := by decide +kernel
theorem dL_isHidden_59 : decode cL_isHidden 59 = .ok (.iconst 1, 1) := by decide +kernel
theorem dL_isHidden_60 : decode cL_isHidden 60 = .ok (.goto 4, 3) := by decide +kernel
theorem dL_isHidden_63 : decode cL_isHidden 63 = .ok (.iconst 0, 1) := by decide +kernel
theorem dL_isHidden_64 : decode cL_isHidden 64 = .ok (.istore_n 2, 1) := by decide +kernel
theorem dL_isHidden_65 : decode cL_isHidden 65 = .ok (.iinc 3 1, 3) := by decide +kernel
theorem dL_isHidden_68 : decode cL_isHidden 68 = .ok (.goto (-64), 3) := by decide +kernel
theorem dL_isHidden_71 : decode cL_isHidden 71 = .ok (.iload_n 2, 1) := by decide +kernel
theorem dL_isHidden_72 : decode cL_isHidden 72 = .ok (.ireturn, 1) := by decide +kernel
set_option maxRecDepth 20000 in
theorem ggL_isFigure_L_isHidden : GoodIn wsL_isFigure wsL_isHidden := goodIn_ca (goodIn_ca (goodIn_r _ [4, 5, 6, 3, 7, 8, 9, 10, 11, 12, 13, 14, 15, 16, 17, 18, 19, 20, 21, 22, 23, 24, 25, 26, 27, 28, 29, 30, 31, 32, 33, 34, 35, 36, 37, 38, 39, 40, 41, 42, 43, 44, 45, 46, 47, 48, 49, 50, 51, 52, 53, 54, 55, 56, 57, 58, 59, 60, 61, 62, 63, 64, 65, 66, 67, 68, 69, 70, 71, 72, 73, 74, 75, 76, 77, 78, 79, 80, 81, 82, 83, 84, 85, 86, 87, 207, 208, 209, 210, 211, 212, 213, 214, 215, 216, 217, 218, 219] (by decide +kernel) (by decide +kernel)) (goodIn_sub (fun _ h => List.mem_cons_of_mem _ (List.mem_append_left _ (List.mem_append_right _ h))) (by decide +kernel))) (goodIn_sub (fun _ h => List.mem_cons_of_mem _ (List.mem_append_right _ h)) (by decide +kernel))
set_option maxRecDepth 20000 in
theorem gL_isFigure_L_isHidden : GoodIn wsL_isFigure (va_wsS RL 59 yL_isHidden wsL_isHidden) := goodIn_app (goodIn_of _ (by decide +kernel)) ggL_isFigure_L_isHidden
set_option maxRecDepth 20000 in
theorem ggL_isFigure_X5_figureOf : GoodIn wsL_isFigure wsX5_figureOf := goodIn_ca (goodIn_ca (goodIn_r _ [91, 92, 15, 16, 11, 17, 18, 19, 20, 21, 22, 23, 24, 25, 26, 27, 28, 29, 30, 93, 94, 95, 96, 97, 98, 99, 100, 101, 102, 103, 104, 49, 105, 106, 52, 53, 54, 55, 107, 108, 109, 110, 111, 112, 113, 114, 115, 116, 117, 118, 119, 120, 121, 122, 123, 124, 125, 126, 127, 128, 34, 129, 38, 39, 40, 41, 42, 43, 44, 130, 131, 132, 133, 134, 135, 136, 72, 73, 137, 138, 139, 140, 141, 142, 143, 144, 145, 146, 32, 33, 35, 36, 37, 45, 46, 47, 48, 50, 51, 56, 57, 58, 59, 60, 61, 62, 63, 64, 65, 66, 67, 68, 69, 70, 71, 147, 148, 149, 150, 151, 152, 153, 154, 155, 156, 157, 158, 159, 160, 161, 162, 163, 164, 165, 166, 167, 168, 169, 170, 171, 172, 207, 208, 209, 210, 211, 212, 220, 221, 217, 218, 219, 213, 214, 215, 216] (by decide +kernel) (by decide +kernel)) (goodIn_sub (fun _ h => List.mem_cons_of_mem _ (List.mem_append_left _ (List.mem_append_right _ h))) (by decide +kernel))) (goodIn_sub (fun _ h => List.mem_cons_of_mem _ (List.mem_append_right _ h)) (by decide +kernel))
set_option maxRecDepth 20000 in
theorem gL_isFigure_X5_figureOf : GoodIn wsL_isFigure (wsV RL 63 RX5 yX5_figureOf wsX5_figureOf) := goodIn_app (goodIn_of _ (by decide +kernel)) ggL_isFigure_X5_figureOf
set_option maxRecDepth 20000 in
theorem ggL_isFigure_L_frame : GoodIn wsL_isFigure wsL_frame := goodIn_r _ [175, 5, 6, 3, 7] (by decide +kernel) (by decide +kernel)
set_option maxRecDepth 20000 in
theorem gL_isFigure_L_frame : GoodIn wsL_isFigure (va_wsS RL 55 yL_frame wsL_frame) := goodIn_app (goodIn_of _ (by decide +kernel)) ggL_isFigure_L_frame
set_option maxRecDepth 20000 in
theorem ggL_isFigure_L_low : GoodIn wsL_isFigure wsL_low := goodIn_r _ [178, 179] (by decide +kernel) (by decide +kernel)
set_option maxRecDepth 20000 in
theorem gL_isFigure_L_low : GoodIn wsL_isFigure (va_wsS RL 16 yL_low wsL_low) := goodIn_app (goodIn_of _ (by decide +kernel)) ggL_isFigure_L_low
set_option maxRecDepth 20000 in
theorem ggL_isFigure_L_contrast : GoodIn wsL_isFigure wsL_contrast := goodIn_ca (goodIn_ca (goodIn_r _ [182, 173, 174, 3, 175, 5, 6, 7, 183, 184, 185, 186, 187, 188, 189, 190, 191, 192, 193, 194, 195, 196, 176, 177, 178, 179, 8, 9, 10, 11, 12, 13, 14, 15, 16, 17, 18, 19, 20, 21, 22, 23, 24, 25, 26, 27, 28, 29, 30, 31, 32, 33, 34, 35, 36, 37, 38, 39, 40, 41, 42, 43, 44, 45, 46, 47, 48, 49, 50, 51, 52, 53, 54, 55, 56, 57, 58, 59, 60, 61, 62, 63, 64, 65, 66, 67, 68, 69, 70, 71, 72, 73, 74, 75, 76, 77, 78, 79, 80, 81, 82, 83, 84, 85, 86, 87, 207, 208, 209, 210, 211, 212, 213, 214, 215, 216, 217, 218, 219] (by decide +kernel) (by decide +kernel)) (goodIn_sub (fun _ h => List.mem_cons_of_mem _ (List.mem_append_left _ (List.mem_append_right _ h))) (by decide +kernel))) (goodIn_sub (fun _ h => List.mem_cons_of_mem _ (List.mem_append_right _ h)) (by decide +kernel))
set_option maxRecDepth 20000 in
theorem gL_isFigure_L_contrast : GoodIn wsL_isFigure (va_wsS RL 66 yL_contrast wsL_contrast) := goodIn_app (goodIn_of _ (by decide +kernel)) ggL_isFigure_L_contrast
set_option maxRecDepth 20000 in
theorem ggL_isFigure_X5_setting : GoodIn wsL_isFigure wsX5_setting := goodIn_ca (goodIn_r _ [200, 14, 15, 16, 11, 17, 18, 19, 20, 21, 22, 201, 48, 49, 50, 79, 52, 53, 54, 55, 207, 208, 209, 210, 211, 212, 217, 218, 219] (by decide +kernel) (by decide +kernel)) (goodIn_sub (fun _ h => List.mem_cons_of_mem _ (List.mem_append_left _ (List.mem_append_right _ h))) (by decide +kernel))
set_option maxRecDepth 20000 in
theorem gL_isFigure_X5_setting : GoodIn wsL_isFigure (wsV RL 70 RX5 yX5_setting wsX5_setting) := goodIn_app (goodIn_of _ (by decide +kernel)) ggL_isFigure_X5_setting
set_option maxRecDepth 20000 in
theorem ggL_isFigure_X5_contrast : GoodIn wsL_isFigure wsX5_contrast := goodIn_ca (goodIn_r _ [205, 92, 15, 16, 11, 17, 18, 19, 20, 21, 22, 93, 94, 95, 96, 97, 98, 99, 100, 101, 102, 103, 104, 49, 105, 106, 52, 53, 54, 55, 206, 142, 143, 144, 145, 146, 32, 33, 34, 35, 36, 37, 38, 39, 40, 41, 42, 43, 44, 45, 46, 47, 48, 50, 51, 56, 57, 58, 59, 60, 61, 62, 63, 64, 65, 66, 67, 68, 69, 70, 71, 72, 73, 119, 120, 121, 122, 123, 124, 125, 126, 111, 112, 113, 114, 147, 148, 149, 150, 151, 128, 129, 152, 153, 154, 155, 156, 157, 158, 159, 207, 208, 209, 210, 211, 212, 220, 221, 217, 218, 219, 213, 214, 215, 216] (by decide +kernel) (by decide +kernel)) (goodIn_sub (fun _ h => List.mem_cons_of_mem _ (List.mem_append_left _ (List.mem_append_right _ h))) (by decide +kernel))
set_option maxRecDepth 20000 in
theorem gL_isFigure_X5_contrast : GoodIn wsL_isFigure (wsV RL 74 RX5 yX5_contrast wsX5_contrast) := goodIn_app (goodIn_of _ (by decide +kernel)) ggL_isFigure_X5_contrast
theorem dL_isFigure_0 : decode cL_isFigure 0 = .ok (.aload_n 0, 1) := by decide +kernel
theorem dL_isFigure_1 : decode cL_isFigure 1 = .ok (.aload 4, 2) := by decide +kernel
theorem dL_isFigure_3 : decode cL_isFigure 3 = .ok (.invokestatic 59, 3) := by decide +kernel
theorem dL_isFigure_6 : decode cL_isFigure 6 = .ok (.istore 6, 2) := by decide +kernel
theorem dL_isFigure_8 : decode cL_isFigure 8 = .ok (.aload_n 0, 1) := by decide +kernel
theorem dL_isFigure_9 : decode cL_isFigure 9 = .ok (.iload_n 3, 1) := by decide +kernel
theorem dL_isFigure_10 : decode cL_isFigure 10 = .ok (.iconst 3, 1) := by decide +kernel
theorem dL_isFigure_11 : decode cL_isFigure 11 = .ok (.invokevirtual 63, 3) := by decide +kernel
theorem dL_isFigure_14 : decode cL_isFigure 14 = .ok (.istore 7, 2) := by decide +kernel
theorem dL_isFigure_16 : decode cL_isFigure 16 = .ok (.aload_n 0, 1) := by decide +kernel
theorem dL_isFigure_17 : decode cL_isFigure 17 = .ok (.iload_n 3, 1) := by decide +kernel
theorem dL_isFigure_18 : decode cL_isFigure 18 = .ok (.iconst 4, 1) := by decide +kernel
theorem dL_isFigure_19 : decode cL_isFigure 19 = .ok (.invokevirtual 63, 3) := by decide +kernel
theorem dL_isFigure_22 : decode cL_isFigure 22 = .ok (.istore 8, 2) := by decide +kernel
theorem dL_isFigure_24 : decode cL_isFigure 24 = .ok (.aload_n 0, 1) := by decide +kernel
theorem dL_isFigure_25 : decode cL_isFigure 25 = .ok (.iload_n 3, 1) := by decide +kernel
theorem dL_isFigure_26 : decode cL_isFigure 26 = .ok (.iconst 0, 1) := by decide +kernel
theorem dL_isFigure_27 : decode cL_isFigure 27 = .ok (.invokevirtual 63, 3) := by decide +kernel
theorem dL_isFigure_30 : decode cL_isFigure 30 = .ok (.aload 4, 2) := by decide +kernel
theorem dL_isFigure_32 : decode cL_isFigure 32 = .ok (.iconst 2, 1) := by decide +kernel
theorem dL_isFigure_33 : decode cL_isFigure 33 = .ok (.iaload, 1) := by decide +kernel
theorem dL_isFigure_34 : decode cL_isFigure 34 = .ok (.aload 4, 2) := by decide +kernel
theorem dL_isFigure_36 : decode cL_isFigure 36 = .ok (.iconst 3, 1) := by decide +kernel
theorem dL_isFigure_37 : decode cL_isFigure 37 = .ok (.iaload, 1) := by decide +kernel
theorem dL_isFigure_38 : decode cL_isFigure 38 = .ok (.imul, 1) := by decide +kernel
theorem dL_isFigure_39 : decode cL_isFigure 39 = .ok (.if_icmp .ne 62, 3) := by decide +kernel
theorem dL_isFigure_42 : decode cL_isFigure 42 = .ok (.aload_n 0, 1) := by decide +kernel
theorem dL_isFigure_43 : decode cL_isFigure 43 = .ok (.iload_n 3, 1) := by decide +kernel
theorem dL_isFigure_44 : decode cL_isFigure 44 = .ok (.iconst 1, 1) := by decide +kernel
theorem dL_isFigure_45 : decode cL_isFigure 45 = .ok (.invokevirtual 63, 3) := by decide +kernel
theorem dL_isFigure_48 : decode cL_isFigure 48 = .ok (.aload 4, 2) := by decide +kernel
theorem dL_isFigure_50 : decode cL_isFigure 50 = .ok (.invokestatic 55, 3) := by decide +kernel
theorem dL_isFigure_53 : decode cL_isFigure 53 = .ok (.if_icmp .ne 48, 3) := by decide +kernel
theorem dL_isFigure_56 : decode cL_isFigure 56 = .ok (.aload_n 0, 1) := by decide +kernel
theorem dL_isFigure_57 : decode cL_isFigure 57 = .ok (.iload_n 3, 1) := by decide +kernel
theorem dL_isFigure_58 : decode cL_isFigure 58 = .ok (.iconst 2, 1) := by decide +kernel
theorem dL_isFigure_59 : decode cL_isFigure 59 = .ok (.invokevirtual 63, 3) := by decide +kernel
theorem dL_isFigure_62 : decode cL_isFigure 62 = .ok (.iload 6, 2) := by decide +kernel
theorem dL_isFigure_64 : decode cL_isFigure 64 = .ok (.ifCond .eq 7, 3) := by decide +kernel
theorem dL_isFigure_67 : decode cL_isFigure 67 = .ok (.iconst 1, 1) := by decide +kernel
theorem dL_isFigure_68 : decode cL_isFigure 68 = .ok (.goto 4, 3) := by decide +kernel
theorem dL_isFigure_71 : decode cL_isFigure 71 = .ok (.iconst 0, 1) := by decide +kernel
theorem dL_isFigure_72 : decode cL_isFigure 72 = .ok (.if_icmp .ne 29, 3) := by decide +kernel
theorem dL_isFigure_75 : decode cL_isFigure 75 = .ok (.iload 6, 2) := by decide +kernel
theorem dL_isFigure_77 : decode cL_isFigure 77 = .ok (.ifCond .ne 8, 3) := by decide +kernel
theorem dL_isFigure_80 : decode cL_isFigure 80 = .ok (.iload 8, 2) := by decide +kernel
theorem dL_isFigure_82 : decode cL_isFigure 82 = .ok (.ifCond .ne 19, 3) := by decide +kernel
theorem dL_isFigure_85 : decode cL_isFigure 85 = .ok (.iload 8, 2) := by decide +kernel
theorem dL_isFigure_87 : decode cL_isFigure 87 = .ok (.ifCond .lt 14, 3) := by decide +kernel
theorem dL_isFigure_90 : decode cL_isFigure 90 = .ok (.iload 8, 2) := by decide +kernel
theorem dL_isFigure_92 : decode cL_isFigure 92 = .ok (.bipush 100, 2) := by decide +kernel
theorem dL_isFigure_94 : decode cL_isFigure 94 = .ok (.if_icmp .gt 7, 3) := by decide +kernel
theorem dL_isFigure_97 : decode cL_isFigure 97 = .ok (.iconst 1, 1) := by decide +kernel
theorem dL_isFigure_98 : decode cL_isFigure 98 = .ok (.goto 4, 3) := by decide +kernel
theorem dL_isFigure_101 : decode cL_isFigure 101 = .ok (.iconst 0, 1) := by decide +kernel
theorem dL_isFigure_102 : decode cL_isFigure 102 = .ok (.istore 9, 2) := by decide +kernel
theorem dL_isFigure_104 : decode cL_isFigure 104 = .ok (.iconst 0, 1) := by decide +kernel
theorem dL_isFigure_105 : decode cL_isFigure 105 = .ok (.istore 10, 2) := by decide +kernel
theorem dL_isFigure_107 : decode cL_isFigure 107 = .ok (.iload 10, 2) := by decide +kernel
theorem dL_isFigure_109 : decode cL_isFigure 109 = .ok (.iconst 4, 1) := by decide +kernel
theorem dL_isFigure_110 : decode cL_isFigure 110 = .ok (.if_icmp .ge 151, 3) := by decide +kernel
theorem dL_isFigure_113 : decode cL_isFigure 113 = .ok (.iload 10, 2) := by decide +kernel
theorem dL_isFigure_115 : decode cL_isFigure 115 = .ok (.ifCond .ne 13, 3) := by decide +kernel
theorem dL_isFigure_118 : decode cL_isFigure 118 = .ok (.iload 7, 2) := by decide +kernel
theorem dL_isFigure_120 : decode cL_isFigure 120 = .ok (.ifCond .lt 8, 3) := by decide +kernel
theorem dL_isFigure_123 : decode cL_isFigure 123 = .ok (.iload 7, 2) := by decide +kernel
theorem dL_isFigure_125 : decode cL_isFigure 125 = .ok (.goto 16, 3) := by decide +kernel
theorem dL_isFigure_128 : decode cL_isFigure 128 = .ok (.iload 5, 2) := by decide +kernel
theorem dL_isFigure_130 : decode cL_isFigure 130 = .ok (.bipush 7, 2) := by decide +kernel
theorem dL_isFigure_132 : decode cL_isFigure 132 = .ok (.iload 10, 2) := by decide +kernel
theorem dL_isFigure_134 : decode cL_isFigure 134 = .ok (.imul, 1) := by decide +kernel
theorem dL_isFigure_135 : decode cL_isFigure 135 = .ok (.ishr, 1) := by decide +kernel
theorem dL_isFigure_136 : decode cL_isFigure 136 = .ok (.bipush 100, 2) := by decide +kernel
theorem dL_isFigure_138 : decode cL_isFigure 138 = .ok (.invokestatic 16, 3) := by decide +kernel
theorem dL_isFigure_141 : decode cL_isFigure 141 = .ok (.istore 11, 2) := by decide +kernel
theorem dL_isFigure_143 : decode cL_isFigure 143 = .ok (.aload_n 0, 1) := by decide +kernel
theorem dL_isFigure_144 : decode cL_isFigure 144 = .ok (.aload_n 1, 1) := by decide +kernel
theorem dL_isFigure_145 : decode cL_isFigure 145 = .ok (.aload_n 2, 1) := by decide +kernel
theorem dL_isFigure_146 : decode cL_isFigure 146 = .ok (.aload 4, 2) := by decide +kernel
theorem dL_isFigure_148 : decode cL_isFigure 148 = .ok (.iload 11, 2) := by decide +kernel
theorem dL_isFigure_150 : decode cL_isFigure 150 = .ok (.invokestatic 66, 3) := by decide +kernel
theorem dL_isFigure_153 : decode cL_isFigure 153 = .ok (.istore 12, 2) := by decide +kernel
theorem dL_isFigure_155 : decode cL_isFigure 155 = .ok (.iload 12, 2) := by decide +kernel
theorem dL_isFigure_157 : decode cL_isFigure 157 = .ok (.ifCond .ge 9, 3) := by decide +kernel
theorem dL_isFigure_160 : decode cL_isFigure 160 = .ok (.iload 12, 2) := by decide +kernel
theorem dL_isFigure_162 : decode cL_isFigure 162 = .ok (.ineg, 1) := by decide +kernel
theorem dL_isFigure_163 : decode cL_isFigure 163 = .ok (.goto 5, 3) := by decide +kernel
theorem dL_isFigure_166 : decode cL_isFigure 166 = .ok (.iload 12, 2) := by decide +kernel
theorem dL_isFigure_168 : decode cL_isFigure 168 = .ok (.aload_n 0, 1) := by decide +kernel
theorem dL_isFigure_169 : decode cL_isFigure 169 = .ok (.iconst 2, 1) := by decide +kernel
theorem dL_isFigure_170 : decode cL_isFigure 170 = .ok (.invokevirtual 70, 3) := by decide +kernel
theorem dL_isFigure_173 : decode cL_isFigure 173 = .ok (.if_icmp .lt 7, 3) := by decide +kernel
theorem dL_isFigure_176 : decode cL_isFigure 176 = .ok (.iconst 1, 1) := by decide +kernel
theorem dL_isFigure_177 : decode cL_isFigure 177 = .ok (.goto 4, 3) := by decide +kernel
theorem dL_isFigure_180 : decode cL_isFigure 180 = .ok (.iconst 0, 1) := by decide +kernel
theorem dL_isFigure_181 : decode cL_isFigure 181 = .ok (.istore 13, 2) := by decide +kernel
theorem dL_isFigure_183 : decode cL_isFigure 183 = .ok (.iload 9, 2) := by decide +kernel
theorem dL_isFigure_185 : decode cL_isFigure 185 = .ok (.ifCond .eq 67, 3) := by decide +kernel
theorem dL_isFigure_188 : decode cL_isFigure 188 = .ok (.aload_n 0, 1) := by decide +kernel
theorem dL_isFigure_189 : decode cL_isFigure 189 = .ok (.iload_n 3, 1) := by decide +kernel
theorem dL_isFigure_190 : decode cL_isFigure 190 = .ok (.iload 11, 2) := by decide +kernel
theorem dL_isFigure_192 : decode cL_isFigure 192 = .ok (.invokevirtual 74, 3) := by decide +kernel
theorem dL_isFigure_195 : decode cL_isFigure 195 = .ok (.iload 12, 2) := by decide +kernel
theorem dL_isFigure_197 : decode cL_isFigure 197 = .ok (.sipush 1000, 3) := by decide +kernel
theorem dL_isFigure_200 : decode cL_isFigure 200 = .ok (.iadd, 1) := by decide +kernel
theorem dL_isFigure_201 : decode cL_isFigure 201 = .ok (.if_icmp .ne 51, 3) := by decide +kernel
theorem dL_isFigure_204 : decode cL_isFigure 204 = .ok (.iload 13, 2) := by decide +kernel
theorem dL_isFigure_206 : decode cL_isFigure 206 = .ok (.ifCond .eq 15, 3) := by decide +kernel
theorem dL_isFigure_209 : decode cL_isFigure 209 = .ok (.iload 7, 2) := by decide +kernel
theorem dL_isFigure_211 : decode cL_isFigure 211 = .ok (.ifCond .lt 41, 3) := by decide +kernel
theorem dL_isFigure_214 : decode cL_isFigure 214 = .ok (.iload 7, 2) := by decide +kernel
theorem dL_isFigure_216 : decode cL_isFigure 216 = .ok (.iload 11, 2) := by decide +kernel
theorem dL_isFigure_218 : decode cL_isFigure 218 = .ok (.if_icmp .gt 34, 3) := by decide +kernel
theorem dL_isFigure_221 : decode cL_isFigure 221 = .ok (.iload 11, 2) := by decide +kernel
theorem dL_isFigure_223 : decode cL_isFigure 223 = .ok (.iload 7, 2) := by decide +kernel
theorem dL_isFigure_225 : decode cL_isFigure 225 = .ok (.if_icmp .ne 8, 3) := by decide +kernel
theorem dL_isFigure_228 : decode cL_isFigure 228 = .ok (.iload 13, 2) := by decide +kernel
theorem dL_isFigure_230 : decode cL_isFigure 230 = .ok (.ifCond .eq 22, 3) := by decide +kernel
theorem dL_isFigure_233 : decode cL_isFigure 233 = .ok (.iload 13, 2) := by decide +kernel
theorem dL_isFigure_235 : decode cL_isFigure 235 = .ok (.ifCond .eq 13, 3) := by decide +kernel
theorem dL_isFigure_238 : decode cL_isFigure 238 = .ok (.iload 6, 2) := by decide +kernel
theorem dL_isFigure_240 : decode cL_isFigure 240 = .ok (.ifCond .eq 8, 3) := by decide +kernel
theorem dL_isFigure_243 : decode cL_isFigure 243 = .ok (.iload 8, 2) := by decide +kernel
theorem dL_isFigure_245 : decode cL_isFigure 245 = .ok (.ifCond .le 7, 3) := by decide +kernel
theorem dL_isFigure_248 : decode cL_isFigure 248 = .ok (.iconst 1, 1) := by decide +kernel
theorem dL_isFigure_249 : decode cL_isFigure 249 = .ok (.goto 4, 3) := by decide +kernel
theorem dL_isFigure_252 : decode cL_isFigure 252 = .ok (.iconst 0, 1) := by decide +kernel
theorem dL_isFigure_253 : decode cL_isFigure 253 = .ok (.istore 9, 2) := by decide +kernel
theorem dL_isFigure_255 : decode cL_isFigure 255 = .ok (.iinc 10 1, 3) := by decide +kernel
theorem dL_isFigure_258 : decode cL_isFigure 258 = .ok (.goto (-151), 3) := by decide +kernel
theorem dL_isFigure_261 : decode cL_isFigure 261 = .ok (.iload 9, 2) := by decide +kernel
theorem dL_isFigure_263 : decode cL_isFigure 263 = .ok (.ireturn, 1) := by decide +kernel
set_option maxRecDepth 20000 in
theorem ggL_rounds_X5_roll : GoodIn wsL_rounds wsX5_roll := goodIn_ca (goodIn_ca (goodIn_r _ [5, 6, 7, 8, 9, 4, 10, 11, 12, 13, 14, 15, 16, 17, 18, 19, 20, 21, 22, 23, 24, 25, 26, 27, 28, 29, 30, 31, 32, 33, 34, 35, 36, 37, 38, 39, 40, 41, 42, 43, 44, 45, 46, 47, 48, 49, 50, 51, 52, 53, 54, 55, 56, 57, 58, 59, 60, 61, 62, 203, 204, 205, 206, 207, 208, 209, 210, 211, 212] (by decide +kernel) (by decide +kernel)) (goodIn_sub (fun _ h => List.mem_cons_of_mem _ (List.mem_append_left _ (List.mem_append_right _ h))) (by decide +kernel))) (goodIn_sub (fun _ h => List.mem_cons_of_mem _ (List.mem_append_right _ h)) (by decide +kernel))
set_option maxRecDepth 20000 in
theorem gL_rounds_X5_roll : GoodIn wsL_rounds (wsV RL 37 RX5 yX5_roll wsX5_roll) := goodIn_app (goodIn_of _ (by decide +kernel)) ggL_rounds_X5_roll
set_option maxRecDepth 20000 in
theorem ggL_rounds_X5_count : GoodIn wsL_rounds wsX5_count := goodIn_ca (goodIn_r _ [66, 67, 7, 6, 68, 16, 17, 4, 18, 19, 20, 21, 22, 23, 69, 70, 71, 72, 73, 74, 75, 76, 77, 78, 79, 80, 81, 82, 83, 84, 26, 85, 86, 29, 30, 31, 32, 87, 88, 89, 90, 91, 92, 93, 94, 95, 96, 97, 98, 99, 100, 101, 102, 103, 104, 105, 106, 107, 108, 109, 110, 111, 112, 113, 114, 115, 116, 117, 118, 119, 120, 121, 122, 123, 124, 125, 126, 127, 128, 129, 130, 131, 132, 133, 134, 135, 136, 137, 51, 52, 138, 139, 140, 141, 142, 143, 34, 35, 144, 25, 27, 61, 62, 145, 43, 44, 146, 147, 148, 149, 150, 151, 152, 153, 154, 155, 156, 157, 158, 159, 160, 161, 162, 163, 164, 165, 166, 167, 168, 169, 50, 28, 170, 171, 172, 39, 173, 174, 54, 55, 56, 41, 57, 45, 58, 59, 60, 175, 176, 177, 178, 179, 180, 181, 182, 183, 184, 185, 186, 187, 188, 189, 190, 191, 192, 193, 194, 195, 196, 197, 198, 199, 200, 201, 202, 203, 204, 205, 206, 207, 208, 213, 214, 209, 210, 211, 215, 216, 217, 218, 212] (by decide +kernel) (by decide +kernel)) (goodIn_sub (fun _ h => List.mem_cons_of_mem _ (List.mem_append_right _ h)) (by decide +kernel))
set_option maxRecDepth 20000 in
theorem gL_rounds_X5_count : GoodIn wsL_rounds (wsV RL 76 RX5 yX5_count wsX5_count) := goodIn_app (goodIn_of _ (by decide +kernel)) ggL_rounds_X5_count
theorem dL_rounds_0 : decode cL_rounds 0 = .ok (.iconst 0, 1) := by decide +kernel
theorem dL_rounds_1 : decode cL_rounds 1 = .ok (.istore_n 2, 1) := by decide +kernel
theorem dL_rounds_2 : decode cL_rounds 2 = .ok (.iconst 0, 1) := by decide +kernel
theorem dL_rounds_3 : decode cL_rounds 3 = .ok (.istore_n 3, 1) := by decide +kernel
theorem dL_rounds_4 : decode cL_rounds 4 = .ok (.iconst 1, 1) := by decide +kernel
theorem dL_rounds_5 : decode cL_rounds 5 = .ok (.istore 4, 2) := by decide +kernel
theorem dL_rounds_7 : decode cL_rounds 7 = .ok (.iload_n 2, 1) := by decide +kernel
theorem dL_rounds_8 : decode cL_rounds 8 = .ok (.iconst 3, 1) := by decide +kernel
theorem dL_rounds_9 : decode cL_rounds 9 = .ok (.if_icmp .ge 97, 3) := by decide +kernel
theorem dL_rounds_12 : decode cL_rounds 12 = .ok (.iload 4, 2) := by decide +kernel
theorem dL_rounds_14 : decode cL_rounds 14 = .ok (.sipush 20000, 3) := by decide +kernel
theorem dL_rounds_17 : decode cL_rounds 17 = .ok (.if_icmp .ge 89, 3) := by decide +kernel
theorem dL_rounds_20 : decode cL_rounds 20 = .ok (.iconst 0, 1) := by decide +kernel
theorem dL_rounds_21 : decode cL_rounds 21 = .ok (.istore_n 2, 1) := by decide +kernel
theorem dL_rounds_22 : decode cL_rounds 22 = .ok (.iload 4, 2) := by decide +kernel
theorem dL_rounds_24 : decode cL_rounds 24 = .ok (.istore_n 3, 1) := by decide +kernel
theorem dL_rounds_25 : decode cL_rounds 25 = .ok (.iconst 0, 1) := by decide +kernel
theorem dL_rounds_26 : decode cL_rounds 26 = .ok (.istore 5, 2) := by decide +kernel
theorem dL_rounds_28 : decode cL_rounds 28 = .ok (.iload 5, 2) := by decide +kernel
theorem dL_rounds_30 : decode cL_rounds 30 = .ok (.iconst 3, 1) := by decide +kernel
theorem dL_rounds_31 : decode cL_rounds 31 = .ok (.if_icmp .ge 69, 3) := by decide +kernel
theorem dL_rounds_34 : decode cL_rounds 34 = .ok (.iload 4, 2) := by decide +kernel
theorem dL_rounds_36 : decode cL_rounds 36 = .ok (.aload_n 1, 1) := by decide +kernel
theorem dL_rounds_37 : decode cL_rounds 37 = .ok (.bipush 7, 2) := by decide +kernel
theorem dL_rounds_39 : decode cL_rounds 39 = .ok (.iaload, 1) := by decide +kernel
theorem dL_rounds_40 : decode cL_rounds 40 = .ok (.imul, 1) := by decide +kernel
theorem dL_rounds_41 : decode cL_rounds 41 = .ok (.aload_n 1, 1) := by decide +kernel
theorem dL_rounds_42 : decode cL_rounds 42 = .ok (.iload 5, 2) := by decide +kernel
theorem dL_rounds_44 : decode cL_rounds 44 = .ok (.iaload, 1) := by decide +kernel
theorem dL_rounds_45 : decode cL_rounds 45 = .ok (.irem, 1) := by decide +kernel
theorem dL_rounds_46 : decode cL_rounds 46 = .ok (.ifCond .ne 7, 3) := by decide +kernel
theorem dL_rounds_49 : decode cL_rounds 49 = .ok (.iconst 1, 1) := by decide +kernel
theorem dL_rounds_50 : decode cL_rounds 50 = .ok (.goto 4, 3) := by decide +kernel
theorem dL_rounds_53 : decode cL_rounds 53 = .ok (.iconst 0, 1) := by decide +kernel
theorem dL_rounds_54 : decode cL_rounds 54 = .ok (.istore 6, 2) := by decide +kernel
theorem dL_rounds_56 : decode cL_rounds 56 = .ok (.iload_n 2, 1) := by decide +kernel
theorem dL_rounds_57 : decode cL_rounds 57 = .ok (.iload 6, 2) := by decide +kernel
theorem dL_rounds_59 : decode cL_rounds 59 = .ok (.ifCond .eq 7, 3) := by decide +kernel
theorem dL_rounds_62 : decode cL_rounds 62 = .ok (.iconst 1, 1) := by decide +kernel
theorem dL_rounds_63 : decode cL_rounds 63 = .ok (.goto 4, 3) := by decide +kernel
theorem dL_rounds_66 : decode cL_rounds 66 = .ok (.iconst 0, 1) := by decide +kernel
theorem dL_rounds_67 : decode cL_rounds 67 = .ok (.iadd, 1) := by decide +kernel
theorem dL_rounds_68 : decode cL_rounds 68 = .ok (.istore_n 2, 1) := by decide +kernel
theorem dL_rounds_69 : decode cL_rounds 69 = .ok (.iload 6, 2) := by decide +kernel
theorem dL_rounds_71 : decode cL_rounds 71 = .ok (.iload 4, 2) := by decide +kernel
theorem dL_rounds_73 : decode cL_rounds 73 = .ok (.aload_n 0, 1) := by decide +kernel
theorem dL_rounds_74 : decode cL_rounds 74 = .ok (.iload 5, 2) := by decide +kernel
theorem dL_rounds_76 : decode cL_rounds 76 = .ok (.iconst 4, 1) := by decide +kernel
theorem dL_rounds_77 : decode cL_rounds 77 = .ok (.invokevirtual 37, 3) := by decide +kernel
theorem dL_rounds_80 : decode cL_rounds 80 = .ok (.irem, 1) := by decide +kernel
theorem dL_rounds_81 : decode cL_rounds 81 = .ok (.ifCond .ne 7, 3) := by decide +kernel
theorem dL_rounds_84 : decode cL_rounds 84 = .ok (.iconst 1, 1) := by decide +kernel
theorem dL_rounds_85 : decode cL_rounds 85 = .ok (.goto 4, 3) := by decide +kernel
theorem dL_rounds_88 : decode cL_rounds 88 = .ok (.iconst 0, 1) := by decide +kernel
theorem dL_rounds_89 : decode cL_rounds 89 = .ok (.if_icmp .eq 5, 3) := by decide +kernel
theorem dL_rounds_92 : decode cL_rounds 92 = .ok (.iconst 0, 1) := by decide +kernel
theorem dL_rounds_93 : decode cL_rounds 93 = .ok (.ireturn, 1) := by decide +kernel
theorem dL_rounds_94 : decode cL_rounds 94 = .ok (.iinc 5 1, 3) := by decide +kernel
theorem dL_rounds_97 : decode cL_rounds 97 = .ok (.goto (-69), 3) := by decide +kernel
theorem dL_rounds_100 : decode cL_rounds 100 = .ok (.iinc 4 1, 3) := by decide +kernel
theorem dL_rounds_103 : decode cL_rounds 103 = .ok (.goto (-96), 3) := by decide +kernel
theorem dL_rounds_106 : decode cL_rounds 106 = .ok (.aload_n 0, 1) := by decide +kernel
theorem dL_rounds_107 : decode cL_rounds 107 = .ok (.iconst 3, 1) := by decide +kernel
theorem dL_rounds_108 : decode cL_rounds 108 = .ok (.invokevirtual 76, 3) := by decide +kernel
theorem dL_rounds_111 : decode cL_rounds 111 = .ok (.iload_n 3, 1) := by decide +kernel
theorem dL_rounds_112 : decode cL_rounds 112 = .ok (.if_icmp .ne 7, 3) := by decide +kernel
theorem dL_rounds_115 : decode cL_rounds 115 = .ok (.iconst 1, 1) := by decide +kernel
theorem dL_rounds_116 : decode cL_rounds 116 = .ok (.goto 4, 3) := by decide +kernel
theorem dL_rounds_119 : decode cL_rounds 119 = .ok (.iconst 0, 1) := by decide +kernel
theorem dL_rounds_120 : decode cL_rounds 120 = .ok (.ireturn, 1) := by decide +kernel
set_option maxRecDepth 20000 in
theorem ggL_tells_L_rounds : GoodIn wsL_tells wsL_rounds := goodIn_ca (goodIn_ca (goodIn_r _ [4, 5, 6, 7, 8, 9, 10, 11, 12, 13, 14, 15, 16, 17, 18, 19, 20, 21, 22, 23, 24, 25, 26, 27, 28, 29, 30, 31, 32, 33, 34, 35, 36, 37, 38, 39, 40, 41, 42, 43, 44, 45, 46, 47, 48, 49, 50, 51, 52, 53, 54, 55, 56, 57, 58, 59, 60, 61, 62, 63, 64, 65, 66, 67, 68, 69, 70, 71, 72, 73, 74, 75, 76, 77, 78, 79, 80, 81, 82, 83, 84, 85, 86, 87, 88, 89, 90, 91, 92, 93, 94, 95, 96, 97, 98, 99, 100, 101, 102, 103, 104, 105, 106, 107, 108, 109, 110, 111, 112, 113, 114, 115, 116, 117, 118, 119, 120, 121, 122, 123, 124, 125, 126, 127, 128, 129, 130, 131, 132, 133, 134, 135, 136, 137, 138, 139, 140, 141, 142, 143, 144, 145, 146, 147, 148, 149, 150, 151, 152, 153, 154, 155, 156, 157, 158, 159, 160, 161, 162, 163, 164, 165, 166, 167, 168, 169, 170, 171, 172, 173, 174, 175, 176, 177, 178, 179, 180, 181, 182, 183, 184, 185, 186, 187, 188, 189, 190, 191, 192, 193, 194, 195, 196, 197, 198, 199, 200, 201, 202, 203, 204, 205, 206, 248, 249, 250, 251, 252, 253, 254, 255, 256, 257, 258, 259, 260, 261, 262, 263] (by decide +kernel) (by decide +kernel)) (goodIn_sub (fun _ h => List.mem_cons_of_mem _ (List.mem_append_left _ (List.mem_append_right _ h))) (by decide +kernel))) (goodIn_sub (fun _ h => List.mem_cons_of_mem _ (List.mem_append_right _ h)) (by decide +kernel))
set_option maxRecDepth 20000 in
theorem gL_tells_L_rounds : GoodIn wsL_tells (va_wsS RL 79 yL_rounds wsL_rounds) := goodIn_app (goodIn_of _ (by decide +kernel)) ggL_tells_L_rounds
set_option maxRecDepth 20000 in
theorem ggL_tells_X5_setting : GoodIn wsL_tells wsX5_setting := goodIn_ca (goodIn_r _ [210, 10, 12, 13, 8, 14, 15, 16, 17, 18, 19, 54, 55, 30, 56, 32, 33, 34, 35, 36, 248, 249, 250, 251, 252, 253, 254, 255, 256] (by decide +kernel) (by decide +kernel)) (goodIn_sub (fun _ h => List.mem_cons_of_mem _ (List.mem_append_left _ (List.mem_append_right _ h))) (by decide +kernel))
set_option maxRecDepth 20000 in
theorem gL_tells_X5_setting : GoodIn wsL_tells (wsV RL 70 RX5 yX5_setting wsX5_setting) := goodIn_app (goodIn_of _ (by decide +kernel)) ggL_tells_X5_setting
set_option maxRecDepth 20000 in
theorem ggL_tells_L_low : GoodIn wsL_tells wsL_low := goodIn_r _ [213, 214] (by decide +kernel) (by decide +kernel)
set_option maxRecDepth 20000 in
theorem gL_tells_L_low : GoodIn wsL_tells (va_wsS RL 16 yL_low wsL_low) := goodIn_app (goodIn_of _ (by decide +kernel)) ggL_tells_L_low
set_option maxRecDepth 20000 in
theorem ggL_tells_L_isRow : GoodIn wsL_tells wsL_isRow := goodIn_ca (goodIn_ca (goodIn_r _ [217, 218, 219, 3, 220, 221, 222, 223, 224, 225, 226, 227, 228, 211, 212, 213, 214, 229, 230, 231, 232, 233, 234, 8, 235, 72, 10, 12, 13, 14, 15, 16, 17, 18, 19, 20, 21, 22, 23, 24, 25, 26, 27, 184, 131, 132, 133, 134, 135, 136, 137, 100, 101, 102, 138, 104, 105, 139, 140, 141, 55, 30, 56, 142, 33, 34, 35, 36, 143, 144, 145, 146, 147, 38, 39, 148, 29, 31, 65, 66, 149, 47, 48, 150, 115, 116, 236, 237, 238, 239, 193, 32, 240, 241, 242, 243, 244, 245, 246, 247, 248, 249, 250, 251, 252, 253, 260, 261, 262, 263, 254, 255, 256] (by decide +kernel) (by decide +kernel)) (goodIn_sub (fun _ h => List.mem_cons_of_mem _ (List.mem_append_left _ (List.mem_append_right _ h))) (by decide +kernel))) (goodIn_sub (fun _ h => List.mem_cons_of_mem _ (List.mem_append_right _ h)) (by decide +kernel))
set_option maxRecDepth 20000 in
theorem gL_tells_L_isRow : GoodIn wsL_tells (va_wsS RL 82 yL_isRow wsL_isRow) := goodIn_app (goodIn_of _ (by decide +kernel)) ggL_tells_L_isRow
set_option maxRecDepth 20000 in
theorem ggL_tells_L_tone : GoodIn wsL_tells wsL_tone := goodIn_r _ [231, 218, 219, 3, 220, 221, 222, 223, 224, 225, 226, 227, 228, 211, 212, 213, 214] (by decide +kernel) (by decide +kernel)
set_option maxRecDepth 20000 in
theorem gL_tells_L_tone : GoodIn wsL_tells (va_wsS RL 46 yL_tone wsL_tone) := goodIn_app (goodIn_of _ (by decide +kernel)) ggL_tells_L_tone
set_option maxRecDepth 20000 in
theorem ggL_tells_L_height : GoodIn wsL_tells wsL_height := goodIn_r _ [223, 224, 225, 3, 226, 227, 228, 211, 212, 213, 214] (by decide +kernel) (by decide +kernel)
set_option maxRecDepth 20000 in
theorem gL_tells_L_height : GoodIn wsL_tells (va_wsS RL 20 yL_height wsL_height) := goodIn_app (goodIn_of _ (by decide +kernel)) ggL_tells_L_height
set_option maxRecDepth 20000 in
theorem ggL_tells_X5_roll : GoodIn wsL_tells wsX5_roll := goodIn_ca (goodIn_ca (goodIn_r _ [9, 10, 11, 12, 13, 8, 14, 15, 16, 17, 18, 19, 20, 21, 22, 23, 24, 25, 26, 27, 28, 29, 30, 31, 32, 33, 34, 35, 36, 37, 38, 39, 40, 41, 42, 43, 44, 45, 46, 47, 48, 49, 50, 51, 52, 53, 54, 55, 56, 57, 58, 59, 60, 61, 62, 63, 64, 65, 66, 248, 249, 250, 251, 252, 253, 254, 255, 256, 257] (by decide +kernel) (by decide +kernel)) (goodIn_sub (fun _ h => List.mem_cons_of_mem _ (List.mem_append_left _ (List.mem_append_right _ h))) (by decide +kernel))) (goodIn_sub (fun _ h => List.mem_cons_of_mem _ (List.mem_append_right _ h)) (by decide +kernel))
set_option maxRecDepth 20000 in
theorem gL_tells_X5_roll : GoodIn wsL_tells (wsV RL 37 RX5 yX5_roll wsX5_roll) := goodIn_app (goodIn_of _ (by decide +kernel)) ggL_tells_X5_roll
set_option maxRecDepth 20000 in
theorem ggL_tells_X5_count : GoodIn wsL_tells wsX5_count := goodIn_ca (goodIn_r _ [70, 71, 11, 10, 72, 20, 21, 8, 22, 23, 24, 25, 26, 27, 73, 74, 75, 76, 77, 78, 79, 80, 81, 82, 83, 84, 85, 86, 87, 88, 30, 89, 90, 33, 34, 35, 36, 91, 92, 93, 94, 95, 96, 97, 98, 99, 100, 101, 102, 103, 104, 105, 106, 107, 108, 109, 110, 111, 112, 113, 114, 115, 116, 117, 118, 119, 120, 121, 122, 123, 124, 125, 126, 127, 128, 129, 130, 131, 132, 133, 134, 135, 136, 137, 138, 139, 140, 141, 55, 56, 142, 143, 144, 145, 146, 147, 38, 39, 148, 29, 31, 65, 66, 149, 47, 48, 150, 151, 152, 153, 154, 155, 156, 157, 158, 159, 160, 161, 162, 163, 164, 165, 166, 167, 168, 169, 170, 171, 172, 173, 54, 32, 174, 175, 176, 43, 177, 178, 58, 59, 60, 45, 61, 49, 62, 63, 64, 179, 180, 181, 182, 183, 184, 185, 186, 187, 188, 189, 190, 191, 192, 193, 194, 195, 196, 197, 198, 199, 200, 201, 202, 203, 204, 205, 206, 248, 249, 250, 251, 252, 253, 258, 259, 254, 255, 256, 260, 261, 262, 263, 257] (by decide +kernel) (by decide +kernel)) (goodIn_sub (fun _ h => List.mem_cons_of_mem _ (List.mem_append_right _ h)) (by decide +kernel))
set_option maxRecDepth 20000 in
theorem gL_tells_X5_count : GoodIn wsL_tells (wsV RL 76 RX5 yX5_count wsX5_count) := goodIn_app (goodIn_of _ (by decide +kernel)) ggL_tells_X5_count
theorem dL_tells_0 : decode cL_tells 0 = .ok (.aload_n 0, 1) := by decide +kernel
theorem dL_tells_1 : decode cL_tells 1 = .ok (.aload_n 2, 1) := by decide +kernel
theorem dL_tells_2 : decode cL_tells 2 = .ok (.invokestatic 79, 3) := by decide +kernel
theorem dL_tells_5 : decode cL_tells 5 = .ok (.ifCond .eq 31, 3) := by decide +kernel
theorem dL_tells_8 : decode cL_tells 8 = .ok (.aload_n 0, 1) := by decide +kernel
theorem dL_tells_9 : decode cL_tells 9 = .ok (.iconst 0, 1) := by decide +kernel
theorem dL_tells_10 : decode cL_tells 10 = .ok (.invokevirtual 70, 3) := by decide +kernel
theorem dL_tells_13 : decode cL_tells 13 = .ok (.aload_n 2, 1) := by decide +kernel
theorem dL_tells_14 : decode cL_tells 14 = .ok (.bipush 6, 2) := by decide +kernel
theorem dL_tells_16 : decode cL_tells 16 = .ok (.iaload, 1) := by decide +kernel
theorem dL_tells_17 : decode cL_tells 17 = .ok (.if_icmp .ne 19, 3) := by decide +kernel
theorem dL_tells_20 : decode cL_tells 20 = .ok (.aload_n 0, 1) := by decide +kernel
theorem dL_tells_21 : decode cL_tells 21 = .ok (.iconst 1, 1) := by decide +kernel
theorem dL_tells_22 : decode cL_tells 22 = .ok (.invokevirtual 70, 3) := by decide +kernel
theorem dL_tells_25 : decode cL_tells 25 = .ok (.aload_n 2, 1) := by decide +kernel
theorem dL_tells_26 : decode cL_tells 26 = .ok (.bipush 7, 2) := by decide +kernel
theorem dL_tells_28 : decode cL_tells 28 = .ok (.iaload, 1) := by decide +kernel
theorem dL_tells_29 : decode cL_tells 29 = .ok (.if_icmp .ne 7, 3) := by decide +kernel
theorem dL_tells_32 : decode cL_tells 32 = .ok (.iconst 1, 1) := by decide +kernel
theorem dL_tells_33 : decode cL_tells 33 = .ok (.goto 4, 3) := by decide +kernel
theorem dL_tells_36 : decode cL_tells 36 = .ok (.iconst 0, 1) := by decide +kernel
theorem dL_tells_37 : decode cL_tells 37 = .ok (.istore 4, 2) := by decide +kernel
theorem dL_tells_39 : decode cL_tells 39 = .ok (.iconst 0, 1) := by decide +kernel
theorem dL_tells_40 : decode cL_tells 40 = .ok (.istore 5, 2) := by decide +kernel
theorem dL_tells_42 : decode cL_tells 42 = .ok (.iload 5, 2) := by decide +kernel
theorem dL_tells_44 : decode cL_tells 44 = .ok (.iconst 4, 1) := by decide +kernel
theorem dL_tells_45 : decode cL_tells 45 = .ok (.if_icmp .ge 45, 3) := by decide +kernel
theorem dL_tells_48 : decode cL_tells 48 = .ok (.iload 4, 2) := by decide +kernel
theorem dL_tells_50 : decode cL_tells 50 = .ok (.ifCond .eq 40, 3) := by decide +kernel
theorem dL_tells_53 : decode cL_tells 53 = .ok (.aload_n 0, 1) := by decide +kernel
theorem dL_tells_54 : decode cL_tells 54 = .ok (.aload_n 1, 1) := by decide +kernel
theorem dL_tells_55 : decode cL_tells 55 = .ok (.aload_n 2, 1) := by decide +kernel
theorem dL_tells_56 : decode cL_tells 56 = .ok (.iload_n 3, 1) := by decide +kernel
theorem dL_tells_57 : decode cL_tells 57 = .ok (.iconst 5, 1) := by decide +kernel
theorem dL_tells_58 : decode cL_tells 58 = .ok (.iload 5, 2) := by decide +kernel
theorem dL_tells_60 : decode cL_tells 60 = .ok (.imul, 1) := by decide +kernel
theorem dL_tells_61 : decode cL_tells 61 = .ok (.ishr, 1) := by decide +kernel
theorem dL_tells_62 : decode cL_tells 62 = .ok (.sipush 1000, 3) := by decide +kernel
theorem dL_tells_65 : decode cL_tells 65 = .ok (.invokestatic 16, 3) := by decide +kernel
theorem dL_tells_68 : decode cL_tells 68 = .ok (.iload_n 3, 1) := by decide +kernel
theorem dL_tells_69 : decode cL_tells 69 = .ok (.iconst 3, 1) := by decide +kernel
theorem dL_tells_70 : decode cL_tells 70 = .ok (.iload 5, 2) := by decide +kernel
theorem dL_tells_72 : decode cL_tells 72 = .ok (.imul, 1) := by decide +kernel
theorem dL_tells_73 : decode cL_tells 73 = .ok (.ishr, 1) := by decide +kernel
theorem dL_tells_74 : decode cL_tells 74 = .ok (.bipush 6, 2) := by decide +kernel
theorem dL_tells_76 : decode cL_tells 76 = .ok (.invokestatic 16, 3) := by decide +kernel
theorem dL_tells_79 : decode cL_tells 79 = .ok (.invokestatic 82, 3) := by decide +kernel
theorem dL_tells_82 : decode cL_tells 82 = .ok (.istore 4, 2) := by decide +kernel
theorem dL_tells_84 : decode cL_tells 84 = .ok (.iinc 5 1, 3) := by decide +kernel
theorem dL_tells_87 : decode cL_tells 87 = .ok (.goto (-45), 3) := by decide +kernel
theorem dL_tells_90 : decode cL_tells 90 = .ok (.bipush 19, 2) := by decide +kernel
theorem dL_tells_92 : decode cL_tells 92 = .ok (.istore 5, 2) := by decide +kernel
theorem dL_tells_94 : decode cL_tells 94 = .ok (.iconst 0, 1) := by decide +kernel
theorem dL_tells_95 : decode cL_tells 95 = .ok (.istore 6, 2) := by decide +kernel
theorem dL_tells_97 : decode cL_tells 97 = .ok (.iconst 0, 1) := by decide +kernel
theorem dL_tells_98 : decode cL_tells 98 = .ok (.istore 7, 2) := by decide +kernel
theorem dL_tells_100 : decode cL_tells 100 = .ok (.iload 7, 2) := by decide +kernel
theorem dL_tells_102 : decode cL_tells 102 = .ok (.bipush 72, 2) := by decide +kernel
theorem dL_tells_104 : decode cL_tells 104 = .ok (.if_icmp .ge 59, 3) := by decide +kernel
theorem dL_tells_107 : decode cL_tells 107 = .ok (.aload_n 1, 1) := by decide +kernel
theorem dL_tells_108 : decode cL_tells 108 = .ok (.aload_n 2, 1) := by decide +kernel
theorem dL_tells_109 : decode cL_tells 109 = .ok (.iconst 0, 1) := by decide +kernel
theorem dL_tells_110 : decode cL_tells 110 = .ok (.iload 7, 2) := by decide +kernel
theorem dL_tells_112 : decode cL_tells 112 = .ok (.bipush 12, 2) := by decide +kernel
theorem dL_tells_114 : decode cL_tells 114 = .ok (.idiv, 1) := by decide +kernel
theorem dL_tells_115 : decode cL_tells 115 = .ok (.iload 7, 2) := by decide +kernel
theorem dL_tells_117 : decode cL_tells 117 = .ok (.bipush 12, 2) := by decide +kernel
theorem dL_tells_119 : decode cL_tells 119 = .ok (.irem, 1) := by decide +kernel
theorem dL_tells_120 : decode cL_tells 120 = .ok (.invokestatic 46, 3) := by decide +kernel
theorem dL_tells_123 : decode cL_tells 123 = .ok (.istore 8, 2) := by decide +kernel
theorem dL_tells_125 : decode cL_tells 125 = .ok (.iload 8, 2) := by decide +kernel
theorem dL_tells_127 : decode cL_tells 127 = .ok (.iload 5, 2) := by decide +kernel
theorem dL_tells_129 : decode cL_tells 129 = .ok (.if_icmp .ge 8, 3) := by decide +kernel
theorem dL_tells_132 : decode cL_tells 132 = .ok (.iload 8, 2) := by decide +kernel
theorem dL_tells_134 : decode cL_tells 134 = .ok (.goto 5, 3) := by decide +kernel
theorem dL_tells_137 : decode cL_tells 137 = .ok (.iload 5, 2) := by decide +kernel
theorem dL_tells_139 : decode cL_tells 139 = .ok (.istore 5, 2) := by decide +kernel
theorem dL_tells_141 : decode cL_tells 141 = .ok (.iload 8, 2) := by decide +kernel
theorem dL_tells_143 : decode cL_tells 143 = .ok (.iload 6, 2) := by decide +kernel
theorem dL_tells_145 : decode cL_tells 145 = .ok (.if_icmp .le 8, 3) := by decide +kernel
theorem dL_tells_148 : decode cL_tells 148 = .ok (.iload 8, 2) := by decide +kernel
theorem dL_tells_150 : decode cL_tells 150 = .ok (.goto 5, 3) := by decide +kernel
theorem dL_tells_153 : decode cL_tells 153 = .ok (.iload 6, 2) := by decide +kernel
theorem dL_tells_155 : decode cL_tells 155 = .ok (.istore 6, 2) := by decide +kernel
theorem dL_tells_157 : decode cL_tells 157 = .ok (.iinc 7 1, 3) := by decide +kernel
theorem dL_tells_160 : decode cL_tells 160 = .ok (.goto (-60), 3) := by decide +kernel
theorem dL_tells_163 : decode cL_tells 163 = .ok (.iconst 0, 1) := by decide +kernel
theorem dL_tells_164 : decode cL_tells 164 = .ok (.istore 7, 2) := by decide +kernel
theorem dL_tells_166 : decode cL_tells 166 = .ok (.iload 7, 2) := by decide +kernel
theorem dL_tells_168 : decode cL_tells 168 = .ok (.iconst 3, 1) := by decide +kernel
theorem dL_tells_169 : decode cL_tells 169 = .ok (.if_icmp .ge 120, 3) := by decide +kernel
theorem dL_tells_172 : decode cL_tells 172 = .ok (.iconst 0, 1) := by decide +kernel
theorem dL_tells_173 : decode cL_tells 173 = .ok (.istore 8, 2) := by decide +kernel
theorem dL_tells_175 : decode cL_tells 175 = .ok (.iconst 0, 1) := by decide +kernel
theorem dL_tells_176 : decode cL_tells 176 = .ok (.istore 9, 2) := by decide +kernel
theorem dL_tells_178 : decode cL_tells 178 = .ok (.iconst 0, 1) := by decide +kernel
theorem dL_tells_179 : decode cL_tells 179 = .ok (.istore 10, 2) := by decide +kernel
theorem dL_tells_181 : decode cL_tells 181 = .ok (.iload 10, 2) := by decide +kernel
theorem dL_tells_183 : decode cL_tells 183 = .ok (.bipush 6, 2) := by decide +kernel
theorem dL_tells_185 : decode cL_tells 185 = .ok (.aload_n 2, 1) := by decide +kernel
theorem dL_tells_186 : decode cL_tells 186 = .ok (.iload 7, 2) := by decide +kernel
theorem dL_tells_188 : decode cL_tells 188 = .ok (.iaload, 1) := by decide +kernel
theorem dL_tells_189 : decode cL_tells 189 = .ok (.imul, 1) := by decide +kernel
theorem dL_tells_190 : decode cL_tells 190 = .ok (.if_icmp .ge 53, 3) := by decide +kernel
theorem dL_tells_193 : decode cL_tells 193 = .ok (.aload_n 1, 1) := by decide +kernel
theorem dL_tells_194 : decode cL_tells 194 = .ok (.iload 7, 2) := by decide +kernel
theorem dL_tells_196 : decode cL_tells 196 = .ok (.iload 10, 2) := by decide +kernel
theorem dL_tells_198 : decode cL_tells 198 = .ok (.aload_n 2, 1) := by decide +kernel
theorem dL_tells_199 : decode cL_tells 199 = .ok (.iload 7, 2) := by decide +kernel
theorem dL_tells_201 : decode cL_tells 201 = .ok (.iaload, 1) := by decide +kernel
theorem dL_tells_202 : decode cL_tells 202 = .ok (.idiv, 1) := by decide +kernel
theorem dL_tells_203 : decode cL_tells 203 = .ok (.iload 10, 2) := by decide +kernel
theorem dL_tells_205 : decode cL_tells 205 = .ok (.aload_n 2, 1) := by decide +kernel
theorem dL_tells_206 : decode cL_tells 206 = .ok (.iload 7, 2) := by decide +kernel
theorem dL_tells_208 : decode cL_tells 208 = .ok (.iaload, 1) := by decide +kernel
theorem dL_tells_209 : decode cL_tells 209 = .ok (.irem, 1) := by decide +kernel
theorem dL_tells_210 : decode cL_tells 210 = .ok (.invokestatic 20, 3) := by decide +kernel
theorem dL_tells_213 : decode cL_tells 213 = .ok (.istore 11, 2) := by decide +kernel
theorem dL_tells_215 : decode cL_tells 215 = .ok (.iload 8, 2) := by decide +kernel
theorem dL_tells_217 : decode cL_tells 217 = .ok (.iload 11, 2) := by decide +kernel
theorem dL_tells_219 : decode cL_tells 219 = .ok (.ifCond .ne 7, 3) := by decide +kernel
theorem dL_tells_222 : decode cL_tells 222 = .ok (.iconst 0, 1) := by decide +kernel
theorem dL_tells_223 : decode cL_tells 223 = .ok (.goto 4, 3) := by decide +kernel
theorem dL_tells_226 : decode cL_tells 226 = .ok (.iconst 1, 1) := by decide +kernel
theorem dL_tells_227 : decode cL_tells 227 = .ok (.iadd, 1) := by decide +kernel
theorem dL_tells_228 : decode cL_tells 228 = .ok (.istore 8, 2) := by decide +kernel
theorem dL_tells_230 : decode cL_tells 230 = .ok (.iload 9, 2) := by decide +kernel
theorem dL_tells_232 : decode cL_tells 232 = .ok (.iload 11, 2) := by decide +kernel
theorem dL_tells_234 : decode cL_tells 234 = .ok (.iadd, 1) := by decide +kernel
theorem dL_tells_235 : decode cL_tells 235 = .ok (.istore 9, 2) := by decide +kernel
theorem dL_tells_237 : decode cL_tells 237 = .ok (.iinc 10 1, 3) := by decide +kernel
theorem dL_tells_240 : decode cL_tells 240 = .ok (.goto (-59), 3) := by decide +kernel
theorem dL_tells_243 : decode cL_tells 243 = .ok (.iload 4, 2) := by decide +kernel
theorem dL_tells_245 : decode cL_tells 245 = .ok (.ifCond .eq 35, 3) := by decide +kernel
theorem dL_tells_248 : decode cL_tells 248 = .ok (.aload_n 0, 1) := by decide +kernel
theorem dL_tells_249 : decode cL_tells 249 = .ok (.iload 7, 2) := by decide +kernel
theorem dL_tells_251 : decode cL_tells 251 = .ok (.iconst 2, 1) := by decide +kernel
theorem dL_tells_252 : decode cL_tells 252 = .ok (.invokevirtual 37, 3) := by decide +kernel
theorem dL_tells_255 : decode cL_tells 255 = .ok (.iload 8, 2) := by decide +kernel
theorem dL_tells_257 : decode cL_tells 257 = .ok (.if_icmp .ne 23, 3) := by decide +kernel
theorem dL_tells_260 : decode cL_tells 260 = .ok (.aload_n 0, 1) := by decide +kernel
theorem dL_tells_261 : decode cL_tells 261 = .ok (.iload 7, 2) := by decide +kernel
theorem dL_tells_263 : decode cL_tells 263 = .ok (.iconst 3, 1) := by decide +kernel
theorem dL_tells_264 : decode cL_tells 264 = .ok (.invokevirtual 37, 3) := by decide +kernel
theorem dL_tells_267 : decode cL_tells 267 = .ok (.iload 9, 2) := by decide +kernel
theorem dL_tells_269 : decode cL_tells 269 = .ok (.sipush 1000, 3) := by decide +kernel
theorem dL_tells_272 : decode cL_tells 272 = .ok (.iadd, 1) := by decide +kernel
theorem dL_tells_273 : decode cL_tells 273 = .ok (.if_icmp .ne 7, 3) := by decide +kernel
theorem dL_tells_276 : decode cL_tells 276 = .ok (.iconst 1, 1) := by decide +kernel
theorem dL_tells_277 : decode cL_tells 277 = .ok (.goto 4, 3) := by decide +kernel
theorem dL_tells_280 : decode cL_tells 280 = .ok (.iconst 0, 1) := by decide +kernel
theorem dL_tells_281 : decode cL_tells 281 = .ok (.istore 4, 2) := by decide +kernel
theorem dL_tells_283 : decode cL_tells 283 = .ok (.iinc 7 1, 3) := by decide +kernel
theorem dL_tells_286 : decode cL_tells 286 = .ok (.goto (-120), 3) := by decide +kernel
theorem dL_tells_289 : decode cL_tells 289 = .ok (.iload 4, 2) := by decide +kernel
theorem dL_tells_291 : decode cL_tells 291 = .ok (.ifCond .eq 29, 3) := by decide +kernel
theorem dL_tells_294 : decode cL_tells 294 = .ok (.aload_n 0, 1) := by decide +kernel
theorem dL_tells_295 : decode cL_tells 295 = .ok (.bipush 6, 2) := by decide +kernel
theorem dL_tells_297 : decode cL_tells 297 = .ok (.invokevirtual 76, 3) := by decide +kernel
theorem dL_tells_300 : decode cL_tells 300 = .ok (.iload 5, 2) := by decide +kernel
theorem dL_tells_302 : decode cL_tells 302 = .ok (.if_icmp .ne 18, 3) := by decide +kernel
theorem dL_tells_305 : decode cL_tells 305 = .ok (.aload_n 0, 1) := by decide +kernel
theorem dL_tells_306 : decode cL_tells 306 = .ok (.bipush 7, 2) := by decide +kernel
theorem dL_tells_308 : decode cL_tells 308 = .ok (.invokevirtual 76, 3) := by decide +kernel
theorem dL_tells_311 : decode cL_tells 311 = .ok (.iload 6, 2) := by decide +kernel
theorem dL_tells_313 : decode cL_tells 313 = .ok (.if_icmp .ne 7, 3) := by decide +kernel
theorem dL_tells_316 : decode cL_tells 316 = .ok (.iconst 1, 1) := by decide +kernel
theorem dL_tells_317 : decode cL_tells 317 = .ok (.goto 4, 3) := by decide +kernel
theorem dL_tells_320 : decode cL_tells 320 = .ok (.iconst 0, 1) := by decide +kernel
theorem dL_tells_321 : decode cL_tells 321 = .ok (.ireturn, 1) := by decide +kernel
