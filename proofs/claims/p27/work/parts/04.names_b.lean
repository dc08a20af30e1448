set_option maxRecDepth 20000 in
theorem ggX5_init_X3_init : GoodIn wsX5_init wsX3_init := goodIn_r _ [27, 28, 2, 3, 29, 30, 31, 32, 57, 58, 59] (by decide +kernel) (by decide +kernel)
set_option maxRecDepth 20000 in
theorem gX5_init_X3_init : GoodIn wsX5_init (wsX3_init) := ggX5_init_X3_init
set_option maxRecDepth 20000 in
theorem ggX5_init_X2_init : GoodIn wsX5_init wsX2_init := goodIn_r _ [35, 36, 2, 3, 37, 66] (by decide +kernel) (by decide +kernel)
set_option maxRecDepth 20000 in
theorem gX5_init_X2_init : GoodIn wsX5_init (wsX2_init) := ggX5_init_X2_init
set_option maxRecDepth 20000 in
theorem ggX5_init_X1_init : GoodIn wsX5_init wsX1_init := goodIn_r _ [40, 41, 2, 3, 29, 42, 43, 44, 45, 67, 68, 69, 70] (by decide +kernel) (by decide +kernel)
set_option maxRecDepth 20000 in
theorem gX5_init_X1_init : GoodIn wsX5_init (wsX1_init) := ggX5_init_X1_init
set_option maxRecDepth 20000 in
theorem ggX5_init_X0_init : GoodIn wsX5_init wsX0_init := goodIn_r _ [48, 49, 2, 3, 50, 51, 71, 72] (by decide +kernel) (by decide +kernel)
set_option maxRecDepth 20000 in
theorem gX5_init_X0_init : GoodIn wsX5_init (wsX0_init) := ggX5_init_X0_init
set_option maxRecDepth 20000 in
theorem ggX5_init_X4_init : GoodIn wsX5_init wsX4_init := goodIn_r _ [53, 54, 2, 3, 29, 55, 56, 73, 74] (by decide +kernel) (by decide +kernel)
set_option maxRecDepth 20000 in
theorem gX5_init_X4_init_n46 : GoodIn wsX5_init (wsX4_init) := ggX5_init_X4_init
theorem dX5_init_0 : decode cX5_init 0 = .ok (.aload_n 0, 1) := by decide +kernel
theorem dX5_init_1 : decode cX5_init 1 = .ok (.invokespecial 3, 3) := by decide +kernel
theorem dX5_init_4 : decode cX5_init 4 = .ok (.aload_n 0, 1) := by decide +kernel
theorem dX5_init_5 : decode cX5_init 5 = .ok (.new 9, 3) := by decide +kernel
theorem dX5_init_8 : decode cX5_init 8 = .ok (.dup, 1) := by decide +kernel
theorem dX5_init_9 : decode cX5_init 9 = .ok (.invokespecial 11, 3) := by decide +kernel
theorem dX5_init_12 : decode cX5_init 12 = .ok (.putfield 12, 3) := by decide +kernel
theorem dX5_init_15 : decode cX5_init 15 = .ok (.aload_n 0, 1) := by decide +kernel
theorem dX5_init_16 : decode cX5_init 16 = .ok (.new 16, 3) := by decide +kernel
theorem dX5_init_19 : decode cX5_init 19 = .ok (.dup, 1) := by decide +kernel
theorem dX5_init_20 : decode cX5_init 20 = .ok (.aload_n 0, 1) := by decide +kernel
theorem dX5_init_21 : decode cX5_init 21 = .ok (.getfield 12, 3) := by decide +kernel
theorem dX5_init_24 : decode cX5_init 24 = .ok (.invokespecial 18, 3) := by decide +kernel
theorem dX5_init_27 : decode cX5_init 27 = .ok (.putfield 21, 3) := by decide +kernel
theorem dX5_init_30 : decode cX5_init 30 = .ok (.aload_n 0, 1) := by decide +kernel
theorem dX5_init_31 : decode cX5_init 31 = .ok (.new 25, 3) := by decide +kernel
theorem dX5_init_34 : decode cX5_init 34 = .ok (.dup, 1) := by decide +kernel
theorem dX5_init_35 : decode cX5_init 35 = .ok (.aload_n 0, 1) := by decide +kernel
theorem dX5_init_36 : decode cX5_init 36 = .ok (.getfield 12, 3) := by decide +kernel
theorem dX5_init_39 : decode cX5_init 39 = .ok (.invokespecial 27, 3) := by decide +kernel
theorem dX5_init_42 : decode cX5_init 42 = .ok (.putfield 28, 3) := by decide +kernel
theorem dX5_init_45 : decode cX5_init 45 = .ok (.aload_n 0, 1) := by decide +kernel
theorem dX5_init_46 : decode cX5_init 46 = .ok (.new 25, 3) := by decide +kernel
theorem dX5_init_49 : decode cX5_init 49 = .ok (.dup, 1) := by decide +kernel
theorem dX5_init_50 : decode cX5_init 50 = .ok (.aload_n 0, 1) := by decide +kernel
theorem dX5_init_51 : decode cX5_init 51 = .ok (.getfield 12, 3) := by decide +kernel
theorem dX5_init_54 : decode cX5_init 54 = .ok (.invokespecial 27, 3) := by decide +kernel
theorem dX5_init_57 : decode cX5_init 57 = .ok (.putfield 32, 3) := by decide +kernel
theorem dX5_init_60 : decode cX5_init 60 = .ok (.aload_n 0, 1) := by decide +kernel
theorem dX5_init_61 : decode cX5_init 61 = .ok (.new 35, 3) := by decide +kernel
theorem dX5_init_64 : decode cX5_init 64 = .ok (.dup, 1) := by decide +kernel
theorem dX5_init_65 : decode cX5_init 65 = .ok (.aload_n 0, 1) := by decide +kernel
theorem dX5_init_66 : decode cX5_init 66 = .ok (.getfield 12, 3) := by decide +kernel
theorem dX5_init_69 : decode cX5_init 69 = .ok (.aload_n 0, 1) := by decide +kernel
theorem dX5_init_70 : decode cX5_init 70 = .ok (.getfield 28, 3) := by decide +kernel
theorem dX5_init_73 : decode cX5_init 73 = .ok (.invokespecial 37, 3) := by decide +kernel
theorem dX5_init_76 : decode cX5_init 76 = .ok (.putfield 40, 3) := by decide +kernel
theorem dX5_init_79 : decode cX5_init 79 = .ok (.aload_n 0, 1) := by decide +kernel
theorem dX5_init_80 : decode cX5_init 80 = .ok (.new 44, 3) := by decide +kernel
theorem dX5_init_83 : decode cX5_init 83 = .ok (.dup, 1) := by decide +kernel
theorem dX5_init_84 : decode cX5_init 84 = .ok (.invokespecial 46, 3) := by decide +kernel
theorem dX5_init_87 : decode cX5_init 87 = .ok (.putfield 47, 3) := by decide +kernel
theorem dX5_init_90 : decode cX5_init 90 = .ok (.return_, 1) := by decide +kernel
set_option maxRecDepth 20000 in
theorem ggX5_wire_X5_isIndex : GoodIn wsX5_wire wsX5_isIndex := goodIn_r _ [5] (by decide +kernel) (by decide +kernel)
set_option maxRecDepth 20000 in
theorem gX5_wire_X5_isIndex : GoodIn wsX5_wire (va_wsS RX5 51 yX5_isIndex wsX5_isIndex) := goodIn_app (goodIn_of _ (by decide +kernel)) ggX5_wire_X5_isIndex
set_option maxRecDepth 20000 in
theorem ggX5_wire_X5_needPlace : GoodIn wsX5_wire wsX5_needPlace := goodIn_ca (goodIn_r _ [8, 9, 10] (by decide +kernel) (by decide +kernel)) (goodIn_sub (fun _ h => List.mem_cons_of_mem _ (List.mem_append_left _ (List.mem_append_right _ h))) (by decide +kernel))
set_option maxRecDepth 20000 in
theorem gX5_wire_X5_needPlace : GoodIn wsX5_wire (va_wsS RX5 55 yX5_needPlace wsX5_needPlace) := goodIn_app (goodIn_of _ (by decide +kernel)) ggX5_wire_X5_needPlace
set_option maxRecDepth 20000 in
theorem ggX5_wire_X5_isBetween : GoodIn wsX5_wire wsX5_isBetween := goodIn_r _ [13] (by decide +kernel) (by decide +kernel)
set_option maxRecDepth 20000 in
theorem gX5_wire_X5_isBetween : GoodIn wsX5_wire (va_wsS RX5 59 yX5_isBetween wsX5_isBetween) := goodIn_app (goodIn_of _ (by decide +kernel)) ggX5_wire_X5_isBetween
set_option maxRecDepth 20000 in
theorem ggX5_wire_X5_needArgument : GoodIn wsX5_wire wsX5_needArgument := goodIn_ca (goodIn_r _ [16, 17, 18] (by decide +kernel) (by decide +kernel)) (goodIn_sub (fun _ h => List.mem_cons_of_mem _ (List.mem_append_right _ h)) (by decide +kernel))
set_option maxRecDepth 20000 in
theorem gX5_wire_X5_needArgument : GoodIn wsX5_wire (va_wsS RX5 63 yX5_needArgument wsX5_needArgument) := goodIn_app (goodIn_of _ (by decide +kernel)) ggX5_wire_X5_needArgument
set_option maxRecDepth 20000 in
theorem ggX5_wire_X3_save : GoodIn wsX5_wire wsX3_save := goodIn_r _ [23, 24, 25, 26, 27, 28, 29, 30, 31, 32, 33, 34, 52, 53, 54] (by decide +kernel) (by decide +kernel)
set_option maxRecDepth 20000 in
theorem gX5_wire_X3_save : GoodIn wsX5_wire (wsV RX5 66 RX3 yX3_save wsX3_save) := goodIn_app (goodIn_of _ (by decide +kernel)) ggX5_wire_X3_save
set_option maxRecDepth 20000 in
theorem ggX5_wire_X3_wirePlace : GoodIn wsX5_wire wsX3_wirePlace := goodIn_r _ [37] (by decide +kernel) (by decide +kernel)
set_option maxRecDepth 20000 in
theorem gX5_wire_X3_wirePlace : GoodIn wsX5_wire (va_wsS RX5 69 yX3_wirePlace wsX3_wirePlace) := goodIn_app (goodIn_of _ (by decide +kernel)) ggX5_wire_X3_wirePlace
set_option maxRecDepth 20000 in
theorem ggX5_wire_X3_at : GoodIn wsX5_wire wsX3_at := goodIn_r _ [41, 29, 52, 53, 54] (by decide +kernel) (by decide +kernel)
set_option maxRecDepth 20000 in
theorem gX5_wire_X3_at : GoodIn wsX5_wire (wsV RX5 73 RX3 yX3_at wsX3_at) := goodIn_app (goodIn_of _ (by decide +kernel)) ggX5_wire_X3_at
set_option maxRecDepth 20000 in
theorem ggX5_wire_X3_put : GoodIn wsX5_wire wsX3_put := goodIn_r _ [45, 29, 52, 53, 54] (by decide +kernel) (by decide +kernel)
set_option maxRecDepth 20000 in
theorem gX5_wire_X3_put : GoodIn wsX5_wire (wsV RX5 77 RX3 yX3_put wsX3_put) := goodIn_app (goodIn_of _ (by decide +kernel)) ggX5_wire_X3_put
theorem dX5_wire_0 : decode cX5_wire 0 = .ok (.iload_n 1, 1) := by decide +kernel
theorem dX5_wire_1 : decode cX5_wire 1 = .ok (.iconst 3, 1) := by decide +kernel
theorem dX5_wire_2 : decode cX5_wire 2 = .ok (.invokestatic 51, 3) := by decide +kernel
theorem dX5_wire_5 : decode cX5_wire 5 = .ok (.ifCond .eq 25, 3) := by decide +kernel
theorem dX5_wire_8 : decode cX5_wire 8 = .ok (.iload_n 2, 1) := by decide +kernel
theorem dX5_wire_9 : decode cX5_wire 9 = .ok (.bipush 6, 2) := by decide +kernel
theorem dX5_wire_11 : decode cX5_wire 11 = .ok (.invokestatic 51, 3) := by decide +kernel
theorem dX5_wire_14 : decode cX5_wire 14 = .ok (.ifCond .eq 16, 3) := by decide +kernel
theorem dX5_wire_17 : decode cX5_wire 17 = .ok (.iload_n 3, 1) := by decide +kernel
theorem dX5_wire_18 : decode cX5_wire 18 = .ok (.bipush 16, 2) := by decide +kernel
theorem dX5_wire_20 : decode cX5_wire 20 = .ok (.invokestatic 51, 3) := by decide +kernel
theorem dX5_wire_23 : decode cX5_wire 23 = .ok (.ifCond .eq 7, 3) := by decide +kernel
theorem dX5_wire_26 : decode cX5_wire 26 = .ok (.iconst 1, 1) := by decide +kernel
theorem dX5_wire_27 : decode cX5_wire 27 = .ok (.goto 4, 3) := by decide +kernel
theorem dX5_wire_30 : decode cX5_wire 30 = .ok (.iconst 0, 1) := by decide +kernel
theorem dX5_wire_31 : decode cX5_wire 31 = .ok (.invokestatic 55, 3) := by decide +kernel
theorem dX5_wire_34 : decode cX5_wire 34 = .ok (.iload 4, 2) := by decide +kernel
theorem dX5_wire_36 : decode cX5_wire 36 = .ok (.bipush (-3), 2) := by decide +kernel
theorem dX5_wire_38 : decode cX5_wire 38 = .ok (.iconst 3, 1) := by decide +kernel
theorem dX5_wire_39 : decode cX5_wire 39 = .ok (.invokestatic 59, 3) := by decide +kernel
theorem dX5_wire_42 : decode cX5_wire 42 = .ok (.invokestatic 63, 3) := by decide +kernel
theorem dX5_wire_45 : decode cX5_wire 45 = .ok (.aload_n 0, 1) := by decide +kernel
theorem dX5_wire_46 : decode cX5_wire 46 = .ok (.getfield 12, 3) := by decide +kernel
theorem dX5_wire_49 : decode cX5_wire 49 = .ok (.invokevirtual 66, 3) := by decide +kernel
theorem dX5_wire_52 : decode cX5_wire 52 = .ok (.aload_n 0, 1) := by decide +kernel
theorem dX5_wire_53 : decode cX5_wire 53 = .ok (.getfield 12, 3) := by decide +kernel
theorem dX5_wire_56 : decode cX5_wire 56 = .ok (.iload_n 1, 1) := by decide +kernel
theorem dX5_wire_57 : decode cX5_wire 57 = .ok (.iload_n 2, 1) := by decide +kernel
theorem dX5_wire_58 : decode cX5_wire 58 = .ok (.iload_n 3, 1) := by decide +kernel
theorem dX5_wire_59 : decode cX5_wire 59 = .ok (.invokestatic 69, 3) := by decide +kernel
theorem dX5_wire_62 : decode cX5_wire 62 = .ok (.invokevirtual 73, 3) := by decide +kernel
theorem dX5_wire_65 : decode cX5_wire 65 = .ok (.istore 5, 2) := by decide +kernel
theorem dX5_wire_67 : decode cX5_wire 67 = .ok (.aload_n 0, 1) := by decide +kernel
theorem dX5_wire_68 : decode cX5_wire 68 = .ok (.getfield 12, 3) := by decide +kernel
theorem dX5_wire_71 : decode cX5_wire 71 = .ok (.iload_n 1, 1) := by decide +kernel
theorem dX5_wire_72 : decode cX5_wire 72 = .ok (.iload_n 2, 1) := by decide +kernel
theorem dX5_wire_73 : decode cX5_wire 73 = .ok (.iload_n 3, 1) := by decide +kernel
theorem dX5_wire_74 : decode cX5_wire 74 = .ok (.invokestatic 69, 3) := by decide +kernel
theorem dX5_wire_77 : decode cX5_wire 77 = .ok (.iload 4, 2) := by decide +kernel
theorem dX5_wire_79 : decode cX5_wire 79 = .ok (.invokevirtual 77, 3) := by decide +kernel
theorem dX5_wire_82 : decode cX5_wire 82 = .ok (.iload 5, 2) := by decide +kernel
theorem dX5_wire_84 : decode cX5_wire 84 = .ok (.bipush 100, 2) := by decide +kernel
theorem dX5_wire_86 : decode cX5_wire 86 = .ok (.iadd, 1) := by decide +kernel
theorem dX5_wire_87 : decode cX5_wire 87 = .ok (.ireturn, 1) := by decide +kernel
set_option maxRecDepth 20000 in
theorem ggX5_size_X5_isIndex : GoodIn wsX5_size wsX5_isIndex := goodIn_r _ [6] (by decide +kernel) (by decide +kernel)
set_option maxRecDepth 20000 in
theorem gX5_size_X5_isIndex : GoodIn wsX5_size (va_wsS RX5 51 yX5_isIndex wsX5_isIndex) := goodIn_app (goodIn_of _ (by decide +kernel)) ggX5_size_X5_isIndex
set_option maxRecDepth 20000 in
theorem ggX5_size_X5_needPlace : GoodIn wsX5_size wsX5_needPlace := goodIn_ca (goodIn_r _ [9, 10, 11] (by decide +kernel) (by decide +kernel)) (goodIn_sub (fun _ h => List.mem_cons_of_mem _ (List.mem_append_left _ (List.mem_append_right _ h))) (by decide +kernel))
set_option maxRecDepth 20000 in
theorem gX5_size_X5_needPlace : GoodIn wsX5_size (va_wsS RX5 55 yX5_needPlace wsX5_needPlace) := goodIn_app (goodIn_of _ (by decide +kernel)) ggX5_size_X5_needPlace
set_option maxRecDepth 20000 in
theorem ggX5_size_X5_isBetween : GoodIn wsX5_size wsX5_isBetween := goodIn_r _ [14] (by decide +kernel) (by decide +kernel)
set_option maxRecDepth 20000 in
theorem gX5_size_X5_isBetween : GoodIn wsX5_size (va_wsS RX5 59 yX5_isBetween wsX5_isBetween) := goodIn_app (goodIn_of _ (by decide +kernel)) ggX5_size_X5_isBetween
set_option maxRecDepth 20000 in
theorem ggX5_size_X5_needArgument : GoodIn wsX5_size wsX5_needArgument := goodIn_ca (goodIn_r _ [17, 18, 19] (by decide +kernel) (by decide +kernel)) (goodIn_sub (fun _ h => List.mem_cons_of_mem _ (List.mem_append_right _ h)) (by decide +kernel))
set_option maxRecDepth 20000 in
theorem gX5_size_X5_needArgument : GoodIn wsX5_size (va_wsS RX5 63 yX5_needArgument wsX5_needArgument) := goodIn_app (goodIn_of _ (by decide +kernel)) ggX5_size_X5_needArgument
set_option maxRecDepth 20000 in
theorem ggX5_size_X3_save : GoodIn wsX5_size wsX3_save := goodIn_r _ [24, 25, 26, 27, 28, 29, 30, 31, 32, 33, 34, 35, 68, 69, 70] (by decide +kernel) (by decide +kernel)
set_option maxRecDepth 20000 in
theorem gX5_size_X3_save : GoodIn wsX5_size (wsV RX5 66 RX3 yX3_save wsX3_save) := goodIn_app (goodIn_of _ (by decide +kernel)) ggX5_size_X3_save
set_option maxRecDepth 20000 in
theorem ggX5_size_X3_circumferencePlace : GoodIn wsX5_size wsX3_circumferencePlace := goodIn_r _ [38] (by decide +kernel) (by decide +kernel)
set_option maxRecDepth 20000 in
theorem gX5_size_X3_circumferencePlace : GoodIn wsX5_size (va_wsS RX5 81 yX3_circumferencePlace wsX3_circumferencePlace) := goodIn_app (goodIn_of _ (by decide +kernel)) ggX5_size_X3_circumferencePlace
set_option maxRecDepth 20000 in
theorem ggX5_size_X3_at : GoodIn wsX5_size wsX3_at := goodIn_r _ [42, 30, 68, 69, 70] (by decide +kernel) (by decide +kernel)
set_option maxRecDepth 20000 in
theorem gX5_size_X3_at : GoodIn wsX5_size (wsV RX5 73 RX3 yX3_at wsX3_at) := goodIn_app (goodIn_of _ (by decide +kernel)) ggX5_size_X3_at
set_option maxRecDepth 20000 in
theorem ggX5_size_X3_put : GoodIn wsX5_size wsX3_put := goodIn_r _ [46, 30, 68, 69, 70] (by decide +kernel) (by decide +kernel)
set_option maxRecDepth 20000 in
theorem gX5_size_X3_put : GoodIn wsX5_size (wsV RX5 77 RX3 yX3_put wsX3_put) := goodIn_app (goodIn_of _ (by decide +kernel)) ggX5_size_X3_put
set_option maxRecDepth 20000 in
theorem ggX5_size_X3_phasePlace : GoodIn wsX5_size wsX3_phasePlace := goodIn_r _ [49] (by decide +kernel) (by decide +kernel)
set_option maxRecDepth 20000 in
theorem gX5_size_X3_phasePlace : GoodIn wsX5_size (va_wsS RX5 84 yX3_phasePlace wsX3_phasePlace) := goodIn_app (goodIn_of _ (by decide +kernel)) ggX5_size_X3_phasePlace
set_option maxRecDepth 20000 in
theorem ggX5_size_X2_turnTo : GoodIn wsX5_size wsX2_turnTo := goodIn_r _ [54, 55, 56, 37, 23, 38, 57, 40, 41, 42, 30, 58, 48, 49, 59, 5, 60, 61, 44, 45, 46, 71, 68, 69, 70] (by decide +kernel) (by decide +kernel)
set_option maxRecDepth 20000 in
theorem gX5_size_X2_turnTo : GoodIn wsX5_size (wsV RX5 87 RX2 yX2_turnTo wsX2_turnTo) := goodIn_app (goodIn_of _ (by decide +kernel)) ggX5_size_X2_turnTo
theorem dX5_size_0 : decode cX5_size 0 = .ok (.iload_n 1, 1) := by decide +kernel
theorem dX5_size_1 : decode cX5_size 1 = .ok (.iconst 3, 1) := by decide +kernel
theorem dX5_size_2 : decode cX5_size 2 = .ok (.invokestatic 51, 3) := by decide +kernel
theorem dX5_size_5 : decode cX5_size 5 = .ok (.invokestatic 55, 3) := by decide +kernel
theorem dX5_size_8 : decode cX5_size 8 = .ok (.iload_n 2, 1) := by decide +kernel
theorem dX5_size_9 : decode cX5_size 9 = .ok (.iconst 4, 1) := by decide +kernel
theorem dX5_size_10 : decode cX5_size 10 = .ok (.bipush 16, 2) := by decide +kernel
theorem dX5_size_12 : decode cX5_size 12 = .ok (.invokestatic 59, 3) := by decide +kernel
theorem dX5_size_15 : decode cX5_size 15 = .ok (.invokestatic 63, 3) := by decide +kernel
theorem dX5_size_18 : decode cX5_size 18 = .ok (.aload_n 0, 1) := by decide +kernel
theorem dX5_size_19 : decode cX5_size 19 = .ok (.getfield 12, 3) := by decide +kernel
theorem dX5_size_22 : decode cX5_size 22 = .ok (.invokevirtual 66, 3) := by decide +kernel
theorem dX5_size_25 : decode cX5_size 25 = .ok (.aload_n 0, 1) := by decide +kernel
theorem dX5_size_26 : decode cX5_size 26 = .ok (.getfield 12, 3) := by decide +kernel
theorem dX5_size_29 : decode cX5_size 29 = .ok (.iload_n 1, 1) := by decide +kernel
theorem dX5_size_30 : decode cX5_size 30 = .ok (.invokestatic 81, 3) := by decide +kernel
theorem dX5_size_33 : decode cX5_size 33 = .ok (.invokevirtual 73, 3) := by decide +kernel
theorem dX5_size_36 : decode cX5_size 36 = .ok (.istore_n 3, 1) := by decide +kernel
theorem dX5_size_37 : decode cX5_size 37 = .ok (.aload_n 0, 1) := by decide +kernel
theorem dX5_size_38 : decode cX5_size 38 = .ok (.getfield 12, 3) := by decide +kernel
theorem dX5_size_41 : decode cX5_size 41 = .ok (.iload_n 1, 1) := by decide +kernel
theorem dX5_size_42 : decode cX5_size 42 = .ok (.invokestatic 81, 3) := by decide +kernel
theorem dX5_size_45 : decode cX5_size 45 = .ok (.iload_n 2, 1) := by decide +kernel
theorem dX5_size_46 : decode cX5_size 46 = .ok (.invokevirtual 77, 3) := by decide +kernel
theorem dX5_size_49 : decode cX5_size 49 = .ok (.aload_n 0, 1) := by decide +kernel
theorem dX5_size_50 : decode cX5_size 50 = .ok (.getfield 21, 3) := by decide +kernel
theorem dX5_size_53 : decode cX5_size 53 = .ok (.iload_n 1, 1) := by decide +kernel
theorem dX5_size_54 : decode cX5_size 54 = .ok (.aload_n 0, 1) := by decide +kernel
theorem dX5_size_55 : decode cX5_size 55 = .ok (.getfield 12, 3) := by decide +kernel
theorem dX5_size_58 : decode cX5_size 58 = .ok (.iload_n 1, 1) := by decide +kernel
theorem dX5_size_59 : decode cX5_size 59 = .ok (.invokestatic 84, 3) := by decide +kernel
theorem dX5_size_62 : decode cX5_size 62 = .ok (.invokevirtual 73, 3) := by decide +kernel
theorem dX5_size_65 : decode cX5_size 65 = .ok (.invokevirtual 87, 3) := by decide +kernel
theorem dX5_size_68 : decode cX5_size 68 = .ok (.iload_n 3, 1) := by decide +kernel
theorem dX5_size_69 : decode cX5_size 69 = .ok (.ireturn, 1) := by decide +kernel
set_option maxRecDepth 20000 in
theorem ggX5_turn_X5_isIndex : GoodIn wsX5_turn wsX5_isIndex := goodIn_r _ [6] (by decide +kernel) (by decide +kernel)
set_option maxRecDepth 20000 in
theorem gX5_turn_X5_isIndex : GoodIn wsX5_turn (va_wsS RX5 51 yX5_isIndex wsX5_isIndex) := goodIn_app (goodIn_of _ (by decide +kernel)) ggX5_turn_X5_isIndex
set_option maxRecDepth 20000 in
theorem ggX5_turn_X5_needPlace : GoodIn wsX5_turn wsX5_needPlace := goodIn_ca (goodIn_r _ [9, 10, 11] (by decide +kernel) (by decide +kernel)) (goodIn_sub (fun _ h => List.mem_cons_of_mem _ (List.mem_append_left _ (List.mem_append_right _ h))) (by decide +kernel))
set_option maxRecDepth 20000 in
theorem gX5_turn_X5_needPlace : GoodIn wsX5_turn (va_wsS RX5 55 yX5_needPlace wsX5_needPlace) := goodIn_app (goodIn_of _ (by decide +kernel)) ggX5_turn_X5_needPlace
set_option maxRecDepth 20000 in
theorem ggX5_turn_X5_isBetween : GoodIn wsX5_turn wsX5_isBetween := goodIn_r _ [14] (by decide +kernel) (by decide +kernel)
set_option maxRecDepth 20000 in
theorem gX5_turn_X5_isBetween : GoodIn wsX5_turn (va_wsS RX5 59 yX5_isBetween wsX5_isBetween) := goodIn_app (goodIn_of _ (by decide +kernel)) ggX5_turn_X5_isBetween
set_option maxRecDepth 20000 in
theorem ggX5_turn_X5_needArgument : GoodIn wsX5_turn wsX5_needArgument := goodIn_ca (goodIn_r _ [17, 18, 19] (by decide +kernel) (by decide +kernel)) (goodIn_sub (fun _ h => List.mem_cons_of_mem _ (List.mem_append_right _ h)) (by decide +kernel))
set_option maxRecDepth 20000 in
theorem gX5_turn_X5_needArgument : GoodIn wsX5_turn (va_wsS RX5 63 yX5_needArgument wsX5_needArgument) := goodIn_app (goodIn_of _ (by decide +kernel)) ggX5_turn_X5_needArgument
set_option maxRecDepth 20000 in
theorem ggX5_turn_X3_save : GoodIn wsX5_turn wsX3_save := goodIn_r _ [24, 25, 26, 27, 28, 29, 30, 31, 32, 33, 34, 35, 66, 67, 68] (by decide +kernel) (by decide +kernel)
set_option maxRecDepth 20000 in
theorem gX5_turn_X3_save : GoodIn wsX5_turn (wsV RX5 66 RX3 yX3_save wsX3_save) := goodIn_app (goodIn_of _ (by decide +kernel)) ggX5_turn_X3_save
set_option maxRecDepth 20000 in
theorem ggX5_turn_X3_phasePlace : GoodIn wsX5_turn wsX3_phasePlace := goodIn_r _ [38] (by decide +kernel) (by decide +kernel)
set_option maxRecDepth 20000 in
theorem gX5_turn_X3_phasePlace : GoodIn wsX5_turn (va_wsS RX5 84 yX3_phasePlace wsX3_phasePlace) := goodIn_app (goodIn_of _ (by decide +kernel)) ggX5_turn_X3_phasePlace
set_option maxRecDepth 20000 in
theorem ggX5_turn_X3_at : GoodIn wsX5_turn wsX3_at := goodIn_r _ [42, 30, 66, 67, 68] (by decide +kernel) (by decide +kernel)
set_option maxRecDepth 20000 in
theorem gX5_turn_X3_at : GoodIn wsX5_turn (wsV RX5 73 RX3 yX3_at wsX3_at) := goodIn_app (goodIn_of _ (by decide +kernel)) ggX5_turn_X3_at
set_option maxRecDepth 20000 in
theorem ggX5_turn_X2_turnTo : GoodIn wsX5_turn wsX2_turnTo := goodIn_r _ [47, 48, 49, 50, 23, 51, 52, 40, 41, 42, 30, 53, 37, 38, 54, 5, 55, 56, 57, 58, 59, 69, 66, 67, 68] (by decide +kernel) (by decide +kernel)
set_option maxRecDepth 20000 in
theorem gX5_turn_X2_turnTo : GoodIn wsX5_turn (wsV RX5 87 RX2 yX2_turnTo wsX2_turnTo) := goodIn_app (goodIn_of _ (by decide +kernel)) ggX5_turn_X2_turnTo
theorem dX5_turn_0 : decode cX5_turn 0 = .ok (.iload_n 1, 1) := by decide +kernel
theorem dX5_turn_1 : decode cX5_turn 1 = .ok (.iconst 3, 1) := by decide +kernel
theorem dX5_turn_2 : decode cX5_turn 2 = .ok (.invokestatic 51, 3) := by decide +kernel
theorem dX5_turn_5 : decode cX5_turn 5 = .ok (.invokestatic 55, 3) := by decide +kernel
theorem dX5_turn_8 : decode cX5_turn 8 = .ok (.iload_n 2, 1) := by decide +kernel
theorem dX5_turn_9 : decode cX5_turn 9 = .ok (.bipush (-99), 2) := by decide +kernel
theorem dX5_turn_11 : decode cX5_turn 11 = .ok (.bipush 99, 2) := by decide +kernel
theorem dX5_turn_13 : decode cX5_turn 13 = .ok (.invokestatic 59, 3) := by decide +kernel
theorem dX5_turn_16 : decode cX5_turn 16 = .ok (.invokestatic 63, 3) := by decide +kernel
theorem dX5_turn_19 : decode cX5_turn 19 = .ok (.aload_n 0, 1) := by decide +kernel
theorem dX5_turn_20 : decode cX5_turn 20 = .ok (.getfield 12, 3) := by decide +kernel
theorem dX5_turn_23 : decode cX5_turn 23 = .ok (.invokevirtual 66, 3) := by decide +kernel
theorem dX5_turn_26 : decode cX5_turn 26 = .ok (.aload_n 0, 1) := by decide +kernel
theorem dX5_turn_27 : decode cX5_turn 27 = .ok (.getfield 21, 3) := by decide +kernel
theorem dX5_turn_30 : decode cX5_turn 30 = .ok (.iload_n 1, 1) := by decide +kernel
theorem dX5_turn_31 : decode cX5_turn 31 = .ok (.aload_n 0, 1) := by decide +kernel
theorem dX5_turn_32 : decode cX5_turn 32 = .ok (.getfield 12, 3) := by decide +kernel
theorem dX5_turn_35 : decode cX5_turn 35 = .ok (.iload_n 1, 1) := by decide +kernel
theorem dX5_turn_36 : decode cX5_turn 36 = .ok (.invokestatic 84, 3) := by decide +kernel
theorem dX5_turn_39 : decode cX5_turn 39 = .ok (.invokevirtual 73, 3) := by decide +kernel
theorem dX5_turn_42 : decode cX5_turn 42 = .ok (.iload_n 2, 1) := by decide +kernel
theorem dX5_turn_43 : decode cX5_turn 43 = .ok (.iadd, 1) := by decide +kernel
theorem dX5_turn_44 : decode cX5_turn 44 = .ok (.invokevirtual 87, 3) := by decide +kernel
theorem dX5_turn_47 : decode cX5_turn 47 = .ok (.aload_n 0, 1) := by decide +kernel
theorem dX5_turn_48 : decode cX5_turn 48 = .ok (.getfield 12, 3) := by decide +kernel
theorem dX5_turn_51 : decode cX5_turn 51 = .ok (.iload_n 1, 1) := by decide +kernel
theorem dX5_turn_52 : decode cX5_turn 52 = .ok (.invokestatic 84, 3) := by decide +kernel
theorem dX5_turn_55 : decode cX5_turn 55 = .ok (.invokevirtual 73, 3) := by decide +kernel
theorem dX5_turn_58 : decode cX5_turn 58 = .ok (.ireturn, 1) := by decide +kernel
set_option maxRecDepth 20000 in
theorem ggX5_ink_X5_isIndex : GoodIn wsX5_ink wsX5_isIndex := goodIn_r _ [5] (by decide +kernel) (by decide +kernel)
set_option maxRecDepth 20000 in
theorem gX5_ink_X5_isIndex : GoodIn wsX5_ink (va_wsS RX5 51 yX5_isIndex wsX5_isIndex) := goodIn_app (goodIn_of _ (by decide +kernel)) ggX5_ink_X5_isIndex
set_option maxRecDepth 20000 in
theorem ggX5_ink_X5_needPlace : GoodIn wsX5_ink wsX5_needPlace := goodIn_ca (goodIn_r _ [8, 9, 10] (by decide +kernel) (by decide +kernel)) (goodIn_sub (fun _ h => List.mem_cons_of_mem _ (List.mem_append_left _ (List.mem_append_right _ h))) (by decide +kernel))
set_option maxRecDepth 20000 in
theorem gX5_ink_X5_needPlace : GoodIn wsX5_ink (va_wsS RX5 55 yX5_needPlace wsX5_needPlace) := goodIn_app (goodIn_of _ (by decide +kernel)) ggX5_ink_X5_needPlace
set_option maxRecDepth 20000 in
theorem ggX5_ink_X5_isBetween : GoodIn wsX5_ink wsX5_isBetween := goodIn_r _ [13] (by decide +kernel) (by decide +kernel)
set_option maxRecDepth 20000 in
theorem gX5_ink_X5_isBetween : GoodIn wsX5_ink (va_wsS RX5 59 yX5_isBetween wsX5_isBetween) := goodIn_app (goodIn_of _ (by decide +kernel)) ggX5_ink_X5_isBetween
set_option maxRecDepth 20000 in
theorem ggX5_ink_X5_needArgument : GoodIn wsX5_ink wsX5_needArgument := goodIn_ca (goodIn_r _ [16, 17, 18] (by decide +kernel) (by decide +kernel)) (goodIn_sub (fun _ h => List.mem_cons_of_mem _ (List.mem_append_right _ h)) (by decide +kernel))
set_option maxRecDepth 20000 in
theorem gX5_ink_X5_needArgument : GoodIn wsX5_ink (va_wsS RX5 63 yX5_needArgument wsX5_needArgument) := goodIn_app (goodIn_of _ (by decide +kernel)) ggX5_ink_X5_needArgument
set_option maxRecDepth 20000 in
theorem ggX5_ink_X3_save : GoodIn wsX5_ink wsX3_save := goodIn_r _ [23, 24, 25, 26, 27, 28, 29, 30, 31, 32, 33, 34, 52, 53, 54] (by decide +kernel) (by decide +kernel)
set_option maxRecDepth 20000 in
theorem gX5_ink_X3_save : GoodIn wsX5_ink (wsV RX5 66 RX3 yX3_save wsX3_save) := goodIn_app (goodIn_of _ (by decide +kernel)) ggX5_ink_X3_save
set_option maxRecDepth 20000 in
theorem ggX5_ink_X3_inkPlace : GoodIn wsX5_ink wsX3_inkPlace := goodIn_r _ [37] (by decide +kernel) (by decide +kernel)
set_option maxRecDepth 20000 in
theorem gX5_ink_X3_inkPlace : GoodIn wsX5_ink (va_wsS RX5 98 yX3_inkPlace wsX3_inkPlace) := goodIn_app (goodIn_of _ (by decide +kernel)) ggX5_ink_X3_inkPlace
set_option maxRecDepth 20000 in
theorem ggX5_ink_X3_at : GoodIn wsX5_ink wsX3_at := goodIn_r _ [41, 29, 52, 53, 54] (by decide +kernel) (by decide +kernel)
set_option maxRecDepth 20000 in
theorem gX5_ink_X3_at : GoodIn wsX5_ink (wsV RX5 73 RX3 yX3_at wsX3_at) := goodIn_app (goodIn_of _ (by decide +kernel)) ggX5_ink_X3_at
set_option maxRecDepth 20000 in
theorem ggX5_ink_X3_put : GoodIn wsX5_ink wsX3_put := goodIn_r _ [45, 29, 52, 53, 54] (by decide +kernel) (by decide +kernel)
set_option maxRecDepth 20000 in
theorem gX5_ink_X3_put : GoodIn wsX5_ink (wsV RX5 77 RX3 yX3_put wsX3_put) := goodIn_app (goodIn_of _ (by decide +kernel)) ggX5_ink_X3_put
theorem dX5_ink_0 : decode cX5_ink 0 = .ok (.iload_n 1, 1) := by decide +kernel
theorem dX5_ink_1 : decode cX5_ink 1 = .ok (.bipush 6, 2) := by decide +kernel
theorem dX5_ink_3 : decode cX5_ink 3 = .ok (.invokestatic 51, 3) := by decide +kernel
theorem dX5_ink_6 : decode cX5_ink 6 = .ok (.ifCond .eq 16, 3) := by decide +kernel
theorem dX5_ink_9 : decode cX5_ink 9 = .ok (.iload_n 2, 1) := by decide +kernel
theorem dX5_ink_10 : decode cX5_ink 10 = .ok (.bipush 12, 2) := by decide +kernel
theorem dX5_ink_12 : decode cX5_ink 12 = .ok (.invokestatic 51, 3) := by decide +kernel
theorem dX5_ink_15 : decode cX5_ink 15 = .ok (.ifCond .eq 7, 3) := by decide +kernel
theorem dX5_ink_18 : decode cX5_ink 18 = .ok (.iconst 1, 1) := by decide +kernel
theorem dX5_ink_19 : decode cX5_ink 19 = .ok (.goto 4, 3) := by decide +kernel
theorem dX5_ink_22 : decode cX5_ink 22 = .ok (.iconst 0, 1) := by decide +kernel
theorem dX5_ink_23 : decode cX5_ink 23 = .ok (.invokestatic 55, 3) := by decide +kernel
theorem dX5_ink_26 : decode cX5_ink 26 = .ok (.iload_n 3, 1) := by decide +kernel
theorem dX5_ink_27 : decode cX5_ink 27 = .ok (.iconst 1, 1) := by decide +kernel
theorem dX5_ink_28 : decode cX5_ink 28 = .ok (.bipush 6, 2) := by decide +kernel
theorem dX5_ink_30 : decode cX5_ink 30 = .ok (.iload_n 1, 1) := by decide +kernel
theorem dX5_ink_31 : decode cX5_ink 31 = .ok (.isub, 1) := by decide +kernel
theorem dX5_ink_32 : decode cX5_ink 32 = .ok (.invokestatic 59, 3) := by decide +kernel
theorem dX5_ink_35 : decode cX5_ink 35 = .ok (.ifCond .eq 31, 3) := by decide +kernel
theorem dX5_ink_38 : decode cX5_ink 38 = .ok (.iload 4, 2) := by decide +kernel
theorem dX5_ink_40 : decode cX5_ink 40 = .ok (.iconst 1, 1) := by decide +kernel
theorem dX5_ink_41 : decode cX5_ink 41 = .ok (.bipush 12, 2) := by decide +kernel
theorem dX5_ink_43 : decode cX5_ink 43 = .ok (.iload_n 2, 1) := by decide +kernel
theorem dX5_ink_44 : decode cX5_ink 44 = .ok (.isub, 1) := by decide +kernel
theorem dX5_ink_45 : decode cX5_ink 45 = .ok (.invokestatic 59, 3) := by decide +kernel
theorem dX5_ink_48 : decode cX5_ink 48 = .ok (.ifCond .eq 18, 3) := by decide +kernel
theorem dX5_ink_51 : decode cX5_ink 51 = .ok (.iload 5, 2) := by decide +kernel
theorem dX5_ink_53 : decode cX5_ink 53 = .ok (.iconst 0, 1) := by decide +kernel
theorem dX5_ink_54 : decode cX5_ink 54 = .ok (.bipush 9, 2) := by decide +kernel
theorem dX5_ink_56 : decode cX5_ink 56 = .ok (.invokestatic 59, 3) := by decide +kernel
theorem dX5_ink_59 : decode cX5_ink 59 = .ok (.ifCond .eq 7, 3) := by decide +kernel
theorem dX5_ink_62 : decode cX5_ink 62 = .ok (.iconst 1, 1) := by decide +kernel
theorem dX5_ink_63 : decode cX5_ink 63 = .ok (.goto 4, 3) := by decide +kernel
theorem dX5_ink_66 : decode cX5_ink 66 = .ok (.iconst 0, 1) := by decide +kernel
theorem dX5_ink_67 : decode cX5_ink 67 = .ok (.invokestatic 63, 3) := by decide +kernel
theorem dX5_ink_70 : decode cX5_ink 70 = .ok (.aload_n 0, 1) := by decide +kernel
theorem dX5_ink_71 : decode cX5_ink 71 = .ok (.getfield 12, 3) := by decide +kernel
theorem dX5_ink_74 : decode cX5_ink 74 = .ok (.invokevirtual 66, 3) := by decide +kernel
theorem dX5_ink_77 : decode cX5_ink 77 = .ok (.iconst 0, 1) := by decide +kernel
theorem dX5_ink_78 : decode cX5_ink 78 = .ok (.istore 6, 2) := by decide +kernel
theorem dX5_ink_80 : decode cX5_ink 80 = .ok (.iload_n 1, 1) := by decide +kernel
theorem dX5_ink_81 : decode cX5_ink 81 = .ok (.istore 7, 2) := by decide +kernel
theorem dX5_ink_83 : decode cX5_ink 83 = .ok (.iload 7, 2) := by decide +kernel
theorem dX5_ink_85 : decode cX5_ink 85 = .ok (.iload_n 1, 1) := by decide +kernel
theorem dX5_ink_86 : decode cX5_ink 86 = .ok (.iload_n 3, 1) := by decide +kernel
theorem dX5_ink_87 : decode cX5_ink 87 = .ok (.iadd, 1) := by decide +kernel
theorem dX5_ink_88 : decode cX5_ink 88 = .ok (.if_icmp .ge 64, 3) := by decide +kernel
theorem dX5_ink_91 : decode cX5_ink 91 = .ok (.iload_n 2, 1) := by decide +kernel
theorem dX5_ink_92 : decode cX5_ink 92 = .ok (.istore 8, 2) := by decide +kernel
theorem dX5_ink_94 : decode cX5_ink 94 = .ok (.iload 8, 2) := by decide +kernel
theorem dX5_ink_96 : decode cX5_ink 96 = .ok (.iload_n 2, 1) := by decide +kernel
theorem dX5_ink_97 : decode cX5_ink 97 = .ok (.iload 4, 2) := by decide +kernel
theorem dX5_ink_99 : decode cX5_ink 99 = .ok (.iadd, 1) := by decide +kernel
theorem dX5_ink_100 : decode cX5_ink 100 = .ok (.if_icmp .ge 46, 3) := by decide +kernel
theorem dX5_ink_103 : decode cX5_ink 103 = .ok (.iload 7, 2) := by decide +kernel
theorem dX5_ink_105 : decode cX5_ink 105 = .ok (.iload 8, 2) := by decide +kernel
theorem dX5_ink_107 : decode cX5_ink 107 = .ok (.invokestatic 98, 3) := by decide +kernel
theorem dX5_ink_110 : decode cX5_ink 110 = .ok (.istore 9, 2) := by decide +kernel
theorem dX5_ink_112 : decode cX5_ink 112 = .ok (.aload_n 0, 1) := by decide +kernel
theorem dX5_ink_113 : decode cX5_ink 113 = .ok (.getfield 12, 3) := by decide +kernel
theorem dX5_ink_116 : decode cX5_ink 116 = .ok (.iload 9, 2) := by decide +kernel
theorem dX5_ink_118 : decode cX5_ink 118 = .ok (.invokevirtual 73, 3) := by decide +kernel
theorem dX5_ink_121 : decode cX5_ink 121 = .ok (.iload 5, 2) := by decide +kernel
theorem dX5_ink_123 : decode cX5_ink 123 = .ok (.if_icmp .eq 17, 3) := by decide +kernel
theorem dX5_ink_126 : decode cX5_ink 126 = .ok (.aload_n 0, 1) := by decide +kernel
theorem dX5_ink_127 : decode cX5_ink 127 = .ok (.getfield 12, 3) := by decide +kernel
theorem dX5_ink_130 : decode cX5_ink 130 = .ok (.iload 9, 2) := by decide +kernel
theorem dX5_ink_132 : decode cX5_ink 132 = .ok (.iload 5, 2) := by decide +kernel
theorem dX5_ink_134 : decode cX5_ink 134 = .ok (.invokevirtual 77, 3) := by decide +kernel
theorem dX5_ink_137 : decode cX5_ink 137 = .ok (.iinc 6 1, 3) := by decide +kernel
theorem dX5_ink_140 : decode cX5_ink 140 = .ok (.iinc 8 1, 3) := by decide +kernel
theorem dX5_ink_143 : decode cX5_ink 143 = .ok (.goto (-49), 3) := by decide +kernel
theorem dX5_ink_146 : decode cX5_ink 146 = .ok (.iinc 7 1, 3) := by decide +kernel
theorem dX5_ink_149 : decode cX5_ink 149 = .ok (.goto (-66), 3) := by decide +kernel
theorem dX5_ink_152 : decode cX5_ink 152 = .ok (.iload 6, 2) := by decide +kernel
theorem dX5_ink_154 : decode cX5_ink 154 = .ok (.ireturn, 1) := by decide +kernel
set_option maxRecDepth 20000 in
theorem ggX5_figure_X5_isIndex : GoodIn wsX5_figure wsX5_isIndex := goodIn_r _ [6] (by decide +kernel) (by decide +kernel)
set_option maxRecDepth 20000 in
theorem gX5_figure_X5_isIndex : GoodIn wsX5_figure (va_wsS RX5 51 yX5_isIndex wsX5_isIndex) := goodIn_app (goodIn_of _ (by decide +kernel)) ggX5_figure_X5_isIndex
set_option maxRecDepth 20000 in
theorem ggX5_figure_X5_needPlace : GoodIn wsX5_figure wsX5_needPlace := goodIn_ca (goodIn_r _ [9, 10, 11] (by decide +kernel) (by decide +kernel)) (goodIn_sub (fun _ h => List.mem_cons_of_mem _ (List.mem_append_left _ (List.mem_append_right _ h))) (by decide +kernel))
set_option maxRecDepth 20000 in
theorem gX5_figure_X5_needPlace : GoodIn wsX5_figure (va_wsS RX5 55 yX5_needPlace wsX5_needPlace) := goodIn_app (goodIn_of _ (by decide +kernel)) ggX5_figure_X5_needPlace
set_option maxRecDepth 20000 in
theorem ggX5_figure_X5_isBetween : GoodIn wsX5_figure wsX5_isBetween := goodIn_r _ [14] (by decide +kernel) (by decide +kernel)
set_option maxRecDepth 20000 in
theorem gX5_figure_X5_isBetween : GoodIn wsX5_figure (va_wsS RX5 59 yX5_isBetween wsX5_isBetween) := goodIn_app (goodIn_of _ (by decide +kernel)) ggX5_figure_X5_isBetween
set_option maxRecDepth 20000 in
theorem ggX5_figure_X5_needArgument : GoodIn wsX5_figure wsX5_needArgument := goodIn_ca (goodIn_r _ [17, 18, 19] (by decide +kernel) (by decide +kernel)) (goodIn_sub (fun _ h => List.mem_cons_of_mem _ (List.mem_append_right _ h)) (by decide +kernel))
set_option maxRecDepth 20000 in
theorem gX5_figure_X5_needArgument : GoodIn wsX5_figure (va_wsS RX5 63 yX5_needArgument wsX5_needArgument) := goodIn_app (goodIn_of _ (by decide +kernel)) ggX5_figure_X5_needArgument
set_option maxRecDepth 20000 in
theorem ggX5_figure_X3_save : GoodIn wsX5_figure wsX3_save := goodIn_r _ [24, 25, 26, 27, 28, 29, 30, 31, 32, 33, 34, 35, 87, 88, 89] (by decide +kernel) (by decide +kernel)
set_option maxRecDepth 20000 in
theorem gX5_figure_X3_save : GoodIn wsX5_figure (wsV RX5 66 RX3 yX3_save wsX3_save) := goodIn_app (goodIn_of _ (by decide +kernel)) ggX5_figure_X3_save
set_option maxRecDepth 20000 in
theorem ggX5_figure_X0_place : GoodIn wsX5_figure wsX0_place := goodIn_r _ [40, 41, 42, 43, 23, 44, 45, 46, 47, 48, 30, 90, 91, 87, 88, 89] (by decide +kernel) (by decide +kernel)
set_option maxRecDepth 20000 in
theorem gX5_figure_X0_place : GoodIn wsX5_figure (wsV RX5 101 RX0 yX0_place wsX0_place) := goodIn_app (goodIn_of _ (by decide +kernel)) ggX5_figure_X0_place
set_option maxRecDepth 20000 in
theorem ggX5_figure_X0_frameCells : GoodIn wsX5_figure wsX0_frameCells := goodIn_r _ [52, 53, 54, 55, 39, 56, 41, 42, 43, 23, 44, 57, 58, 59, 60, 30, 61, 62, 63, 64, 65, 66, 67, 68, 69, 70, 71, 72, 73, 74, 75, 76, 77, 33, 34, 35, 78, 79, 80, 90, 91, 87, 88, 89] (by decide +kernel) (by decide +kernel)
set_option maxRecDepth 20000 in
theorem gX5_figure_X0_frameCells : GoodIn wsX5_figure (wsV RX5 105 RX0 yX0_frameCells wsX0_frameCells) := goodIn_app (goodIn_of _ (by decide +kernel)) ggX5_figure_X0_frameCells
theorem dX5_figure_0 : decode cX5_figure 0 = .ok (.iload_n 1, 1) := by decide +kernel
theorem dX5_figure_1 : decode cX5_figure 1 = .ok (.iconst 4, 1) := by decide +kernel
theorem dX5_figure_2 : decode cX5_figure 2 = .ok (.invokestatic 51, 3) := by decide +kernel
theorem dX5_figure_5 : decode cX5_figure 5 = .ok (.ifCond .eq 25, 3) := by decide +kernel
theorem dX5_figure_8 : decode cX5_figure 8 = .ok (.iload_n 2, 1) := by decide +kernel
theorem dX5_figure_9 : decode cX5_figure 9 = .ok (.bipush 6, 2) := by decide +kernel
theorem dX5_figure_11 : decode cX5_figure 11 = .ok (.invokestatic 51, 3) := by decide +kernel
theorem dX5_figure_14 : decode cX5_figure 14 = .ok (.ifCond .eq 16, 3) := by decide +kernel
theorem dX5_figure_17 : decode cX5_figure 17 = .ok (.iload_n 3, 1) := by decide +kernel
theorem dX5_figure_18 : decode cX5_figure 18 = .ok (.bipush 12, 2) := by decide +kernel
theorem dX5_figure_20 : decode cX5_figure 20 = .ok (.invokestatic 51, 3) := by decide +kernel
theorem dX5_figure_23 : decode cX5_figure 23 = .ok (.ifCond .eq 7, 3) := by decide +kernel
theorem dX5_figure_26 : decode cX5_figure 26 = .ok (.iconst 1, 1) := by decide +kernel
theorem dX5_figure_27 : decode cX5_figure 27 = .ok (.goto 4, 3) := by decide +kernel
theorem dX5_figure_30 : decode cX5_figure 30 = .ok (.iconst 0, 1) := by decide +kernel
theorem dX5_figure_31 : decode cX5_figure 31 = .ok (.invokestatic 55, 3) := by decide +kernel
theorem dX5_figure_34 : decode cX5_figure 34 = .ok (.iload 4, 2) := by decide +kernel
theorem dX5_figure_36 : decode cX5_figure 36 = .ok (.iconst 1, 1) := by decide +kernel
theorem dX5_figure_37 : decode cX5_figure 37 = .ok (.bipush 6, 2) := by decide +kernel
theorem dX5_figure_39 : decode cX5_figure 39 = .ok (.iload_n 2, 1) := by decide +kernel
theorem dX5_figure_40 : decode cX5_figure 40 = .ok (.isub, 1) := by decide +kernel
theorem dX5_figure_41 : decode cX5_figure 41 = .ok (.invokestatic 59, 3) := by decide +kernel
theorem dX5_figure_44 : decode cX5_figure 44 = .ok (.ifCond .eq 20, 3) := by decide +kernel
theorem dX5_figure_47 : decode cX5_figure 47 = .ok (.iload 5, 2) := by decide +kernel
theorem dX5_figure_49 : decode cX5_figure 49 = .ok (.iconst 1, 1) := by decide +kernel
theorem dX5_figure_50 : decode cX5_figure 50 = .ok (.bipush 12, 2) := by decide +kernel
theorem dX5_figure_52 : decode cX5_figure 52 = .ok (.iload_n 3, 1) := by decide +kernel
theorem dX5_figure_53 : decode cX5_figure 53 = .ok (.isub, 1) := by decide +kernel
theorem dX5_figure_54 : decode cX5_figure 54 = .ok (.invokestatic 59, 3) := by decide +kernel
theorem dX5_figure_57 : decode cX5_figure 57 = .ok (.ifCond .eq 7, 3) := by decide +kernel
theorem dX5_figure_60 : decode cX5_figure 60 = .ok (.iconst 1, 1) := by decide +kernel
theorem dX5_figure_61 : decode cX5_figure 61 = .ok (.goto 4, 3) := by decide +kernel
theorem dX5_figure_64 : decode cX5_figure 64 = .ok (.iconst 0, 1) := by decide +kernel
theorem dX5_figure_65 : decode cX5_figure 65 = .ok (.invokestatic 63, 3) := by decide +kernel
theorem dX5_figure_68 : decode cX5_figure 68 = .ok (.aload_n 0, 1) := by decide +kernel
theorem dX5_figure_69 : decode cX5_figure 69 = .ok (.getfield 12, 3) := by decide +kernel
theorem dX5_figure_72 : decode cX5_figure 72 = .ok (.invokevirtual 66, 3) := by decide +kernel
theorem dX5_figure_75 : decode cX5_figure 75 = .ok (.aload_n 0, 1) := by decide +kernel
theorem dX5_figure_76 : decode cX5_figure 76 = .ok (.getfield 40, 3) := by decide +kernel
theorem dX5_figure_79 : decode cX5_figure 79 = .ok (.iload_n 1, 1) := by decide +kernel
theorem dX5_figure_80 : decode cX5_figure 80 = .ok (.iload_n 2, 1) := by decide +kernel
theorem dX5_figure_81 : decode cX5_figure 81 = .ok (.iload_n 3, 1) := by decide +kernel
theorem dX5_figure_82 : decode cX5_figure 82 = .ok (.iload 4, 2) := by decide +kernel
theorem dX5_figure_84 : decode cX5_figure 84 = .ok (.iload 5, 2) := by decide +kernel
theorem dX5_figure_86 : decode cX5_figure 86 = .ok (.invokevirtual 101, 3) := by decide +kernel
theorem dX5_figure_89 : decode cX5_figure 89 = .ok (.aload_n 0, 1) := by decide +kernel
theorem dX5_figure_90 : decode cX5_figure 90 = .ok (.getfield 40, 3) := by decide +kernel
theorem dX5_figure_93 : decode cX5_figure 93 = .ok (.iload_n 1, 1) := by decide +kernel
theorem dX5_figure_94 : decode cX5_figure 94 = .ok (.invokevirtual 105, 3) := by decide +kernel
theorem dX5_figure_97 : decode cX5_figure 97 = .ok (.ireturn, 1) := by decide +kernel
set_option maxRecDepth 20000 in
theorem ggX5_set_X5_isIndex : GoodIn wsX5_set wsX5_isIndex := goodIn_r _ [5] (by decide +kernel) (by decide +kernel)
set_option maxRecDepth 20000 in
theorem gX5_set_X5_isIndex : GoodIn wsX5_set (va_wsS RX5 51 yX5_isIndex wsX5_isIndex) := goodIn_app (goodIn_of _ (by decide +kernel)) ggX5_set_X5_isIndex
set_option maxRecDepth 20000 in
theorem ggX5_set_X5_needPlace : GoodIn wsX5_set wsX5_needPlace := goodIn_ca (goodIn_r _ [8, 9, 10] (by decide +kernel) (by decide +kernel)) (goodIn_sub (fun _ h => List.mem_cons_of_mem _ (List.mem_append_left _ (List.mem_append_right _ h))) (by decide +kernel))
set_option maxRecDepth 20000 in
theorem gX5_set_X5_needPlace : GoodIn wsX5_set (va_wsS RX5 55 yX5_needPlace wsX5_needPlace) := goodIn_app (goodIn_of _ (by decide +kernel)) ggX5_set_X5_needPlace
set_option maxRecDepth 20000 in
theorem ggX5_set_X5_isSettingValue : GoodIn wsX5_set wsX5_isSettingValue := goodIn_r _ [13, 14, 15, 4, 16] (by decide +kernel) (by decide +kernel)
set_option maxRecDepth 20000 in
theorem gX5_set_X5_isSettingValue : GoodIn wsX5_set (va_wsS RX5 112 yX5_isSettingValue wsX5_isSettingValue) := goodIn_app (goodIn_of _ (by decide +kernel)) ggX5_set_X5_isSettingValue
set_option maxRecDepth 20000 in
theorem ggX5_set_X5_needArgument : GoodIn wsX5_set wsX5_needArgument := goodIn_ca (goodIn_r _ [19, 20, 21] (by decide +kernel) (by decide +kernel)) (goodIn_sub (fun _ h => List.mem_cons_of_mem _ (List.mem_append_right _ h)) (by decide +kernel))
set_option maxRecDepth 20000 in
theorem gX5_set_X5_needArgument : GoodIn wsX5_set (va_wsS RX5 63 yX5_needArgument wsX5_needArgument) := goodIn_app (goodIn_of _ (by decide +kernel)) ggX5_set_X5_needArgument
set_option maxRecDepth 20000 in
theorem ggX5_set_X3_save : GoodIn wsX5_set wsX3_save := goodIn_r _ [26, 27, 28, 29, 30, 31, 32, 33, 34, 35, 36, 37, 55, 56, 57] (by decide +kernel) (by decide +kernel)
set_option maxRecDepth 20000 in
theorem gX5_set_X3_save : GoodIn wsX5_set (wsV RX5 66 RX3 yX3_save wsX3_save) := goodIn_app (goodIn_of _ (by decide +kernel)) ggX5_set_X3_save
set_option maxRecDepth 20000 in
theorem ggX5_set_X3_settingPlace : GoodIn wsX5_set wsX3_settingPlace := goodIn_r _ [40] (by decide +kernel) (by decide +kernel)
set_option maxRecDepth 20000 in
theorem gX5_set_X3_settingPlace : GoodIn wsX5_set (va_wsS RX5 115 yX3_settingPlace wsX3_settingPlace) := goodIn_app (goodIn_of _ (by decide +kernel)) ggX5_set_X3_settingPlace
set_option maxRecDepth 20000 in
theorem ggX5_set_X3_at : GoodIn wsX5_set wsX3_at := goodIn_r _ [44, 32, 55, 56, 57] (by decide +kernel) (by decide +kernel)
set_option maxRecDepth 20000 in
theorem gX5_set_X3_at : GoodIn wsX5_set (wsV RX5 73 RX3 yX3_at wsX3_at) := goodIn_app (goodIn_of _ (by decide +kernel)) ggX5_set_X3_at
set_option maxRecDepth 20000 in
theorem ggX5_set_X3_put : GoodIn wsX5_set wsX3_put := goodIn_r _ [48, 32, 55, 56, 57] (by decide +kernel) (by decide +kernel)
set_option maxRecDepth 20000 in
theorem gX5_set_X3_put : GoodIn wsX5_set (wsV RX5 77 RX3 yX3_put wsX3_put) := goodIn_app (goodIn_of _ (by decide +kernel)) ggX5_set_X3_put
theorem dX5_set_0 : decode cX5_set 0 = .ok (.iload_n 1, 1) := by decide +kernel
theorem dX5_set_1 : decode cX5_set 1 = .ok (.iconst 3, 1) := by decide +kernel
theorem dX5_set_2 : decode cX5_set 2 = .ok (.invokestatic 51, 3) := by decide +kernel
theorem dX5_set_5 : decode cX5_set 5 = .ok (.invokestatic 55, 3) := by decide +kernel
theorem dX5_set_8 : decode cX5_set 8 = .ok (.iload_n 1, 1) := by decide +kernel
theorem dX5_set_9 : decode cX5_set 9 = .ok (.iload_n 2, 1) := by decide +kernel
theorem dX5_set_10 : decode cX5_set 10 = .ok (.invokestatic 112, 3) := by decide +kernel
theorem dX5_set_13 : decode cX5_set 13 = .ok (.invokestatic 63, 3) := by decide +kernel
theorem dX5_set_16 : decode cX5_set 16 = .ok (.aload_n 0, 1) := by decide +kernel
theorem dX5_set_17 : decode cX5_set 17 = .ok (.getfield 12, 3) := by decide +kernel
theorem dX5_set_20 : decode cX5_set 20 = .ok (.invokevirtual 66, 3) := by decide +kernel
theorem dX5_set_23 : decode cX5_set 23 = .ok (.aload_n 0, 1) := by decide +kernel
theorem dX5_set_24 : decode cX5_set 24 = .ok (.getfield 12, 3) := by decide +kernel
theorem dX5_set_27 : decode cX5_set 27 = .ok (.iload_n 1, 1) := by decide +kernel
theorem dX5_set_28 : decode cX5_set 28 = .ok (.invokestatic 115, 3) := by decide +kernel
theorem dX5_set_31 : decode cX5_set 31 = .ok (.invokevirtual 73, 3) := by decide +kernel
theorem dX5_set_34 : decode cX5_set 34 = .ok (.istore_n 3, 1) := by decide +kernel
theorem dX5_set_35 : decode cX5_set 35 = .ok (.aload_n 0, 1) := by decide +kernel
theorem dX5_set_36 : decode cX5_set 36 = .ok (.getfield 12, 3) := by decide +kernel
theorem dX5_set_39 : decode cX5_set 39 = .ok (.iload_n 1, 1) := by decide +kernel
theorem dX5_set_40 : decode cX5_set 40 = .ok (.invokestatic 115, 3) := by decide +kernel
theorem dX5_set_43 : decode cX5_set 43 = .ok (.iload_n 2, 1) := by decide +kernel
theorem dX5_set_44 : decode cX5_set 44 = .ok (.invokevirtual 77, 3) := by decide +kernel
theorem dX5_set_47 : decode cX5_set 47 = .ok (.iload_n 3, 1) := by decide +kernel
theorem dX5_set_48 : decode cX5_set 48 = .ok (.ireturn, 1) := by decide +kernel
set_option maxRecDepth 20000 in
theorem ggX5_roll_X5_isIndex : GoodIn wsX5_roll wsX5_isIndex := goodIn_r _ [6] (by decide +kernel) (by decide +kernel)
set_option maxRecDepth 20000 in
theorem gX5_roll_X5_isIndex : GoodIn wsX5_roll (va_wsS RX5 51 yX5_isIndex wsX5_isIndex) := goodIn_app (goodIn_of _ (by decide +kernel)) ggX5_roll_X5_isIndex
set_option maxRecDepth 20000 in
theorem ggX5_roll_X5_needPlace : GoodIn wsX5_roll wsX5_needPlace := goodIn_ca (goodIn_r _ [9, 10, 11] (by decide +kernel) (by decide +kernel)) (goodIn_sub (fun _ h => List.mem_cons_of_mem _ (List.mem_append_left _ (List.mem_append_right _ h))) (by decide +kernel))
set_option maxRecDepth 20000 in
theorem gX5_roll_X5_needPlace : GoodIn wsX5_roll (va_wsS RX5 55 yX5_needPlace wsX5_needPlace) := goodIn_app (goodIn_of _ (by decide +kernel)) ggX5_roll_X5_needPlace
set_option maxRecDepth 20000 in
theorem ggX5_roll_X5_isBetween : GoodIn wsX5_roll wsX5_isBetween := goodIn_r _ [14] (by decide +kernel) (by decide +kernel)
set_option maxRecDepth 20000 in
theorem gX5_roll_X5_isBetween : GoodIn wsX5_roll (va_wsS RX5 59 yX5_isBetween wsX5_isBetween) := goodIn_app (goodIn_of _ (by decide +kernel)) ggX5_roll_X5_isBetween
set_option maxRecDepth 20000 in
theorem ggX5_roll_X5_needArgument : GoodIn wsX5_roll wsX5_needArgument := goodIn_ca (goodIn_r _ [17, 18, 19] (by decide +kernel) (by decide +kernel)) (goodIn_sub (fun _ h => List.mem_cons_of_mem _ (List.mem_append_right _ h)) (by decide +kernel))
set_option maxRecDepth 20000 in
theorem gX5_roll_X5_needArgument : GoodIn wsX5_roll (va_wsS RX5 63 yX5_needArgument wsX5_needArgument) := goodIn_app (goodIn_of _ (by decide +kernel)) ggX5_roll_X5_needArgument
set_option maxRecDepth 20000 in
theorem ggX5_roll_X3_circumferencePlace : GoodIn wsX5_roll wsX3_circumferencePlace := goodIn_r _ [23] (by decide +kernel) (by decide +kernel)
set_option maxRecDepth 20000 in
theorem gX5_roll_X3_circumferencePlace : GoodIn wsX5_roll (va_wsS RX5 81 yX3_circumferencePlace wsX3_circumferencePlace) := goodIn_app (goodIn_of _ (by decide +kernel)) ggX5_roll_X3_circumferencePlace
set_option maxRecDepth 20000 in
theorem ggX5_roll_X3_at : GoodIn wsX5_roll wsX3_at := goodIn_r _ [27, 28, 65, 66, 67] (by decide +kernel) (by decide +kernel)
set_option maxRecDepth 20000 in
theorem gX5_roll_X3_at : GoodIn wsX5_roll (wsV RX5 73 RX3 yX3_at wsX3_at) := goodIn_app (goodIn_of _ (by decide +kernel)) ggX5_roll_X3_at
set_option maxRecDepth 20000 in
theorem ggX5_roll_X3_phasePlace : GoodIn wsX5_roll wsX3_phasePlace := goodIn_r _ [31] (by decide +kernel) (by decide +kernel)
set_option maxRecDepth 20000 in
theorem gX5_roll_X3_phasePlace : GoodIn wsX5_roll (va_wsS RX5 84 yX3_phasePlace wsX3_phasePlace) := goodIn_app (goodIn_of _ (by decide +kernel)) ggX5_roll_X3_phasePlace
set_option maxRecDepth 20000 in
theorem ggX5_roll_X2_wiresUpTo : GoodIn wsX5_roll wsX2_wiresUpTo := goodIn_r _ [36, 37, 38, 39, 22, 40, 41, 25, 26, 27, 28, 68, 65, 66, 67] (by decide +kernel) (by decide +kernel)
set_option maxRecDepth 20000 in
theorem gX5_roll_X2_wiresUpTo : GoodIn wsX5_roll (wsV RX5 90 RX2 yX2_wiresUpTo wsX2_wiresUpTo) := goodIn_app (goodIn_of _ (by decide +kernel)) ggX5_roll_X2_wiresUpTo
set_option maxRecDepth 20000 in
theorem ggX5_roll_X2_heightsUpTo : GoodIn wsX5_roll wsX2_heightsUpTo := goodIn_r _ [45, 37, 38, 39, 22, 40, 41, 25, 26, 27, 28, 68, 65, 66, 67] (by decide +kernel) (by decide +kernel)
set_option maxRecDepth 20000 in
theorem gX5_roll_X2_heightsUpTo : GoodIn wsX5_roll (wsV RX5 156 RX2 yX2_heightsUpTo wsX2_heightsUpTo) := goodIn_app (goodIn_of _ (by decide +kernel)) ggX5_roll_X2_heightsUpTo
set_option maxRecDepth 20000 in
theorem ggX5_roll_X3_settingPlace : GoodIn wsX5_roll wsX3_settingPlace := goodIn_r _ [48] (by decide +kernel) (by decide +kernel)
set_option maxRecDepth 20000 in
theorem gX5_roll_X3_settingPlace : GoodIn wsX5_roll (va_wsS RX5 115 yX3_settingPlace wsX3_settingPlace) := goodIn_app (goodIn_of _ (by decide +kernel)) ggX5_roll_X3_settingPlace
set_option maxRecDepth 20000 in
theorem ggX5_roll_X2_notesAround : GoodIn wsX5_roll wsX2_notesAround := goodIn_r _ [52, 37, 53, 21, 22, 23, 41, 25, 26, 27, 28, 54, 5, 55, 56, 57, 58, 68, 65, 66, 67] (by decide +kernel) (by decide +kernel)
set_option maxRecDepth 20000 in
theorem gX5_roll_X2_notesAround : GoodIn wsX5_roll (wsV RX5 159 RX2 yX2_notesAround wsX2_notesAround) := goodIn_app (goodIn_of _ (by decide +kernel)) ggX5_roll_X2_notesAround
theorem dX5_roll_0 : decode cX5_roll 0 = .ok (.iload_n 1, 1) := by decide +kernel
theorem dX5_roll_1 : decode cX5_roll 1 = .ok (.iconst 3, 1) := by decide +kernel
theorem dX5_roll_2 : decode cX5_roll 2 = .ok (.invokestatic 51, 3) := by decide +kernel
theorem dX5_roll_5 : decode cX5_roll 5 = .ok (.invokestatic 55, 3) := by decide +kernel
theorem dX5_roll_8 : decode cX5_roll 8 = .ok (.iload_n 2, 1) := by decide +kernel
theorem dX5_roll_9 : decode cX5_roll 9 = .ok (.iconst 0, 1) := by decide +kernel
theorem dX5_roll_10 : decode cX5_roll 10 = .ok (.iconst 4, 1) := by decide +kernel
theorem dX5_roll_11 : decode cX5_roll 11 = .ok (.invokestatic 59, 3) := by decide +kernel
theorem dX5_roll_14 : decode cX5_roll 14 = .ok (.invokestatic 63, 3) := by decide +kernel
theorem dX5_roll_17 : decode cX5_roll 17 = .ok (.aload_n 0, 1) := by decide +kernel
theorem dX5_roll_18 : decode cX5_roll 18 = .ok (.getfield 12, 3) := by decide +kernel
theorem dX5_roll_21 : decode cX5_roll 21 = .ok (.iload_n 1, 1) := by decide +kernel
theorem dX5_roll_22 : decode cX5_roll 22 = .ok (.invokestatic 81, 3) := by decide +kernel
theorem dX5_roll_25 : decode cX5_roll 25 = .ok (.invokevirtual 73, 3) := by decide +kernel
theorem dX5_roll_28 : decode cX5_roll 28 = .ok (.istore_n 3, 1) := by decide +kernel
theorem dX5_roll_29 : decode cX5_roll 29 = .ok (.iload_n 2, 1) := by decide +kernel
theorem dX5_roll_30 : decode cX5_roll 30 = .ok (.tableswitch 68 0 3 #[30, 32, 44, 54], 30) := by decide +kernel
theorem dX5_roll_60 : decode cX5_roll 60 = .ok (.iload_n 3, 1) := by decide +kernel
theorem dX5_roll_61 : decode cX5_roll 61 = .ok (.ireturn, 1) := by decide +kernel
theorem dX5_roll_62 : decode cX5_roll 62 = .ok (.aload_n 0, 1) := by decide +kernel
theorem dX5_roll_63 : decode cX5_roll 63 = .ok (.getfield 12, 3) := by decide +kernel
theorem dX5_roll_66 : decode cX5_roll 66 = .ok (.iload_n 1, 1) := by decide +kernel
theorem dX5_roll_67 : decode cX5_roll 67 = .ok (.invokestatic 84, 3) := by decide +kernel
theorem dX5_roll_70 : decode cX5_roll 70 = .ok (.invokevirtual 73, 3) := by decide +kernel
theorem dX5_roll_73 : decode cX5_roll 73 = .ok (.ireturn, 1) := by decide +kernel
theorem dX5_roll_74 : decode cX5_roll 74 = .ok (.aload_n 0, 1) := by decide +kernel
theorem dX5_roll_75 : decode cX5_roll 75 = .ok (.getfield 21, 3) := by decide +kernel
theorem dX5_roll_78 : decode cX5_roll 78 = .ok (.iload_n 1, 1) := by decide +kernel
theorem dX5_roll_79 : decode cX5_roll 79 = .ok (.iload_n 3, 1) := by decide +kernel
theorem dX5_roll_80 : decode cX5_roll 80 = .ok (.invokevirtual 90, 3) := by decide +kernel
theorem dX5_roll_83 : decode cX5_roll 83 = .ok (.ireturn, 1) := by decide +kernel
theorem dX5_roll_84 : decode cX5_roll 84 = .ok (.aload_n 0, 1) := by decide +kernel
theorem dX5_roll_85 : decode cX5_roll 85 = .ok (.getfield 21, 3) := by decide +kernel
theorem dX5_roll_88 : decode cX5_roll 88 = .ok (.iload_n 1, 1) := by decide +kernel
theorem dX5_roll_89 : decode cX5_roll 89 = .ok (.iload_n 3, 1) := by decide +kernel
theorem dX5_roll_90 : decode cX5_roll 90 = .ok (.invokevirtual 156, 3) := by decide +kernel
theorem dX5_roll_93 : decode cX5_roll 93 = .ok (.sipush 1000, 3) := by decide +kernel
theorem dX5_roll_96 : decode cX5_roll 96 = .ok (.iadd, 1) := by decide +kernel
theorem dX5_roll_97 : decode cX5_roll 97 = .ok (.ireturn, 1) := by decide +kernel
theorem dX5_roll_98 : decode cX5_roll 98 = .ok (.aload_n 0, 1) := by decide +kernel
theorem dX5_roll_99 : decode cX5_roll 99 = .ok (.getfield 21, 3) := by decide +kernel
theorem dX5_roll_102 : decode cX5_roll 102 = .ok (.iload_n 1, 1) := by decide +kernel
theorem dX5_roll_103 : decode cX5_roll 103 = .ok (.aload_n 0, 1) := by decide +kernel
theorem dX5_roll_104 : decode cX5_roll 104 = .ok (.getfield 12, 3) := by decide +kernel
theorem dX5_roll_107 : decode cX5_roll 107 = .ok (.iconst 1, 1) := by decide +kernel
theorem dX5_roll_108 : decode cX5_roll 108 = .ok (.invokestatic 115, 3) := by decide +kernel
theorem dX5_roll_111 : decode cX5_roll 111 = .ok (.invokevirtual 73, 3) := by decide +kernel
theorem dX5_roll_114 : decode cX5_roll 114 = .ok (.invokevirtual 159, 3) := by decide +kernel
theorem dX5_roll_117 : decode cX5_roll 117 = .ok (.ireturn, 1) := by decide +kernel
set_option maxRecDepth 20000 in
theorem ggX5_cell_X5_isIndex : GoodIn wsX5_cell wsX5_isIndex := goodIn_r _ [6] (by decide +kernel) (by decide +kernel)
set_option maxRecDepth 20000 in
theorem gX5_cell_X5_isIndex : GoodIn wsX5_cell (va_wsS RX5 51 yX5_isIndex wsX5_isIndex) := goodIn_app (goodIn_of _ (by decide +kernel)) ggX5_cell_X5_isIndex
set_option maxRecDepth 20000 in
theorem ggX5_cell_X5_needPlace : GoodIn wsX5_cell wsX5_needPlace := goodIn_ca (goodIn_r _ [9, 10, 11] (by decide +kernel) (by decide +kernel)) (goodIn_sub (fun _ h => List.mem_cons_of_mem _ (List.mem_append_left _ (List.mem_append_right _ h))) (by decide +kernel))
set_option maxRecDepth 20000 in
theorem gX5_cell_X5_needPlace : GoodIn wsX5_cell (va_wsS RX5 55 yX5_needPlace wsX5_needPlace) := goodIn_app (goodIn_of _ (by decide +kernel)) ggX5_cell_X5_needPlace
set_option maxRecDepth 20000 in
theorem ggX5_cell_X5_isBetween : GoodIn wsX5_cell wsX5_isBetween := goodIn_r _ [14] (by decide +kernel) (by decide +kernel)
set_option maxRecDepth 20000 in
theorem gX5_cell_X5_isBetween : GoodIn wsX5_cell (va_wsS RX5 59 yX5_isBetween wsX5_isBetween) := goodIn_app (goodIn_of _ (by decide +kernel)) ggX5_cell_X5_isBetween
set_option maxRecDepth 20000 in
theorem ggX5_cell_X5_needArgument : GoodIn wsX5_cell wsX5_needArgument := goodIn_ca (goodIn_r _ [17, 18, 19] (by decide +kernel) (by decide +kernel)) (goodIn_sub (fun _ h => List.mem_cons_of_mem _ (List.mem_append_right _ h)) (by decide +kernel))
set_option maxRecDepth 20000 in
theorem gX5_cell_X5_needArgument : GoodIn wsX5_cell (va_wsS RX5 63 yX5_needArgument wsX5_needArgument) := goodIn_app (goodIn_of _ (by decide +kernel)) ggX5_cell_X5_needArgument
set_option maxRecDepth 20000 in
theorem ggX5_cell_X1_look : GoodIn wsX5_cell wsX1_look := goodIn_r _ [24, 25, 26, 27, 28, 29, 30, 31, 32, 33, 34, 35, 36, 37, 38, 39, 40, 41, 42, 43, 44, 45, 46, 47, 23, 48, 49, 50, 51, 52, 53, 54, 55, 5, 56, 57, 58, 59, 60, 61, 62, 83, 84, 85, 86, 87, 88, 89] (by decide +kernel) (by decide +kernel)
set_option maxRecDepth 20000 in
theorem gX5_cell_X1_look : GoodIn wsX5_cell (wsV RX5 162 RX1 yX1_look wsX1_look) := goodIn_app (goodIn_of _ (by decide +kernel)) ggX5_cell_X1_look
set_option maxRecDepth 20000 in
theorem ggX5_cell_X1_toneAt : GoodIn wsX5_cell wsX1_toneAt := goodIn_r _ [66, 34, 4, 5, 6, 83, 84, 85, 86] (by decide +kernel) (by decide +kernel)
set_option maxRecDepth 20000 in
theorem gX5_cell_X1_toneAt : GoodIn wsX5_cell (wsV RX5 165 RX1 yX1_toneAt wsX1_toneAt) := goodIn_app (goodIn_of _ (by decide +kernel)) ggX5_cell_X1_toneAt
set_option maxRecDepth 20000 in
theorem ggX5_cell_X3_inkPlace : GoodIn wsX5_cell wsX3_inkPlace := goodIn_r _ [62] (by decide +kernel) (by decide +kernel)
set_option maxRecDepth 20000 in
theorem gX5_cell_X3_inkPlace : GoodIn wsX5_cell (va_wsS RX5 98 yX3_inkPlace wsX3_inkPlace) := goodIn_app (goodIn_of _ (by decide +kernel)) ggX5_cell_X3_inkPlace
set_option maxRecDepth 20000 in
theorem ggX5_cell_X3_at : GoodIn wsX5_cell wsX3_at := goodIn_r _ [43, 44, 87, 88, 89] (by decide +kernel) (by decide +kernel)
set_option maxRecDepth 20000 in
theorem gX5_cell_X3_at : GoodIn wsX5_cell (wsV RX5 73 RX3 yX3_at wsX3_at) := goodIn_app (goodIn_of _ (by decide +kernel)) ggX5_cell_X3_at
set_option maxRecDepth 20000 in
theorem ggX5_cell_X1_lightAt : GoodIn wsX5_cell wsX1_lightAt := goodIn_r _ [72, 35, 4, 5, 6, 83, 84, 85, 86] (by decide +kernel) (by decide +kernel)
set_option maxRecDepth 20000 in
theorem gX5_cell_X1_lightAt : GoodIn wsX5_cell (wsV RX5 168 RX1 yX1_lightAt wsX1_lightAt) := goodIn_app (goodIn_of _ (by decide +kernel)) ggX5_cell_X1_lightAt
set_option maxRecDepth 20000 in
theorem ggX5_cell_X1_pressureAt : GoodIn wsX5_cell wsX1_pressureAt := goodIn_r _ [76, 26, 4, 5, 6, 83, 84, 85, 86] (by decide +kernel) (by decide +kernel)
set_option maxRecDepth 20000 in
theorem gX5_cell_X1_pressureAt : GoodIn wsX5_cell (wsV RX5 171 RX1 yX1_pressureAt wsX1_pressureAt) := goodIn_app (goodIn_of _ (by decide +kernel)) ggX5_cell_X1_pressureAt
theorem dX5_cell_0 : decode cX5_cell 0 = .ok (.iload_n 1, 1) := by decide +kernel
theorem dX5_cell_1 : decode cX5_cell 1 = .ok (.sipush 1000, 3) := by decide +kernel
theorem dX5_cell_4 : decode cX5_cell 4 = .ok (.invokestatic 51, 3) := by decide +kernel
theorem dX5_cell_7 : decode cX5_cell 7 = .ok (.ifCond .eq 25, 3) := by decide +kernel
theorem dX5_cell_10 : decode cX5_cell 10 = .ok (.iload_n 2, 1) := by decide +kernel
theorem dX5_cell_11 : decode cX5_cell 11 = .ok (.bipush 6, 2) := by decide +kernel
theorem dX5_cell_13 : decode cX5_cell 13 = .ok (.invokestatic 51, 3) := by decide +kernel
theorem dX5_cell_16 : decode cX5_cell 16 = .ok (.ifCond .eq 16, 3) := by decide +kernel
theorem dX5_cell_19 : decode cX5_cell 19 = .ok (.iload_n 3, 1) := by decide +kernel
theorem dX5_cell_20 : decode cX5_cell 20 = .ok (.bipush 12, 2) := by decide +kernel
theorem dX5_cell_22 : decode cX5_cell 22 = .ok (.invokestatic 51, 3) := by decide +kernel
theorem dX5_cell_25 : decode cX5_cell 25 = .ok (.ifCond .eq 7, 3) := by decide +kernel
theorem dX5_cell_28 : decode cX5_cell 28 = .ok (.iconst 1, 1) := by decide +kernel
theorem dX5_cell_29 : decode cX5_cell 29 = .ok (.goto 4, 3) := by decide +kernel
theorem dX5_cell_32 : decode cX5_cell 32 = .ok (.iconst 0, 1) := by decide +kernel
theorem dX5_cell_33 : decode cX5_cell 33 = .ok (.invokestatic 55, 3) := by decide +kernel
theorem dX5_cell_36 : decode cX5_cell 36 = .ok (.iload 4, 2) := by decide +kernel
theorem dX5_cell_38 : decode cX5_cell 38 = .ok (.iconst 0, 1) := by decide +kernel
theorem dX5_cell_39 : decode cX5_cell 39 = .ok (.iconst 3, 1) := by decide +kernel
theorem dX5_cell_40 : decode cX5_cell 40 = .ok (.invokestatic 59, 3) := by decide +kernel
theorem dX5_cell_43 : decode cX5_cell 43 = .ok (.invokestatic 63, 3) := by decide +kernel
theorem dX5_cell_46 : decode cX5_cell 46 = .ok (.aload_n 0, 1) := by decide +kernel
theorem dX5_cell_47 : decode cX5_cell 47 = .ok (.getfield 28, 3) := by decide +kernel
theorem dX5_cell_50 : decode cX5_cell 50 = .ok (.iload_n 1, 1) := by decide +kernel
theorem dX5_cell_51 : decode cX5_cell 51 = .ok (.invokevirtual 162, 3) := by decide +kernel
theorem dX5_cell_54 : decode cX5_cell 54 = .ok (.iload 4, 2) := by decide +kernel
theorem dX5_cell_56 : decode cX5_cell 56 = .ok (.tableswitch 64 0 2 #[28, 38, 51], 28) := by decide +kernel
theorem dX5_cell_84 : decode cX5_cell 84 = .ok (.aload_n 0, 1) := by decide +kernel
theorem dX5_cell_85 : decode cX5_cell 85 = .ok (.getfield 28, 3) := by decide +kernel
theorem dX5_cell_88 : decode cX5_cell 88 = .ok (.iload_n 2, 1) := by decide +kernel
theorem dX5_cell_89 : decode cX5_cell 89 = .ok (.iload_n 3, 1) := by decide +kernel
theorem dX5_cell_90 : decode cX5_cell 90 = .ok (.invokevirtual 165, 3) := by decide +kernel
theorem dX5_cell_93 : decode cX5_cell 93 = .ok (.ireturn, 1) := by decide +kernel
theorem dX5_cell_94 : decode cX5_cell 94 = .ok (.aload_n 0, 1) := by decide +kernel
theorem dX5_cell_95 : decode cX5_cell 95 = .ok (.getfield 12, 3) := by decide +kernel
theorem dX5_cell_98 : decode cX5_cell 98 = .ok (.iload_n 2, 1) := by decide +kernel
theorem dX5_cell_99 : decode cX5_cell 99 = .ok (.iload_n 3, 1) := by decide +kernel
theorem dX5_cell_100 : decode cX5_cell 100 = .ok (.invokestatic 98, 3) := by decide +kernel
theorem dX5_cell_103 : decode cX5_cell 103 = .ok (.invokevirtual 73, 3) := by decide +kernel
theorem dX5_cell_106 : decode cX5_cell 106 = .ok (.ireturn, 1) := by decide +kernel
theorem dX5_cell_107 : decode cX5_cell 107 = .ok (.aload_n 0, 1) := by decide +kernel
theorem dX5_cell_108 : decode cX5_cell 108 = .ok (.getfield 28, 3) := by decide +kernel
theorem dX5_cell_111 : decode cX5_cell 111 = .ok (.iload_n 2, 1) := by decide +kernel
theorem dX5_cell_112 : decode cX5_cell 112 = .ok (.iload_n 3, 1) := by decide +kernel
theorem dX5_cell_113 : decode cX5_cell 113 = .ok (.invokevirtual 168, 3) := by decide +kernel
theorem dX5_cell_116 : decode cX5_cell 116 = .ok (.bipush 100, 2) := by decide +kernel
theorem dX5_cell_118 : decode cX5_cell 118 = .ok (.iadd, 1) := by decide +kernel
theorem dX5_cell_119 : decode cX5_cell 119 = .ok (.ireturn, 1) := by decide +kernel
theorem dX5_cell_120 : decode cX5_cell 120 = .ok (.aload_n 0, 1) := by decide +kernel
theorem dX5_cell_121 : decode cX5_cell 121 = .ok (.getfield 28, 3) := by decide +kernel
theorem dX5_cell_124 : decode cX5_cell 124 = .ok (.iload_n 2, 1) := by decide +kernel
theorem dX5_cell_125 : decode cX5_cell 125 = .ok (.iload_n 3, 1) := by decide +kernel
theorem dX5_cell_126 : decode cX5_cell 126 = .ok (.invokevirtual 171, 3) := by decide +kernel
theorem dX5_cell_129 : decode cX5_cell 129 = .ok (.bipush 100, 2) := by decide +kernel
theorem dX5_cell_131 : decode cX5_cell 131 = .ok (.iadd, 1) := by decide +kernel
theorem dX5_cell_132 : decode cX5_cell 132 = .ok (.ireturn, 1) := by decide +kernel
set_option maxRecDepth 20000 in
theorem ggX5_figureOf_X5_isIndex : GoodIn wsX5_figureOf wsX5_isIndex := goodIn_r _ [5] (by decide +kernel) (by decide +kernel)
set_option maxRecDepth 20000 in
theorem gX5_figureOf_X5_isIndex : GoodIn wsX5_figureOf (va_wsS RX5 51 yX5_isIndex wsX5_isIndex) := goodIn_app (goodIn_of _ (by decide +kernel)) ggX5_figureOf_X5_isIndex
set_option maxRecDepth 20000 in
theorem ggX5_figureOf_X5_needPlace : GoodIn wsX5_figureOf wsX5_needPlace := goodIn_ca (goodIn_r _ [8, 9, 10] (by decide +kernel) (by decide +kernel)) (goodIn_sub (fun _ h => List.mem_cons_of_mem _ (List.mem_append_left _ (List.mem_append_right _ h))) (by decide +kernel))
set_option maxRecDepth 20000 in
theorem gX5_figureOf_X5_needPlace : GoodIn wsX5_figureOf (va_wsS RX5 55 yX5_needPlace wsX5_needPlace) := goodIn_app (goodIn_of _ (by decide +kernel)) ggX5_figureOf_X5_needPlace
set_option maxRecDepth 20000 in
theorem ggX5_figureOf_X5_isBetween : GoodIn wsX5_figureOf wsX5_isBetween := goodIn_r _ [13] (by decide +kernel) (by decide +kernel)
set_option maxRecDepth 20000 in
theorem gX5_figureOf_X5_isBetween : GoodIn wsX5_figureOf (va_wsS RX5 59 yX5_isBetween wsX5_isBetween) := goodIn_app (goodIn_of _ (by decide +kernel)) ggX5_figureOf_X5_isBetween
set_option maxRecDepth 20000 in
theorem ggX5_figureOf_X5_needArgument : GoodIn wsX5_figureOf wsX5_needArgument := goodIn_ca (goodIn_r _ [16, 17, 18] (by decide +kernel) (by decide +kernel)) (goodIn_sub (fun _ h => List.mem_cons_of_mem _ (List.mem_append_right _ h)) (by decide +kernel))
set_option maxRecDepth 20000 in
theorem gX5_figureOf_X5_needArgument : GoodIn wsX5_figureOf (va_wsS RX5 63 yX5_needArgument wsX5_needArgument) := goodIn_app (goodIn_of _ (by decide +kernel)) ggX5_figureOf_X5_needArgument
set_option maxRecDepth 20000 in
theorem ggX5_figureOf_X0_isThere : GoodIn wsX5_figureOf wsX0_isThere := goodIn_r _ [23, 24, 25, 26, 22, 27, 28, 29, 30, 31, 32, 33, 34, 35, 36, 37, 147, 148, 149, 150, 151] (by decide +kernel) (by decide +kernel)
set_option maxRecDepth 20000 in
theorem gX5_figureOf_X0_isThere : GoodIn wsX5_figureOf (wsV RX5 108 RX0 yX0_isThere wsX0_isThere) := goodIn_app (goodIn_of _ (by decide +kernel)) ggX5_figureOf_X0_isThere
set_option maxRecDepth 20000 in
theorem ggX5_figureOf_X0_cells : GoodIn wsX5_figureOf wsX0_cells := goodIn_r _ [41, 24, 25, 26, 22, 27, 28, 29, 30, 31, 32, 33, 34, 35, 36, 37, 42, 43, 44, 45, 147, 148, 149, 150, 151] (by decide +kernel) (by decide +kernel)
set_option maxRecDepth 20000 in
theorem gX5_figureOf_X0_cells : GoodIn wsX5_figureOf (wsV RX5 174 RX0 yX0_cells wsX0_cells) := goodIn_app (goodIn_of _ (by decide +kernel)) ggX5_figureOf_X0_cells
set_option maxRecDepth 20000 in
theorem ggX5_figureOf_X0_frameCells : GoodIn wsX5_figureOf wsX0_frameCells := goodIn_r _ [49, 50, 51, 52, 22, 53, 28, 29, 30, 31, 32, 33, 34, 35, 36, 37, 54, 55, 56, 57, 24, 25, 26, 27, 42, 43, 44, 45, 58, 59, 60, 61, 62, 63, 64, 65, 66, 67, 68, 147, 148, 149, 150, 151] (by decide +kernel) (by decide +kernel)
set_option maxRecDepth 20000 in
theorem gX5_figureOf_X0_frameCells : GoodIn wsX5_figureOf (wsV RX5 105 RX0 yX0_frameCells wsX0_frameCells) := goodIn_app (goodIn_of _ (by decide +kernel)) ggX5_figureOf_X0_frameCells
set_option maxRecDepth 20000 in
theorem ggX5_figureOf_X0_isHidden : GoodIn wsX5_figureOf wsX0_isHidden := goodIn_r _ [72, 28, 73, 63, 64, 65, 74, 67, 68, 50, 51, 52, 22, 53, 29, 30, 31, 32, 33, 34, 35, 36, 37, 54, 55, 56, 57, 75, 76, 77, 24, 25, 26, 27, 42, 43, 44, 45, 147, 148, 149, 150, 151] (by decide +kernel) (by decide +kernel)
set_option maxRecDepth 20000 in
theorem gX5_figureOf_X0_isHidden : GoodIn wsX5_figureOf (wsV RX5 177 RX0 yX0_isHidden wsX0_isHidden) := goodIn_app (goodIn_of _ (by decide +kernel)) ggX5_figureOf_X0_isHidden
set_option maxRecDepth 20000 in
theorem ggX5_figureOf_X0_firstNoteSeen : GoodIn wsX5_figureOf wsX0_firstNoteSeen := goodIn_r _ [81, 82, 83, 84, 22, 85, 86, 87, 88, 89, 60, 90, 91, 92, 62, 63, 64, 65, 66, 67, 68, 93, 94, 95, 96, 31, 97, 98, 34, 35, 36, 37, 99, 100, 101, 102, 103, 104, 105, 106, 107, 108, 109, 4, 110, 111, 112, 113, 114, 76, 77, 50, 51, 52, 53, 28, 29, 30, 32, 33, 54, 55, 56, 57, 24, 25, 26, 27, 42, 43, 44, 45, 115, 116, 117, 118, 119, 59, 61, 120, 121, 122, 123, 124, 125, 126, 127, 128, 129, 130, 131, 132, 133, 134, 135, 147, 148, 152, 153, 154, 155, 149, 150, 151] (by decide +kernel) (by decide +kernel)
set_option maxRecDepth 20000 in
theorem gX5_figureOf_X0_firstNoteSeen : GoodIn wsX5_figureOf (wsV RX5 180 RX0 yX0_firstNoteSeen wsX0_firstNoteSeen) := goodIn_app (goodIn_of _ (by decide +kernel)) ggX5_figureOf_X0_firstNoteSeen
set_option maxRecDepth 20000 in
theorem ggX5_figureOf_X0_notesGood : GoodIn wsX5_figureOf wsX0_notesGood := goodIn_r _ [139, 140, 70, 71, 22, 72, 28, 73, 63, 64, 65, 74, 67, 68, 50, 51, 52, 53, 29, 30, 31, 32, 33, 34, 35, 36, 37, 54, 55, 56, 57, 75, 76, 77, 24, 25, 26, 27, 42, 43, 44, 45, 82, 83, 84, 85, 86, 87, 88, 89, 60, 90, 91, 92, 62, 66, 93, 94, 95, 96, 97, 98, 99, 100, 101, 102, 103, 104, 105, 106, 107, 108, 109, 4, 110, 111, 112, 113, 114, 115, 116, 117, 118, 119, 59, 61, 120, 121, 122, 123, 124, 125, 126, 127, 128, 129, 130, 131, 132, 133, 134, 135, 147, 148, 149, 150, 151, 152, 153, 154, 155] (by decide +kernel) (by decide +kernel)
set_option maxRecDepth 20000 in
theorem gX5_figureOf_X0_notesGood : GoodIn wsX5_figureOf (wsV RX5 183 RX0 yX0_notesGood wsX0_notesGood) := goodIn_app (goodIn_of _ (by decide +kernel)) ggX5_figureOf_X0_notesGood
theorem dX5_figureOf_0 : decode cX5_figureOf 0 = .ok (.iload_n 1, 1) := by decide +kernel
theorem dX5_figureOf_1 : decode cX5_figureOf 1 = .ok (.iconst 4, 1) := by decide +kernel
theorem dX5_figureOf_2 : decode cX5_figureOf 2 = .ok (.invokestatic 51, 3) := by decide +kernel
theorem dX5_figureOf_5 : decode cX5_figureOf 5 = .ok (.invokestatic 55, 3) := by decide +kernel
theorem dX5_figureOf_8 : decode cX5_figureOf 8 = .ok (.iload_n 2, 1) := by decide +kernel
theorem dX5_figureOf_9 : decode cX5_figureOf 9 = .ok (.iconst 0, 1) := by decide +kernel
theorem dX5_figureOf_10 : decode cX5_figureOf 10 = .ok (.iconst 4, 1) := by decide +kernel
theorem dX5_figureOf_11 : decode cX5_figureOf 11 = .ok (.invokestatic 59, 3) := by decide +kernel
theorem dX5_figureOf_14 : decode cX5_figureOf 14 = .ok (.invokestatic 63, 3) := by decide +kernel
theorem dX5_figureOf_17 : decode cX5_figureOf 17 = .ok (.aload_n 0, 1) := by decide +kernel
theorem dX5_figureOf_18 : decode cX5_figureOf 18 = .ok (.getfield 40, 3) := by decide +kernel
theorem dX5_figureOf_21 : decode cX5_figureOf 21 = .ok (.iload_n 1, 1) := by decide +kernel
theorem dX5_figureOf_22 : decode cX5_figureOf 22 = .ok (.invokevirtual 108, 3) := by decide +kernel
theorem dX5_figureOf_25 : decode cX5_figureOf 25 = .ok (.ifCond .ne 5, 3) := by decide +kernel
theorem dX5_figureOf_28 : decode cX5_figureOf 28 = .ok (.iconst (-1), 1) := by decide +kernel
theorem dX5_figureOf_29 : decode cX5_figureOf 29 = .ok (.ireturn, 1) := by decide +kernel
theorem dX5_figureOf_30 : decode cX5_figureOf 30 = .ok (.iload_n 2, 1) := by decide +kernel
theorem dX5_figureOf_31 : decode cX5_figureOf 31 = .ok (.tableswitch 73 0 3 #[29, 38, 47, 64], 29) := by decide +kernel
theorem dX5_figureOf_60 : decode cX5_figureOf 60 = .ok (.aload_n 0, 1) := by decide +kernel
theorem dX5_figureOf_61 : decode cX5_figureOf 61 = .ok (.getfield 40, 3) := by decide +kernel
theorem dX5_figureOf_64 : decode cX5_figureOf 64 = .ok (.iload_n 1, 1) := by decide +kernel
theorem dX5_figureOf_65 : decode cX5_figureOf 65 = .ok (.invokevirtual 174, 3) := by decide +kernel
theorem dX5_figureOf_68 : decode cX5_figureOf 68 = .ok (.ireturn, 1) := by decide +kernel
theorem dX5_figureOf_69 : decode cX5_figureOf 69 = .ok (.aload_n 0, 1) := by decide +kernel
theorem dX5_figureOf_70 : decode cX5_figureOf 70 = .ok (.getfield 40, 3) := by decide +kernel
theorem dX5_figureOf_73 : decode cX5_figureOf 73 = .ok (.iload_n 1, 1) := by decide +kernel
theorem dX5_figureOf_74 : decode cX5_figureOf 74 = .ok (.invokevirtual 105, 3) := by decide +kernel
theorem dX5_figureOf_77 : decode cX5_figureOf 77 = .ok (.ireturn, 1) := by decide +kernel
theorem dX5_figureOf_78 : decode cX5_figureOf 78 = .ok (.aload_n 0, 1) := by decide +kernel
theorem dX5_figureOf_79 : decode cX5_figureOf 79 = .ok (.getfield 40, 3) := by decide +kernel
theorem dX5_figureOf_82 : decode cX5_figureOf 82 = .ok (.iload_n 1, 1) := by decide +kernel
theorem dX5_figureOf_83 : decode cX5_figureOf 83 = .ok (.invokevirtual 177, 3) := by decide +kernel
theorem dX5_figureOf_86 : decode cX5_figureOf 86 = .ok (.ifCond .eq 7, 3) := by decide +kernel
theorem dX5_figureOf_89 : decode cX5_figureOf 89 = .ok (.iconst 1, 1) := by decide +kernel
theorem dX5_figureOf_90 : decode cX5_figureOf 90 = .ok (.goto 4, 3) := by decide +kernel
theorem dX5_figureOf_93 : decode cX5_figureOf 93 = .ok (.iconst 0, 1) := by decide +kernel
theorem dX5_figureOf_94 : decode cX5_figureOf 94 = .ok (.ireturn, 1) := by decide +kernel
theorem dX5_figureOf_95 : decode cX5_figureOf 95 = .ok (.aload_n 0, 1) := by decide +kernel
theorem dX5_figureOf_96 : decode cX5_figureOf 96 = .ok (.getfield 40, 3) := by decide +kernel
theorem dX5_figureOf_99 : decode cX5_figureOf 99 = .ok (.iload_n 1, 1) := by decide +kernel
theorem dX5_figureOf_100 : decode cX5_figureOf 100 = .ok (.invokevirtual 180, 3) := by decide +kernel
theorem dX5_figureOf_103 : decode cX5_figureOf 103 = .ok (.ireturn, 1) := by decide +kernel
theorem dX5_figureOf_104 : decode cX5_figureOf 104 = .ok (.aload_n 0, 1) := by decide +kernel
theorem dX5_figureOf_105 : decode cX5_figureOf 105 = .ok (.getfield 40, 3) := by decide +kernel
theorem dX5_figureOf_108 : decode cX5_figureOf 108 = .ok (.iload_n 1, 1) := by decide +kernel
theorem dX5_figureOf_109 : decode cX5_figureOf 109 = .ok (.invokevirtual 183, 3) := by decide +kernel
theorem dX5_figureOf_112 : decode cX5_figureOf 112 = .ok (.ireturn, 1) := by decide +kernel
set_option maxRecDepth 20000 in
theorem ggX5_contrast_X5_isIndex : GoodIn wsX5_contrast wsX5_isIndex := goodIn_r _ [5] (by decide +kernel) (by decide +kernel)
set_option maxRecDepth 20000 in
theorem gX5_contrast_X5_isIndex : GoodIn wsX5_contrast (va_wsS RX5 51 yX5_isIndex wsX5_isIndex) := goodIn_app (goodIn_of _ (by decide +kernel)) ggX5_contrast_X5_isIndex
set_option maxRecDepth 20000 in
theorem ggX5_contrast_X5_needPlace : GoodIn wsX5_contrast wsX5_needPlace := goodIn_ca (goodIn_r _ [8, 9, 10] (by decide +kernel) (by decide +kernel)) (goodIn_sub (fun _ h => List.mem_cons_of_mem _ (List.mem_append_right _ h)) (by decide +kernel))
set_option maxRecDepth 20000 in
theorem gX5_contrast_X5_needPlace : GoodIn wsX5_contrast (va_wsS RX5 55 yX5_needPlace wsX5_needPlace) := goodIn_app (goodIn_of _ (by decide +kernel)) ggX5_contrast_X5_needPlace
set_option maxRecDepth 20000 in
theorem ggX5_contrast_X0_isThere : GoodIn wsX5_contrast wsX0_isThere := goodIn_r _ [15, 16, 17, 18, 14, 19, 20, 21, 22, 23, 24, 25, 26, 27, 28, 29, 106, 107, 108, 109, 110] (by decide +kernel) (by decide +kernel)
set_option maxRecDepth 20000 in
theorem gX5_contrast_X0_isThere : GoodIn wsX5_contrast (wsV RX5 108 RX0 yX0_isThere wsX0_isThere) := goodIn_app (goodIn_of _ (by decide +kernel)) ggX5_contrast_X0_isThere
set_option maxRecDepth 20000 in
theorem ggX5_contrast_X0_contrastOn : GoodIn wsX5_contrast wsX0_contrastOn := goodIn_r _ [33, 34, 35, 36, 37, 38, 39, 40, 41, 42, 43, 44, 45, 46, 47, 48, 49, 50, 51, 52, 23, 53, 54, 26, 27, 28, 29, 55, 56, 57, 58, 59, 60, 61, 62, 63, 64, 65, 4, 66, 67, 68, 69, 70, 71, 72, 73, 74, 75, 14, 76, 20, 21, 22, 24, 25, 77, 78, 79, 80, 16, 17, 18, 19, 81, 82, 83, 84, 85, 86, 87, 88, 89, 90, 91, 92, 93, 94, 95, 96, 97, 98, 99, 106, 107, 111, 112, 113, 114, 108, 109, 110] (by decide +kernel) (by decide +kernel)
set_option maxRecDepth 20000 in
theorem gX5_contrast_X0_contrastOn : GoodIn wsX5_contrast (wsV RX5 186 RX0 yX0_contrastOn wsX0_contrastOn) := goodIn_app (goodIn_of _ (by decide +kernel)) ggX5_contrast_X0_contrastOn
theorem dX5_contrast_0 : decode cX5_contrast 0 = .ok (.iload_n 1, 1) := by decide +kernel
theorem dX5_contrast_1 : decode cX5_contrast 1 = .ok (.iconst 4, 1) := by decide +kernel
theorem dX5_contrast_2 : decode cX5_contrast 2 = .ok (.invokestatic 51, 3) := by decide +kernel
theorem dX5_contrast_5 : decode cX5_contrast 5 = .ok (.ifCond .eq 17, 3) := by decide +kernel
theorem dX5_contrast_8 : decode cX5_contrast 8 = .ok (.iload_n 2, 1) := by decide +kernel
theorem dX5_contrast_9 : decode cX5_contrast 9 = .ok (.sipush 1000, 3) := by decide +kernel
theorem dX5_contrast_12 : decode cX5_contrast 12 = .ok (.invokestatic 51, 3) := by decide +kernel
theorem dX5_contrast_15 : decode cX5_contrast 15 = .ok (.ifCond .eq 7, 3) := by decide +kernel
theorem dX5_contrast_18 : decode cX5_contrast 18 = .ok (.iconst 1, 1) := by decide +kernel
theorem dX5_contrast_19 : decode cX5_contrast 19 = .ok (.goto 4, 3) := by decide +kernel
theorem dX5_contrast_22 : decode cX5_contrast 22 = .ok (.iconst 0, 1) := by decide +kernel
theorem dX5_contrast_23 : decode cX5_contrast 23 = .ok (.invokestatic 55, 3) := by decide +kernel
theorem dX5_contrast_26 : decode cX5_contrast 26 = .ok (.aload_n 0, 1) := by decide +kernel
theorem dX5_contrast_27 : decode cX5_contrast 27 = .ok (.getfield 40, 3) := by decide +kernel
theorem dX5_contrast_30 : decode cX5_contrast 30 = .ok (.iload_n 1, 1) := by decide +kernel
theorem dX5_contrast_31 : decode cX5_contrast 31 = .ok (.invokevirtual 108, 3) := by decide +kernel
theorem dX5_contrast_34 : decode cX5_contrast 34 = .ok (.ifCond .eq 19, 3) := by decide +kernel
theorem dX5_contrast_37 : decode cX5_contrast 37 = .ok (.aload_n 0, 1) := by decide +kernel
theorem dX5_contrast_38 : decode cX5_contrast 38 = .ok (.getfield 40, 3) := by decide +kernel
theorem dX5_contrast_41 : decode cX5_contrast 41 = .ok (.iload_n 1, 1) := by decide +kernel
theorem dX5_contrast_42 : decode cX5_contrast 42 = .ok (.iload_n 2, 1) := by decide +kernel
theorem dX5_contrast_43 : decode cX5_contrast 43 = .ok (.invokevirtual 186, 3) := by decide +kernel
theorem dX5_contrast_46 : decode cX5_contrast 46 = .ok (.sipush 1000, 3) := by decide +kernel
theorem dX5_contrast_49 : decode cX5_contrast 49 = .ok (.iadd, 1) := by decide +kernel
theorem dX5_contrast_50 : decode cX5_contrast 50 = .ok (.goto 4, 3) := by decide +kernel
theorem dX5_contrast_53 : decode cX5_contrast 53 = .ok (.iconst (-1), 1) := by decide +kernel
theorem dX5_contrast_54 : decode cX5_contrast 54 = .ok (.ireturn, 1) := by decide +kernel
set_option maxRecDepth 20000 in
theorem ggX5_count_X5_isBetween : GoodIn wsX5_count wsX5_isBetween := goodIn_r _ [8] (by decide +kernel) (by decide +kernel)
set_option maxRecDepth 20000 in
theorem gX5_count_X5_isBetween : GoodIn wsX5_count (va_wsS RX5 59 yX5_isBetween wsX5_isBetween) := goodIn_app (goodIn_of _ (by decide +kernel)) ggX5_count_X5_isBetween
set_option maxRecDepth 20000 in
theorem ggX5_count_X5_needArgument : GoodIn wsX5_count wsX5_needArgument := goodIn_ca (goodIn_r _ [11, 12, 13] (by decide +kernel) (by decide +kernel)) (goodIn_sub (fun _ h => List.mem_cons_of_mem _ (List.mem_append_right _ h)) (by decide +kernel))
set_option maxRecDepth 20000 in
theorem gX5_count_X5_needArgument : GoodIn wsX5_count (va_wsS RX5 63 yX5_needArgument wsX5_needArgument) := goodIn_app (goodIn_of _ (by decide +kernel)) ggX5_count_X5_needArgument
set_option maxRecDepth 20000 in
theorem ggX5_count_X0_howMany : GoodIn wsX5_count wsX0_howMany := goodIn_r _ [18, 19, 20, 21, 17, 22, 23, 24, 25, 26, 27, 28, 29, 30, 31, 32, 33, 34, 35, 36, 181, 182, 183, 184, 185] (by decide +kernel) (by decide +kernel)
set_option maxRecDepth 20000 in
theorem gX5_count_X0_howMany : GoodIn wsX5_count (wsV RX5 189 RX0 yX0_howMany wsX0_howMany) := goodIn_app (goodIn_of _ (by decide +kernel)) ggX5_count_X0_howMany
set_option maxRecDepth 20000 in
theorem ggX5_count_X0_howManyHidden : GoodIn wsX5_count wsX0_howManyHidden := goodIn_r _ [40, 19, 20, 21, 17, 22, 23, 24, 25, 26, 27, 28, 29, 30, 31, 32, 33, 34, 35, 36, 41, 42, 43, 44, 45, 46, 47, 48, 49, 50, 51, 52, 53, 54, 55, 56, 57, 58, 59, 60, 61, 62, 63, 64, 65, 66, 181, 182, 183, 184, 185] (by decide +kernel) (by decide +kernel)
set_option maxRecDepth 20000 in
theorem gX5_count_X0_howManyHidden : GoodIn wsX5_count (wsV RX5 192 RX0 yX0_howManyHidden wsX0_howManyHidden) := goodIn_app (goodIn_of _ (by decide +kernel)) ggX5_count_X0_howManyHidden
set_option maxRecDepth 20000 in
theorem ggX5_count_X0_howManyGood : GoodIn wsX5_count wsX0_howManyGood := goodIn_r _ [70, 19, 20, 21, 17, 22, 23, 24, 25, 26, 27, 28, 29, 30, 31, 32, 33, 34, 35, 36, 41, 42, 43, 44, 45, 46, 47, 48, 49, 50, 51, 52, 53, 54, 55, 56, 57, 58, 59, 60, 61, 62, 63, 64, 65, 66, 71, 72, 73, 74, 75, 76, 77, 78, 79, 80, 81, 82, 83, 84, 85, 86, 87, 88, 89, 90, 91, 92, 93, 94, 95, 96, 97, 98, 99, 100, 101, 7, 102, 103, 104, 105, 106, 107, 108, 109, 110, 111, 112, 113, 114, 115, 116, 117, 118, 119, 120, 121, 122, 123, 124, 125, 126, 127, 128, 129, 181, 182, 183, 184, 185, 186, 187, 188, 189] (by decide +kernel) (by decide +kernel)
set_option maxRecDepth 20000 in
theorem gX5_count_X0_howManyGood : GoodIn wsX5_count (wsV RX5 195 RX0 yX0_howManyGood wsX0_howManyGood) := goodIn_app (goodIn_of _ (by decide +kernel)) ggX5_count_X0_howManyGood
set_option maxRecDepth 20000 in
theorem ggX5_count_X3_settingPlace : GoodIn wsX5_count wsX3_settingPlace := goodIn_r _ [89] (by decide +kernel) (by decide +kernel)
set_option maxRecDepth 20000 in
theorem gX5_count_X3_settingPlace : GoodIn wsX5_count (va_wsS RX5 115 yX3_settingPlace wsX3_settingPlace) := goodIn_app (goodIn_of _ (by decide +kernel)) ggX5_count_X3_settingPlace
set_option maxRecDepth 20000 in
theorem ggX5_count_X3_at : GoodIn wsX5_count wsX3_at := goodIn_r _ [35, 36, 183, 184, 185] (by decide +kernel) (by decide +kernel)
set_option maxRecDepth 20000 in
theorem gX5_count_X3_at : GoodIn wsX5_count (wsV RX5 73 RX3 yX3_at wsX3_at) := goodIn_app (goodIn_of _ (by decide +kernel)) ggX5_count_X3_at
set_option maxRecDepth 20000 in
theorem ggX5_count_X2_notesAllAround : GoodIn wsX5_count wsX2_notesAllAround := goodIn_r _ [136, 137, 138, 139, 135, 140, 141, 142, 99, 30, 100, 143, 33, 34, 35, 36, 144, 7, 145, 146, 101, 102, 190, 183, 184, 185] (by decide +kernel) (by decide +kernel)
set_option maxRecDepth 20000 in
theorem gX5_count_X2_notesAllAround : GoodIn wsX5_count (wsV RX5 198 RX2 yX2_notesAllAround wsX2_notesAllAround) := goodIn_app (goodIn_of _ (by decide +kernel)) ggX5_count_X2_notesAllAround
set_option maxRecDepth 20000 in
theorem ggX5_count_X5_notesLikeFirst : GoodIn wsX5_count wsX5_notesLikeFirst := goodIn_r _ [150, 4, 151, 152, 77, 78, 79, 80, 81, 82, 83, 46, 47, 48, 84, 50, 51, 85, 86, 87, 88, 30, 89, 90, 33, 34, 35, 36, 91, 92, 93, 94, 95, 96, 97, 98, 99, 100, 101, 7, 102, 103, 104, 105, 106, 61, 62, 153, 154, 155, 156, 175, 176, 177, 178, 179, 180, 186, 187, 188, 189, 183, 184, 185] (by decide +kernel) (by decide +kernel)
set_option maxRecDepth 20000 in
theorem gX5_count_X5_notesLikeFirst : GoodIn wsX5_count (wsV RX5 201 RX5 yX5_notesLikeFirst wsX5_notesLikeFirst) := goodIn_app (goodIn_of _ (by decide +kernel)) ggX5_count_X5_notesLikeFirst
set_option maxRecDepth 20000 in
theorem ggX5_count_X5_inkedCells : GoodIn wsX5_count wsX5_inkedCells := goodIn_r _ [160, 3, 161, 61, 30, 62, 131, 33, 34, 35, 36, 175, 176, 177, 178, 179, 180, 183, 184, 185] (by decide +kernel) (by decide +kernel)
set_option maxRecDepth 20000 in
theorem gX5_count_X5_inkedCells : GoodIn wsX5_count (wsV RX5 204 RX5 yX5_inkedCells wsX5_inkedCells) := goodIn_app (goodIn_of _ (by decide +kernel)) ggX5_count_X5_inkedCells
set_option maxRecDepth 20000 in
theorem ggX5_count_X1_look : GoodIn wsX5_count wsX1_look := goodIn_r _ [80, 81, 82, 83, 46, 47, 48, 84, 50, 51, 85, 86, 87, 88, 30, 89, 90, 33, 34, 35, 36, 91, 92, 93, 79, 94, 95, 96, 97, 98, 99, 100, 101, 7, 102, 103, 104, 105, 106, 61, 62, 186, 187, 188, 189, 183, 184, 185] (by decide +kernel) (by decide +kernel)
set_option maxRecDepth 20000 in
theorem gX5_count_X1_look : GoodIn wsX5_count (wsV RX5 162 RX1 yX1_look wsX1_look) := goodIn_app (goodIn_of _ (by decide +kernel)) ggX5_count_X1_look
set_option maxRecDepth 20000 in
theorem ggX5_count_X1_leastTone : GoodIn wsX5_count wsX1_leastTone := goodIn_r _ [165, 85, 83, 46, 47, 48, 186, 187, 188, 189] (by decide +kernel) (by decide +kernel)
set_option maxRecDepth 20000 in
theorem gX5_count_X1_leastTone : GoodIn wsX5_count (wsV RX5 207 RX1 yX1_leastTone wsX1_leastTone) := goodIn_app (goodIn_of _ (by decide +kernel)) ggX5_count_X1_leastTone
set_option maxRecDepth 20000 in
theorem ggX5_count_X1_greatestTone : GoodIn wsX5_count wsX1_greatestTone := goodIn_r _ [169, 85, 84, 50, 47, 51, 186, 187, 188, 189] (by decide +kernel) (by decide +kernel)
set_option maxRecDepth 20000 in
theorem gX5_count_X1_greatestTone : GoodIn wsX5_count (wsV RX5 210 RX1 yX1_greatestTone wsX1_greatestTone) := goodIn_app (goodIn_of _ (by decide +kernel)) ggX5_count_X1_greatestTone
set_option maxRecDepth 20000 in
theorem ggX5_count_X3_savedStates : GoodIn wsX5_count wsX3_savedStates := goodIn_r _ [173, 174, 183, 184, 185] (by decide +kernel) (by decide +kernel)
set_option maxRecDepth 20000 in
theorem gX5_count_X3_savedStates : GoodIn wsX5_count (wsV RX5 148 RX3 yX3_savedStates wsX3_savedStates) := goodIn_app (goodIn_of _ (by decide +kernel)) ggX5_count_X3_savedStates
theorem dX5_count_0 : decode cX5_count 0 = .ok (.iload_n 1, 1) := by decide +kernel
theorem dX5_count_1 : decode cX5_count 1 = .ok (.iconst 0, 1) := by decide +kernel
theorem dX5_count_2 : decode cX5_count 2 = .ok (.bipush 8, 2) := by decide +kernel
theorem dX5_count_4 : decode cX5_count 4 = .ok (.invokestatic 59, 3) := by decide +kernel
theorem dX5_count_7 : decode cX5_count 7 = .ok (.invokestatic 63, 3) := by decide +kernel
theorem dX5_count_10 : decode cX5_count 10 = .ok (.iload_n 1, 1) := by decide +kernel
theorem dX5_count_11 : decode cX5_count 11 = .ok (.tableswitch 131 0 7 #[45, 53, 61, 70, 89, 94, 99, 115], 45) := by decide +kernel
theorem dX5_count_56 : decode cX5_count 56 = .ok (.aload_n 0, 1) := by decide +kernel
theorem dX5_count_57 : decode cX5_count 57 = .ok (.getfield 40, 3) := by decide +kernel
theorem dX5_count_60 : decode cX5_count 60 = .ok (.invokevirtual 189, 3) := by decide +kernel
theorem dX5_count_63 : decode cX5_count 63 = .ok (.ireturn, 1) := by decide +kernel
theorem dX5_count_64 : decode cX5_count 64 = .ok (.aload_n 0, 1) := by decide +kernel
theorem dX5_count_65 : decode cX5_count 65 = .ok (.getfield 40, 3) := by decide +kernel
theorem dX5_count_68 : decode cX5_count 68 = .ok (.invokevirtual 192, 3) := by decide +kernel
theorem dX5_count_71 : decode cX5_count 71 = .ok (.ireturn, 1) := by decide +kernel
theorem dX5_count_72 : decode cX5_count 72 = .ok (.aload_n 0, 1) := by decide +kernel
theorem dX5_count_73 : decode cX5_count 73 = .ok (.getfield 40, 3) := by decide +kernel
theorem dX5_count_76 : decode cX5_count 76 = .ok (.iconst 0, 1) := by decide +kernel
theorem dX5_count_77 : decode cX5_count 77 = .ok (.invokevirtual 195, 3) := by decide +kernel
theorem dX5_count_80 : decode cX5_count 80 = .ok (.ireturn, 1) := by decide +kernel
theorem dX5_count_81 : decode cX5_count 81 = .ok (.aload_n 0, 1) := by decide +kernel
theorem dX5_count_82 : decode cX5_count 82 = .ok (.getfield 21, 3) := by decide +kernel
theorem dX5_count_85 : decode cX5_count 85 = .ok (.aload_n 0, 1) := by decide +kernel
theorem dX5_count_86 : decode cX5_count 86 = .ok (.getfield 12, 3) := by decide +kernel
theorem dX5_count_89 : decode cX5_count 89 = .ok (.iconst 1, 1) := by decide +kernel
theorem dX5_count_90 : decode cX5_count 90 = .ok (.invokestatic 115, 3) := by decide +kernel
theorem dX5_count_93 : decode cX5_count 93 = .ok (.invokevirtual 73, 3) := by decide +kernel
theorem dX5_count_96 : decode cX5_count 96 = .ok (.invokevirtual 198, 3) := by decide +kernel
theorem dX5_count_99 : decode cX5_count 99 = .ok (.ireturn, 1) := by decide +kernel
theorem dX5_count_100 : decode cX5_count 100 = .ok (.aload_n 0, 1) := by decide +kernel
theorem dX5_count_101 : decode cX5_count 101 = .ok (.invokevirtual 201, 3) := by decide +kernel
theorem dX5_count_104 : decode cX5_count 104 = .ok (.ireturn, 1) := by decide +kernel
theorem dX5_count_105 : decode cX5_count 105 = .ok (.aload_n 0, 1) := by decide +kernel
theorem dX5_count_106 : decode cX5_count 106 = .ok (.invokevirtual 204, 3) := by decide +kernel
theorem dX5_count_109 : decode cX5_count 109 = .ok (.ireturn, 1) := by decide +kernel
theorem dX5_count_110 : decode cX5_count 110 = .ok (.aload_n 0, 1) := by decide +kernel
theorem dX5_count_111 : decode cX5_count 111 = .ok (.getfield 28, 3) := by decide +kernel
theorem dX5_count_114 : decode cX5_count 114 = .ok (.iconst 0, 1) := by decide +kernel
theorem dX5_count_115 : decode cX5_count 115 = .ok (.invokevirtual 162, 3) := by decide +kernel
theorem dX5_count_118 : decode cX5_count 118 = .ok (.aload_n 0, 1) := by decide +kernel
theorem dX5_count_119 : decode cX5_count 119 = .ok (.getfield 28, 3) := by decide +kernel
theorem dX5_count_122 : decode cX5_count 122 = .ok (.invokevirtual 207, 3) := by decide +kernel
theorem dX5_count_125 : decode cX5_count 125 = .ok (.ireturn, 1) := by decide +kernel
theorem dX5_count_126 : decode cX5_count 126 = .ok (.aload_n 0, 1) := by decide +kernel
theorem dX5_count_127 : decode cX5_count 127 = .ok (.getfield 28, 3) := by decide +kernel
theorem dX5_count_130 : decode cX5_count 130 = .ok (.iconst 0, 1) := by decide +kernel
theorem dX5_count_131 : decode cX5_count 131 = .ok (.invokevirtual 162, 3) := by decide +kernel
theorem dX5_count_134 : decode cX5_count 134 = .ok (.aload_n 0, 1) := by decide +kernel
theorem dX5_count_135 : decode cX5_count 135 = .ok (.getfield 28, 3) := by decide +kernel
theorem dX5_count_138 : decode cX5_count 138 = .ok (.invokevirtual 210, 3) := by decide +kernel
theorem dX5_count_141 : decode cX5_count 141 = .ok (.ireturn, 1) := by decide +kernel
theorem dX5_count_142 : decode cX5_count 142 = .ok (.aload_n 0, 1) := by decide +kernel
theorem dX5_count_143 : decode cX5_count 143 = .ok (.getfield 12, 3) := by decide +kernel
theorem dX5_count_146 : decode cX5_count 146 = .ok (.invokevirtual 148, 3) := by decide +kernel
theorem dX5_count_149 : decode cX5_count 149 = .ok (.ireturn, 1) := by decide +kernel
set_option maxRecDepth 20000 in
theorem ggX5_setting_X5_isIndex : GoodIn wsX5_setting wsX5_isIndex := goodIn_r _ [5] (by decide +kernel) (by decide +kernel)
set_option maxRecDepth 20000 in
theorem gX5_setting_X5_isIndex : GoodIn wsX5_setting (va_wsS RX5 51 yX5_isIndex wsX5_isIndex) := goodIn_app (goodIn_of _ (by decide +kernel)) ggX5_setting_X5_isIndex
set_option maxRecDepth 20000 in
theorem ggX5_setting_X5_needPlace : GoodIn wsX5_setting wsX5_needPlace := goodIn_ca (goodIn_r _ [8, 9, 10] (by decide +kernel) (by decide +kernel)) (goodIn_sub (fun _ h => List.mem_cons_of_mem _ (List.mem_append_right _ h)) (by decide +kernel))
set_option maxRecDepth 20000 in
theorem gX5_setting_X5_needPlace : GoodIn wsX5_setting (va_wsS RX5 55 yX5_needPlace wsX5_needPlace) := goodIn_app (goodIn_of _ (by decide +kernel)) ggX5_setting_X5_needPlace
set_option maxRecDepth 20000 in
theorem ggX5_setting_X3_settingPlace : GoodIn wsX5_setting wsX3_settingPlace := goodIn_r _ [14] (by decide +kernel) (by decide +kernel)
set_option maxRecDepth 20000 in
theorem gX5_setting_X3_settingPlace : GoodIn wsX5_setting (va_wsS RX5 115 yX3_settingPlace wsX3_settingPlace) := goodIn_app (goodIn_of _ (by decide +kernel)) ggX5_setting_X3_settingPlace
set_option maxRecDepth 20000 in
theorem ggX5_setting_X3_at : GoodIn wsX5_setting wsX3_at := goodIn_r _ [18, 19, 26, 27, 28] (by decide +kernel) (by decide +kernel)
set_option maxRecDepth 20000 in
theorem gX5_setting_X3_at : GoodIn wsX5_setting (wsV RX5 73 RX3 yX3_at wsX3_at) := goodIn_app (goodIn_of _ (by decide +kernel)) ggX5_setting_X3_at
theorem dX5_setting_0 : decode cX5_setting 0 = .ok (.iload_n 1, 1) := by decide +kernel
theorem dX5_setting_1 : decode cX5_setting 1 = .ok (.iconst 3, 1) := by decide +kernel
theorem dX5_setting_2 : decode cX5_setting 2 = .ok (.invokestatic 51, 3) := by decide +kernel
theorem dX5_setting_5 : decode cX5_setting 5 = .ok (.invokestatic 55, 3) := by decide +kernel
theorem dX5_setting_8 : decode cX5_setting 8 = .ok (.aload_n 0, 1) := by decide +kernel
theorem dX5_setting_9 : decode cX5_setting 9 = .ok (.getfield 12, 3) := by decide +kernel
theorem dX5_setting_12 : decode cX5_setting 12 = .ok (.iload_n 1, 1) := by decide +kernel
theorem dX5_setting_13 : decode cX5_setting 13 = .ok (.invokestatic 115, 3) := by decide +kernel
theorem dX5_setting_16 : decode cX5_setting 16 = .ok (.invokevirtual 73, 3) := by decide +kernel
theorem dX5_setting_19 : decode cX5_setting 19 = .ok (.ireturn, 1) := by decide +kernel
set_option maxRecDepth 20000 in
theorem ggX5_notesLikeFirst_X1_look : GoodIn wsX5_notesLikeFirst wsX1_look := goodIn_r _ [7, 8, 9, 10, 11, 12, 13, 14, 15, 16, 17, 18, 19, 20, 21, 22, 23, 24, 25, 26, 27, 28, 29, 30, 6, 31, 32, 33, 34, 35, 36, 37, 38, 39, 40, 41, 42, 43, 44, 45, 46, 57, 58, 59, 60, 61, 62, 63] (by decide +kernel) (by decide +kernel)
set_option maxRecDepth 20000 in
theorem gX5_notesLikeFirst_X1_look : GoodIn wsX5_notesLikeFirst (wsV RX5 162 RX1 yX1_look wsX1_look) := goodIn_app (goodIn_of _ (by decide +kernel)) ggX5_notesLikeFirst_X1_look
set_option maxRecDepth 20000 in
theorem ggX5_notesLikeFirst_X1_isLike : GoodIn wsX5_notesLikeFirst wsX1_isLike := goodIn_r _ [50, 17, 57, 58, 59, 60] (by decide +kernel) (by decide +kernel)
set_option maxRecDepth 20000 in
theorem gX5_notesLikeFirst_X1_isLike : GoodIn wsX5_notesLikeFirst (wsV RX5 267 RX1 yX1_isLike wsX1_isLike) := goodIn_app (goodIn_of _ (by decide +kernel)) ggX5_notesLikeFirst_X1_isLike
theorem dX5_notesLikeFirst_0 : decode cX5_notesLikeFirst 0 = .ok (.iconst 0, 1) := by decide +kernel
theorem dX5_notesLikeFirst_1 : decode cX5_notesLikeFirst 1 = .ok (.istore_n 1, 1) := by decide +kernel
theorem dX5_notesLikeFirst_2 : decode cX5_notesLikeFirst 2 = .ok (.aload_n 0, 1) := by decide +kernel
theorem dX5_notesLikeFirst_3 : decode cX5_notesLikeFirst 3 = .ok (.getfield 28, 3) := by decide +kernel
theorem dX5_notesLikeFirst_6 : decode cX5_notesLikeFirst 6 = .ok (.iconst 0, 1) := by decide +kernel
theorem dX5_notesLikeFirst_7 : decode cX5_notesLikeFirst 7 = .ok (.invokevirtual 162, 3) := by decide +kernel
theorem dX5_notesLikeFirst_10 : decode cX5_notesLikeFirst 10 = .ok (.iconst 1, 1) := by decide +kernel
theorem dX5_notesLikeFirst_11 : decode cX5_notesLikeFirst 11 = .ok (.istore_n 2, 1) := by decide +kernel
theorem dX5_notesLikeFirst_12 : decode cX5_notesLikeFirst 12 = .ok (.iload_n 2, 1) := by decide +kernel
theorem dX5_notesLikeFirst_13 : decode cX5_notesLikeFirst 13 = .ok (.bipush 100, 2) := by decide +kernel
theorem dX5_notesLikeFirst_15 : decode cX5_notesLikeFirst 15 = .ok (.if_icmp .ge 34, 3) := by decide +kernel
theorem dX5_notesLikeFirst_18 : decode cX5_notesLikeFirst 18 = .ok (.aload_n 0, 1) := by decide +kernel
theorem dX5_notesLikeFirst_19 : decode cX5_notesLikeFirst 19 = .ok (.getfield 32, 3) := by decide +kernel
theorem dX5_notesLikeFirst_22 : decode cX5_notesLikeFirst 22 = .ok (.iload_n 2, 1) := by decide +kernel
theorem dX5_notesLikeFirst_23 : decode cX5_notesLikeFirst 23 = .ok (.invokevirtual 162, 3) := by decide +kernel
theorem dX5_notesLikeFirst_26 : decode cX5_notesLikeFirst 26 = .ok (.aload_n 0, 1) := by decide +kernel
theorem dX5_notesLikeFirst_27 : decode cX5_notesLikeFirst 27 = .ok (.getfield 28, 3) := by decide +kernel
theorem dX5_notesLikeFirst_30 : decode cX5_notesLikeFirst 30 = .ok (.aload_n 0, 1) := by decide +kernel
theorem dX5_notesLikeFirst_31 : decode cX5_notesLikeFirst 31 = .ok (.getfield 32, 3) := by decide +kernel
theorem dX5_notesLikeFirst_34 : decode cX5_notesLikeFirst 34 = .ok (.invokevirtual 267, 3) := by decide +kernel
theorem dX5_notesLikeFirst_37 : decode cX5_notesLikeFirst 37 = .ok (.ifCond .eq 6, 3) := by decide +kernel
theorem dX5_notesLikeFirst_40 : decode cX5_notesLikeFirst 40 = .ok (.iinc 1 1, 3) := by decide +kernel
theorem dX5_notesLikeFirst_43 : decode cX5_notesLikeFirst 43 = .ok (.iinc 2 1, 3) := by decide +kernel
theorem dX5_notesLikeFirst_46 : decode cX5_notesLikeFirst 46 = .ok (.goto (-34), 3) := by decide +kernel
theorem dX5_notesLikeFirst_49 : decode cX5_notesLikeFirst 49 = .ok (.iload_n 1, 1) := by decide +kernel
theorem dX5_notesLikeFirst_50 : decode cX5_notesLikeFirst 50 = .ok (.ireturn, 1) := by decide +kernel
set_option maxRecDepth 20000 in
theorem ggX5_inkedCells_X3_inkPlace : GoodIn wsX5_inkedCells wsX3_inkPlace := goodIn_r _ [5] (by decide +kernel) (by decide +kernel)
set_option maxRecDepth 20000 in
theorem gX5_inkedCells_X3_inkPlace : GoodIn wsX5_inkedCells (va_wsS RX5 98 yX3_inkPlace wsX3_inkPlace) := goodIn_app (goodIn_of _ (by decide +kernel)) ggX5_inkedCells_X3_inkPlace
set_option maxRecDepth 20000 in
theorem ggX5_inkedCells_X3_at : GoodIn wsX5_inkedCells wsX3_at := goodIn_r _ [9, 10, 17, 18, 19] (by decide +kernel) (by decide +kernel)
set_option maxRecDepth 20000 in
theorem gX5_inkedCells_X3_at : GoodIn wsX5_inkedCells (wsV RX5 73 RX3 yX3_at wsX3_at) := goodIn_app (goodIn_of _ (by decide +kernel)) ggX5_inkedCells_X3_at
theorem dX5_inkedCells_0 : decode cX5_inkedCells 0 = .ok (.iconst 0, 1) := by decide +kernel
theorem dX5_inkedCells_1 : decode cX5_inkedCells 1 = .ok (.istore_n 1, 1) := by decide +kernel
theorem dX5_inkedCells_2 : decode cX5_inkedCells 2 = .ok (.iconst 0, 1) := by decide +kernel
theorem dX5_inkedCells_3 : decode cX5_inkedCells 3 = .ok (.istore_n 2, 1) := by decide +kernel
theorem dX5_inkedCells_4 : decode cX5_inkedCells 4 = .ok (.iload_n 2, 1) := by decide +kernel
theorem dX5_inkedCells_5 : decode cX5_inkedCells 5 = .ok (.bipush 6, 2) := by decide +kernel
theorem dX5_inkedCells_7 : decode cX5_inkedCells 7 = .ok (.if_icmp .ge 41, 3) := by decide +kernel
theorem dX5_inkedCells_10 : decode cX5_inkedCells 10 = .ok (.iconst 0, 1) := by decide +kernel
theorem dX5_inkedCells_11 : decode cX5_inkedCells 11 = .ok (.istore_n 3, 1) := by decide +kernel
theorem dX5_inkedCells_12 : decode cX5_inkedCells 12 = .ok (.iload_n 3, 1) := by decide +kernel
theorem dX5_inkedCells_13 : decode cX5_inkedCells 13 = .ok (.bipush 12, 2) := by decide +kernel
theorem dX5_inkedCells_15 : decode cX5_inkedCells 15 = .ok (.if_icmp .ge 27, 3) := by decide +kernel
theorem dX5_inkedCells_18 : decode cX5_inkedCells 18 = .ok (.aload_n 0, 1) := by decide +kernel
theorem dX5_inkedCells_19 : decode cX5_inkedCells 19 = .ok (.getfield 12, 3) := by decide +kernel
theorem dX5_inkedCells_22 : decode cX5_inkedCells 22 = .ok (.iload_n 2, 1) := by decide +kernel
theorem dX5_inkedCells_23 : decode cX5_inkedCells 23 = .ok (.iload_n 3, 1) := by decide +kernel
theorem dX5_inkedCells_24 : decode cX5_inkedCells 24 = .ok (.invokestatic 98, 3) := by decide +kernel
theorem dX5_inkedCells_27 : decode cX5_inkedCells 27 = .ok (.invokevirtual 73, 3) := by decide +kernel
theorem dX5_inkedCells_30 : decode cX5_inkedCells 30 = .ok (.ifCond .eq 6, 3) := by decide +kernel
theorem dX5_inkedCells_33 : decode cX5_inkedCells 33 = .ok (.iinc 1 1, 3) := by decide +kernel
theorem dX5_inkedCells_36 : decode cX5_inkedCells 36 = .ok (.iinc 3 1, 3) := by decide +kernel
theorem dX5_inkedCells_39 : decode cX5_inkedCells 39 = .ok (.goto (-27), 3) := by decide +kernel
theorem dX5_inkedCells_42 : decode cX5_inkedCells 42 = .ok (.iinc 2 1, 3) := by decide +kernel
theorem dX5_inkedCells_45 : decode cX5_inkedCells 45 = .ok (.goto (-41), 3) := by decide +kernel
theorem dX5_inkedCells_48 : decode cX5_inkedCells 48 = .ok (.iload_n 1, 1) := by decide +kernel
theorem dX5_inkedCells_49 : decode cX5_inkedCells 49 = .ok (.ireturn, 1) := by decide +kernel
set_option maxRecDepth 20000 in
theorem ggX5_isSettingValue_X5_isBetween : GoodIn wsX5_isSettingValue wsX5_isBetween := goodIn_r _ [4] (by decide +kernel) (by decide +kernel)
set_option maxRecDepth 20000 in
theorem gX5_isSettingValue_X5_isBetween : GoodIn wsX5_isSettingValue (va_wsS RX5 59 yX5_isBetween wsX5_isBetween) := goodIn_app (goodIn_of _ (by decide +kernel)) ggX5_isSettingValue_X5_isBetween
theorem dX5_isSettingValue_0 : decode cX5_isSettingValue 0 = .ok (.iload_n 0, 1) := by decide +kernel
theorem dX5_isSettingValue_1 : decode cX5_isSettingValue 1 = .ok (.lookupswitch 44 #[(0, 27), (1, 35)], 27) := by decide +kernel
theorem dX5_isSettingValue_28 : decode cX5_isSettingValue 28 = .ok (.iload_n 1, 1) := by decide +kernel
theorem dX5_isSettingValue_29 : decode cX5_isSettingValue 29 = .ok (.iconst 0, 1) := by decide +kernel
theorem dX5_isSettingValue_30 : decode cX5_isSettingValue 30 = .ok (.bipush 99, 2) := by decide +kernel
theorem dX5_isSettingValue_32 : decode cX5_isSettingValue 32 = .ok (.invokestatic 59, 3) := by decide +kernel
theorem dX5_isSettingValue_35 : decode cX5_isSettingValue 35 = .ok (.ireturn, 1) := by decide +kernel
theorem dX5_isSettingValue_36 : decode cX5_isSettingValue 36 = .ok (.iload_n 1, 1) := by decide +kernel
theorem dX5_isSettingValue_37 : decode cX5_isSettingValue 37 = .ok (.bipush 12, 2) := by decide +kernel
theorem dX5_isSettingValue_39 : decode cX5_isSettingValue 39 = .ok (.bipush 30, 2) := by decide +kernel
theorem dX5_isSettingValue_41 : decode cX5_isSettingValue 41 = .ok (.invokestatic 59, 3) := by decide +kernel
theorem dX5_isSettingValue_44 : decode cX5_isSettingValue 44 = .ok (.ireturn, 1) := by decide +kernel
theorem dX5_isSettingValue_45 : decode cX5_isSettingValue 45 = .ok (.iload_n 1, 1) := by decide +kernel
theorem dX5_isSettingValue_46 : decode cX5_isSettingValue 46 = .ok (.iconst 1, 1) := by decide +kernel
theorem dX5_isSettingValue_47 : decode cX5_isSettingValue 47 = .ok (.bipush 9, 2) := by decide +kernel
theorem dX5_isSettingValue_49 : decode cX5_isSettingValue 49 = .ok (.invokestatic 59, 3) := by decide +kernel
theorem dX5_isSettingValue_52 : decode cX5_isSettingValue 52 = .ok (.ireturn, 1) := by decide +kernel
theorem dX5_isBetween_0 : decode cX5_isBetween 0 = .ok (.iload_n 0, 1) := by decide +kernel
theorem dX5_isBetween_1 : decode cX5_isBetween 1 = .ok (.iload_n 1, 1) := by decide +kernel
theorem dX5_isBetween_2 : decode cX5_isBetween 2 = .ok (.if_icmp .lt 12, 3) := by decide +kernel
theorem dX5_isBetween_5 : decode cX5_isBetween 5 = .ok (.iload_n 0, 1) := by decide +kernel
theorem dX5_isBetween_6 : decode cX5_isBetween 6 = .ok (.iload_n 2, 1) := by decide +kernel
theorem dX5_isBetween_7 : decode cX5_isBetween 7 = .ok (.if_icmp .gt 7, 3) := by decide +kernel
theorem dX5_isBetween_10 : decode cX5_isBetween 10 = .ok (.iconst 1, 1) := by decide +kernel
theorem dX5_isBetween_11 : decode cX5_isBetween 11 = .ok (.goto 4, 3) := by decide +kernel
theorem dX5_isBetween_14 : decode cX5_isBetween 14 = .ok (.iconst 0, 1) := by decide +kernel
theorem dX5_isBetween_15 : decode cX5_isBetween 15 = .ok (.ireturn, 1) := by decide +kernel
theorem dX5_isIndex_0 : decode cX5_isIndex 0 = .ok (.iload_n 0, 1) := by decide +kernel
theorem dX5_isIndex_1 : decode cX5_isIndex 1 = .ok (.ifCond .lt 12, 3) := by decide +kernel
theorem dX5_isIndex_4 : decode cX5_isIndex 4 = .ok (.iload_n 0, 1) := by decide +kernel
theorem dX5_isIndex_5 : decode cX5_isIndex 5 = .ok (.iload_n 1, 1) := by decide +kernel
theorem dX5_isIndex_6 : decode cX5_isIndex 6 = .ok (.if_icmp .ge 7, 3) := by decide +kernel
theorem dX5_isIndex_9 : decode cX5_isIndex 9 = .ok (.iconst 1, 1) := by decide +kernel
theorem dX5_isIndex_10 : decode cX5_isIndex 10 = .ok (.goto 4, 3) := by decide +kernel
theorem dX5_isIndex_13 : decode cX5_isIndex 13 = .ok (.iconst 0, 1) := by decide +kernel
theorem dX5_isIndex_14 : decode cX5_isIndex 14 = .ok (.ireturn, 1) := by decide +kernel
theorem dX5_needPlace_0 : decode cX5_needPlace 0 = .ok (.iload_n 0, 1) := by decide +kernel
theorem dX5_needPlace_1 : decode cX5_needPlace 1 = .ok (.ifCond .ne 14, 3) := by decide +kernel
theorem dX5_needPlace_4 : decode cX5_needPlace 4 = .ok (.new 279, 3) := by decide +kernel
theorem dX5_needPlace_7 : decode cX5_needPlace 7 = .ok (.dup, 1) := by decide +kernel
theorem dX5_needPlace_8 : decode cX5_needPlace 8 = .ok (.ldc_w 281, 3) := by decide +kernel
theorem dX5_needPlace_11 : decode cX5_needPlace 11 = .ok (.invokespecial 283, 3) := by decide +kernel
theorem dX5_needPlace_14 : decode cX5_needPlace 14 = .ok (.athrow, 1) := by decide +kernel
theorem dX5_needPlace_15 : decode cX5_needPlace 15 = .ok (.return_, 1) := by decide +kernel
theorem dX5_needArgument_0 : decode cX5_needArgument 0 = .ok (.iload_n 0, 1) := by decide +kernel
theorem dX5_needArgument_1 : decode cX5_needArgument 1 = .ok (.ifCond .ne 14, 3) := by decide +kernel
theorem dX5_needArgument_4 : decode cX5_needArgument 4 = .ok (.new 284, 3) := by decide +kernel
theorem dX5_needArgument_7 : decode cX5_needArgument 7 = .ok (.dup, 1) := by decide +kernel
theorem dX5_needArgument_8 : decode cX5_needArgument 8 = .ok (.ldc_w 286, 3) := by decide +kernel
theorem dX5_needArgument_11 : decode cX5_needArgument 11 = .ok (.invokespecial 288, 3) := by decide +kernel
theorem dX5_needArgument_14 : decode cX5_needArgument 14 = .ok (.athrow, 1) := by decide +kernel
theorem dX5_needArgument_15 : decode cX5_needArgument 15 = .ok (.return_, 1) := by decide +kernel
theorem dX5_modulo_0 : decode cX5_modulo 0 = .ok (.iload_n 1, 1) := by decide +kernel
theorem dX5_modulo_1 : decode cX5_modulo 1 = .ok (.iconst 1, 1) := by decide +kernel
theorem dX5_modulo_2 : decode cX5_modulo 2 = .ok (.if_icmp .ge 5, 3) := by decide +kernel
theorem dX5_modulo_5 : decode cX5_modulo 5 = .ok (.iconst 0, 1) := by decide +kernel
theorem dX5_modulo_6 : decode cX5_modulo 6 = .ok (.ireturn, 1) := by decide +kernel
theorem dX5_modulo_7 : decode cX5_modulo 7 = .ok (.iload_n 0, 1) := by decide +kernel
theorem dX5_modulo_8 : decode cX5_modulo 8 = .ok (.iload_n 1, 1) := by decide +kernel
theorem dX5_modulo_9 : decode cX5_modulo 9 = .ok (.irem, 1) := by decide +kernel
theorem dX5_modulo_10 : decode cX5_modulo 10 = .ok (.istore_n 2, 1) := by decide +kernel
theorem dX5_modulo_11 : decode cX5_modulo 11 = .ok (.iload_n 2, 1) := by decide +kernel
theorem dX5_modulo_12 : decode cX5_modulo 12 = .ok (.ifCond .ge 9, 3) := by decide +kernel
theorem dX5_modulo_15 : decode cX5_modulo 15 = .ok (.iload_n 2, 1) := by decide +kernel
theorem dX5_modulo_16 : decode cX5_modulo 16 = .ok (.iload_n 1, 1) := by decide +kernel
theorem dX5_modulo_17 : decode cX5_modulo 17 = .ok (.iadd, 1) := by decide +kernel
theorem dX5_modulo_18 : decode cX5_modulo 18 = .ok (.goto 4, 3) := by decide +kernel
theorem dX5_modulo_21 : decode cX5_modulo 21 = .ok (.iload_n 2, 1) := by decide +kernel
theorem dX5_modulo_22 : decode cX5_modulo 22 = .ok (.ireturn, 1) := by decide +kernel
set_option maxRecDepth 20000 in
theorem ggX5_stepsToMultiple_X5_modulo : GoodIn wsX5_stepsToMultiple wsX5_modulo := goodIn_r _ [4] (by decide +kernel) (by decide +kernel)
set_option maxRecDepth 20000 in
theorem gX5_stepsToMultiple_X5_modulo : GoodIn wsX5_stepsToMultiple (va_wsS RX5 289 yX5_modulo wsX5_modulo) := goodIn_app (goodIn_of _ (by decide +kernel)) ggX5_stepsToMultiple_X5_modulo
theorem dX5_stepsToMultiple_0 : decode cX5_stepsToMultiple 0 = .ok (.iconst 1, 1) := by decide +kernel
theorem dX5_stepsToMultiple_1 : decode cX5_stepsToMultiple 1 = .ok (.istore_n 2, 1) := by decide +kernel
theorem dX5_stepsToMultiple_2 : decode cX5_stepsToMultiple 2 = .ok (.iload_n 2, 1) := by decide +kernel
theorem dX5_stepsToMultiple_3 : decode cX5_stepsToMultiple 3 = .ok (.iload_n 1, 1) := by decide +kernel
theorem dX5_stepsToMultiple_4 : decode cX5_stepsToMultiple 4 = .ok (.if_icmp .ge 21, 3) := by decide +kernel
theorem dX5_stepsToMultiple_7 : decode cX5_stepsToMultiple 7 = .ok (.iload_n 2, 1) := by decide +kernel
theorem dX5_stepsToMultiple_8 : decode cX5_stepsToMultiple 8 = .ok (.iload_n 0, 1) := by decide +kernel
theorem dX5_stepsToMultiple_9 : decode cX5_stepsToMultiple 9 = .ok (.imul, 1) := by decide +kernel
theorem dX5_stepsToMultiple_10 : decode cX5_stepsToMultiple 10 = .ok (.iload_n 1, 1) := by decide +kernel
theorem dX5_stepsToMultiple_11 : decode cX5_stepsToMultiple 11 = .ok (.invokestatic 289, 3) := by decide +kernel
theorem dX5_stepsToMultiple_14 : decode cX5_stepsToMultiple 14 = .ok (.ifCond .ne 5, 3) := by decide +kernel
theorem dX5_stepsToMultiple_17 : decode cX5_stepsToMultiple 17 = .ok (.iload_n 2, 1) := by decide +kernel
theorem dX5_stepsToMultiple_18 : decode cX5_stepsToMultiple 18 = .ok (.ireturn, 1) := by decide +kernel
theorem dX5_stepsToMultiple_19 : decode cX5_stepsToMultiple 19 = .ok (.iinc 2 1, 3) := by decide +kernel
theorem dX5_stepsToMultiple_22 : decode cX5_stepsToMultiple 22 = .ok (.goto (-20), 3) := by decide +kernel
theorem dX5_stepsToMultiple_25 : decode cX5_stepsToMultiple 25 = .ok (.iload_n 1, 1) := by decide +kernel
theorem dX5_stepsToMultiple_26 : decode cX5_stepsToMultiple 26 = .ok (.ireturn, 1) := by decide +kernel
